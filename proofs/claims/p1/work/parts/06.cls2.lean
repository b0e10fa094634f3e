theorem d_X3_copyFrom_0 : decode cX3_copyFrom 0 = .ok (.iconst 0, 1) := by decide +kernel
theorem d_X3_copyFrom_1 : decode cX3_copyFrom 1 = .ok (.istore_n 2, 1) := by decide +kernel
theorem d_X3_copyFrom_2 : decode cX3_copyFrom 2 = .ok (.iload_n 2, 1) := by decide +kernel
theorem d_X3_copyFrom_3 : decode cX3_copyFrom 3 = .ok (.bipush 12, 2) := by decide +kernel
theorem d_X3_copyFrom_5 : decode cX3_copyFrom 5 = .ok (.if_icmp .ge 45, 3) := by decide +kernel
theorem d_X3_copyFrom_50 : decode cX3_copyFrom 50 = .ok (.iconst 0, 1) := by decide +kernel
theorem d_X3_copyFrom_51 : decode cX3_copyFrom 51 = .ok (.istore_n 2, 1) := by decide +kernel
theorem d_X3_copyFrom_52 : decode cX3_copyFrom 52 = .ok (.iload_n 2, 1) := by decide +kernel
theorem d_X3_copyFrom_53 : decode cX3_copyFrom 53 = .ok (.iconst 3, 1) := by decide +kernel
theorem d_X3_copyFrom_54 : decode cX3_copyFrom 54 = .ok (.if_icmp .ge 21, 3) := by decide +kernel
theorem d_X3_copyFrom_75 : decode cX3_copyFrom 75 = .ok (.aload_n 0, 1) := by decide +kernel
theorem d_X3_copyFrom_76 : decode cX3_copyFrom 76 = .ok (.aload_n 1, 1) := by decide +kernel
theorem d_X3_copyFrom_77 : decode cX3_copyFrom 77 = .ok (.getfield 28, 3) := by decide +kernel
theorem d_X3_copyFrom_80 : decode cX3_copyFrom 80 = .ok (.putfield 28, 3) := by decide +kernel
theorem d_X3_copyFrom_83 : decode cX3_copyFrom 83 = .ok (.aload_n 0, 1) := by decide +kernel
theorem d_X3_copyFrom_84 : decode cX3_copyFrom 84 = .ok (.aload_n 1, 1) := by decide +kernel
theorem d_X3_copyFrom_85 : decode cX3_copyFrom 85 = .ok (.getfield 31, 3) := by decide +kernel
theorem d_X3_copyFrom_88 : decode cX3_copyFrom 88 = .ok (.putfield 31, 3) := by decide +kernel
theorem d_X3_copyFrom_91 : decode cX3_copyFrom 91 = .ok (.aload_n 0, 1) := by decide +kernel
theorem d_X3_copyFrom_92 : decode cX3_copyFrom 92 = .ok (.aload_n 1, 1) := by decide +kernel
theorem d_X3_copyFrom_93 : decode cX3_copyFrom 93 = .ok (.getfield 24, 3) := by decide +kernel
theorem d_X3_copyFrom_96 : decode cX3_copyFrom 96 = .ok (.putfield 24, 3) := by decide +kernel
theorem d_X3_copyFrom_99 : decode cX3_copyFrom 99 = .ok (.aload_n 0, 1) := by decide +kernel
theorem d_X3_copyFrom_100 : decode cX3_copyFrom 100 = .ok (.aload_n 1, 1) := by decide +kernel
theorem d_X3_copyFrom_101 : decode cX3_copyFrom 101 = .ok (.getfield 34, 3) := by decide +kernel
theorem d_X3_copyFrom_104 : decode cX3_copyFrom 104 = .ok (.putfield 34, 3) := by decide +kernel
theorem d_X3_copyFrom_107 : decode cX3_copyFrom 107 = .ok (.return_, 1) := by decide +kernel
theorem d_X3_copyFrom_57 : decode cX3_copyFrom 57 = .ok (.aload_n 0, 1) := by decide +kernel
theorem d_X3_copyFrom_58 : decode cX3_copyFrom 58 = .ok (.getfield 21, 3) := by decide +kernel
theorem d_X3_copyFrom_61 : decode cX3_copyFrom 61 = .ok (.iload_n 2, 1) := by decide +kernel
theorem d_X3_copyFrom_62 : decode cX3_copyFrom 62 = .ok (.aload_n 1, 1) := by decide +kernel
theorem d_X3_copyFrom_63 : decode cX3_copyFrom 63 = .ok (.getfield 21, 3) := by decide +kernel
theorem d_X3_copyFrom_66 : decode cX3_copyFrom 66 = .ok (.iload_n 2, 1) := by decide +kernel
theorem d_X3_copyFrom_67 : decode cX3_copyFrom 67 = .ok (.iaload, 1) := by decide +kernel
theorem d_X3_copyFrom_68 : decode cX3_copyFrom 68 = .ok (.iastore, 1) := by decide +kernel
theorem d_X3_copyFrom_69 : decode cX3_copyFrom 69 = .ok (.iinc 2 1, 3) := by decide +kernel
theorem d_X3_copyFrom_72 : decode cX3_copyFrom 72 = .ok (.goto (-20), 3) := by decide +kernel
theorem d_X3_copyFrom_8 : decode cX3_copyFrom 8 = .ok (.aload_n 0, 1) := by decide +kernel
theorem d_X3_copyFrom_9 : decode cX3_copyFrom 9 = .ok (.getfield 9, 3) := by decide +kernel
theorem d_X3_copyFrom_12 : decode cX3_copyFrom 12 = .ok (.iload_n 2, 1) := by decide +kernel
theorem d_X3_copyFrom_13 : decode cX3_copyFrom 13 = .ok (.aload_n 1, 1) := by decide +kernel
theorem d_X3_copyFrom_14 : decode cX3_copyFrom 14 = .ok (.getfield 9, 3) := by decide +kernel
theorem d_X3_copyFrom_17 : decode cX3_copyFrom 17 = .ok (.iload_n 2, 1) := by decide +kernel
theorem d_X3_copyFrom_18 : decode cX3_copyFrom 18 = .ok (.iaload, 1) := by decide +kernel
theorem d_X3_copyFrom_19 : decode cX3_copyFrom 19 = .ok (.iastore, 1) := by decide +kernel
theorem d_X3_copyFrom_20 : decode cX3_copyFrom 20 = .ok (.aload_n 0, 1) := by decide +kernel
theorem d_X3_copyFrom_21 : decode cX3_copyFrom 21 = .ok (.getfield 15, 3) := by decide +kernel
theorem d_X3_copyFrom_24 : decode cX3_copyFrom 24 = .ok (.iload_n 2, 1) := by decide +kernel
theorem d_X3_copyFrom_25 : decode cX3_copyFrom 25 = .ok (.aload_n 1, 1) := by decide +kernel
theorem d_X3_copyFrom_26 : decode cX3_copyFrom 26 = .ok (.getfield 15, 3) := by decide +kernel
theorem d_X3_copyFrom_29 : decode cX3_copyFrom 29 = .ok (.iload_n 2, 1) := by decide +kernel
theorem d_X3_copyFrom_30 : decode cX3_copyFrom 30 = .ok (.iaload, 1) := by decide +kernel
theorem d_X3_copyFrom_31 : decode cX3_copyFrom 31 = .ok (.iastore, 1) := by decide +kernel
theorem d_X3_copyFrom_32 : decode cX3_copyFrom 32 = .ok (.aload_n 0, 1) := by decide +kernel
theorem d_X3_copyFrom_33 : decode cX3_copyFrom 33 = .ok (.getfield 18, 3) := by decide +kernel
theorem d_X3_copyFrom_36 : decode cX3_copyFrom 36 = .ok (.iload_n 2, 1) := by decide +kernel
theorem d_X3_copyFrom_37 : decode cX3_copyFrom 37 = .ok (.aload_n 1, 1) := by decide +kernel
theorem d_X3_copyFrom_38 : decode cX3_copyFrom 38 = .ok (.getfield 18, 3) := by decide +kernel
theorem d_X3_copyFrom_41 : decode cX3_copyFrom 41 = .ok (.iload_n 2, 1) := by decide +kernel
theorem d_X3_copyFrom_42 : decode cX3_copyFrom 42 = .ok (.iaload, 1) := by decide +kernel
theorem d_X3_copyFrom_43 : decode cX3_copyFrom 43 = .ok (.iastore, 1) := by decide +kernel
theorem d_X3_copyFrom_44 : decode cX3_copyFrom 44 = .ok (.iinc 2 1, 3) := by decide +kernel
theorem d_X3_copyFrom_47 : decode cX3_copyFrom 47 = .ok (.goto (-45), 3) := by decide +kernel
theorem d_X8_keep_0 : decode cX8_keep 0 = .ok (.iload_n 1, 1) := by decide +kernel
theorem d_X8_keep_1 : decode cX8_keep 1 = .ok (.ifCond .lt 8, 3) := by decide +kernel
theorem d_X8_keep_9 : decode cX8_keep 9 = .ok (.iconst (-1), 1) := by decide +kernel
theorem d_X8_keep_10 : decode cX8_keep 10 = .ok (.ireturn, 1) := by decide +kernel
theorem d_X8_keep_4 : decode cX8_keep 4 = .ok (.iload_n 1, 1) := by decide +kernel
theorem d_X8_keep_5 : decode cX8_keep 5 = .ok (.iconst 2, 1) := by decide +kernel
theorem d_X8_keep_6 : decode cX8_keep 6 = .ok (.if_icmp .lt 5, 3) := by decide +kernel
theorem d_X8_keep_11 : decode cX8_keep 11 = .ok (.aload_n 0, 1) := by decide +kernel
theorem d_X8_keep_12 : decode cX8_keep 12 = .ok (.getfield 47, 3) := by decide +kernel
theorem d_X8_keep_15 : decode cX8_keep 15 = .ok (.iload_n 1, 1) := by decide +kernel
theorem d_X8_keep_16 : decode cX8_keep 16 = .ok (.aaload, 1) := by decide +kernel
theorem d_X8_keep_17 : decode cX8_keep 17 = .ok (.aload_n 0, 1) := by decide +kernel
theorem d_X8_keep_18 : decode cX8_keep 18 = .ok (.getfield 19, 3) := by decide +kernel
theorem d_X8_keep_21 : decode cX8_keep 21 = .ok (.invokevirtual 67, 3) := by decide +kernel
theorem hd_X3_copyFrom : cu_hd yX3_copyFrom 1 := by decide +kernel
theorem k_269 : (.code yX3_copyFrom cX3_copyFrom 3 none : Cond) ∈ cu_G := cu_mem 269 (by decide +kernel) (by decide +kernel)
theorem k_266 : (.methodLink RX8 67 yX3_copyFrom : Cond) ∈ cu_G := cu_mem 266 (by decide +kernel) (by decide +kernel)
theorem k_267 : (.instanceMethod yX3_copyFrom : Cond) ∈ cu_G := cu_mem 267 (by decide +kernel) (by decide +kernel)
theorem k_268 : (.selects RX3 yX3_copyFrom yX3_copyFrom : Cond) ∈ cu_G := cu_mem 268 (by decide +kernel) (by decide +kernel)
theorem d_X8_keep_24 : decode cX8_keep 24 = .ok (.aload_n 0, 1) := by decide +kernel
theorem d_X8_keep_25 : decode cX8_keep 25 = .ok (.getfield 51, 3) := by decide +kernel
theorem d_X8_keep_28 : decode cX8_keep 28 = .ok (.iload_n 1, 1) := by decide +kernel
theorem d_X8_keep_29 : decode cX8_keep 29 = .ok (.iconst 1, 1) := by decide +kernel
theorem d_X8_keep_30 : decode cX8_keep 30 = .ok (.bastore, 1) := by decide +kernel
theorem d_X8_keep_31 : decode cX8_keep 31 = .ok (.aload_n 0, 1) := by decide +kernel
theorem d_X8_keep_32 : decode cX8_keep 32 = .ok (.getfield 19, 3) := by decide +kernel
theorem d_X8_keep_35 : decode cX8_keep 35 = .ok (.getfield 74, 3) := by decide +kernel
theorem d_X8_keep_38 : decode cX8_keep 38 = .ok (.ireturn, 1) := by decide +kernel
theorem d_X8_drawn_0 : decode cX8_drawn 0 = .ok (.iload_n 1, 1) := by decide +kernel
theorem d_X8_drawn_1 : decode cX8_drawn 1 = .ok (.iconst 1, 1) := by decide +kernel
theorem d_X8_drawn_2 : decode cX8_drawn 2 = .ok (.if_icmp .lt 9, 3) := by decide +kernel
theorem d_X8_drawn_11 : decode cX8_drawn 11 = .ok (.bipush (-2), 2) := by decide +kernel
theorem d_X8_drawn_13 : decode cX8_drawn 13 = .ok (.ireturn, 1) := by decide +kernel
theorem d_X8_drawn_5 : decode cX8_drawn 5 = .ok (.iload_n 1, 1) := by decide +kernel
theorem d_X8_drawn_6 : decode cX8_drawn 6 = .ok (.bipush 20, 2) := by decide +kernel
theorem d_X8_drawn_8 : decode cX8_drawn 8 = .ok (.if_icmp .le 6, 3) := by decide +kernel
theorem d_X8_drawn_14 : decode cX8_drawn 14 = .ok (.iconst 0, 1) := by decide +kernel
theorem d_X8_drawn_15 : decode cX8_drawn 15 = .ok (.istore_n 2, 1) := by decide +kernel
theorem d_X8_drawn_16 : decode cX8_drawn 16 = .ok (.iconst 0, 1) := by decide +kernel
theorem d_X8_drawn_17 : decode cX8_drawn 17 = .ok (.istore_n 3, 1) := by decide +kernel
theorem d_X8_drawn_18 : decode cX8_drawn 18 = .ok (.iload_n 3, 1) := by decide +kernel
theorem d_X8_drawn_19 : decode cX8_drawn 19 = .ok (.iload_n 1, 1) := by decide +kernel
theorem d_X8_drawn_20 : decode cX8_drawn 20 = .ok (.if_icmp .ge 46, 3) := by decide +kernel
theorem d_X8_drawn_66 : decode cX8_drawn 66 = .ok (.iload_n 2, 1) := by decide +kernel
theorem d_X8_drawn_67 : decode cX8_drawn 67 = .ok (.ireturn, 1) := by decide +kernel
theorem d_X8_drawn_23 : decode cX8_drawn 23 = .ok (.aload_n 0, 1) := by decide +kernel
theorem d_X8_drawn_24 : decode cX8_drawn 24 = .ok (.aload_n 0, 1) := by decide +kernel
theorem d_X8_drawn_25 : decode cX8_drawn 25 = .ok (.getfield 231, 3) := by decide +kernel
theorem d_X8_drawn_28 : decode cX8_drawn 28 = .ok (.ldc2_w 235, 3) := by decide +kernel
theorem k_654 : (.constantLong RX8 235 6364136223846793005 : Cond) ∈ cu_G := cu_mem 654 (by decide +kernel) (by decide +kernel)
theorem d_X8_drawn_31 : decode cX8_drawn 31 = .ok (.lmul, 1) := by decide +kernel
theorem d_X8_drawn_32 : decode cX8_drawn 32 = .ok (.ldc2_w 237, 3) := by decide +kernel
theorem k_655 : (.constantLong RX8 237 1442695040888963407 : Cond) ∈ cu_G := cu_mem 655 (by decide +kernel) (by decide +kernel)
theorem d_X8_drawn_35 : decode cX8_drawn 35 = .ok (.ladd, 1) := by decide +kernel
theorem d_X8_drawn_36 : decode cX8_drawn 36 = .ok (.putfield 231, 3) := by decide +kernel
theorem d_X8_drawn_39 : decode cX8_drawn 39 = .ok (.aload_n 0, 1) := by decide +kernel
theorem d_X8_drawn_40 : decode cX8_drawn 40 = .ok (.getfield 19, 3) := by decide +kernel
theorem d_X8_drawn_43 : decode cX8_drawn 43 = .ok (.aload_n 0, 1) := by decide +kernel
theorem d_X8_drawn_44 : decode cX8_drawn 44 = .ok (.getfield 231, 3) := by decide +kernel
theorem d_X8_drawn_47 : decode cX8_drawn 47 = .ok (.bipush 33, 2) := by decide +kernel
theorem d_X8_drawn_49 : decode cX8_drawn 49 = .ok (.lushr, 1) := by decide +kernel
theorem d_X8_drawn_50 : decode cX8_drawn 50 = .ok (.l2i, 1) := by decide +kernel
theorem d_X8_drawn_51 : decode cX8_drawn 51 = .ok (.invokevirtual 239, 3) := by decide +kernel
theorem hd_X3_recognizes : cu_hd yX3_recognizes 1 := by decide +kernel
theorem k_659 : (.code yX3_recognizes cX3_recognizes 6 (some .boolean) : Cond) ∈ cu_G := cu_mem 659 (by decide +kernel) (by decide +kernel)
theorem k_656 : (.methodLink RX8 239 yX3_recognizes : Cond) ∈ cu_G := cu_mem 656 (by decide +kernel) (by decide +kernel)
theorem k_657 : (.instanceMethod yX3_recognizes : Cond) ∈ cu_G := cu_mem 657 (by decide +kernel) (by decide +kernel)
theorem k_658 : (.selects RX3 yX3_recognizes yX3_recognizes : Cond) ∈ cu_G := cu_mem 658 (by decide +kernel) (by decide +kernel)
theorem d_X8_drawn_54 : decode cX8_drawn 54 = .ok (.ifCond .eq 6, 3) := by decide +kernel
theorem d_X8_drawn_60 : decode cX8_drawn 60 = .ok (.iinc 3 1, 3) := by decide +kernel
theorem d_X8_drawn_63 : decode cX8_drawn 63 = .ok (.goto (-45), 3) := by decide +kernel
theorem d_X6_look_0 : decode cX6_look 0 = .ok (.iconst 0, 1) := by decide +kernel
theorem d_X6_look_1 : decode cX6_look 1 = .ok (.istore_n 2, 1) := by decide +kernel
theorem d_X6_look_2 : decode cX6_look 2 = .ok (.iload_n 2, 1) := by decide +kernel
theorem d_X6_look_3 : decode cX6_look 3 = .ok (.bipush 12, 2) := by decide +kernel
theorem d_X6_look_5 : decode cX6_look 5 = .ok (.if_icmp .ge 86, 3) := by decide +kernel
theorem d_X6_look_91 : decode cX6_look 91 = .ok (.return_, 1) := by decide +kernel
theorem d_X6_look_8 : decode cX6_look 8 = .ok (.aload_n 1, 1) := by decide +kernel
theorem d_X6_look_9 : decode cX6_look 9 = .ok (.iload_n 2, 1) := by decide +kernel
theorem d_X6_look_10 : decode cX6_look 10 = .ok (.invokevirtual 31, 3) := by decide +kernel
theorem hd_X3_counts : cu_hd yX3_counts 1 := by decide +kernel
theorem k_329 : (.code yX3_counts cX3_counts 2 (some .boolean) : Cond) ∈ cu_G := cu_mem 329 (by decide +kernel) (by decide +kernel)
theorem k_473 : (.methodLink RX6 31 yX3_counts : Cond) ∈ cu_G := cu_mem 473 (by decide +kernel) (by decide +kernel)
theorem k_327 : (.instanceMethod yX3_counts : Cond) ∈ cu_G := cu_mem 327 (by decide +kernel) (by decide +kernel)
theorem k_328 : (.selects RX3 yX3_counts yX3_counts : Cond) ∈ cu_G := cu_mem 328 (by decide +kernel) (by decide +kernel)
theorem d_X6_look_13 : decode cX6_look 13 = .ok (.ifCond .eq 12, 3) := by decide +kernel
theorem d_X6_look_25 : decode cX6_look 25 = .ok (.iconst 0, 1) := by decide +kernel
theorem d_X6_look_26 : decode cX6_look 26 = .ok (.istore_n 3, 1) := by decide +kernel
theorem d_X6_look_27 : decode cX6_look 27 = .ok (.aload_n 1, 1) := by decide +kernel
theorem d_X6_look_28 : decode cX6_look 28 = .ok (.iload_n 2, 1) := by decide +kernel
theorem d_X6_look_29 : decode cX6_look 29 = .ok (.invokevirtual 31, 3) := by decide +kernel
theorem d_X6_look_32 : decode cX6_look 32 = .ok (.ifCond .eq 11, 3) := by decide +kernel
theorem d_X6_look_43 : decode cX6_look 43 = .ok (.iconst 0, 1) := by decide +kernel
theorem d_X6_look_44 : decode cX6_look 44 = .ok (.istore 4, 2) := by decide +kernel
theorem d_X6_look_46 : decode cX6_look 46 = .ok (.iload_n 3, 1) := by decide +kernel
theorem d_X6_look_47 : decode cX6_look 47 = .ok (.aload_n 0, 1) := by decide +kernel
theorem d_X6_look_48 : decode cX6_look 48 = .ok (.getfield 9, 3) := by decide +kernel
theorem d_X6_look_51 : decode cX6_look 51 = .ok (.iload_n 2, 1) := by decide +kernel
theorem d_X6_look_52 : decode cX6_look 52 = .ok (.iaload, 1) := by decide +kernel
theorem d_X6_look_53 : decode cX6_look 53 = .ok (.if_icmp .ne 14, 3) := by decide +kernel
theorem d_X6_look_56 : decode cX6_look 56 = .ok (.iload 4, 2) := by decide +kernel
theorem d_X6_look_58 : decode cX6_look 58 = .ok (.aload_n 0, 1) := by decide +kernel
theorem d_X6_look_59 : decode cX6_look 59 = .ok (.getfield 15, 3) := by decide +kernel
theorem d_X6_look_62 : decode cX6_look 62 = .ok (.iload_n 2, 1) := by decide +kernel
theorem d_X6_look_63 : decode cX6_look 63 = .ok (.iaload, 1) := by decide +kernel
theorem d_X6_look_64 : decode cX6_look 64 = .ok (.if_icmp .eq 21, 3) := by decide +kernel
theorem d_X6_look_85 : decode cX6_look 85 = .ok (.iinc 2 1, 3) := by decide +kernel
theorem d_X6_look_88 : decode cX6_look 88 = .ok (.goto (-86), 3) := by decide +kernel
theorem d_X8_surveyNow_0 : decode cX8_surveyNow 0 = .ok (.aload_n 0, 1) := by decide +kernel
theorem d_X8_surveyNow_1 : decode cX8_surveyNow 1 = .ok (.getfield 182, 3) := by decide +kernel
theorem k_187 : (.fieldLink RX8 182 "CommonUnits" "survey" "LCommonUnits$Survey;" : Cond) ∈ cu_G := cu_mem 187 (by decide +kernel) (by decide +kernel)
theorem d_X8_surveyNow_4 : decode cX8_surveyNow 4 = .ok (.ifnonnull 14, 3) := by decide +kernel
theorem d_X8_surveyNow_7 : decode cX8_surveyNow 7 = .ok (.aload_n 0, 1) := by decide +kernel
theorem d_X8_surveyNow_8 : decode cX8_surveyNow 8 = .ok (.new 163, 3) := by decide +kernel
theorem k_425 : (.classLink RX8 163 RX6 : Cond) ∈ cu_G := cu_mem 425 (by decide +kernel) (by decide +kernel)
theorem k_426 : (.instantiable RX6 11 : Cond) ∈ cu_G := cu_mem 426 (by decide +kernel) (by decide +kernel)
theorem k_53 : (.initialized RX6 : Cond) ∈ cu_G := cu_mem 53 (by decide +kernel) (by decide +kernel)
theorem d_X8_surveyNow_11 : decode cX8_surveyNow 11 = .ok (.dup, 1) := by decide +kernel
theorem d_X8_surveyNow_12 : decode cX8_surveyNow 12 = .ok (.invokespecial 186, 3) := by decide +kernel
theorem hd_X6_init : cu_hd yX6_init 0 := by decide +kernel
theorem k_429 : (.code yX6_init cX6_init 1 none : Cond) ∈ cu_G := cu_mem 429 (by decide +kernel) (by decide +kernel)
theorem k_428 : (.instanceMethod yX6_init : Cond) ∈ cu_G := cu_mem 428 (by decide +kernel) (by decide +kernel)
theorem d_X8_surveyNow_15 : decode cX8_surveyNow 15 = .ok (.putfield 182, 3) := by decide +kernel
theorem d_X8_surveyNow_18 : decode cX8_surveyNow 18 = .ok (.aload_n 0, 1) := by decide +kernel
theorem d_X8_surveyNow_19 : decode cX8_surveyNow 19 = .ok (.getfield 182, 3) := by decide +kernel
theorem d_X8_surveyNow_22 : decode cX8_surveyNow 22 = .ok (.aload_n 0, 1) := by decide +kernel
theorem d_X8_surveyNow_23 : decode cX8_surveyNow 23 = .ok (.getfield 19, 3) := by decide +kernel
theorem d_X8_surveyNow_26 : decode cX8_surveyNow 26 = .ok (.invokevirtual 187, 3) := by decide +kernel
theorem hd_X6_look : cu_hd yX6_look 1 := by decide +kernel
theorem k_472 : (.code yX6_look cX6_look 5 none : Cond) ∈ cu_G := cu_mem 472 (by decide +kernel) (by decide +kernel)
theorem k_469 : (.methodLink RX8 187 yX6_look : Cond) ∈ cu_G := cu_mem 469 (by decide +kernel) (by decide +kernel)
theorem k_470 : (.instanceMethod yX6_look : Cond) ∈ cu_G := cu_mem 470 (by decide +kernel) (by decide +kernel)
theorem k_471 : (.selects RX6 yX6_look yX6_look : Cond) ∈ cu_G := cu_mem 471 (by decide +kernel) (by decide +kernel)
theorem d_X8_surveyNow_29 : decode cX8_surveyNow 29 = .ok (.aload_n 0, 1) := by decide +kernel
theorem d_X8_surveyNow_30 : decode cX8_surveyNow 30 = .ok (.getfield 182, 3) := by decide +kernel
theorem d_X8_surveyNow_33 : decode cX8_surveyNow 33 = .ok (.areturn, 1) := by decide +kernel
theorem d_X2_isUnit_0 : decode cX2_isUnit 0 = .ok (.iload_n 0, 1) := by decide +kernel
theorem d_X2_isUnit_1 : decode cX2_isUnit 1 = .ok (.iconst 1, 1) := by decide +kernel
theorem d_X2_isUnit_2 : decode cX2_isUnit 2 = .ok (.if_icmp .lt 14, 3) := by decide +kernel
theorem d_X2_isUnit_16 : decode cX2_isUnit 16 = .ok (.iconst 0, 1) := by decide +kernel
theorem d_X2_isUnit_17 : decode cX2_isUnit 17 = .ok (.ireturn, 1) := by decide +kernel
theorem d_X2_isUnit_5 : decode cX2_isUnit 5 = .ok (.iload_n 0, 1) := by decide +kernel
theorem d_X2_isUnit_6 : decode cX2_isUnit 6 = .ok (.sipush 999, 3) := by decide +kernel
theorem d_X2_isUnit_9 : decode cX2_isUnit 9 = .ok (.if_icmp .gt 7, 3) := by decide +kernel
theorem d_X2_isUnit_12 : decode cX2_isUnit 12 = .ok (.iconst 1, 1) := by decide +kernel
theorem d_X2_isUnit_13 : decode cX2_isUnit 13 = .ok (.goto 4, 3) := by decide +kernel
theorem d_X6_keyOf_0 : decode cX6_keyOf 0 = .ok (.iload_n 1, 1) := by decide +kernel
theorem d_X6_keyOf_1 : decode cX6_keyOf 1 = .ok (.invokestatic 55, 3) := by decide +kernel
theorem hd_X2_isUnit : cu_hd yX2_isUnit 1 := by decide +kernel
theorem k_398 : (.code yX2_isUnit cX2_isUnit 1 (some .boolean) : Cond) ∈ cu_G := cu_mem 398 (by decide +kernel) (by decide +kernel)
theorem k_50 : (.initialized RX2 : Cond) ∈ cu_G := cu_mem 50 (by decide +kernel) (by decide +kernel)
theorem k_490 : (.methodLink RX6 55 yX2_isUnit : Cond) ∈ cu_G := cu_mem 490 (by decide +kernel) (by decide +kernel)
theorem k_397 : (.static yX2_isUnit : Cond) ∈ cu_G := cu_mem 397 (by decide +kernel) (by decide +kernel)
theorem d_X6_keyOf_4 : decode cX6_keyOf 4 = .ok (.ifCond .eq 22, 3) := by decide +kernel
theorem d_X6_keyOf_7 : decode cX6_keyOf 7 = .ok (.aload_n 0, 1) := by decide +kernel
theorem d_X6_keyOf_8 : decode cX6_keyOf 8 = .ok (.getfield 21, 3) := by decide +kernel
theorem d_X6_keyOf_11 : decode cX6_keyOf 11 = .ok (.iload_n 1, 1) := by decide +kernel
theorem d_X6_keyOf_12 : decode cX6_keyOf 12 = .ok (.iaload, 1) := by decide +kernel
theorem d_X6_keyOf_13 : decode cX6_keyOf 13 = .ok (.sipush 1000, 3) := by decide +kernel
theorem d_X6_keyOf_16 : decode cX6_keyOf 16 = .ok (.imul, 1) := by decide +kernel
theorem d_X6_keyOf_17 : decode cX6_keyOf 17 = .ok (.sipush 999, 3) := by decide +kernel
theorem d_X6_keyOf_20 : decode cX6_keyOf 20 = .ok (.iadd, 1) := by decide +kernel
theorem d_X6_keyOf_21 : decode cX6_keyOf 21 = .ok (.iload_n 1, 1) := by decide +kernel
theorem d_X6_keyOf_22 : decode cX6_keyOf 22 = .ok (.isub, 1) := by decide +kernel
theorem d_X6_keyOf_23 : decode cX6_keyOf 23 = .ok (.goto 4, 3) := by decide +kernel
theorem d_X6_keyOf_27 : decode cX6_keyOf 27 = .ok (.ireturn, 1) := by decide +kernel
theorem d_X6_rankOf_0 : decode cX6_rankOf 0 = .ok (.iconst 0, 1) := by decide +kernel
theorem d_X6_rankOf_1 : decode cX6_rankOf 1 = .ok (.istore_n 2, 1) := by decide +kernel
theorem d_X6_rankOf_2 : decode cX6_rankOf 2 = .ok (.aload_n 0, 1) := by decide +kernel
theorem d_X6_rankOf_3 : decode cX6_rankOf 3 = .ok (.iload_n 1, 1) := by decide +kernel
theorem d_X6_rankOf_4 : decode cX6_rankOf 4 = .ok (.invokevirtual 52, 3) := by decide +kernel
theorem hd_X6_keyOf : cu_hd yX6_keyOf 1 := by decide +kernel
theorem k_489 : (.code yX6_keyOf cX6_keyOf 2 (some .int) : Cond) ∈ cu_G := cu_mem 489 (by decide +kernel) (by decide +kernel)
theorem k_486 : (.methodLink RX6 52 yX6_keyOf : Cond) ∈ cu_G := cu_mem 486 (by decide +kernel) (by decide +kernel)
theorem k_488 : (.instanceMethod yX6_keyOf : Cond) ∈ cu_G := cu_mem 488 (by decide +kernel) (by decide +kernel)
theorem k_9 : (.selects RX6 yX6_keyOf yX6_keyOf : Cond) ∈ cu_G := cu_mem 9 (by decide +kernel) (by decide +kernel)
theorem d_X6_rankOf_7 : decode cX6_rankOf 7 = .ok (.istore_n 3, 1) := by decide +kernel
theorem d_X6_rankOf_8 : decode cX6_rankOf 8 = .ok (.iconst 1, 1) := by decide +kernel
theorem d_X6_rankOf_9 : decode cX6_rankOf 9 = .ok (.istore 4, 2) := by decide +kernel
theorem d_X6_rankOf_11 : decode cX6_rankOf 11 = .ok (.iload 4, 2) := by decide +kernel
theorem d_X6_rankOf_13 : decode cX6_rankOf 13 = .ok (.sipush 999, 3) := by decide +kernel
theorem d_X6_rankOf_16 : decode cX6_rankOf 16 = .ok (.if_icmp .gt 22, 3) := by decide +kernel
theorem d_X6_rankOf_38 : decode cX6_rankOf 38 = .ok (.iload_n 2, 1) := by decide +kernel
theorem d_X6_rankOf_39 : decode cX6_rankOf 39 = .ok (.ireturn, 1) := by decide +kernel
theorem d_X6_rankOf_19 : decode cX6_rankOf 19 = .ok (.aload_n 0, 1) := by decide +kernel
theorem d_X6_rankOf_20 : decode cX6_rankOf 20 = .ok (.iload 4, 2) := by decide +kernel
theorem d_X6_rankOf_22 : decode cX6_rankOf 22 = .ok (.invokevirtual 52, 3) := by decide +kernel
theorem d_X6_rankOf_25 : decode cX6_rankOf 25 = .ok (.iload_n 3, 1) := by decide +kernel
theorem d_X6_rankOf_26 : decode cX6_rankOf 26 = .ok (.if_icmp .ge 6, 3) := by decide +kernel
theorem d_X6_rankOf_32 : decode cX6_rankOf 32 = .ok (.iinc 4 1, 3) := by decide +kernel
theorem d_X6_rankOf_35 : decode cX6_rankOf 35 = .ok (.goto (-24), 3) := by decide +kernel
theorem d_X6_rankOf_29 : decode cX6_rankOf 29 = .ok (.iinc 2 1, 3) := by decide +kernel
theorem d_J6_bitCount_0f7a4_0 : decode cJ6_bitCount_0f7a4 0 = .ok (.iload_n 0, 1) := by decide +kernel
theorem d_J6_bitCount_0f7a4_1 : decode cJ6_bitCount_0f7a4 1 = .ok (.iload_n 0, 1) := by decide +kernel
theorem d_J6_bitCount_0f7a4_2 : decode cJ6_bitCount_0f7a4 2 = .ok (.iconst 1, 1) := by decide +kernel
theorem d_J6_bitCount_0f7a4_3 : decode cJ6_bitCount_0f7a4 3 = .ok (.iushr, 1) := by decide +kernel
theorem d_J6_bitCount_0f7a4_4 : decode cJ6_bitCount_0f7a4 4 = .ok (.ldc_w 265, 3) := by decide +kernel
theorem k_334 : (.constant RJ6 265 1431655765 : Cond) ∈ cu_G := cu_mem 334 (by decide +kernel) (by decide +kernel)
theorem d_J6_bitCount_0f7a4_7 : decode cJ6_bitCount_0f7a4 7 = .ok (.iand, 1) := by decide +kernel
theorem d_J6_bitCount_0f7a4_8 : decode cJ6_bitCount_0f7a4 8 = .ok (.isub, 1) := by decide +kernel
theorem d_J6_bitCount_0f7a4_9 : decode cJ6_bitCount_0f7a4 9 = .ok (.istore_n 0, 1) := by decide +kernel
theorem d_J6_bitCount_0f7a4_10 : decode cJ6_bitCount_0f7a4 10 = .ok (.iload_n 0, 1) := by decide +kernel
theorem d_J6_bitCount_0f7a4_11 : decode cJ6_bitCount_0f7a4 11 = .ok (.ldc_w 266, 3) := by decide +kernel
theorem k_335 : (.constant RJ6 266 858993459 : Cond) ∈ cu_G := cu_mem 335 (by decide +kernel) (by decide +kernel)
theorem d_J6_bitCount_0f7a4_14 : decode cJ6_bitCount_0f7a4 14 = .ok (.iand, 1) := by decide +kernel
theorem d_J6_bitCount_0f7a4_15 : decode cJ6_bitCount_0f7a4 15 = .ok (.iload_n 0, 1) := by decide +kernel
theorem d_J6_bitCount_0f7a4_16 : decode cJ6_bitCount_0f7a4 16 = .ok (.iconst 2, 1) := by decide +kernel
theorem d_J6_bitCount_0f7a4_17 : decode cJ6_bitCount_0f7a4 17 = .ok (.iushr, 1) := by decide +kernel
theorem d_J6_bitCount_0f7a4_18 : decode cJ6_bitCount_0f7a4 18 = .ok (.ldc_w 266, 3) := by decide +kernel
theorem d_J6_bitCount_0f7a4_21 : decode cJ6_bitCount_0f7a4 21 = .ok (.iand, 1) := by decide +kernel
theorem d_J6_bitCount_0f7a4_22 : decode cJ6_bitCount_0f7a4 22 = .ok (.iadd, 1) := by decide +kernel
theorem d_J6_bitCount_0f7a4_23 : decode cJ6_bitCount_0f7a4 23 = .ok (.istore_n 0, 1) := by decide +kernel
theorem d_J6_bitCount_0f7a4_24 : decode cJ6_bitCount_0f7a4 24 = .ok (.iload_n 0, 1) := by decide +kernel
theorem d_J6_bitCount_0f7a4_25 : decode cJ6_bitCount_0f7a4 25 = .ok (.iload_n 0, 1) := by decide +kernel
theorem d_J6_bitCount_0f7a4_26 : decode cJ6_bitCount_0f7a4 26 = .ok (.iconst 4, 1) := by decide +kernel
theorem d_J6_bitCount_0f7a4_27 : decode cJ6_bitCount_0f7a4 27 = .ok (.iushr, 1) := by decide +kernel
theorem d_J6_bitCount_0f7a4_28 : decode cJ6_bitCount_0f7a4 28 = .ok (.iadd, 1) := by decide +kernel
theorem d_J6_bitCount_0f7a4_29 : decode cJ6_bitCount_0f7a4 29 = .ok (.ldc_w 267, 3) := by decide +kernel
theorem k_336 : (.constant RJ6 267 252645135 : Cond) ∈ cu_G := cu_mem 336 (by decide +kernel) (by decide +kernel)
theorem d_J6_bitCount_0f7a4_32 : decode cJ6_bitCount_0f7a4 32 = .ok (.iand, 1) := by decide +kernel
theorem d_J6_bitCount_0f7a4_33 : decode cJ6_bitCount_0f7a4 33 = .ok (.istore_n 0, 1) := by decide +kernel
theorem d_J6_bitCount_0f7a4_34 : decode cJ6_bitCount_0f7a4 34 = .ok (.iload_n 0, 1) := by decide +kernel
theorem d_J6_bitCount_0f7a4_35 : decode cJ6_bitCount_0f7a4 35 = .ok (.iload_n 0, 1) := by decide +kernel
theorem d_J6_bitCount_0f7a4_36 : decode cJ6_bitCount_0f7a4 36 = .ok (.bipush 8, 2) := by decide +kernel
theorem d_J6_bitCount_0f7a4_38 : decode cJ6_bitCount_0f7a4 38 = .ok (.iushr, 1) := by decide +kernel
theorem d_J6_bitCount_0f7a4_39 : decode cJ6_bitCount_0f7a4 39 = .ok (.iadd, 1) := by decide +kernel
theorem d_J6_bitCount_0f7a4_40 : decode cJ6_bitCount_0f7a4 40 = .ok (.istore_n 0, 1) := by decide +kernel
theorem d_J6_bitCount_0f7a4_41 : decode cJ6_bitCount_0f7a4 41 = .ok (.iload_n 0, 1) := by decide +kernel
theorem d_J6_bitCount_0f7a4_42 : decode cJ6_bitCount_0f7a4 42 = .ok (.iload_n 0, 1) := by decide +kernel
theorem d_J6_bitCount_0f7a4_43 : decode cJ6_bitCount_0f7a4 43 = .ok (.bipush 16, 2) := by decide +kernel
theorem d_J6_bitCount_0f7a4_45 : decode cJ6_bitCount_0f7a4 45 = .ok (.iushr, 1) := by decide +kernel
theorem d_J6_bitCount_0f7a4_46 : decode cJ6_bitCount_0f7a4 46 = .ok (.iadd, 1) := by decide +kernel
theorem d_J6_bitCount_0f7a4_47 : decode cJ6_bitCount_0f7a4 47 = .ok (.istore_n 0, 1) := by decide +kernel
theorem d_J6_bitCount_0f7a4_48 : decode cJ6_bitCount_0f7a4 48 = .ok (.iload_n 0, 1) := by decide +kernel
theorem d_J6_bitCount_0f7a4_49 : decode cJ6_bitCount_0f7a4 49 = .ok (.bipush 63, 2) := by decide +kernel
theorem d_J6_bitCount_0f7a4_51 : decode cJ6_bitCount_0f7a4 51 = .ok (.iand, 1) := by decide +kernel
theorem d_J6_bitCount_0f7a4_52 : decode cJ6_bitCount_0f7a4 52 = .ok (.ireturn, 1) := by decide +kernel
theorem d_X8_unit_0 : decode cX8_unit 0 = .ok (.iload_n 1, 1) := by decide +kernel
theorem d_X8_unit_1 : decode cX8_unit 1 = .ok (.invokestatic 135, 3) := by decide +kernel
theorem k_396 : (.methodLink RX8 135 yX2_isUnit : Cond) ∈ cu_G := cu_mem 396 (by decide +kernel) (by decide +kernel)
theorem d_X8_unit_4 : decode cX8_unit 4 = .ok (.ifCond .ne 6, 3) := by decide +kernel
theorem d_X8_unit_7 : decode cX8_unit 7 = .ok (.bipush (-2), 2) := by decide +kernel
theorem d_X8_unit_9 : decode cX8_unit 9 = .ok (.ireturn, 1) := by decide +kernel
theorem d_X8_unit_10 : decode cX8_unit 10 = .ok (.iload_n 2, 1) := by decide +kernel
theorem d_X8_unit_11 : decode cX8_unit 11 = .ok (.tableswitch 76 0 3 #[29, 41, 50, 67], 29) := by decide +kernel
theorem d_X8_unit_40 : decode cX8_unit 40 = .ok (.aload_n 0, 1) := by decide +kernel
theorem d_X8_unit_41 : decode cX8_unit 41 = .ok (.getfield 19, 3) := by decide +kernel
theorem d_X8_unit_44 : decode cX8_unit 44 = .ok (.iload_n 1, 1) := by decide +kernel
theorem d_X8_unit_45 : decode cX8_unit 45 = .ok (.invokevirtual 155, 3) := by decide +kernel
theorem hd_X3_explainedBy : cu_hd yX3_explainedBy 1 := by decide +kernel
theorem k_420 : (.code yX3_explainedBy cX3_explainedBy 4 (some .int) : Cond) ∈ cu_G := cu_mem 420 (by decide +kernel) (by decide +kernel)
theorem k_417 : (.methodLink RX8 155 yX3_explainedBy : Cond) ∈ cu_G := cu_mem 417 (by decide +kernel) (by decide +kernel)
theorem k_418 : (.instanceMethod yX3_explainedBy : Cond) ∈ cu_G := cu_mem 418 (by decide +kernel) (by decide +kernel)
theorem k_419 : (.selects RX3 yX3_explainedBy yX3_explainedBy : Cond) ∈ cu_G := cu_mem 419 (by decide +kernel) (by decide +kernel)
theorem d_X8_unit_48 : decode cX8_unit 48 = .ok (.invokestatic 109, 3) := by decide +kernel
theorem hd_J6_bitCount_0f7a4 : cu_hd yJ6_bitCount_0f7a4 1 := by decide +kernel
theorem k_333 : (.code yJ6_bitCount_0f7a4 cJ6_bitCount_0f7a4 1 (some .int) : Cond) ∈ cu_G := cu_mem 333 (by decide +kernel) (by decide +kernel)
theorem k_51 : (.initialized RJ6 : Cond) ∈ cu_G := cu_mem 51 (by decide +kernel) (by decide +kernel)
theorem k_331 : (.methodLink RX8 109 yJ6_bitCount_0f7a4 : Cond) ∈ cu_G := cu_mem 331 (by decide +kernel) (by decide +kernel)
theorem k_332 : (.static yJ6_bitCount_0f7a4 : Cond) ∈ cu_G := cu_mem 332 (by decide +kernel) (by decide +kernel)
theorem d_X8_unit_51 : decode cX8_unit 51 = .ok (.ireturn, 1) := by decide +kernel
theorem d_X8_unit_52 : decode cX8_unit 52 = .ok (.aload_n 0, 1) := by decide +kernel
theorem d_X8_unit_53 : decode cX8_unit 53 = .ok (.getfield 19, 3) := by decide +kernel
theorem d_X8_unit_56 : decode cX8_unit 56 = .ok (.iload_n 1, 1) := by decide +kernel
theorem d_X8_unit_57 : decode cX8_unit 57 = .ok (.invokevirtual 155, 3) := by decide +kernel
theorem d_X8_unit_60 : decode cX8_unit 60 = .ok (.ireturn, 1) := by decide +kernel
theorem d_X8_unit_61 : decode cX8_unit 61 = .ok (.aload_n 0, 1) := by decide +kernel
theorem d_X8_unit_62 : decode cX8_unit 62 = .ok (.getfield 19, 3) := by decide +kernel
theorem d_X8_unit_65 : decode cX8_unit 65 = .ok (.aload_n 0, 1) := by decide +kernel
theorem d_X8_unit_66 : decode cX8_unit 66 = .ok (.getfield 19, 3) := by decide +kernel
theorem d_X8_unit_69 : decode cX8_unit 69 = .ok (.iload_n 1, 1) := by decide +kernel
theorem d_X8_unit_70 : decode cX8_unit 70 = .ok (.invokevirtual 155, 3) := by decide +kernel
theorem d_X8_unit_73 : decode cX8_unit 73 = .ok (.iload_n 1, 1) := by decide +kernel
theorem d_X8_unit_74 : decode cX8_unit 74 = .ok (.invokevirtual 114, 3) := by decide +kernel
theorem hd_X3_lossesOf : cu_hd yX3_lossesOf 2 := by decide +kernel
theorem k_340 : (.code yX3_lossesOf cX3_lossesOf 5 (some .int) : Cond) ∈ cu_G := cu_mem 340 (by decide +kernel) (by decide +kernel)
theorem k_337 : (.methodLink RX8 114 yX3_lossesOf : Cond) ∈ cu_G := cu_mem 337 (by decide +kernel) (by decide +kernel)
theorem k_338 : (.instanceMethod yX3_lossesOf : Cond) ∈ cu_G := cu_mem 338 (by decide +kernel) (by decide +kernel)
theorem k_339 : (.selects RX3 yX3_lossesOf yX3_lossesOf : Cond) ∈ cu_G := cu_mem 339 (by decide +kernel) (by decide +kernel)
theorem d_X8_unit_77 : decode cX8_unit 77 = .ok (.ireturn, 1) := by decide +kernel
theorem d_X8_unit_78 : decode cX8_unit 78 = .ok (.aload_n 0, 1) := by decide +kernel
theorem d_X8_unit_79 : decode cX8_unit 79 = .ok (.invokevirtual 158, 3) := by decide +kernel
theorem hd_X8_surveyNow : cu_hd yX8_surveyNow 0 := by decide +kernel
theorem k_424 : (.code yX8_surveyNow cX8_surveyNow 1 (some (.object "CommonUnits$Survey")) : Cond) ∈ cu_G := cu_mem 424 (by decide +kernel) (by decide +kernel)
theorem k_421 : (.methodLink RX8 158 yX8_surveyNow : Cond) ∈ cu_G := cu_mem 421 (by decide +kernel) (by decide +kernel)
theorem k_423 : (.instanceMethod yX8_surveyNow : Cond) ∈ cu_G := cu_mem 423 (by decide +kernel) (by decide +kernel)
theorem k_7 : (.selects RX8 yX8_surveyNow yX8_surveyNow : Cond) ∈ cu_G := cu_mem 7 (by decide +kernel) (by decide +kernel)
theorem d_X8_unit_82 : decode cX8_unit 82 = .ok (.iload_n 1, 1) := by decide +kernel
theorem d_X8_unit_83 : decode cX8_unit 83 = .ok (.invokevirtual 162, 3) := by decide +kernel
theorem hd_X6_rankOf : cu_hd yX6_rankOf 1 := by decide +kernel
theorem k_485 : (.code yX6_rankOf cX6_rankOf 5 (some .int) : Cond) ∈ cu_G := cu_mem 485 (by decide +kernel) (by decide +kernel)
theorem k_482 : (.methodLink RX8 162 yX6_rankOf : Cond) ∈ cu_G := cu_mem 482 (by decide +kernel) (by decide +kernel)
theorem k_483 : (.instanceMethod yX6_rankOf : Cond) ∈ cu_G := cu_mem 483 (by decide +kernel) (by decide +kernel)
theorem k_484 : (.selects RX6 yX6_rankOf yX6_rankOf : Cond) ∈ cu_G := cu_mem 484 (by decide +kernel) (by decide +kernel)
theorem d_X8_unit_86 : decode cX8_unit 86 = .ok (.ireturn, 1) := by decide +kernel
theorem d_X8_unit_87 : decode cX8_unit 87 = .ok (.bipush (-2), 2) := by decide +kernel
theorem d_X8_unit_89 : decode cX8_unit 89 = .ok (.ireturn, 1) := by decide +kernel
theorem d_X6_countedColumns_0 : decode cX6_countedColumns 0 = .ok (.iconst 0, 1) := by decide +kernel
theorem d_X6_countedColumns_1 : decode cX6_countedColumns 1 = .ok (.istore_n 1, 1) := by decide +kernel
theorem d_X6_countedColumns_2 : decode cX6_countedColumns 2 = .ok (.iconst 0, 1) := by decide +kernel
theorem d_X6_countedColumns_3 : decode cX6_countedColumns 3 = .ok (.istore_n 2, 1) := by decide +kernel
theorem d_X6_countedColumns_4 : decode cX6_countedColumns 4 = .ok (.iload_n 2, 1) := by decide +kernel
theorem d_X6_countedColumns_5 : decode cX6_countedColumns 5 = .ok (.bipush 12, 2) := by decide +kernel
theorem d_X6_countedColumns_7 : decode cX6_countedColumns 7 = .ok (.if_icmp .ge 21, 3) := by decide +kernel
theorem d_X6_countedColumns_28 : decode cX6_countedColumns 28 = .ok (.iload_n 1, 1) := by decide +kernel
theorem d_X6_countedColumns_29 : decode cX6_countedColumns 29 = .ok (.ireturn, 1) := by decide +kernel
theorem d_X6_countedColumns_10 : decode cX6_countedColumns 10 = .ok (.aload_n 0, 1) := by decide +kernel
theorem d_X6_countedColumns_11 : decode cX6_countedColumns 11 = .ok (.getfield 9, 3) := by decide +kernel
theorem d_X6_countedColumns_14 : decode cX6_countedColumns 14 = .ok (.iload_n 2, 1) := by decide +kernel
theorem d_X6_countedColumns_15 : decode cX6_countedColumns 15 = .ok (.iaload, 1) := by decide +kernel
theorem d_X6_countedColumns_16 : decode cX6_countedColumns 16 = .ok (.ifCond .le 6, 3) := by decide +kernel
theorem d_X6_countedColumns_22 : decode cX6_countedColumns 22 = .ok (.iinc 2 1, 3) := by decide +kernel
theorem d_X6_countedColumns_25 : decode cX6_countedColumns 25 = .ok (.goto (-21), 3) := by decide +kernel
theorem d_X6_width_0 : decode cX6_width 0 = .ok (.iconst 0, 1) := by decide +kernel
theorem d_X6_width_1 : decode cX6_width 1 = .ok (.istore_n 1, 1) := by decide +kernel
theorem d_X6_width_2 : decode cX6_width 2 = .ok (.iconst 0, 1) := by decide +kernel
theorem d_X6_width_3 : decode cX6_width 3 = .ok (.istore_n 2, 1) := by decide +kernel
theorem d_X6_width_4 : decode cX6_width 4 = .ok (.iload_n 2, 1) := by decide +kernel
theorem d_X6_width_5 : decode cX6_width 5 = .ok (.bipush 12, 2) := by decide +kernel
theorem d_X6_width_7 : decode cX6_width 7 = .ok (.if_icmp .ge 22, 3) := by decide +kernel
theorem d_X6_width_29 : decode cX6_width 29 = .ok (.iload_n 1, 1) := by decide +kernel
theorem d_X6_width_30 : decode cX6_width 30 = .ok (.ireturn, 1) := by decide +kernel
theorem d_X6_width_10 : decode cX6_width 10 = .ok (.aload_n 0, 1) := by decide +kernel
theorem d_X6_width_11 : decode cX6_width 11 = .ok (.getfield 9, 3) := by decide +kernel
theorem d_X6_width_14 : decode cX6_width 14 = .ok (.iload_n 2, 1) := by decide +kernel
theorem d_X6_width_15 : decode cX6_width 15 = .ok (.iaload, 1) := by decide +kernel
theorem d_X6_width_16 : decode cX6_width 16 = .ok (.ifCond .le 7, 3) := by decide +kernel
theorem d_X6_width_23 : decode cX6_width 23 = .ok (.iinc 2 1, 3) := by decide +kernel
theorem d_X6_width_26 : decode cX6_width 26 = .ok (.goto (-22), 3) := by decide +kernel
theorem d_X6_bestUnit_0 : decode cX6_bestUnit 0 = .ok (.iconst 1, 1) := by decide +kernel
theorem d_X6_bestUnit_1 : decode cX6_bestUnit 1 = .ok (.istore_n 1, 1) := by decide +kernel
theorem d_X6_bestUnit_2 : decode cX6_bestUnit 2 = .ok (.iconst 2, 1) := by decide +kernel
theorem d_X6_bestUnit_3 : decode cX6_bestUnit 3 = .ok (.istore_n 2, 1) := by decide +kernel
theorem d_X6_bestUnit_4 : decode cX6_bestUnit 4 = .ok (.iload_n 2, 1) := by decide +kernel
theorem d_X6_bestUnit_5 : decode cX6_bestUnit 5 = .ok (.sipush 999, 3) := by decide +kernel
theorem d_X6_bestUnit_8 : decode cX6_bestUnit 8 = .ok (.if_icmp .gt 26, 3) := by decide +kernel
theorem d_X6_bestUnit_34 : decode cX6_bestUnit 34 = .ok (.iload_n 1, 1) := by decide +kernel
theorem d_X6_bestUnit_35 : decode cX6_bestUnit 35 = .ok (.ireturn, 1) := by decide +kernel
theorem d_X6_bestUnit_11 : decode cX6_bestUnit 11 = .ok (.aload_n 0, 1) := by decide +kernel
theorem d_X6_bestUnit_12 : decode cX6_bestUnit 12 = .ok (.getfield 21, 3) := by decide +kernel
theorem d_X6_bestUnit_15 : decode cX6_bestUnit 15 = .ok (.iload_n 2, 1) := by decide +kernel
theorem d_X6_bestUnit_16 : decode cX6_bestUnit 16 = .ok (.iaload, 1) := by decide +kernel
theorem d_X6_bestUnit_17 : decode cX6_bestUnit 17 = .ok (.aload_n 0, 1) := by decide +kernel
theorem d_X6_bestUnit_18 : decode cX6_bestUnit 18 = .ok (.getfield 21, 3) := by decide +kernel
theorem d_X6_bestUnit_21 : decode cX6_bestUnit 21 = .ok (.iload_n 1, 1) := by decide +kernel
theorem d_X6_bestUnit_22 : decode cX6_bestUnit 22 = .ok (.iaload, 1) := by decide +kernel
theorem d_X6_bestUnit_23 : decode cX6_bestUnit 23 = .ok (.if_icmp .ge 5, 3) := by decide +kernel
theorem d_X6_bestUnit_28 : decode cX6_bestUnit 28 = .ok (.iinc 2 1, 3) := by decide +kernel
theorem d_X6_bestUnit_31 : decode cX6_bestUnit 31 = .ok (.goto (-27), 3) := by decide +kernel
theorem d_X6_jointLack_0 : decode cX6_jointLack 0 = .ok (.iload_n 1, 1) := by decide +kernel
theorem d_X6_jointLack_1 : decode cX6_jointLack 1 = .ok (.bipush 12, 2) := by decide +kernel
theorem d_X6_jointLack_3 : decode cX6_jointLack 3 = .ok (.imul, 1) := by decide +kernel
theorem d_X6_jointLack_4 : decode cX6_jointLack 4 = .ok (.istore 5, 2) := by decide +kernel
theorem d_X6_jointLack_6 : decode cX6_jointLack 6 = .ok (.iload_n 2, 1) := by decide +kernel
theorem d_X6_jointLack_7 : decode cX6_jointLack 7 = .ok (.bipush 12, 2) := by decide +kernel
theorem d_X6_jointLack_9 : decode cX6_jointLack 9 = .ok (.imul, 1) := by decide +kernel
theorem d_X6_jointLack_10 : decode cX6_jointLack 10 = .ok (.istore 6, 2) := by decide +kernel
theorem d_X6_jointLack_12 : decode cX6_jointLack 12 = .ok (.iconst 0, 1) := by decide +kernel
theorem d_X6_jointLack_13 : decode cX6_jointLack 13 = .ok (.istore 7, 2) := by decide +kernel
theorem d_X6_jointLack_15 : decode cX6_jointLack 15 = .ok (.iconst 0, 1) := by decide +kernel
theorem d_X6_jointLack_16 : decode cX6_jointLack 16 = .ok (.istore 8, 2) := by decide +kernel
theorem d_X6_jointLack_18 : decode cX6_jointLack 18 = .ok (.iload 8, 2) := by decide +kernel
theorem d_X6_jointLack_20 : decode cX6_jointLack 20 = .ok (.iload_n 3, 1) := by decide +kernel
theorem d_X6_jointLack_21 : decode cX6_jointLack 21 = .ok (.if_icmp .ge 59, 3) := by decide +kernel
theorem d_X6_jointLack_80 : decode cX6_jointLack 80 = .ok (.iload 7, 2) := by decide +kernel
theorem d_X6_jointLack_82 : decode cX6_jointLack 82 = .ok (.ireturn, 1) := by decide +kernel
theorem d_X6_leastWith_0 : decode cX6_leastWith 0 = .ok (.ldc 97, 2) := by decide +kernel
theorem k_523 : (.constant RX6 97 53248 : Cond) ∈ cu_G := cu_mem 523 (by decide +kernel) (by decide +kernel)
theorem d_X6_leastWith_2 : decode cX6_leastWith 2 = .ok (.istore_n 2, 1) := by decide +kernel
theorem d_X6_leastWith_3 : decode cX6_leastWith 3 = .ok (.aload_n 0, 1) := by decide +kernel
theorem d_X6_leastWith_4 : decode cX6_leastWith 4 = .ok (.invokevirtual 84, 3) := by decide +kernel
theorem hd_X6_width : cu_hd yX6_width 0 := by decide +kernel
theorem k_527 : (.code yX6_width cX6_width 3 (some .int) : Cond) ∈ cu_G := cu_mem 527 (by decide +kernel) (by decide +kernel)
theorem k_524 : (.methodLink RX6 84 yX6_width : Cond) ∈ cu_G := cu_mem 524 (by decide +kernel) (by decide +kernel)
theorem k_526 : (.instanceMethod yX6_width : Cond) ∈ cu_G := cu_mem 526 (by decide +kernel) (by decide +kernel)
theorem k_14 : (.selects RX6 yX6_width yX6_width : Cond) ∈ cu_G := cu_mem 14 (by decide +kernel) (by decide +kernel)
theorem d_X6_leastWith_7 : decode cX6_leastWith 7 = .ok (.istore_n 3, 1) := by decide +kernel
theorem d_X6_leastWith_8 : decode cX6_leastWith 8 = .ok (.iconst 1, 1) := by decide +kernel
theorem d_X6_leastWith_9 : decode cX6_leastWith 9 = .ok (.istore 4, 2) := by decide +kernel
theorem d_X6_leastWith_11 : decode cX6_leastWith 11 = .ok (.iload 4, 2) := by decide +kernel
theorem d_X6_leastWith_13 : decode cX6_leastWith 13 = .ok (.sipush 999, 3) := by decide +kernel
theorem d_X6_leastWith_16 : decode cX6_leastWith 16 = .ok (.if_icmp .gt 29, 3) := by decide +kernel
theorem d_X6_leastWith_19 : decode cX6_leastWith 19 = .ok (.iload 4, 2) := by decide +kernel
theorem d_X6_leastWith_21 : decode cX6_leastWith 21 = .ok (.iload_n 1, 1) := by decide +kernel
theorem d_X6_leastWith_22 : decode cX6_leastWith 22 = .ok (.if_icmp .eq 17, 3) := by decide +kernel
theorem d_X6_leastWith_39 : decode cX6_leastWith 39 = .ok (.iinc 4 1, 3) := by decide +kernel
theorem d_X6_leastWith_42 : decode cX6_leastWith 42 = .ok (.goto (-31), 3) := by decide +kernel
theorem d_X6_leastWith_25 : decode cX6_leastWith 25 = .ok (.iload_n 2, 1) := by decide +kernel
theorem d_X6_leastWith_26 : decode cX6_leastWith 26 = .ok (.aload_n 0, 1) := by decide +kernel
theorem d_X6_leastWith_27 : decode cX6_leastWith 27 = .ok (.iload_n 1, 1) := by decide +kernel
theorem d_X6_leastWith_28 : decode cX6_leastWith 28 = .ok (.iload 4, 2) := by decide +kernel
theorem d_X6_leastWith_30 : decode cX6_leastWith 30 = .ok (.iload_n 3, 1) := by decide +kernel
theorem d_X6_leastWith_31 : decode cX6_leastWith 31 = .ok (.iload_n 2, 1) := by decide +kernel
theorem d_X6_leastWith_32 : decode cX6_leastWith 32 = .ok (.invokevirtual 87, 3) := by decide +kernel
theorem hd_X6_jointLack : cu_hd yX6_jointLack 4 := by decide +kernel
theorem k_531 : (.code yX6_jointLack cX6_jointLack 11 (some .int) : Cond) ∈ cu_G := cu_mem 531 (by decide +kernel) (by decide +kernel)
theorem k_528 : (.methodLink RX6 87 yX6_jointLack : Cond) ∈ cu_G := cu_mem 528 (by decide +kernel) (by decide +kernel)
theorem k_530 : (.instanceMethod yX6_jointLack : Cond) ∈ cu_G := cu_mem 530 (by decide +kernel) (by decide +kernel)
theorem k_15 : (.selects RX6 yX6_jointLack yX6_jointLack : Cond) ∈ cu_G := cu_mem 15 (by decide +kernel) (by decide +kernel)
theorem d_X6_leastWith_35 : decode cX6_leastWith 35 = .ok (.invokestatic 98, 3) := by decide +kernel
theorem k_532 : (.methodLink RX6 98 Lib.Math.min.name : Cond) ∈ cu_G := cu_mem 532 (by decide +kernel) (by decide +kernel)
theorem d_X6_leastWith_38 : decode cX6_leastWith 38 = .ok (.istore_n 2, 1) := by decide +kernel
theorem d_X6_leastWith_45 : decode cX6_leastWith 45 = .ok (.iload_n 2, 1) := by decide +kernel
theorem d_X6_leastWith_46 : decode cX6_leastWith 46 = .ok (.ireturn, 1) := by decide +kernel
theorem d_X6_findUpper_0 : decode cX6_findUpper 0 = .ok (.aload_n 0, 1) := by decide +kernel
theorem d_X6_findUpper_1 : decode cX6_findUpper 1 = .ok (.invokevirtual 84, 3) := by decide +kernel
theorem d_X6_findUpper_4 : decode cX6_findUpper 4 = .ok (.istore_n 3, 1) := by decide +kernel
theorem d_X6_findUpper_5 : decode cX6_findUpper 5 = .ok (.iload_n 1, 1) := by decide +kernel
theorem d_X6_findUpper_6 : decode cX6_findUpper 6 = .ok (.iconst 1, 1) := by decide +kernel
theorem d_X6_findUpper_7 : decode cX6_findUpper 7 = .ok (.iadd, 1) := by decide +kernel
theorem d_X6_findUpper_8 : decode cX6_findUpper 8 = .ok (.istore 4, 2) := by decide +kernel
theorem d_X6_findUpper_10 : decode cX6_findUpper 10 = .ok (.iload 4, 2) := by decide +kernel
theorem d_X6_findUpper_12 : decode cX6_findUpper 12 = .ok (.sipush 999, 3) := by decide +kernel
theorem d_X6_findUpper_15 : decode cX6_findUpper 15 = .ok (.if_icmp .gt 79, 3) := by decide +kernel
theorem d_X6_findUpper_18 : decode cX6_findUpper 18 = .ok (.aload_n 0, 1) := by decide +kernel
theorem d_X6_findUpper_19 : decode cX6_findUpper 19 = .ok (.getfield 77, 3) := by decide +kernel
theorem k_444 : (.fieldLink RX6 77 "CommonUnits$Survey" "pairLack" "I" : Cond) ∈ cu_G := cu_mem 444 (by decide +kernel) (by decide +kernel)
theorem d_X6_findUpper_22 : decode cX6_findUpper 22 = .ok (.ifCond .le 72, 3) := by decide +kernel
theorem d_X6_findUpper_25 : decode cX6_findUpper 25 = .ok (.aload_n 0, 1) := by decide +kernel
theorem d_X6_findUpper_26 : decode cX6_findUpper 26 = .ok (.getfield 21, 3) := by decide +kernel
theorem d_X6_findUpper_29 : decode cX6_findUpper 29 = .ok (.iload_n 1, 1) := by decide +kernel
theorem d_X6_findUpper_30 : decode cX6_findUpper 30 = .ok (.iaload, 1) := by decide +kernel
theorem d_X6_findUpper_31 : decode cX6_findUpper 31 = .ok (.aload_n 0, 1) := by decide +kernel
theorem d_X6_findUpper_32 : decode cX6_findUpper 32 = .ok (.getfield 21, 3) := by decide +kernel
theorem d_X6_findUpper_35 : decode cX6_findUpper 35 = .ok (.iload 4, 2) := by decide +kernel
theorem d_X6_findUpper_37 : decode cX6_findUpper 37 = .ok (.iaload, 1) := by decide +kernel
theorem d_X6_findUpper_38 : decode cX6_findUpper 38 = .ok (.iadd, 1) := by decide +kernel
theorem d_X6_findUpper_39 : decode cX6_findUpper 39 = .ok (.iload_n 2, 1) := by decide +kernel
theorem d_X6_findUpper_40 : decode cX6_findUpper 40 = .ok (.isub, 1) := by decide +kernel
theorem d_X6_findUpper_41 : decode cX6_findUpper 41 = .ok (.aload_n 0, 1) := by decide +kernel
theorem d_X6_findUpper_42 : decode cX6_findUpper 42 = .ok (.getfield 77, 3) := by decide +kernel
theorem d_X6_findUpper_45 : decode cX6_findUpper 45 = .ok (.if_icmp .ge 43, 3) := by decide +kernel
theorem d_X6_findUpper_48 : decode cX6_findUpper 48 = .ok (.aload_n 0, 1) := by decide +kernel
theorem d_X6_findUpper_49 : decode cX6_findUpper 49 = .ok (.iload_n 1, 1) := by decide +kernel
theorem d_X6_findUpper_50 : decode cX6_findUpper 50 = .ok (.iload 4, 2) := by decide +kernel
theorem d_X6_findUpper_52 : decode cX6_findUpper 52 = .ok (.iload_n 3, 1) := by decide +kernel
theorem d_X6_findUpper_53 : decode cX6_findUpper 53 = .ok (.aload_n 0, 1) := by decide +kernel
theorem d_X6_findUpper_54 : decode cX6_findUpper 54 = .ok (.getfield 77, 3) := by decide +kernel
theorem d_X6_findUpper_57 : decode cX6_findUpper 57 = .ok (.invokevirtual 87, 3) := by decide +kernel
theorem d_X6_findUpper_60 : decode cX6_findUpper 60 = .ok (.istore 5, 2) := by decide +kernel
theorem d_X6_findUpper_62 : decode cX6_findUpper 62 = .ok (.iload 5, 2) := by decide +kernel
theorem d_X6_findUpper_64 : decode cX6_findUpper 64 = .ok (.aload_n 0, 1) := by decide +kernel
theorem d_X6_findUpper_65 : decode cX6_findUpper 65 = .ok (.getfield 77, 3) := by decide +kernel
theorem d_X6_findUpper_68 : decode cX6_findUpper 68 = .ok (.if_icmp .ge 20, 3) := by decide +kernel
theorem d_X6_findUpper_71 : decode cX6_findUpper 71 = .ok (.aload_n 0, 1) := by decide +kernel
theorem d_X6_findUpper_72 : decode cX6_findUpper 72 = .ok (.iload 5, 2) := by decide +kernel
theorem d_X6_findUpper_74 : decode cX6_findUpper 74 = .ok (.putfield 77, 3) := by decide +kernel
theorem d_X6_findUpper_77 : decode cX6_findUpper 77 = .ok (.aload_n 0, 1) := by decide +kernel
theorem d_X6_findUpper_78 : decode cX6_findUpper 78 = .ok (.iload_n 1, 1) := by decide +kernel
theorem d_X6_findUpper_79 : decode cX6_findUpper 79 = .ok (.putfield 91, 3) := by decide +kernel
theorem k_440 : (.fieldLink RX6 91 "CommonUnits$Survey" "lower" "I" : Cond) ∈ cu_G := cu_mem 440 (by decide +kernel) (by decide +kernel)
theorem d_X6_findUpper_82 : decode cX6_findUpper 82 = .ok (.aload_n 0, 1) := by decide +kernel
theorem d_X6_findUpper_83 : decode cX6_findUpper 83 = .ok (.iload 4, 2) := by decide +kernel
theorem d_X6_findUpper_85 : decode cX6_findUpper 85 = .ok (.putfield 94, 3) := by decide +kernel
theorem k_442 : (.fieldLink RX6 94 "CommonUnits$Survey" "upper" "I" : Cond) ∈ cu_G := cu_mem 442 (by decide +kernel) (by decide +kernel)
theorem d_X6_findUpper_88 : decode cX6_findUpper 88 = .ok (.iinc 4 1, 3) := by decide +kernel
theorem d_X6_findUpper_91 : decode cX6_findUpper 91 = .ok (.goto (-81), 3) := by decide +kernel
theorem d_X6_findUpper_94 : decode cX6_findUpper 94 = .ok (.return_, 1) := by decide +kernel
theorem d_X6_findPair_0 : decode cX6_findPair 0 = .ok (.aload_n 0, 1) := by decide +kernel
theorem d_X6_findPair_1 : decode cX6_findPair 1 = .ok (.getfield 64, 3) := by decide +kernel
theorem k_439 : (.fieldLink RX6 64 "CommonUnits$Survey" "pairVersion" "I" : Cond) ∈ cu_G := cu_mem 439 (by decide +kernel) (by decide +kernel)
theorem d_X6_findPair_4 : decode cX6_findPair 4 = .ok (.aload_n 0, 1) := by decide +kernel
theorem d_X6_findPair_5 : decode cX6_findPair 5 = .ok (.getfield 27, 3) := by decide +kernel
theorem d_X6_findPair_8 : decode cX6_findPair 8 = .ok (.if_icmp .ne 4, 3) := by decide +kernel
theorem d_X6_findPair_12 : decode cX6_findPair 12 = .ok (.aload_n 0, 1) := by decide +kernel
theorem d_X6_findPair_13 : decode cX6_findPair 13 = .ok (.aload_n 0, 1) := by decide +kernel
theorem d_X6_findPair_14 : decode cX6_findPair 14 = .ok (.getfield 27, 3) := by decide +kernel
theorem d_X6_findPair_17 : decode cX6_findPair 17 = .ok (.putfield 64, 3) := by decide +kernel
theorem d_X6_findPair_20 : decode cX6_findPair 20 = .ok (.aload_n 0, 1) := by decide +kernel
theorem d_X6_findPair_21 : decode cX6_findPair 21 = .ok (.invokevirtual 67, 3) := by decide +kernel
theorem hd_X6_bestUnit : cu_hd yX6_bestUnit 0 := by decide +kernel
theorem k_514 : (.code yX6_bestUnit cX6_bestUnit 3 (some .int) : Cond) ∈ cu_G := cu_mem 514 (by decide +kernel) (by decide +kernel)
theorem k_511 : (.methodLink RX6 67 yX6_bestUnit : Cond) ∈ cu_G := cu_mem 511 (by decide +kernel) (by decide +kernel)
theorem k_513 : (.instanceMethod yX6_bestUnit : Cond) ∈ cu_G := cu_mem 513 (by decide +kernel) (by decide +kernel)
theorem k_11 : (.selects RX6 yX6_bestUnit yX6_bestUnit : Cond) ∈ cu_G := cu_mem 11 (by decide +kernel) (by decide +kernel)
theorem d_X6_findPair_24 : decode cX6_findPair 24 = .ok (.istore_n 1, 1) := by decide +kernel
theorem d_X6_findPair_25 : decode cX6_findPair 25 = .ok (.aload_n 0, 1) := by decide +kernel
theorem d_X6_findPair_26 : decode cX6_findPair 26 = .ok (.invokevirtual 71, 3) := by decide +kernel
theorem hd_X6_countedColumns : cu_hd yX6_countedColumns 0 := by decide +kernel
theorem k_518 : (.code yX6_countedColumns cX6_countedColumns 3 (some .int) : Cond) ∈ cu_G := cu_mem 518 (by decide +kernel) (by decide +kernel)
theorem k_515 : (.methodLink RX6 71 yX6_countedColumns : Cond) ∈ cu_G := cu_mem 515 (by decide +kernel) (by decide +kernel)
theorem k_517 : (.instanceMethod yX6_countedColumns : Cond) ∈ cu_G := cu_mem 517 (by decide +kernel) (by decide +kernel)
theorem k_12 : (.selects RX6 yX6_countedColumns yX6_countedColumns : Cond) ∈ cu_G := cu_mem 12 (by decide +kernel) (by decide +kernel)
theorem d_X6_findPair_29 : decode cX6_findPair 29 = .ok (.sipush 4096, 3) := by decide +kernel
theorem d_X6_findPair_32 : decode cX6_findPair 32 = .ok (.imul, 1) := by decide +kernel
theorem d_X6_findPair_33 : decode cX6_findPair 33 = .ok (.istore_n 2, 1) := by decide +kernel
theorem d_X6_findPair_34 : decode cX6_findPair 34 = .ok (.aload_n 0, 1) := by decide +kernel
theorem d_X6_findPair_35 : decode cX6_findPair 35 = .ok (.aload_n 0, 1) := by decide +kernel
theorem d_X6_findPair_36 : decode cX6_findPair 36 = .ok (.iload_n 1, 1) := by decide +kernel
theorem d_X6_findPair_37 : decode cX6_findPair 37 = .ok (.invokevirtual 74, 3) := by decide +kernel
theorem hd_X6_leastWith : cu_hd yX6_leastWith 1 := by decide +kernel
theorem k_522 : (.code yX6_leastWith cX6_leastWith 5 (some .int) : Cond) ∈ cu_G := cu_mem 522 (by decide +kernel) (by decide +kernel)
theorem k_519 : (.methodLink RX6 74 yX6_leastWith : Cond) ∈ cu_G := cu_mem 519 (by decide +kernel) (by decide +kernel)
theorem k_521 : (.instanceMethod yX6_leastWith : Cond) ∈ cu_G := cu_mem 521 (by decide +kernel) (by decide +kernel)
theorem k_13 : (.selects RX6 yX6_leastWith yX6_leastWith : Cond) ∈ cu_G := cu_mem 13 (by decide +kernel) (by decide +kernel)
theorem d_X6_findPair_40 : decode cX6_findPair 40 = .ok (.iconst 1, 1) := by decide +kernel
theorem d_X6_findPair_41 : decode cX6_findPair 41 = .ok (.iadd, 1) := by decide +kernel
theorem d_X6_findPair_42 : decode cX6_findPair 42 = .ok (.putfield 77, 3) := by decide +kernel
theorem d_X6_findPair_45 : decode cX6_findPair 45 = .ok (.iconst 1, 1) := by decide +kernel
theorem d_X6_findPair_46 : decode cX6_findPair 46 = .ok (.istore_n 3, 1) := by decide +kernel
theorem d_X6_findPair_47 : decode cX6_findPair 47 = .ok (.iload_n 3, 1) := by decide +kernel
theorem d_X6_findPair_48 : decode cX6_findPair 48 = .ok (.sipush 999, 3) := by decide +kernel
theorem d_X6_findPair_51 : decode cX6_findPair 51 = .ok (.if_icmp .ge 44, 3) := by decide +kernel
theorem d_X6_findPair_54 : decode cX6_findPair 54 = .ok (.aload_n 0, 1) := by decide +kernel
theorem d_X6_findPair_55 : decode cX6_findPair 55 = .ok (.getfield 77, 3) := by decide +kernel
theorem d_X6_findPair_58 : decode cX6_findPair 58 = .ok (.ifCond .le 37, 3) := by decide +kernel
theorem d_X6_findPair_61 : decode cX6_findPair 61 = .ok (.aload_n 0, 1) := by decide +kernel
theorem d_X6_findPair_62 : decode cX6_findPair 62 = .ok (.getfield 21, 3) := by decide +kernel
theorem d_X6_findPair_65 : decode cX6_findPair 65 = .ok (.iload_n 3, 1) := by decide +kernel
theorem d_X6_findPair_66 : decode cX6_findPair 66 = .ok (.iaload, 1) := by decide +kernel
theorem d_X6_findPair_67 : decode cX6_findPair 67 = .ok (.aload_n 0, 1) := by decide +kernel
theorem d_X6_findPair_68 : decode cX6_findPair 68 = .ok (.getfield 21, 3) := by decide +kernel
theorem d_X6_findPair_71 : decode cX6_findPair 71 = .ok (.iload_n 1, 1) := by decide +kernel
theorem d_X6_findPair_72 : decode cX6_findPair 72 = .ok (.iaload, 1) := by decide +kernel
theorem d_X6_findPair_73 : decode cX6_findPair 73 = .ok (.iadd, 1) := by decide +kernel
theorem d_X6_findPair_74 : decode cX6_findPair 74 = .ok (.iload_n 2, 1) := by decide +kernel
theorem d_X6_findPair_75 : decode cX6_findPair 75 = .ok (.isub, 1) := by decide +kernel
theorem d_X6_findPair_76 : decode cX6_findPair 76 = .ok (.aload_n 0, 1) := by decide +kernel
theorem d_X6_findPair_77 : decode cX6_findPair 77 = .ok (.getfield 77, 3) := by decide +kernel
theorem d_X6_findPair_80 : decode cX6_findPair 80 = .ok (.if_icmp .ge 9, 3) := by decide +kernel
theorem d_X6_findPair_83 : decode cX6_findPair 83 = .ok (.aload_n 0, 1) := by decide +kernel
theorem d_X6_findPair_84 : decode cX6_findPair 84 = .ok (.iload_n 3, 1) := by decide +kernel
theorem d_X6_findPair_85 : decode cX6_findPair 85 = .ok (.iload_n 2, 1) := by decide +kernel
theorem d_X6_findPair_86 : decode cX6_findPair 86 = .ok (.invokevirtual 80, 3) := by decide +kernel
theorem hd_X6_findUpper : cu_hd yX6_findUpper 2 := by decide +kernel
theorem k_536 : (.code yX6_findUpper cX6_findUpper 6 none : Cond) ∈ cu_G := cu_mem 536 (by decide +kernel) (by decide +kernel)
theorem k_533 : (.methodLink RX6 80 yX6_findUpper : Cond) ∈ cu_G := cu_mem 533 (by decide +kernel) (by decide +kernel)
theorem k_535 : (.instanceMethod yX6_findUpper : Cond) ∈ cu_G := cu_mem 535 (by decide +kernel) (by decide +kernel)
theorem k_16 : (.selects RX6 yX6_findUpper yX6_findUpper : Cond) ∈ cu_G := cu_mem 16 (by decide +kernel) (by decide +kernel)
theorem d_X6_findPair_89 : decode cX6_findPair 89 = .ok (.iinc 3 1, 3) := by decide +kernel
theorem d_X6_findPair_92 : decode cX6_findPair 92 = .ok (.goto (-45), 3) := by decide +kernel
theorem d_X6_findPair_95 : decode cX6_findPair 95 = .ok (.return_, 1) := by decide +kernel
theorem d_X8_pair_0 : decode cX8_pair 0 = .ok (.iload_n 1, 1) := by decide +kernel
theorem d_X8_pair_1 : decode cX8_pair 1 = .ok (.ifCond .lt 8, 3) := by decide +kernel
theorem d_X8_pair_9 : decode cX8_pair 9 = .ok (.bipush (-2), 2) := by decide +kernel
theorem d_X8_pair_11 : decode cX8_pair 11 = .ok (.ireturn, 1) := by decide +kernel
theorem d_X8_pair_4 : decode cX8_pair 4 = .ok (.iload_n 1, 1) := by decide +kernel
theorem d_X8_pair_5 : decode cX8_pair 5 = .ok (.iconst 3, 1) := by decide +kernel
theorem d_X8_pair_6 : decode cX8_pair 6 = .ok (.if_icmp .le 6, 3) := by decide +kernel
theorem d_X8_pair_12 : decode cX8_pair 12 = .ok (.aload_n 0, 1) := by decide +kernel
theorem d_X8_pair_13 : decode cX8_pair 13 = .ok (.invokevirtual 158, 3) := by decide +kernel
theorem d_X8_pair_16 : decode cX8_pair 16 = .ok (.astore_n 2, 1) := by decide +kernel
theorem d_X8_pair_17 : decode cX8_pair 17 = .ok (.aload_n 2, 1) := by decide +kernel
theorem d_X8_pair_18 : decode cX8_pair 18 = .ok (.invokevirtual 170, 3) := by decide +kernel
theorem hd_X6_findPair : cu_hd yX6_findPair 0 := by decide +kernel
theorem k_510 : (.code yX6_findPair cX6_findPair 4 none : Cond) ∈ cu_G := cu_mem 510 (by decide +kernel) (by decide +kernel)
theorem k_507 : (.methodLink RX8 170 yX6_findPair : Cond) ∈ cu_G := cu_mem 507 (by decide +kernel) (by decide +kernel)
theorem k_508 : (.instanceMethod yX6_findPair : Cond) ∈ cu_G := cu_mem 508 (by decide +kernel) (by decide +kernel)
theorem k_509 : (.selects RX6 yX6_findPair yX6_findPair : Cond) ∈ cu_G := cu_mem 509 (by decide +kernel) (by decide +kernel)
theorem d_X8_pair_21 : decode cX8_pair 21 = .ok (.iload_n 1, 1) := by decide +kernel
theorem d_X8_pair_22 : decode cX8_pair 22 = .ok (.tableswitch 60 0 2 #[26, 31, 36], 26) := by decide +kernel
theorem d_X8_pair_48 : decode cX8_pair 48 = .ok (.aload_n 2, 1) := by decide +kernel
theorem d_X8_pair_49 : decode cX8_pair 49 = .ok (.getfield 173, 3) := by decide +kernel
theorem k_441 : (.fieldLink RX8 173 "CommonUnits$Survey" "lower" "I" : Cond) ∈ cu_G := cu_mem 441 (by decide +kernel) (by decide +kernel)
theorem d_X8_pair_52 : decode cX8_pair 52 = .ok (.ireturn, 1) := by decide +kernel
theorem d_X8_pair_53 : decode cX8_pair 53 = .ok (.aload_n 2, 1) := by decide +kernel
theorem d_X8_pair_54 : decode cX8_pair 54 = .ok (.getfield 176, 3) := by decide +kernel
theorem k_443 : (.fieldLink RX8 176 "CommonUnits$Survey" "upper" "I" : Cond) ∈ cu_G := cu_mem 443 (by decide +kernel) (by decide +kernel)
theorem d_X8_pair_57 : decode cX8_pair 57 = .ok (.ireturn, 1) := by decide +kernel
theorem d_X8_pair_58 : decode cX8_pair 58 = .ok (.aload_n 0, 1) := by decide +kernel
theorem d_X8_pair_59 : decode cX8_pair 59 = .ok (.getfield 19, 3) := by decide +kernel
theorem d_X8_pair_62 : decode cX8_pair 62 = .ok (.aload_n 2, 1) := by decide +kernel
theorem d_X8_pair_63 : decode cX8_pair 63 = .ok (.getfield 173, 3) := by decide +kernel
theorem d_X8_pair_66 : decode cX8_pair 66 = .ok (.invokevirtual 155, 3) := by decide +kernel
theorem d_X8_pair_69 : decode cX8_pair 69 = .ok (.aload_n 0, 1) := by decide +kernel
theorem d_X8_pair_70 : decode cX8_pair 70 = .ok (.getfield 19, 3) := by decide +kernel
theorem d_X8_pair_73 : decode cX8_pair 73 = .ok (.aload_n 2, 1) := by decide +kernel
theorem d_X8_pair_74 : decode cX8_pair 74 = .ok (.getfield 176, 3) := by decide +kernel
theorem d_X8_pair_77 : decode cX8_pair 77 = .ok (.invokevirtual 155, 3) := by decide +kernel
theorem d_X8_pair_80 : decode cX8_pair 80 = .ok (.ior, 1) := by decide +kernel
theorem d_X8_pair_81 : decode cX8_pair 81 = .ok (.ireturn, 1) := by decide +kernel
theorem d_X8_pair_82 : decode cX8_pair 82 = .ok (.aload_n 2, 1) := by decide +kernel
theorem d_X8_pair_83 : decode cX8_pair 83 = .ok (.getfield 179, 3) := by decide +kernel
theorem k_445 : (.fieldLink RX8 179 "CommonUnits$Survey" "pairLack" "I" : Cond) ∈ cu_G := cu_mem 445 (by decide +kernel) (by decide +kernel)
theorem d_X8_pair_86 : decode cX8_pair 86 = .ok (.sipush 4096, 3) := by decide +kernel
theorem d_X8_pair_89 : decode cX8_pair 89 = .ok (.irem, 1) := by decide +kernel
theorem d_X8_pair_90 : decode cX8_pair 90 = .ok (.ireturn, 1) := by decide +kernel
theorem d_X4_agreeWith_0 : decode cX4_agreeWith 0 = .ok (.iconst 0, 1) := by decide +kernel
theorem d_X4_agreeWith_1 : decode cX4_agreeWith 1 = .ok (.istore_n 3, 1) := by decide +kernel
theorem d_X4_agreeWith_2 : decode cX4_agreeWith 2 = .ok (.iload_n 3, 1) := by decide +kernel
theorem d_X4_agreeWith_3 : decode cX4_agreeWith 3 = .ok (.aload_n 0, 1) := by decide +kernel
theorem d_X4_agreeWith_4 : decode cX4_agreeWith 4 = .ok (.getfield 19, 3) := by decide +kernel
theorem k_168 : (.fieldLink RX4 19 "CommonUnits$Sightings" "size" "I" : Cond) ∈ cu_G := cu_mem 168 (by decide +kernel) (by decide +kernel)
theorem d_X4_agreeWith_7 : decode cX4_agreeWith 7 = .ok (.if_icmp .ge 41, 3) := by decide +kernel
theorem d_X4_agreeWith_48 : decode cX4_agreeWith 48 = .ok (.iconst 1, 1) := by decide +kernel
theorem d_X4_agreeWith_49 : decode cX4_agreeWith 49 = .ok (.ireturn, 1) := by decide +kernel
theorem d_X8_which_0 : decode cX8_which 0 = .ok (.iload_n 1, 1) := by decide +kernel
theorem d_X8_which_1 : decode cX8_which 1 = .ok (.ifCond .lt 8, 3) := by decide +kernel
theorem d_X8_which_9 : decode cX8_which 9 = .ok (.bipush (-2), 2) := by decide +kernel
theorem d_X8_which_11 : decode cX8_which 11 = .ok (.ireturn, 1) := by decide +kernel
theorem d_X8_which_4 : decode cX8_which 4 = .ok (.iload_n 1, 1) := by decide +kernel
theorem d_X8_which_5 : decode cX8_which 5 = .ok (.iconst 2, 1) := by decide +kernel
theorem d_X8_which_6 : decode cX8_which 6 = .ok (.if_icmp .le 6, 3) := by decide +kernel
theorem d_X8_which_12 : decode cX8_which 12 = .ok (.iconst 0, 1) := by decide +kernel
theorem d_X8_which_13 : decode cX8_which 13 = .ok (.istore_n 2, 1) := by decide +kernel
theorem d_X8_which_14 : decode cX8_which 14 = .ok (.bipush (-9), 2) := by decide +kernel
theorem d_X8_which_16 : decode cX8_which 16 = .ok (.istore_n 3, 1) := by decide +kernel
theorem d_X8_which_17 : decode cX8_which 17 = .ok (.bipush (-9), 2) := by decide +kernel
theorem d_X8_which_19 : decode cX8_which 19 = .ok (.istore 4, 2) := by decide +kernel
theorem d_X8_which_21 : decode cX8_which 21 = .ok (.iconst 1, 1) := by decide +kernel
theorem d_X8_which_22 : decode cX8_which 22 = .ok (.istore 5, 2) := by decide +kernel
theorem d_X8_which_24 : decode cX8_which 24 = .ok (.iload 5, 2) := by decide +kernel
theorem d_X8_which_26 : decode cX8_which 26 = .ok (.sipush 999, 3) := by decide +kernel
theorem d_X8_which_29 : decode cX8_which 29 = .ok (.if_icmp .gt 45, 3) := by decide +kernel
theorem d_X8_which_32 : decode cX8_which 32 = .ok (.aload_n 0, 1) := by decide +kernel
theorem d_X8_which_33 : decode cX8_which 33 = .ok (.getfield 43, 3) := by decide +kernel
theorem d_X8_which_36 : decode cX8_which 36 = .ok (.aload_n 0, 1) := by decide +kernel
theorem d_X8_which_37 : decode cX8_which 37 = .ok (.getfield 19, 3) := by decide +kernel
theorem d_X8_which_40 : decode cX8_which 40 = .ok (.iload 5, 2) := by decide +kernel
theorem d_X8_which_42 : decode cX8_which 42 = .ok (.invokevirtual 207, 3) := by decide +kernel
theorem hd_X4_agreeWith : cu_hd yX4_agreeWith 2 := by decide +kernel
theorem k_587 : (.code yX4_agreeWith cX4_agreeWith 4 (some .boolean) : Cond) ∈ cu_G := cu_mem 587 (by decide +kernel) (by decide +kernel)
theorem k_584 : (.methodLink RX8 207 yX4_agreeWith : Cond) ∈ cu_G := cu_mem 584 (by decide +kernel) (by decide +kernel)
theorem k_585 : (.instanceMethod yX4_agreeWith : Cond) ∈ cu_G := cu_mem 585 (by decide +kernel) (by decide +kernel)
theorem k_586 : (.selects RX4 yX4_agreeWith yX4_agreeWith : Cond) ∈ cu_G := cu_mem 586 (by decide +kernel) (by decide +kernel)
theorem d_X8_which_45 : decode cX8_which 45 = .ok (.ifCond .eq 23, 3) := by decide +kernel
theorem d_X8_which_48 : decode cX8_which 48 = .ok (.iinc 2 1, 3) := by decide +kernel
theorem d_X8_which_51 : decode cX8_which 51 = .ok (.iload_n 3, 1) := by decide +kernel
theorem d_X8_which_52 : decode cX8_which 52 = .ok (.bipush (-9), 2) := by decide +kernel
theorem d_X8_which_54 : decode cX8_which 54 = .ok (.if_icmp .ne 8, 3) := by decide +kernel
theorem d_X8_which_57 : decode cX8_which 57 = .ok (.iload 5, 2) := by decide +kernel
theorem d_X8_which_59 : decode cX8_which 59 = .ok (.goto 4, 3) := by decide +kernel
theorem d_X8_which_63 : decode cX8_which 63 = .ok (.istore_n 3, 1) := by decide +kernel
theorem d_X8_which_64 : decode cX8_which 64 = .ok (.iload 5, 2) := by decide +kernel
theorem d_X8_which_66 : decode cX8_which 66 = .ok (.istore 4, 2) := by decide +kernel
theorem d_X8_which_68 : decode cX8_which 68 = .ok (.iinc 5 1, 3) := by decide +kernel
theorem d_X8_which_71 : decode cX8_which 71 = .ok (.goto (-47), 3) := by decide +kernel
theorem d_X8_which_74 : decode cX8_which 74 = .ok (.iload_n 1, 1) := by decide +kernel
theorem d_X8_which_75 : decode cX8_which 75 = .ok (.ifCond .ne 7, 3) := by decide +kernel
theorem d_X8_which_82 : decode cX8_which 82 = .ok (.iload_n 1, 1) := by decide +kernel
theorem d_X8_which_83 : decode cX8_which 83 = .ok (.iconst 1, 1) := by decide +kernel
theorem d_X8_which_84 : decode cX8_which 84 = .ok (.if_icmp .ne 7, 3) := by decide +kernel
theorem d_X8_which_91 : decode cX8_which 91 = .ok (.iload 4, 2) := by decide +kernel
theorem d_X8_which_93 : decode cX8_which 93 = .ok (.ireturn, 1) := by decide +kernel
theorem d_X8_which_87 : decode cX8_which 87 = .ok (.iload_n 3, 1) := by decide +kernel
theorem d_X8_which_88 : decode cX8_which 88 = .ok (.goto 5, 3) := by decide +kernel
theorem d_X8_which_78 : decode cX8_which 78 = .ok (.iload_n 2, 1) := by decide +kernel
theorem d_X8_which_79 : decode cX8_which 79 = .ok (.goto 14, 3) := by decide +kernel
theorem d_X8_which_62 : decode cX8_which 62 = .ok (.iload_n 3, 1) := by decide +kernel
theorem d_X6_placesBy_0 : decode cX6_placesBy 0 = .ok (.iload_n 1, 1) := by decide +kernel
theorem d_X6_placesBy_1 : decode cX6_placesBy 1 = .ok (.invokestatic 55, 3) := by decide +kernel
theorem d_X6_placesBy_4 : decode cX6_placesBy 4 = .ok (.ifCond .ne 5, 3) := by decide +kernel
theorem d_X6_placesBy_9 : decode cX6_placesBy 9 = .ok (.iconst 0, 1) := by decide +kernel
theorem d_X6_placesBy_10 : decode cX6_placesBy 10 = .ok (.istore_n 2, 1) := by decide +kernel
theorem d_X6_placesBy_11 : decode cX6_placesBy 11 = .ok (.iconst 0, 1) := by decide +kernel
theorem d_X6_placesBy_12 : decode cX6_placesBy 12 = .ok (.istore_n 3, 1) := by decide +kernel
theorem d_X6_placesBy_13 : decode cX6_placesBy 13 = .ok (.iconst 0, 1) := by decide +kernel
theorem d_X6_placesBy_14 : decode cX6_placesBy 14 = .ok (.istore 4, 2) := by decide +kernel
theorem d_X6_placesBy_16 : decode cX6_placesBy 16 = .ok (.iload 4, 2) := by decide +kernel
theorem d_X6_placesBy_18 : decode cX6_placesBy 18 = .ok (.bipush 12, 2) := by decide +kernel
theorem d_X6_placesBy_20 : decode cX6_placesBy 20 = .ok (.if_icmp .ge 46, 3) := by decide +kernel
theorem d_X6_placesBy_66 : decode cX6_placesBy 66 = .ok (.iload_n 2, 1) := by decide +kernel
theorem d_X6_placesBy_67 : decode cX6_placesBy 67 = .ok (.ireturn, 1) := by decide +kernel
theorem d_X6_placesBy_23 : decode cX6_placesBy 23 = .ok (.aload_n 0, 1) := by decide +kernel
theorem d_X6_placesBy_24 : decode cX6_placesBy 24 = .ok (.getfield 9, 3) := by decide +kernel
theorem d_X6_placesBy_27 : decode cX6_placesBy 27 = .ok (.iload 4, 2) := by decide +kernel
theorem d_X6_placesBy_29 : decode cX6_placesBy 29 = .ok (.iaload, 1) := by decide +kernel
theorem d_X6_placesBy_30 : decode cX6_placesBy 30 = .ok (.ifCond .le 30, 3) := by decide +kernel
theorem d_X6_placesBy_60 : decode cX6_placesBy 60 = .ok (.iinc 4 1, 3) := by decide +kernel
theorem d_X6_placesBy_63 : decode cX6_placesBy 63 = .ok (.goto (-47), 3) := by decide +kernel
theorem d_X1_markSubsets_0 : decode cX1_markSubsets 0 = .ok (.iconst 1, 1) := by decide +kernel
theorem d_X1_markSubsets_1 : decode cX1_markSubsets 1 = .ok (.aload_n 0, 1) := by decide +kernel
theorem d_X1_markSubsets_2 : decode cX1_markSubsets 2 = .ok (.getfield 22, 3) := by decide +kernel
theorem k_152 : (.fieldLink RX1 22 "CommonUnits$Crowd" "size" "I" : Cond) ∈ cu_G := cu_mem 152 (by decide +kernel) (by decide +kernel)
theorem d_X1_markSubsets_5 : decode cX1_markSubsets 5 = .ok (.ishl, 1) := by decide +kernel
theorem d_X1_markSubsets_6 : decode cX1_markSubsets 6 = .ok (.iconst 1, 1) := by decide +kernel
theorem d_X1_markSubsets_7 : decode cX1_markSubsets 7 = .ok (.isub, 1) := by decide +kernel
theorem d_X1_markSubsets_8 : decode cX1_markSubsets 8 = .ok (.istore_n 1, 1) := by decide +kernel
theorem d_X1_markSubsets_9 : decode cX1_markSubsets 9 = .ok (.iload_n 1, 1) := by decide +kernel
theorem d_X1_markSubsets_10 : decode cX1_markSubsets 10 = .ok (.ifCond .lt 46, 3) := by decide +kernel
theorem d_X1_markSubsets_13 : decode cX1_markSubsets 13 = .ok (.iconst 0, 1) := by decide +kernel
theorem d_X1_markSubsets_14 : decode cX1_markSubsets 14 = .ok (.istore_n 2, 1) := by decide +kernel
theorem d_X1_markSubsets_15 : decode cX1_markSubsets 15 = .ok (.iload_n 2, 1) := by decide +kernel
theorem d_X1_markSubsets_16 : decode cX1_markSubsets 16 = .ok (.aload_n 0, 1) := by decide +kernel
theorem d_X1_markSubsets_17 : decode cX1_markSubsets 17 = .ok (.getfield 22, 3) := by decide +kernel
theorem d_X1_markSubsets_20 : decode cX1_markSubsets 20 = .ok (.if_icmp .ge 30, 3) := by decide +kernel
theorem d_X1_markSubsets_50 : decode cX1_markSubsets 50 = .ok (.iinc 1 (-1), 3) := by decide +kernel
theorem d_X1_markSubsets_53 : decode cX1_markSubsets 53 = .ok (.goto (-44), 3) := by decide +kernel
theorem d_X1_markSubsets_56 : decode cX1_markSubsets 56 = .ok (.return_, 1) := by decide +kernel
theorem d_X1_fillValues_0 : decode cX1_fillValues 0 = .ok (.iconst 0, 1) := by decide +kernel
theorem d_X1_fillValues_1 : decode cX1_fillValues 1 = .ok (.istore_n 1, 1) := by decide +kernel
theorem d_X1_fillValues_2 : decode cX1_fillValues 2 = .ok (.iload_n 1, 1) := by decide +kernel
theorem d_X1_fillValues_3 : decode cX1_fillValues 3 = .ok (.iconst 1, 1) := by decide +kernel
theorem d_X1_fillValues_4 : decode cX1_fillValues 4 = .ok (.aload_n 0, 1) := by decide +kernel
theorem d_X1_fillValues_5 : decode cX1_fillValues 5 = .ok (.getfield 22, 3) := by decide +kernel
theorem d_X1_fillValues_8 : decode cX1_fillValues 8 = .ok (.ishl, 1) := by decide +kernel
theorem d_X1_fillValues_9 : decode cX1_fillValues 9 = .ok (.if_icmp .ge 75, 3) := by decide +kernel
theorem d_X1_fillValues_12 : decode cX1_fillValues 12 = .ok (.aload_n 0, 1) := by decide +kernel
theorem d_X1_fillValues_13 : decode cX1_fillValues 13 = .ok (.getfield 9, 3) := by decide +kernel
theorem d_X1_fillValues_16 : decode cX1_fillValues 16 = .ok (.iload_n 1, 1) := by decide +kernel
theorem d_X1_fillValues_17 : decode cX1_fillValues 17 = .ok (.iaload, 1) := by decide +kernel
theorem d_X1_fillValues_18 : decode cX1_fillValues 18 = .ok (.iconst 1, 1) := by decide +kernel
theorem d_X1_fillValues_19 : decode cX1_fillValues 19 = .ok (.if_icmp .ne 10, 3) := by decide +kernel
theorem d_X1_fillValues_22 : decode cX1_fillValues 22 = .ok (.iload_n 1, 1) := by decide +kernel
theorem d_X1_fillValues_23 : decode cX1_fillValues 23 = .ok (.invokestatic 35, 3) := by decide +kernel
theorem k_618 : (.methodLink RX1 35 yJ6_bitCount_0f7a4 : Cond) ∈ cu_G := cu_mem 618 (by decide +kernel) (by decide +kernel)
theorem d_X1_fillValues_26 : decode cX1_fillValues 26 = .ok (.goto 4, 3) := by decide +kernel
theorem d_X1_fillValues_30 : decode cX1_fillValues 30 = .ok (.istore_n 2, 1) := by decide +kernel
theorem d_X1_fillValues_31 : decode cX1_fillValues 31 = .ok (.iconst 0, 1) := by decide +kernel
theorem d_X1_fillValues_32 : decode cX1_fillValues 32 = .ok (.istore_n 3, 1) := by decide +kernel
theorem d_X1_fillValues_33 : decode cX1_fillValues 33 = .ok (.iload_n 3, 1) := by decide +kernel
theorem d_X1_fillValues_34 : decode cX1_fillValues 34 = .ok (.aload_n 0, 1) := by decide +kernel
theorem d_X1_fillValues_35 : decode cX1_fillValues 35 = .ok (.getfield 22, 3) := by decide +kernel
theorem d_X1_fillValues_38 : decode cX1_fillValues 38 = .ok (.if_icmp .ge 33, 3) := by decide +kernel
theorem d_X1_fillValues_71 : decode cX1_fillValues 71 = .ok (.aload_n 0, 1) := by decide +kernel
theorem d_X1_fillValues_72 : decode cX1_fillValues 72 = .ok (.getfield 9, 3) := by decide +kernel
theorem d_X1_fillValues_75 : decode cX1_fillValues 75 = .ok (.iload_n 1, 1) := by decide +kernel
theorem d_X1_fillValues_76 : decode cX1_fillValues 76 = .ok (.iload_n 2, 1) := by decide +kernel
theorem d_X1_fillValues_77 : decode cX1_fillValues 77 = .ok (.iastore, 1) := by decide +kernel
theorem d_X1_fillValues_78 : decode cX1_fillValues 78 = .ok (.iinc 1 1, 3) := by decide +kernel
theorem d_X1_fillValues_81 : decode cX1_fillValues 81 = .ok (.goto (-79), 3) := by decide +kernel
theorem d_X1_fillValues_84 : decode cX1_fillValues 84 = .ok (.return_, 1) := by decide +kernel
theorem d_X1_gather_0 : decode cX1_gather 0 = .ok (.aload_n 0, 1) := by decide +kernel
theorem d_X1_gather_1 : decode cX1_gather 1 = .ok (.getfield 15, 3) := by decide +kernel
theorem k_151 : (.fieldLink RX1 15 "CommonUnits$Crowd" "version" "I" : Cond) ∈ cu_G := cu_mem 151 (by decide +kernel) (by decide +kernel)
theorem d_X1_gather_4 : decode cX1_gather 4 = .ok (.aload_n 1, 1) := by decide +kernel
theorem d_X1_gather_5 : decode cX1_gather 5 = .ok (.getfield 19, 3) := by decide +kernel
theorem k_437 : (.fieldLink RX1 19 "CommonUnits$Survey" "version" "I" : Cond) ∈ cu_G := cu_mem 437 (by decide +kernel) (by decide +kernel)
theorem d_X1_gather_8 : decode cX1_gather 8 = .ok (.if_icmp .eq 9, 3) := by decide +kernel
theorem d_X1_gather_11 : decode cX1_gather 11 = .ok (.iload_n 2, 1) := by decide +kernel
theorem d_X1_gather_12 : decode cX1_gather 12 = .ok (.bipush 8, 2) := by decide +kernel
theorem d_X1_gather_14 : decode cX1_gather 14 = .ok (.if_icmp .le 4, 3) := by decide +kernel
theorem d_X1_gather_18 : decode cX1_gather 18 = .ok (.aload_n 0, 1) := by decide +kernel
theorem d_X1_gather_19 : decode cX1_gather 19 = .ok (.aload_n 1, 1) := by decide +kernel
theorem d_X1_gather_20 : decode cX1_gather 20 = .ok (.getfield 19, 3) := by decide +kernel
theorem d_X1_gather_23 : decode cX1_gather 23 = .ok (.putfield 15, 3) := by decide +kernel
theorem d_X1_gather_26 : decode cX1_gather 26 = .ok (.aload_n 0, 1) := by decide +kernel
theorem d_X1_gather_27 : decode cX1_gather 27 = .ok (.iload_n 2, 1) := by decide +kernel
theorem d_X1_gather_28 : decode cX1_gather 28 = .ok (.putfield 22, 3) := by decide +kernel
theorem d_X1_gather_31 : decode cX1_gather 31 = .ok (.iconst 0, 1) := by decide +kernel
theorem d_X1_gather_32 : decode cX1_gather 32 = .ok (.istore_n 3, 1) := by decide +kernel
theorem d_X1_gather_33 : decode cX1_gather 33 = .ok (.iload_n 3, 1) := by decide +kernel
theorem d_X1_gather_34 : decode cX1_gather 34 = .ok (.sipush 256, 3) := by decide +kernel
theorem d_X1_gather_37 : decode cX1_gather 37 = .ok (.if_icmp .ge 16, 3) := by decide +kernel
theorem d_X1_gather_53 : decode cX1_gather 53 = .ok (.iconst 1, 1) := by decide +kernel
theorem d_X1_gather_54 : decode cX1_gather 54 = .ok (.istore_n 3, 1) := by decide +kernel
theorem d_X1_gather_55 : decode cX1_gather 55 = .ok (.iload_n 3, 1) := by decide +kernel
theorem d_X1_gather_56 : decode cX1_gather 56 = .ok (.sipush 999, 3) := by decide +kernel
theorem d_X1_gather_59 : decode cX1_gather 59 = .ok (.if_icmp .gt 24, 3) := by decide +kernel
theorem d_X1_gather_62 : decode cX1_gather 62 = .ok (.aload_n 0, 1) := by decide +kernel
theorem d_X1_gather_63 : decode cX1_gather 63 = .ok (.getfield 9, 3) := by decide +kernel
theorem d_X1_gather_66 : decode cX1_gather 66 = .ok (.aload_n 1, 1) := by decide +kernel
theorem d_X1_gather_67 : decode cX1_gather 67 = .ok (.iload_n 3, 1) := by decide +kernel
theorem d_X1_gather_68 : decode cX1_gather 68 = .ok (.invokevirtual 25, 3) := by decide +kernel
theorem hd_X6_placesBy : cu_hd yX6_placesBy 1 := by decide +kernel
theorem k_609 : (.code yX6_placesBy cX6_placesBy 5 (some .int) : Cond) ∈ cu_G := cu_mem 609 (by decide +kernel) (by decide +kernel)
theorem k_606 : (.methodLink RX1 25 yX6_placesBy : Cond) ∈ cu_G := cu_mem 606 (by decide +kernel) (by decide +kernel)
theorem k_607 : (.instanceMethod yX6_placesBy : Cond) ∈ cu_G := cu_mem 607 (by decide +kernel) (by decide +kernel)
theorem k_608 : (.selects RX6 yX6_placesBy yX6_placesBy : Cond) ∈ cu_G := cu_mem 608 (by decide +kernel) (by decide +kernel)
theorem d_X1_gather_71 : decode cX1_gather 71 = .ok (.sipush 256, 3) := by decide +kernel
theorem d_X1_gather_74 : decode cX1_gather 74 = .ok (.irem, 1) := by decide +kernel
theorem d_X1_gather_75 : decode cX1_gather 75 = .ok (.iconst 1, 1) := by decide +kernel
theorem d_X1_gather_76 : decode cX1_gather 76 = .ok (.iastore, 1) := by decide +kernel
theorem d_X1_gather_77 : decode cX1_gather 77 = .ok (.iinc 3 1, 3) := by decide +kernel
theorem d_X1_gather_80 : decode cX1_gather 80 = .ok (.goto (-25), 3) := by decide +kernel
theorem d_X1_gather_83 : decode cX1_gather 83 = .ok (.aload_n 0, 1) := by decide +kernel
theorem d_X1_gather_84 : decode cX1_gather 84 = .ok (.invokevirtual 29, 3) := by decide +kernel
theorem hd_X1_markSubsets : cu_hd yX1_markSubsets 0 := by decide +kernel
theorem k_613 : (.code yX1_markSubsets cX1_markSubsets 3 none : Cond) ∈ cu_G := cu_mem 613 (by decide +kernel) (by decide +kernel)
theorem k_610 : (.methodLink RX1 29 yX1_markSubsets : Cond) ∈ cu_G := cu_mem 610 (by decide +kernel) (by decide +kernel)
theorem k_612 : (.instanceMethod yX1_markSubsets : Cond) ∈ cu_G := cu_mem 612 (by decide +kernel) (by decide +kernel)
theorem k_18 : (.selects RX1 yX1_markSubsets yX1_markSubsets : Cond) ∈ cu_G := cu_mem 18 (by decide +kernel) (by decide +kernel)
theorem d_X1_gather_87 : decode cX1_gather 87 = .ok (.aload_n 0, 1) := by decide +kernel
theorem d_X1_gather_88 : decode cX1_gather 88 = .ok (.invokevirtual 32, 3) := by decide +kernel
theorem hd_X1_fillValues : cu_hd yX1_fillValues 0 := by decide +kernel
theorem k_617 : (.code yX1_fillValues cX1_fillValues 4 none : Cond) ∈ cu_G := cu_mem 617 (by decide +kernel) (by decide +kernel)
theorem k_614 : (.methodLink RX1 32 yX1_fillValues : Cond) ∈ cu_G := cu_mem 614 (by decide +kernel) (by decide +kernel)
theorem k_616 : (.instanceMethod yX1_fillValues : Cond) ∈ cu_G := cu_mem 616 (by decide +kernel) (by decide +kernel)
theorem k_19 : (.selects RX1 yX1_fillValues yX1_fillValues : Cond) ∈ cu_G := cu_mem 19 (by decide +kernel) (by decide +kernel)
theorem d_X1_gather_91 : decode cX1_gather 91 = .ok (.return_, 1) := by decide +kernel
theorem d_X1_gather_40 : decode cX1_gather 40 = .ok (.aload_n 0, 1) := by decide +kernel
theorem d_X1_gather_41 : decode cX1_gather 41 = .ok (.getfield 9, 3) := by decide +kernel
theorem d_X1_gather_44 : decode cX1_gather 44 = .ok (.iload_n 3, 1) := by decide +kernel
theorem d_X1_gather_45 : decode cX1_gather 45 = .ok (.iconst 0, 1) := by decide +kernel
theorem d_X1_gather_46 : decode cX1_gather 46 = .ok (.iastore, 1) := by decide +kernel
theorem d_X1_gather_47 : decode cX1_gather 47 = .ok (.iinc 3 1, 3) := by decide +kernel
theorem d_X1_gather_50 : decode cX1_gather 50 = .ok (.goto (-17), 3) := by decide +kernel
theorem d_X1_power_0 : decode cX1_power 0 = .ok (.iconst 1, 1) := by decide +kernel
theorem d_X1_power_1 : decode cX1_power 1 = .ok (.istore_n 2, 1) := by decide +kernel
theorem d_X1_power_2 : decode cX1_power 2 = .ok (.iconst 0, 1) := by decide +kernel
theorem d_X1_power_3 : decode cX1_power 3 = .ok (.istore_n 3, 1) := by decide +kernel
theorem d_X1_power_4 : decode cX1_power 4 = .ok (.iload_n 3, 1) := by decide +kernel
theorem d_X1_power_5 : decode cX1_power 5 = .ok (.iload_n 1, 1) := by decide +kernel
theorem d_X1_power_6 : decode cX1_power 6 = .ok (.if_icmp .ge 13, 3) := by decide +kernel
theorem d_X1_power_19 : decode cX1_power 19 = .ok (.iload_n 2, 1) := by decide +kernel
theorem d_X1_power_20 : decode cX1_power 20 = .ok (.ireturn, 1) := by decide +kernel
theorem d_X1_partOfFraction_0 : decode cX1_partOfFraction 0 = .ok (.iload_n 1, 1) := by decide +kernel
theorem d_X1_partOfFraction_1 : decode cX1_partOfFraction 1 = .ok (.istore_n 3, 1) := by decide +kernel
theorem d_X1_partOfFraction_2 : decode cX1_partOfFraction 2 = .ok (.iload_n 0, 1) := by decide +kernel
theorem d_X1_partOfFraction_3 : decode cX1_partOfFraction 3 = .ok (.istore 4, 2) := by decide +kernel
theorem d_X1_partOfFraction_5 : decode cX1_partOfFraction 5 = .ok (.iconst 0, 1) := by decide +kernel
theorem d_X1_partOfFraction_6 : decode cX1_partOfFraction 6 = .ok (.istore 5, 2) := by decide +kernel
theorem d_X1_partOfFraction_8 : decode cX1_partOfFraction 8 = .ok (.iload 5, 2) := by decide +kernel
theorem d_X1_partOfFraction_10 : decode cX1_partOfFraction 10 = .ok (.bipush 64, 2) := by decide +kernel
theorem d_X1_partOfFraction_12 : decode cX1_partOfFraction 12 = .ok (.if_icmp .ge 27, 3) := by decide +kernel
theorem d_X1_partOfFraction_15 : decode cX1_partOfFraction 15 = .ok (.iload 4, 2) := by decide +kernel
theorem d_X1_partOfFraction_17 : decode cX1_partOfFraction 17 = .ok (.ifCond .eq 22, 3) := by decide +kernel
theorem d_X1_partOfFraction_20 : decode cX1_partOfFraction 20 = .ok (.iload_n 3, 1) := by decide +kernel
theorem d_X1_partOfFraction_21 : decode cX1_partOfFraction 21 = .ok (.iload 4, 2) := by decide +kernel
theorem d_X1_partOfFraction_23 : decode cX1_partOfFraction 23 = .ok (.irem, 1) := by decide +kernel
theorem d_X1_partOfFraction_24 : decode cX1_partOfFraction 24 = .ok (.istore 6, 2) := by decide +kernel
theorem d_X1_partOfFraction_26 : decode cX1_partOfFraction 26 = .ok (.iload 4, 2) := by decide +kernel
theorem d_X1_partOfFraction_28 : decode cX1_partOfFraction 28 = .ok (.istore_n 3, 1) := by decide +kernel
theorem d_X1_partOfFraction_29 : decode cX1_partOfFraction 29 = .ok (.iload 6, 2) := by decide +kernel
theorem d_X1_partOfFraction_31 : decode cX1_partOfFraction 31 = .ok (.istore 4, 2) := by decide +kernel
theorem d_X1_partOfFraction_33 : decode cX1_partOfFraction 33 = .ok (.iinc 5 1, 3) := by decide +kernel
theorem d_X1_partOfFraction_36 : decode cX1_partOfFraction 36 = .ok (.goto (-28), 3) := by decide +kernel
theorem d_X1_partOfFraction_39 : decode cX1_partOfFraction 39 = .ok (.iload_n 3, 1) := by decide +kernel
theorem d_X1_partOfFraction_40 : decode cX1_partOfFraction 40 = .ok (.ifCond .ne 5, 3) := by decide +kernel
theorem d_X1_partOfFraction_45 : decode cX1_partOfFraction 45 = .ok (.iload_n 2, 1) := by decide +kernel
theorem d_X1_partOfFraction_46 : decode cX1_partOfFraction 46 = .ok (.ifCond .eq 9, 3) := by decide +kernel
theorem d_X1_partOfFraction_55 : decode cX1_partOfFraction 55 = .ok (.iload_n 1, 1) := by decide +kernel
theorem d_X1_partOfFraction_56 : decode cX1_partOfFraction 56 = .ok (.iload_n 3, 1) := by decide +kernel
theorem d_X1_partOfFraction_57 : decode cX1_partOfFraction 57 = .ok (.idiv, 1) := by decide +kernel
theorem d_X1_partOfFraction_58 : decode cX1_partOfFraction 58 = .ok (.ireturn, 1) := by decide +kernel
theorem d_X1_partOfFraction_49 : decode cX1_partOfFraction 49 = .ok (.iload_n 0, 1) := by decide +kernel
theorem d_X1_partOfFraction_50 : decode cX1_partOfFraction 50 = .ok (.iload_n 3, 1) := by decide +kernel
theorem d_X1_partOfFraction_51 : decode cX1_partOfFraction 51 = .ok (.idiv, 1) := by decide +kernel
theorem d_X1_partOfFraction_52 : decode cX1_partOfFraction 52 = .ok (.goto 6, 3) := by decide +kernel
theorem d_X1_chanceOfUnit_0 : decode cX1_chanceOfUnit 0 = .ok (.iconst 0, 1) := by decide +kernel
theorem d_X1_chanceOfUnit_1 : decode cX1_chanceOfUnit 1 = .ok (.istore_n 3, 1) := by decide +kernel
theorem d_X1_chanceOfUnit_2 : decode cX1_chanceOfUnit 2 = .ok (.iconst 0, 1) := by decide +kernel
theorem d_X1_chanceOfUnit_3 : decode cX1_chanceOfUnit 3 = .ok (.istore 4, 2) := by decide +kernel
theorem d_X1_chanceOfUnit_5 : decode cX1_chanceOfUnit 5 = .ok (.iload 4, 2) := by decide +kernel
theorem d_X1_chanceOfUnit_7 : decode cX1_chanceOfUnit 7 = .ok (.iconst 1, 1) := by decide +kernel
theorem d_X1_chanceOfUnit_8 : decode cX1_chanceOfUnit 8 = .ok (.aload_n 0, 1) := by decide +kernel
theorem d_X1_chanceOfUnit_9 : decode cX1_chanceOfUnit 9 = .ok (.getfield 22, 3) := by decide +kernel
theorem d_X1_chanceOfUnit_12 : decode cX1_chanceOfUnit 12 = .ok (.ishl, 1) := by decide +kernel
theorem d_X1_chanceOfUnit_13 : decode cX1_chanceOfUnit 13 = .ok (.if_icmp .ge 52, 3) := by decide +kernel
theorem d_X1_chanceOfUnit_16 : decode cX1_chanceOfUnit 16 = .ok (.iload 4, 2) := by decide +kernel
theorem d_X1_chanceOfUnit_18 : decode cX1_chanceOfUnit 18 = .ok (.invokestatic 35, 3) := by decide +kernel
theorem d_X1_chanceOfUnit_21 : decode cX1_chanceOfUnit 21 = .ok (.istore 5, 2) := by decide +kernel
theorem d_X1_chanceOfUnit_23 : decode cX1_chanceOfUnit 23 = .ok (.aload_n 0, 1) := by decide +kernel
theorem d_X1_chanceOfUnit_24 : decode cX1_chanceOfUnit 24 = .ok (.getfield 9, 3) := by decide +kernel
theorem d_X1_chanceOfUnit_27 : decode cX1_chanceOfUnit 27 = .ok (.iload 4, 2) := by decide +kernel
theorem d_X1_chanceOfUnit_29 : decode cX1_chanceOfUnit 29 = .ok (.iaload, 1) := by decide +kernel
theorem d_X1_chanceOfUnit_30 : decode cX1_chanceOfUnit 30 = .ok (.iload 5, 2) := by decide +kernel
theorem d_X1_chanceOfUnit_32 : decode cX1_chanceOfUnit 32 = .ok (.if_icmp .ne 27, 3) := by decide +kernel
theorem d_X1_chanceOfUnit_35 : decode cX1_chanceOfUnit 35 = .ok (.iload_n 3, 1) := by decide +kernel
theorem d_X1_chanceOfUnit_36 : decode cX1_chanceOfUnit 36 = .ok (.iload_n 1, 1) := by decide +kernel
theorem d_X1_chanceOfUnit_37 : decode cX1_chanceOfUnit 37 = .ok (.aload_n 0, 1) := by decide +kernel
theorem d_X1_chanceOfUnit_38 : decode cX1_chanceOfUnit 38 = .ok (.getfield 22, 3) := by decide +kernel
theorem d_X1_chanceOfUnit_41 : decode cX1_chanceOfUnit 41 = .ok (.iload 5, 2) := by decide +kernel
theorem d_X1_chanceOfUnit_43 : decode cX1_chanceOfUnit 43 = .ok (.isub, 1) := by decide +kernel
theorem d_X1_chanceOfUnit_44 : decode cX1_chanceOfUnit 44 = .ok (.invokestatic 56, 3) := by decide +kernel
theorem hd_X1_power : cu_hd yX1_power 2 := by decide +kernel
theorem k_645 : (.code yX1_power cX1_power 4 (some .int) : Cond) ∈ cu_G := cu_mem 645 (by decide +kernel) (by decide +kernel)
theorem k_643 : (.methodLink RX1 56 yX1_power : Cond) ∈ cu_G := cu_mem 643 (by decide +kernel) (by decide +kernel)
theorem k_644 : (.static yX1_power : Cond) ∈ cu_G := cu_mem 644 (by decide +kernel) (by decide +kernel)
theorem d_X1_chanceOfUnit_47 : decode cX1_chanceOfUnit 47 = .ok (.bipush 10, 2) := by decide +kernel
theorem d_X1_chanceOfUnit_49 : decode cX1_chanceOfUnit 49 = .ok (.iload_n 1, 1) := by decide +kernel
theorem d_X1_chanceOfUnit_50 : decode cX1_chanceOfUnit 50 = .ok (.isub, 1) := by decide +kernel
theorem d_X1_chanceOfUnit_51 : decode cX1_chanceOfUnit 51 = .ok (.iload 5, 2) := by decide +kernel
theorem d_X1_chanceOfUnit_53 : decode cX1_chanceOfUnit 53 = .ok (.invokestatic 56, 3) := by decide +kernel
theorem d_X1_chanceOfUnit_56 : decode cX1_chanceOfUnit 56 = .ok (.imul, 1) := by decide +kernel
theorem d_X1_chanceOfUnit_57 : decode cX1_chanceOfUnit 57 = .ok (.iadd, 1) := by decide +kernel
theorem d_X1_chanceOfUnit_58 : decode cX1_chanceOfUnit 58 = .ok (.istore_n 3, 1) := by decide +kernel
theorem d_X1_chanceOfUnit_59 : decode cX1_chanceOfUnit 59 = .ok (.iinc 4 1, 3) := by decide +kernel
theorem d_X1_chanceOfUnit_62 : decode cX1_chanceOfUnit 62 = .ok (.goto (-57), 3) := by decide +kernel
theorem d_X1_chanceOfUnit_65 : decode cX1_chanceOfUnit 65 = .ok (.iload_n 3, 1) := by decide +kernel
theorem d_X1_chanceOfUnit_66 : decode cX1_chanceOfUnit 66 = .ok (.bipush 10, 2) := by decide +kernel
theorem d_X1_chanceOfUnit_68 : decode cX1_chanceOfUnit 68 = .ok (.aload_n 0, 1) := by decide +kernel
theorem d_X1_chanceOfUnit_69 : decode cX1_chanceOfUnit 69 = .ok (.getfield 22, 3) := by decide +kernel
theorem d_X1_chanceOfUnit_72 : decode cX1_chanceOfUnit 72 = .ok (.invokestatic 56, 3) := by decide +kernel
theorem d_X1_chanceOfUnit_75 : decode cX1_chanceOfUnit 75 = .ok (.iload_n 2, 1) := by decide +kernel
theorem d_X1_chanceOfUnit_76 : decode cX1_chanceOfUnit 76 = .ok (.invokestatic 49, 3) := by decide +kernel
theorem hd_X1_partOfFraction : cu_hd yX1_partOfFraction 3 := by decide +kernel
theorem k_634 : (.code yX1_partOfFraction cX1_partOfFraction 7 (some .int) : Cond) ∈ cu_G := cu_mem 634 (by decide +kernel) (by decide +kernel)
theorem k_632 : (.methodLink RX1 49 yX1_partOfFraction : Cond) ∈ cu_G := cu_mem 632 (by decide +kernel) (by decide +kernel)
theorem k_633 : (.static yX1_partOfFraction : Cond) ∈ cu_G := cu_mem 633 (by decide +kernel) (by decide +kernel)
theorem d_X1_chanceOfUnit_79 : decode cX1_chanceOfUnit 79 = .ok (.ireturn, 1) := by decide +kernel
theorem d_X8_lost_0 : decode cX8_lost 0 = .ok (.iload_n 1, 1) := by decide +kernel
theorem d_X8_lost_1 : decode cX8_lost 1 = .ok (.ifCond .lt 9, 3) := by decide +kernel
theorem d_X8_lost_10 : decode cX8_lost 10 = .ok (.bipush (-2), 2) := by decide +kernel
theorem d_X8_lost_12 : decode cX8_lost 12 = .ok (.ireturn, 1) := by decide +kernel
theorem d_X8_lost_4 : decode cX8_lost 4 = .ok (.iload_n 1, 1) := by decide +kernel
theorem d_X8_lost_5 : decode cX8_lost 5 = .ok (.bipush 10, 2) := by decide +kernel
theorem d_X8_lost_7 : decode cX8_lost 7 = .ok (.if_icmp .le 6, 3) := by decide +kernel
theorem d_X8_lost_13 : decode cX8_lost 13 = .ok (.aload_n 0, 1) := by decide +kernel
theorem d_X8_lost_14 : decode cX8_lost 14 = .ok (.getfield 19, 3) := by decide +kernel
theorem d_X8_lost_17 : decode cX8_lost 17 = .ok (.invokevirtual 213, 3) := by decide +kernel
theorem hd_X3_counted : cu_hd yX3_counted 0 := by decide +kernel
theorem k_597 : (.code yX3_counted cX3_counted 1 (some .int) : Cond) ∈ cu_G := cu_mem 597 (by decide +kernel) (by decide +kernel)
theorem k_594 : (.methodLink RX8 213 yX3_counted : Cond) ∈ cu_G := cu_mem 594 (by decide +kernel) (by decide +kernel)
theorem k_595 : (.instanceMethod yX3_counted : Cond) ∈ cu_G := cu_mem 595 (by decide +kernel) (by decide +kernel)
theorem k_596 : (.selects RX3 yX3_counted yX3_counted : Cond) ∈ cu_G := cu_mem 596 (by decide +kernel) (by decide +kernel)
theorem d_X8_lost_20 : decode cX8_lost 20 = .ok (.bipush 8, 2) := by decide +kernel
theorem d_X8_lost_22 : decode cX8_lost 22 = .ok (.if_icmp .le 6, 3) := by decide +kernel
theorem d_X8_lost_28 : decode cX8_lost 28 = .ok (.aload_n 0, 1) := by decide +kernel
theorem d_X8_lost_29 : decode cX8_lost 29 = .ok (.getfield 36, 3) := by decide +kernel
theorem d_X8_lost_32 : decode cX8_lost 32 = .ok (.aload_n 0, 1) := by decide +kernel
theorem d_X8_lost_33 : decode cX8_lost 33 = .ok (.invokevirtual 158, 3) := by decide +kernel
theorem d_X8_lost_36 : decode cX8_lost 36 = .ok (.aload_n 0, 1) := by decide +kernel
theorem d_X8_lost_37 : decode cX8_lost 37 = .ok (.getfield 19, 3) := by decide +kernel
theorem d_X8_lost_40 : decode cX8_lost 40 = .ok (.invokevirtual 213, 3) := by decide +kernel
theorem d_X8_lost_43 : decode cX8_lost 43 = .ok (.invokevirtual 217, 3) := by decide +kernel
theorem hd_X1_gather : cu_hd yX1_gather 2 := by decide +kernel
theorem k_605 : (.code yX1_gather cX1_gather 4 none : Cond) ∈ cu_G := cu_mem 605 (by decide +kernel) (by decide +kernel)
theorem k_602 : (.methodLink RX8 217 yX1_gather : Cond) ∈ cu_G := cu_mem 602 (by decide +kernel) (by decide +kernel)
theorem k_603 : (.instanceMethod yX1_gather : Cond) ∈ cu_G := cu_mem 603 (by decide +kernel) (by decide +kernel)
theorem k_604 : (.selects RX1 yX1_gather yX1_gather : Cond) ∈ cu_G := cu_mem 604 (by decide +kernel) (by decide +kernel)
theorem d_X8_lost_46 : decode cX8_lost 46 = .ok (.aload_n 0, 1) := by decide +kernel
theorem d_X8_lost_47 : decode cX8_lost 47 = .ok (.getfield 36, 3) := by decide +kernel
theorem d_X8_lost_50 : decode cX8_lost 50 = .ok (.iload_n 1, 1) := by decide +kernel
theorem d_X8_lost_51 : decode cX8_lost 51 = .ok (.iload_n 2, 1) := by decide +kernel
theorem d_X8_lost_52 : decode cX8_lost 52 = .ok (.invokevirtual 228, 3) := by decide +kernel
theorem hd_X1_chanceOfUnit : cu_hd yX1_chanceOfUnit 2 := by decide +kernel
theorem k_642 : (.code yX1_chanceOfUnit cX1_chanceOfUnit 6 (some .int) : Cond) ∈ cu_G := cu_mem 642 (by decide +kernel) (by decide +kernel)
theorem k_639 : (.methodLink RX8 228 yX1_chanceOfUnit : Cond) ∈ cu_G := cu_mem 639 (by decide +kernel) (by decide +kernel)
theorem k_640 : (.instanceMethod yX1_chanceOfUnit : Cond) ∈ cu_G := cu_mem 640 (by decide +kernel) (by decide +kernel)
theorem k_641 : (.selects RX1 yX1_chanceOfUnit yX1_chanceOfUnit : Cond) ∈ cu_G := cu_mem 641 (by decide +kernel) (by decide +kernel)
theorem d_X8_lost_55 : decode cX8_lost 55 = .ok (.ireturn, 1) := by decide +kernel
theorem d_X3_bestUnit_0 : decode cX3_bestUnit 0 = .ok (.sipush 999, 3) := by decide +kernel
theorem d_X3_bestUnit_3 : decode cX3_bestUnit 3 = .ok (.istore_n 1, 1) := by decide +kernel
theorem d_X3_bestUnit_4 : decode cX3_bestUnit 4 = .ok (.ldc 74, 2) := by decide +kernel
theorem k_562 : (.constant RX3 74 53248 : Cond) ∈ cu_G := cu_mem 562 (by decide +kernel) (by decide +kernel)
theorem d_X3_bestUnit_6 : decode cX3_bestUnit 6 = .ok (.istore_n 2, 1) := by decide +kernel
theorem d_X3_bestUnit_7 : decode cX3_bestUnit 7 = .ok (.sipush 999, 3) := by decide +kernel
theorem d_X3_bestUnit_10 : decode cX3_bestUnit 10 = .ok (.istore_n 3, 1) := by decide +kernel
theorem d_X3_bestUnit_11 : decode cX3_bestUnit 11 = .ok (.iload_n 3, 1) := by decide +kernel
theorem d_X3_bestUnit_12 : decode cX3_bestUnit 12 = .ok (.iconst 1, 1) := by decide +kernel
theorem d_X3_bestUnit_13 : decode cX3_bestUnit 13 = .ok (.if_icmp .lt 28, 3) := by decide +kernel
theorem d_X3_bestUnit_16 : decode cX3_bestUnit 16 = .ok (.aload_n 0, 1) := by decide +kernel
theorem d_X3_bestUnit_17 : decode cX3_bestUnit 17 = .ok (.iload_n 3, 1) := by decide +kernel
theorem d_X3_bestUnit_18 : decode cX3_bestUnit 18 = .ok (.iload_n 2, 1) := by decide +kernel
theorem d_X3_bestUnit_19 : decode cX3_bestUnit 19 = .ok (.invokevirtual 75, 3) := by decide +kernel
theorem hd_X3_lackOf : cu_hd yX3_lackOf 2 := by decide +kernel
theorem k_566 : (.code yX3_lackOf cX3_lackOf 5 (some .int) : Cond) ∈ cu_G := cu_mem 566 (by decide +kernel) (by decide +kernel)
theorem k_563 : (.methodLink RX3 75 yX3_lackOf : Cond) ∈ cu_G := cu_mem 563 (by decide +kernel) (by decide +kernel)
theorem k_565 : (.instanceMethod yX3_lackOf : Cond) ∈ cu_G := cu_mem 565 (by decide +kernel) (by decide +kernel)
theorem k_17 : (.selects RX3 yX3_lackOf yX3_lackOf : Cond) ∈ cu_G := cu_mem 17 (by decide +kernel) (by decide +kernel)
theorem d_X3_bestUnit_22 : decode cX3_bestUnit 22 = .ok (.istore 4, 2) := by decide +kernel
theorem d_X3_bestUnit_24 : decode cX3_bestUnit 24 = .ok (.iload 4, 2) := by decide +kernel
theorem d_X3_bestUnit_26 : decode cX3_bestUnit 26 = .ok (.iload_n 2, 1) := by decide +kernel
theorem d_X3_bestUnit_27 : decode cX3_bestUnit 27 = .ok (.if_icmp .ge 8, 3) := by decide +kernel
theorem d_X3_bestUnit_30 : decode cX3_bestUnit 30 = .ok (.iload 4, 2) := by decide +kernel
theorem d_X3_bestUnit_32 : decode cX3_bestUnit 32 = .ok (.istore_n 2, 1) := by decide +kernel
theorem d_X3_bestUnit_33 : decode cX3_bestUnit 33 = .ok (.iload_n 3, 1) := by decide +kernel
theorem d_X3_bestUnit_34 : decode cX3_bestUnit 34 = .ok (.istore_n 1, 1) := by decide +kernel
theorem d_X3_bestUnit_35 : decode cX3_bestUnit 35 = .ok (.iinc 3 (-1), 3) := by decide +kernel
theorem d_X3_bestUnit_38 : decode cX3_bestUnit 38 = .ok (.goto (-27), 3) := by decide +kernel
theorem d_X3_bestUnit_41 : decode cX3_bestUnit 41 = .ok (.iload_n 1, 1) := by decide +kernel
theorem d_X3_bestUnit_42 : decode cX3_bestUnit 42 = .ok (.ireturn, 1) := by decide +kernel
theorem cu_nsub {a b : Nat} (h : b ≤ a) : nI a - nI b = nI (a - b) := by
  have h1 : nI a = nI (a - b) + nI b := by rw [nI_add, Nat.sub_add_cancel h]
  rw [h1, Int32.add_sub_cancel]
theorem cu_dec (n : Nat) : nI (n + 1) + Int32.ofInt (-1) = nI n := by
  rw [← nI_1]
  have h1 : (Int32.ofInt (-1)) = -1 := by decide
  rw [h1, Int32.add_assoc]
  have h2 : (1 : Int32) + -1 = 0 := by decide
  rw [h2, Int32.add_zero]
theorem cu_two {x : Int32} (h0 : ¬ x < 0) (h1 : x < 2) : x = 0 ∨ x = 1 := by
  have a := mt cu_lt.mpr h0; have b := cu_lt.mp h1
  have e0 : (0 : Int32).toInt = 0 := by decide
  have e1 : (1 : Int32).toInt = 1 := by decide
  have e2 : (2 : Int32).toInt = 2 := by decide
  rcases (show x.toInt = 0 ∨ x.toInt = 1 by omega) with h | h
  · exact Or.inl (Int32.toInt_inj.mp (by rw [h, e0]))
  · exact Or.inr (Int32.toInt_inj.mp (by rw [h, e1]))
/-- an int between two literals is nI of a number there -/
theorem cu_nat {x lo hi : Int32} (a b : Nat) (hlo : lo.toInt = a) (hhi : hi.toInt = b) (h1 : ¬ x < lo) (h2 : ¬ hi < x) : ∃ k : Nat, (a ≤ k ∧ k ≤ b) ∧ x = nI k := by
  have q1 := mt cu_lt.mpr h1; have q2 := mt cu_lt.mpr h2
  rw [hlo] at q1; rw [hhi] at q2
  have hx := Int32.toInt_lt x
  refine ⟨x.toInt.toNat, ⟨by omega, by omega⟩, Int32.toInt_inj.mp ?_⟩
  rw [nI_toInt (by omega)]
  omega
set_option maxHeartbeats 4000000 in
set_option maxRecDepth 100000 in
theorem c_X3_copyFrom (l : Launch) (D : va_G) (cI cZ cQ : ClassId) (h w y a u : Nat) (h2 w2 y2 a2 u2 : Nat) (rt lw rt2 lw2 : Int32) : cu_V l D (cu_TY cI cZ cQ) yX3_copyFrom cX3_copyFrom 3 0 0 0 0 [.ref h, .ref h2] [(h, .inr (2, [.ref w, .ref y, .ref a, .ref u, .int 0, .int 0, .int rt, .int lw])), (w, .inl (cI, 12, .inl (fun _ => 0))), (y, .inl (cI, 12, .inl (fun _ => 0))), (a, .inl (cI, 12, .inl (fun _ => 0))), (u, .inl (cI, 3, .inl (fun _ => 0))), (h2, .inr (2, [.ref w2, .ref y2, .ref a2, .ref u2, .int 0, .int 0, .int rt2, .int lw2])), (w2, .inl (cI, 12, .inl (fun _ => 0))), (y2, .inl (cI, 12, .inl (fun _ => 0))), (a2, .inl (cI, 12, .inl (fun _ => 0))), (u2, .inl (cI, 3, .inl (fun _ => 0)))] (fun ww => ww = [(h, .inr (2, [.ref w, .ref y, .ref a, .ref u, .int 0, .int 0, .int rt2, .int lw2])), (h2, .inr (2, [.ref w2, .ref y2, .ref a2, .ref u2, .int 0, .int 0, .int rt2, .int lw2]))]) := by
  refine cu_V.intro (by decide) (Nat.le_of_ble_eq_true rfl) ?_
  intro p e s m args below meth c Q ls A S hin hret hP hD hS hA hK hl
  obtain ⟨hx, hb, hml, hown, hg⟩ := S
  have hown : s.vm.findClass RX3 = some m.cls := hown
  have hin : meth.name = "copyFrom" := hin
  have hl : lv_has ls 3 [(0, .ref h), (1, .ref h2)] := hl
  refine lv_iconst (v := 0) hx hb d_X3_copyFrom_0 (by decide) ?_
  refine lv_istore_n (lv' := [(2, .int 0), (0, .ref h), (1, .ref h2)]) hx hb d_X3_copyFrom_1 rfl hl (by decide) rfl (fun ls hl => ?_)
  have key_1 : ∀ (n_3 j_2 : Nat) (hj_5 : j_2 + n_3 = 12) (f1 : Nat → Int32) (f2 : Nat → Int32) (f3 : Nat → Int32)  (H : Heap) (locs : List Loc) (ls : Array Slot) (hP : va_P D vwCl [(h, .inr (2, [.ref w, .ref y, .ref a, .ref u, .int 0, .int 0, .int rt, .int lw])), (w, .inl (cI, 12, .inl f1)), (y, .inl (cI, 12, .inl f2)), (a, .inl (cI, 12, .inl f3)), (u, .inl (cI, 3, .inl (fun _ => 0))), (h2, .inr (2, [.ref w2, .ref y2, .ref a2, .ref u2, .int 0, .int 0, .int rt2, .int lw2])), (w2, .inl (cI, 12, .inl (fun _ => 0))), (y2, .inl (cI, 12, .inl (fun _ => 0))), (a2, .inl (cI, 12, .inl (fun _ => 0))), (u2, .inl (cI, 3, .inl (fun _ => 0)))] H) (hD : va_D A [(h, .inr (2, [.ref w, .ref y, .ref a, .ref u, .int 0, .int 0, .int rt, .int lw])), (w, .inl (cI, 12, .inl f1)), (y, .inl (cI, 12, .inl f2)), (a, .inl (cI, 12, .inl f3)), (u, .inl (cI, 3, .inl (fun _ => 0))), (h2, .inr (2, [.ref w2, .ref y2, .ref a2, .ref u2, .int 0, .int 0, .int rt2, .int lw2])), (w2, .inl (cI, 12, .inl (fun _ => 0))), (y2, .inl (cI, 12, .inl (fun _ => 0))), (a2, .inl (cI, 12, .inl (fun _ => 0))), (u2, .inl (cI, 3, .inl (fun _ => 0)))]) (hS : va_S A s.heap H locs) (hl : lv_has ls 3 [(2, .int (nI j_2)), (0, .ref h), (1, .ref h2)]), W p l e (cu_rm 0 0 0 0) s m args below meth c H locs 0 0 Q (F0 m 2 ls []) := by
    intro n_3
    induction n_3 with
    | zero =>
      intro j_2 hj_5 f1 f2 f3  H locs ls hP hD hS hl
      obtain rfl : 12 = j_2 := by omega
      have hl : lv_has ls 3 [(2, .int 12), (0, .ref h), (1, .ref h2)] := hl
      have hP : va_P D vwCl [(h, .inr (2, [.ref w, .ref y, .ref a, .ref u, .int 0, .int 0, .int rt, .int lw])), (w, .inl (cI, 12, .inl f1)), (y, .inl (cI, 12, .inl f2)), (a, .inl (cI, 12, .inl f3)), (u, .inl (cI, 3, .inl (fun _ => 0))), (h2, .inr (2, [.ref w2, .ref y2, .ref a2, .ref u2, .int 0, .int 0, .int rt2, .int lw2])), (w2, .inl (cI, 12, .inl (fun _ => 0))), (y2, .inl (cI, 12, .inl (fun _ => 0))), (a2, .inl (cI, 12, .inl (fun _ => 0))), (u2, .inl (cI, 3, .inl (fun _ => 0)))] H := hP
      have hD : va_D A [(h, .inr (2, [.ref w, .ref y, .ref a, .ref u, .int 0, .int 0, .int rt, .int lw])), (w, .inl (cI, 12, .inl f1)), (y, .inl (cI, 12, .inl f2)), (a, .inl (cI, 12, .inl f3)), (u, .inl (cI, 3, .inl (fun _ => 0))), (h2, .inr (2, [.ref w2, .ref y2, .ref a2, .ref u2, .int 0, .int 0, .int rt2, .int lw2])), (w2, .inl (cI, 12, .inl (fun _ => 0))), (y2, .inl (cI, 12, .inl (fun _ => 0))), (a2, .inl (cI, 12, .inl (fun _ => 0))), (u2, .inl (cI, 3, .inl (fun _ => 0)))] := hD
      refine lv_iload_n hx hb d_X3_copyFrom_2 rfl (lv_at hl 0 rfl) ?_
      refine lv_bipush (v := 12) hx hb d_X3_copyFrom_3 (by decide) ?_
      refine lv_icmp_ge (tgt := 50) hx hb d_X3_copyFrom_5 (by decide) (fun _ => ?_) (fun c_6 => absurd (by decide +kernel) c_6)
      refine lv_iconst (v := 0) hx hb d_X3_copyFrom_50 (by decide) ?_
      refine lv_istore_n (lv' := [(2, .int 0), (0, .ref h), (1, .ref h2)]) hx hb d_X3_copyFrom_51 rfl hl (by decide) rfl (fun ls hl => ?_)
      have key_7 : ∀ (n_9 j_8 : Nat) (hj_11 : j_8 + n_9 = 3) (f4 : Nat → Int32)  (H : Heap) (locs : List Loc) (ls : Array Slot) (hP : va_P D vwCl [(h, .inr (2, [.ref w, .ref y, .ref a, .ref u, .int 0, .int 0, .int rt, .int lw])), (w, .inl (cI, 12, .inl f1)), (y, .inl (cI, 12, .inl f2)), (a, .inl (cI, 12, .inl f3)), (u, .inl (cI, 3, .inl f4)), (h2, .inr (2, [.ref w2, .ref y2, .ref a2, .ref u2, .int 0, .int 0, .int rt2, .int lw2])), (w2, .inl (cI, 12, .inl (fun _ => 0))), (y2, .inl (cI, 12, .inl (fun _ => 0))), (a2, .inl (cI, 12, .inl (fun _ => 0))), (u2, .inl (cI, 3, .inl (fun _ => 0)))] H) (hD : va_D A [(h, .inr (2, [.ref w, .ref y, .ref a, .ref u, .int 0, .int 0, .int rt, .int lw])), (w, .inl (cI, 12, .inl f1)), (y, .inl (cI, 12, .inl f2)), (a, .inl (cI, 12, .inl f3)), (u, .inl (cI, 3, .inl f4)), (h2, .inr (2, [.ref w2, .ref y2, .ref a2, .ref u2, .int 0, .int 0, .int rt2, .int lw2])), (w2, .inl (cI, 12, .inl (fun _ => 0))), (y2, .inl (cI, 12, .inl (fun _ => 0))), (a2, .inl (cI, 12, .inl (fun _ => 0))), (u2, .inl (cI, 3, .inl (fun _ => 0)))]) (hS : va_S A s.heap H locs) (hl : lv_has ls 3 [(2, .int (nI j_8)), (0, .ref h), (1, .ref h2)]), W p l e (cu_rm 0 0 0 0) s m args below meth c H locs 0 0 Q (F0 m 52 ls []) := by
        intro n_9
        induction n_9 with
        | zero =>
          intro j_8 hj_11 f4  H locs ls hP hD hS hl
          obtain rfl : 3 = j_8 := by omega
          have hl : lv_has ls 3 [(2, .int 3), (0, .ref h), (1, .ref h2)] := hl
          have hP : va_P D vwCl [(h, .inr (2, [.ref w, .ref y, .ref a, .ref u, .int 0, .int 0, .int rt, .int lw])), (w, .inl (cI, 12, .inl f1)), (y, .inl (cI, 12, .inl f2)), (a, .inl (cI, 12, .inl f3)), (u, .inl (cI, 3, .inl f4)), (h2, .inr (2, [.ref w2, .ref y2, .ref a2, .ref u2, .int 0, .int 0, .int rt2, .int lw2])), (w2, .inl (cI, 12, .inl (fun _ => 0))), (y2, .inl (cI, 12, .inl (fun _ => 0))), (a2, .inl (cI, 12, .inl (fun _ => 0))), (u2, .inl (cI, 3, .inl (fun _ => 0)))] H := hP
          have hD : va_D A [(h, .inr (2, [.ref w, .ref y, .ref a, .ref u, .int 0, .int 0, .int rt, .int lw])), (w, .inl (cI, 12, .inl f1)), (y, .inl (cI, 12, .inl f2)), (a, .inl (cI, 12, .inl f3)), (u, .inl (cI, 3, .inl f4)), (h2, .inr (2, [.ref w2, .ref y2, .ref a2, .ref u2, .int 0, .int 0, .int rt2, .int lw2])), (w2, .inl (cI, 12, .inl (fun _ => 0))), (y2, .inl (cI, 12, .inl (fun _ => 0))), (a2, .inl (cI, 12, .inl (fun _ => 0))), (u2, .inl (cI, 3, .inl (fun _ => 0)))] := hD
          refine lv_iload_n hx hb d_X3_copyFrom_52 rfl (lv_at hl 0 rfl) ?_
          refine lv_iconst (v := 3) hx hb d_X3_copyFrom_53 (by decide) ?_
          refine lv_icmp_ge (tgt := 75) hx hb d_X3_copyFrom_54 (by decide) (fun _ => ?_) (fun c_12 => absurd (by decide +kernel) c_12)
          refine lv_aload_n hx hb d_X3_copyFrom_75 rfl (lv_at hl 1 rfl) ?_
          refine lv_aload_n hx hb d_X3_copyFrom_76 rfl (lv_at hl 2 rfl) ?_
          refine va_get (D := D) (ci := 2) (v := .int 0) (C := RX3) (T := TX3) (N := 8) hx hb hg cu_iX3 hown hK.1 hP 5 rfl rfl 4 (by decide) (hg _ k_94) (fun _ h9 => h9) rfl d_X3_copyFrom_77 ?_
          refine va_put (D := D) (ci := 2) (v := .int 0) (ty := .int) (C := RX3) (T := TX3) (N := 8) hx hb hg cu_iX3 tyX3 tyX3_ok nmX3 hown hK.1 hP hD hS 0 rfl rfl 4 (by decide) (hg _ k_94) (fun _ h9 => h9) rfl (by decide +kernel) rfl rfl (Nat.le_of_ble_eq_true rfl) d_X3_copyFrom_80 (fun H locs hP hD hS => ?_)
          have hP : va_P D vwCl [(h, .inr (2, [.ref w, .ref y, .ref a, .ref u, .int 0, .int 0, .int rt, .int lw])), (w, .inl (cI, 12, .inl f1)), (y, .inl (cI, 12, .inl f2)), (a, .inl (cI, 12, .inl f3)), (u, .inl (cI, 3, .inl f4)), (h2, .inr (2, [.ref w2, .ref y2, .ref a2, .ref u2, .int 0, .int 0, .int rt2, .int lw2])), (w2, .inl (cI, 12, .inl (fun _ => 0))), (y2, .inl (cI, 12, .inl (fun _ => 0))), (a2, .inl (cI, 12, .inl (fun _ => 0))), (u2, .inl (cI, 3, .inl (fun _ => 0)))] H := hP
          have hD : va_D A [(h, .inr (2, [.ref w, .ref y, .ref a, .ref u, .int 0, .int 0, .int rt, .int lw])), (w, .inl (cI, 12, .inl f1)), (y, .inl (cI, 12, .inl f2)), (a, .inl (cI, 12, .inl f3)), (u, .inl (cI, 3, .inl f4)), (h2, .inr (2, [.ref w2, .ref y2, .ref a2, .ref u2, .int 0, .int 0, .int rt2, .int lw2])), (w2, .inl (cI, 12, .inl (fun _ => 0))), (y2, .inl (cI, 12, .inl (fun _ => 0))), (a2, .inl (cI, 12, .inl (fun _ => 0))), (u2, .inl (cI, 3, .inl (fun _ => 0)))] := hD
          refine lv_aload_n hx hb d_X3_copyFrom_83 rfl (lv_at hl 1 rfl) ?_
          refine lv_aload_n hx hb d_X3_copyFrom_84 rfl (lv_at hl 2 rfl) ?_
          refine va_get (D := D) (ci := 2) (v := .int 0) (C := RX3) (T := TX3) (N := 8) hx hb hg cu_iX3 hown hK.1 hP 5 rfl rfl 5 (by decide) (hg _ k_97) (fun _ h9 => h9) rfl d_X3_copyFrom_85 ?_
          refine va_put (D := D) (ci := 2) (v := .int 0) (ty := .int) (C := RX3) (T := TX3) (N := 8) hx hb hg cu_iX3 tyX3 tyX3_ok nmX3 hown hK.1 hP hD hS 0 rfl rfl 5 (by decide) (hg _ k_97) (fun _ h9 => h9) rfl (by decide +kernel) rfl rfl (Nat.le_of_ble_eq_true rfl) d_X3_copyFrom_88 (fun H locs hP hD hS => ?_)
          have hP : va_P D vwCl [(h, .inr (2, [.ref w, .ref y, .ref a, .ref u, .int 0, .int 0, .int rt, .int lw])), (w, .inl (cI, 12, .inl f1)), (y, .inl (cI, 12, .inl f2)), (a, .inl (cI, 12, .inl f3)), (u, .inl (cI, 3, .inl f4)), (h2, .inr (2, [.ref w2, .ref y2, .ref a2, .ref u2, .int 0, .int 0, .int rt2, .int lw2])), (w2, .inl (cI, 12, .inl (fun _ => 0))), (y2, .inl (cI, 12, .inl (fun _ => 0))), (a2, .inl (cI, 12, .inl (fun _ => 0))), (u2, .inl (cI, 3, .inl (fun _ => 0)))] H := hP
          have hD : va_D A [(h, .inr (2, [.ref w, .ref y, .ref a, .ref u, .int 0, .int 0, .int rt, .int lw])), (w, .inl (cI, 12, .inl f1)), (y, .inl (cI, 12, .inl f2)), (a, .inl (cI, 12, .inl f3)), (u, .inl (cI, 3, .inl f4)), (h2, .inr (2, [.ref w2, .ref y2, .ref a2, .ref u2, .int 0, .int 0, .int rt2, .int lw2])), (w2, .inl (cI, 12, .inl (fun _ => 0))), (y2, .inl (cI, 12, .inl (fun _ => 0))), (a2, .inl (cI, 12, .inl (fun _ => 0))), (u2, .inl (cI, 3, .inl (fun _ => 0)))] := hD
          refine lv_aload_n hx hb d_X3_copyFrom_91 rfl (lv_at hl 1 rfl) ?_
          refine lv_aload_n hx hb d_X3_copyFrom_92 rfl (lv_at hl 2 rfl) ?_
          refine va_get (D := D) (ci := 2) (v := .int rt2) (C := RX3) (T := TX3) (N := 8) hx hb hg cu_iX3 hown hK.1 hP 5 rfl rfl 6 (by decide) (hg _ k_100) (fun _ h9 => h9) rfl d_X3_copyFrom_93 ?_
          refine va_put (D := D) (ci := 2) (v := .int rt2) (ty := .int) (C := RX3) (T := TX3) (N := 8) hx hb hg cu_iX3 tyX3 tyX3_ok nmX3 hown hK.1 hP hD hS 0 rfl rfl 6 (by decide) (hg _ k_100) (fun _ h9 => h9) rfl (by decide +kernel) rfl rfl (Nat.le_of_ble_eq_true rfl) d_X3_copyFrom_96 (fun H locs hP hD hS => ?_)
          have hP : va_P D vwCl [(h, .inr (2, [.ref w, .ref y, .ref a, .ref u, .int 0, .int 0, .int rt2, .int lw])), (w, .inl (cI, 12, .inl f1)), (y, .inl (cI, 12, .inl f2)), (a, .inl (cI, 12, .inl f3)), (u, .inl (cI, 3, .inl f4)), (h2, .inr (2, [.ref w2, .ref y2, .ref a2, .ref u2, .int 0, .int 0, .int rt2, .int lw2])), (w2, .inl (cI, 12, .inl (fun _ => 0))), (y2, .inl (cI, 12, .inl (fun _ => 0))), (a2, .inl (cI, 12, .inl (fun _ => 0))), (u2, .inl (cI, 3, .inl (fun _ => 0)))] H := hP
          have hD : va_D A [(h, .inr (2, [.ref w, .ref y, .ref a, .ref u, .int 0, .int 0, .int rt2, .int lw])), (w, .inl (cI, 12, .inl f1)), (y, .inl (cI, 12, .inl f2)), (a, .inl (cI, 12, .inl f3)), (u, .inl (cI, 3, .inl f4)), (h2, .inr (2, [.ref w2, .ref y2, .ref a2, .ref u2, .int 0, .int 0, .int rt2, .int lw2])), (w2, .inl (cI, 12, .inl (fun _ => 0))), (y2, .inl (cI, 12, .inl (fun _ => 0))), (a2, .inl (cI, 12, .inl (fun _ => 0))), (u2, .inl (cI, 3, .inl (fun _ => 0)))] := hD
          refine lv_aload_n hx hb d_X3_copyFrom_99 rfl (lv_at hl 1 rfl) ?_
          refine lv_aload_n hx hb d_X3_copyFrom_100 rfl (lv_at hl 2 rfl) ?_
          refine va_get (D := D) (ci := 2) (v := .int lw2) (C := RX3) (T := TX3) (N := 8) hx hb hg cu_iX3 hown hK.1 hP 5 rfl rfl 7 (by decide) (hg _ k_102) (fun _ h9 => h9) rfl d_X3_copyFrom_101 ?_
          refine va_put (D := D) (ci := 2) (v := .int lw2) (ty := .int) (C := RX3) (T := TX3) (N := 8) hx hb hg cu_iX3 tyX3 tyX3_ok nmX3 hown hK.1 hP hD hS 0 rfl rfl 7 (by decide) (hg _ k_102) (fun _ h9 => h9) rfl (by decide +kernel) rfl rfl (Nat.le_of_ble_eq_true rfl) d_X3_copyFrom_104 (fun H locs hP hD hS => ?_)
          have hP : va_P D vwCl [(h, .inr (2, [.ref w, .ref y, .ref a, .ref u, .int 0, .int 0, .int rt2, .int lw2])), (w, .inl (cI, 12, .inl f1)), (y, .inl (cI, 12, .inl f2)), (a, .inl (cI, 12, .inl f3)), (u, .inl (cI, 3, .inl f4)), (h2, .inr (2, [.ref w2, .ref y2, .ref a2, .ref u2, .int 0, .int 0, .int rt2, .int lw2])), (w2, .inl (cI, 12, .inl (fun _ => 0))), (y2, .inl (cI, 12, .inl (fun _ => 0))), (a2, .inl (cI, 12, .inl (fun _ => 0))), (u2, .inl (cI, 3, .inl (fun _ => 0)))] H := hP
          have hD : va_D A [(h, .inr (2, [.ref w, .ref y, .ref a, .ref u, .int 0, .int 0, .int rt2, .int lw2])), (w, .inl (cI, 12, .inl f1)), (y, .inl (cI, 12, .inl f2)), (a, .inl (cI, 12, .inl f3)), (u, .inl (cI, 3, .inl f4)), (h2, .inr (2, [.ref w2, .ref y2, .ref a2, .ref u2, .int 0, .int 0, .int rt2, .int lw2])), (w2, .inl (cI, 12, .inl (fun _ => 0))), (y2, .inl (cI, 12, .inl (fun _ => 0))), (a2, .inl (cI, 12, .inl (fun _ => 0))), (u2, .inl (cI, 3, .inl (fun _ => 0)))] := hD
          exact hret _ _ _ _ [(h, .inr (2, [.ref w, .ref y, .ref a, .ref u, .int 0, .int 0, .int rt2, .int lw2])), (h2, .inr (2, [.ref w2, .ref y2, .ref a2, .ref u2, .int 0, .int 0, .int rt2, .int lw2]))] _ _ (hP.sub (ws' := [(h, .inr (2, [.ref w, .ref y, .ref a, .ref u, .int 0, .int 0, .int rt2, .int lw2])), (h2, .inr (2, [.ref w2, .ref y2, .ref a2, .ref u2, .int 0, .int 0, .int rt2, .int lw2]))]) [0, 5] rfl) (hD.sub (ws' := [(h, .inr (2, [.ref w, .ref y, .ref a, .ref u, .int 0, .int 0, .int rt2, .int lw2])), (h2, .inr (2, [.ref w2, .ref y2, .ref a2, .ref u2, .int 0, .int 0, .int rt2, .int lw2]))]) [0, 5] (by decide) rfl) hS (Nat.le_of_ble_eq_true rfl) (Nat.le_of_ble_eq_true rfl) d_X3_copyFrom_107 rfl
        | succ n_9 ih_10 =>
          intro j_8 hj_11 f4  H locs ls hP hD hS hl
          refine lv_iload_n hx hb d_X3_copyFrom_52 rfl (lv_at hl 0 rfl) ?_
          refine lv_iconst (v := 3) hx hb d_X3_copyFrom_53 (by decide) ?_
          refine lv_icmp_ge (tgt := 75) hx hb d_X3_copyFrom_54 (by decide) (fun c_13 => absurd c_13 (mt (nI_leI (a := 3) (b := j_8) (by omega) (by omega)).mp (by omega))) (fun _ => ?_)
          refine lv_aload_n hx hb d_X3_copyFrom_57 rfl (lv_at hl 1 rfl) ?_
          refine va_get (D := D) (ci := 2) (v := .ref u) (C := RX3) (T := TX3) (N := 8) hx hb hg cu_iX3 hown hK.1 hP 0 rfl rfl 3 (by decide) (hg _ k_92) (fun _ h9 => h9) rfl d_X3_copyFrom_58 ?_
          refine lv_iload_n hx hb d_X3_copyFrom_61 rfl (lv_at hl 0 rfl) ?_
          refine lv_aload_n hx hb d_X3_copyFrom_62 rfl (lv_at hl 2 rfl) ?_
          refine va_get (D := D) (ci := 2) (v := .ref u2) (C := RX3) (T := TX3) (N := 8) hx hb hg cu_iX3 hown hK.1 hP 5 rfl rfl 3 (by decide) (hg _ k_92) (fun _ h9 => h9) rfl d_X3_copyFrom_63 ?_
          refine lv_iload_n hx hb d_X3_copyFrom_66 rfl (lv_at hl 0 rfl) ?_
          refine va_iald hx hb hK.1 hP 9 0 rfl rfl (vp_in_nI (by omega) (by decide)) d_X3_copyFrom_67 ?_
          refine cu_topi (y := 0) rfl ?_
          refine va_iast hx hb hK.1 hP hD hS 4 0 rfl rfl (vp_in_nI (by omega) (by decide)) d_X3_copyFrom_68 (fun H locs hP hD hS => ?_)
          have hP : va_P D vwCl [(h, .inr (2, [.ref w, .ref y, .ref a, .ref u, .int 0, .int 0, .int rt, .int lw])), (w, .inl (cI, 12, .inl f1)), (y, .inl (cI, 12, .inl f2)), (a, .inl (cI, 12, .inl f3)), (u, .inl (cI, 3, .inl (upd f4 (nI j_8 : Int32).toNatClampNeg (0 : Int32)))), (h2, .inr (2, [.ref w2, .ref y2, .ref a2, .ref u2, .int 0, .int 0, .int rt2, .int lw2])), (w2, .inl (cI, 12, .inl (fun _ => 0))), (y2, .inl (cI, 12, .inl (fun _ => 0))), (a2, .inl (cI, 12, .inl (fun _ => 0))), (u2, .inl (cI, 3, .inl (fun _ => 0)))] H := hP
          have hD : va_D A [(h, .inr (2, [.ref w, .ref y, .ref a, .ref u, .int 0, .int 0, .int rt, .int lw])), (w, .inl (cI, 12, .inl f1)), (y, .inl (cI, 12, .inl f2)), (a, .inl (cI, 12, .inl f3)), (u, .inl (cI, 3, .inl (upd f4 (nI j_8 : Int32).toNatClampNeg (0 : Int32)))), (h2, .inr (2, [.ref w2, .ref y2, .ref a2, .ref u2, .int 0, .int 0, .int rt2, .int lw2])), (w2, .inl (cI, 12, .inl (fun _ => 0))), (y2, .inl (cI, 12, .inl (fun _ => 0))), (a2, .inl (cI, 12, .inl (fun _ => 0))), (u2, .inl (cI, 3, .inl (fun _ => 0)))] := hD
          refine lv_iinc (v := nI (j_8 + 1)) (lv' := [(2, .int (nI (j_8 + 1))), (0, .ref h), (1, .ref h2)]) hx hb d_X3_copyFrom_69 hl (k := 0) rfl (nI_1 j_8) (by decide) rfl (fun ls hl => ?_)
          refine lv_goto (tgt := 52) hx hb d_X3_copyFrom_72 (by decide) ?_
          exact ih_10 (j_8 + 1) (by first | rfl | omega) (upd f4 (nI j_8 : Int32).toNatClampNeg (0 : Int32))  _ _ _ hP hD hS (lv_sub hl [0, 1, 2] rfl)
      exact key_7 3 0 (by first | rfl | omega) (fun _ => 0)  _ _ _ hP hD hS (lv_sub hl [0, 1, 2] rfl)
    | succ n_3 ih_4 =>
      intro j_2 hj_5 f1 f2 f3  H locs ls hP hD hS hl
      refine lv_iload_n hx hb d_X3_copyFrom_2 rfl (lv_at hl 0 rfl) ?_
      refine lv_bipush (v := 12) hx hb d_X3_copyFrom_3 (by decide) ?_
      refine lv_icmp_ge (tgt := 50) hx hb d_X3_copyFrom_5 (by decide) (fun c_14 => absurd c_14 (mt (nI_leI (a := 12) (b := j_2) (by omega) (by omega)).mp (by omega))) (fun _ => ?_)
      refine lv_aload_n hx hb d_X3_copyFrom_8 rfl (lv_at hl 1 rfl) ?_
      refine va_get (D := D) (ci := 2) (v := .ref w) (C := RX3) (T := TX3) (N := 8) hx hb hg cu_iX3 hown hK.1 hP 0 rfl rfl 0 (by decide) (hg _ k_84) (fun _ h9 => h9) rfl d_X3_copyFrom_9 ?_
      refine lv_iload_n hx hb d_X3_copyFrom_12 rfl (lv_at hl 0 rfl) ?_
      refine lv_aload_n hx hb d_X3_copyFrom_13 rfl (lv_at hl 2 rfl) ?_
      refine va_get (D := D) (ci := 2) (v := .ref w2) (C := RX3) (T := TX3) (N := 8) hx hb hg cu_iX3 hown hK.1 hP 5 rfl rfl 0 (by decide) (hg _ k_84) (fun _ h9 => h9) rfl d_X3_copyFrom_14 ?_
      refine lv_iload_n hx hb d_X3_copyFrom_17 rfl (lv_at hl 0 rfl) ?_
      refine va_iald hx hb hK.1 hP 6 0 rfl rfl (vp_in_nI (by omega) (by decide)) d_X3_copyFrom_18 ?_
      refine cu_topi (y := 0) rfl ?_
      refine va_iast hx hb hK.1 hP hD hS 1 0 rfl rfl (vp_in_nI (by omega) (by decide)) d_X3_copyFrom_19 (fun H locs hP hD hS => ?_)
      have hP : va_P D vwCl [(h, .inr (2, [.ref w, .ref y, .ref a, .ref u, .int 0, .int 0, .int rt, .int lw])), (w, .inl (cI, 12, .inl (upd f1 (nI j_2 : Int32).toNatClampNeg (0 : Int32)))), (y, .inl (cI, 12, .inl f2)), (a, .inl (cI, 12, .inl f3)), (u, .inl (cI, 3, .inl (fun _ => 0))), (h2, .inr (2, [.ref w2, .ref y2, .ref a2, .ref u2, .int 0, .int 0, .int rt2, .int lw2])), (w2, .inl (cI, 12, .inl (fun _ => 0))), (y2, .inl (cI, 12, .inl (fun _ => 0))), (a2, .inl (cI, 12, .inl (fun _ => 0))), (u2, .inl (cI, 3, .inl (fun _ => 0)))] H := hP
      have hD : va_D A [(h, .inr (2, [.ref w, .ref y, .ref a, .ref u, .int 0, .int 0, .int rt, .int lw])), (w, .inl (cI, 12, .inl (upd f1 (nI j_2 : Int32).toNatClampNeg (0 : Int32)))), (y, .inl (cI, 12, .inl f2)), (a, .inl (cI, 12, .inl f3)), (u, .inl (cI, 3, .inl (fun _ => 0))), (h2, .inr (2, [.ref w2, .ref y2, .ref a2, .ref u2, .int 0, .int 0, .int rt2, .int lw2])), (w2, .inl (cI, 12, .inl (fun _ => 0))), (y2, .inl (cI, 12, .inl (fun _ => 0))), (a2, .inl (cI, 12, .inl (fun _ => 0))), (u2, .inl (cI, 3, .inl (fun _ => 0)))] := hD
      refine lv_aload_n hx hb d_X3_copyFrom_20 rfl (lv_at hl 1 rfl) ?_
      refine va_get (D := D) (ci := 2) (v := .ref y) (C := RX3) (T := TX3) (N := 8) hx hb hg cu_iX3 hown hK.1 hP 0 rfl rfl 1 (by decide) (hg _ k_87) (fun _ h9 => h9) rfl d_X3_copyFrom_21 ?_
      refine lv_iload_n hx hb d_X3_copyFrom_24 rfl (lv_at hl 0 rfl) ?_
      refine lv_aload_n hx hb d_X3_copyFrom_25 rfl (lv_at hl 2 rfl) ?_
      refine va_get (D := D) (ci := 2) (v := .ref y2) (C := RX3) (T := TX3) (N := 8) hx hb hg cu_iX3 hown hK.1 hP 5 rfl rfl 1 (by decide) (hg _ k_87) (fun _ h9 => h9) rfl d_X3_copyFrom_26 ?_
      refine lv_iload_n hx hb d_X3_copyFrom_29 rfl (lv_at hl 0 rfl) ?_
      refine va_iald hx hb hK.1 hP 7 0 rfl rfl (vp_in_nI (by omega) (by decide)) d_X3_copyFrom_30 ?_
      refine cu_topi (y := 0) rfl ?_
      refine va_iast hx hb hK.1 hP hD hS 2 0 rfl rfl (vp_in_nI (by omega) (by decide)) d_X3_copyFrom_31 (fun H locs hP hD hS => ?_)
      have hP : va_P D vwCl [(h, .inr (2, [.ref w, .ref y, .ref a, .ref u, .int 0, .int 0, .int rt, .int lw])), (w, .inl (cI, 12, .inl (upd f1 (nI j_2 : Int32).toNatClampNeg (0 : Int32)))), (y, .inl (cI, 12, .inl (upd f2 (nI j_2 : Int32).toNatClampNeg (0 : Int32)))), (a, .inl (cI, 12, .inl f3)), (u, .inl (cI, 3, .inl (fun _ => 0))), (h2, .inr (2, [.ref w2, .ref y2, .ref a2, .ref u2, .int 0, .int 0, .int rt2, .int lw2])), (w2, .inl (cI, 12, .inl (fun _ => 0))), (y2, .inl (cI, 12, .inl (fun _ => 0))), (a2, .inl (cI, 12, .inl (fun _ => 0))), (u2, .inl (cI, 3, .inl (fun _ => 0)))] H := hP
      have hD : va_D A [(h, .inr (2, [.ref w, .ref y, .ref a, .ref u, .int 0, .int 0, .int rt, .int lw])), (w, .inl (cI, 12, .inl (upd f1 (nI j_2 : Int32).toNatClampNeg (0 : Int32)))), (y, .inl (cI, 12, .inl (upd f2 (nI j_2 : Int32).toNatClampNeg (0 : Int32)))), (a, .inl (cI, 12, .inl f3)), (u, .inl (cI, 3, .inl (fun _ => 0))), (h2, .inr (2, [.ref w2, .ref y2, .ref a2, .ref u2, .int 0, .int 0, .int rt2, .int lw2])), (w2, .inl (cI, 12, .inl (fun _ => 0))), (y2, .inl (cI, 12, .inl (fun _ => 0))), (a2, .inl (cI, 12, .inl (fun _ => 0))), (u2, .inl (cI, 3, .inl (fun _ => 0)))] := hD
      refine lv_aload_n hx hb d_X3_copyFrom_32 rfl (lv_at hl 1 rfl) ?_
      refine va_get (D := D) (ci := 2) (v := .ref a) (C := RX3) (T := TX3) (N := 8) hx hb hg cu_iX3 hown hK.1 hP 0 rfl rfl 2 (by decide) (hg _ k_89) (fun _ h9 => h9) rfl d_X3_copyFrom_33 ?_
      refine lv_iload_n hx hb d_X3_copyFrom_36 rfl (lv_at hl 0 rfl) ?_
      refine lv_aload_n hx hb d_X3_copyFrom_37 rfl (lv_at hl 2 rfl) ?_
      refine va_get (D := D) (ci := 2) (v := .ref a2) (C := RX3) (T := TX3) (N := 8) hx hb hg cu_iX3 hown hK.1 hP 5 rfl rfl 2 (by decide) (hg _ k_89) (fun _ h9 => h9) rfl d_X3_copyFrom_38 ?_
      refine lv_iload_n hx hb d_X3_copyFrom_41 rfl (lv_at hl 0 rfl) ?_
      refine va_iald hx hb hK.1 hP 8 0 rfl rfl (vp_in_nI (by omega) (by decide)) d_X3_copyFrom_42 ?_
      refine cu_topi (y := 0) rfl ?_
      refine va_iast hx hb hK.1 hP hD hS 3 0 rfl rfl (vp_in_nI (by omega) (by decide)) d_X3_copyFrom_43 (fun H locs hP hD hS => ?_)
      have hP : va_P D vwCl [(h, .inr (2, [.ref w, .ref y, .ref a, .ref u, .int 0, .int 0, .int rt, .int lw])), (w, .inl (cI, 12, .inl (upd f1 (nI j_2 : Int32).toNatClampNeg (0 : Int32)))), (y, .inl (cI, 12, .inl (upd f2 (nI j_2 : Int32).toNatClampNeg (0 : Int32)))), (a, .inl (cI, 12, .inl (upd f3 (nI j_2 : Int32).toNatClampNeg (0 : Int32)))), (u, .inl (cI, 3, .inl (fun _ => 0))), (h2, .inr (2, [.ref w2, .ref y2, .ref a2, .ref u2, .int 0, .int 0, .int rt2, .int lw2])), (w2, .inl (cI, 12, .inl (fun _ => 0))), (y2, .inl (cI, 12, .inl (fun _ => 0))), (a2, .inl (cI, 12, .inl (fun _ => 0))), (u2, .inl (cI, 3, .inl (fun _ => 0)))] H := hP
      have hD : va_D A [(h, .inr (2, [.ref w, .ref y, .ref a, .ref u, .int 0, .int 0, .int rt, .int lw])), (w, .inl (cI, 12, .inl (upd f1 (nI j_2 : Int32).toNatClampNeg (0 : Int32)))), (y, .inl (cI, 12, .inl (upd f2 (nI j_2 : Int32).toNatClampNeg (0 : Int32)))), (a, .inl (cI, 12, .inl (upd f3 (nI j_2 : Int32).toNatClampNeg (0 : Int32)))), (u, .inl (cI, 3, .inl (fun _ => 0))), (h2, .inr (2, [.ref w2, .ref y2, .ref a2, .ref u2, .int 0, .int 0, .int rt2, .int lw2])), (w2, .inl (cI, 12, .inl (fun _ => 0))), (y2, .inl (cI, 12, .inl (fun _ => 0))), (a2, .inl (cI, 12, .inl (fun _ => 0))), (u2, .inl (cI, 3, .inl (fun _ => 0)))] := hD
      refine lv_iinc (v := nI (j_2 + 1)) (lv' := [(2, .int (nI (j_2 + 1))), (0, .ref h), (1, .ref h2)]) hx hb d_X3_copyFrom_44 hl (k := 0) rfl (nI_1 j_2) (by decide) rfl (fun ls hl => ?_)
      refine lv_goto (tgt := 2) hx hb d_X3_copyFrom_47 (by decide) ?_
      exact ih_4 (j_2 + 1) (by first | rfl | omega) (upd f1 (nI j_2 : Int32).toNatClampNeg (0 : Int32)) (upd f2 (nI j_2 : Int32).toNatClampNeg (0 : Int32)) (upd f3 (nI j_2 : Int32).toNatClampNeg (0 : Int32))  _ _ _ hP hD hS (lv_sub hl [0, 1, 2] rfl)
  exact key_1 12 0 (by first | rfl | omega) (fun _ => 0) (fun _ => 0) (fun _ => 0)  _ _ _ hP hD hS (lv_sub hl [0, 1, 2] rfl)
def cu_skp (c1 : Int32) : Int32 := if c1 < 0 then (-1) else if c1 < 2 then 0 else (-1)
set_option maxHeartbeats 4000000 in
set_option maxRecDepth 100000 in
theorem c_X8_keep (l : Launch) (D : va_G) (cI cZ cQ : ClassId) (x tx nw sp ac cr sg sl fl : Nat) (n1 n2 n3 n4 h0 a1 a2 a3 a4 h1 b1 b2 b3 b4 : Nat) (c1 : Int32) : cu_W l D (cu_TY cI cZ cQ) yX8_keep cX8_keep 2 .int 1 22 0 0 [.ref x, .int c1] [(x, .inr (6, [.ref tx, .ref nw, .ref sp, .ref ac, .ref cr, .ref sg, .ref sl, .ref fl, .null, .long 0])), (nw, .inr (2, [.ref n1, .ref n2, .ref n3, .ref n4, .int 0, .int 0, .int 1, .int 0])), (n1, .inl (cI, 12, .inl (fun _ => 0))), (n2, .inl (cI, 12, .inl (fun _ => 0))), (n3, .inl (cI, 12, .inl (fun _ => 0))), (n4, .inl (cI, 3, .inl (fun _ => 0))), (sl, .inl (cQ, 2, .inr (.inr (.inr (.inr (va_up (va_up (fun _ => none) 0 (some h0)) 1 (some h1))))))), (h0, .inr (2, [.ref a1, .ref a2, .ref a3, .ref a4, .int 0, .int 0, .int 1, .int 0])), (a1, .inl (cI, 12, .inl (fun _ => 0))), (a2, .inl (cI, 12, .inl (fun _ => 0))), (a3, .inl (cI, 12, .inl (fun _ => 0))), (a4, .inl (cI, 3, .inl (fun _ => 0))), (h1, .inr (2, [.ref b1, .ref b2, .ref b3, .ref b4, .int 0, .int 0, .int 1, .int 0])), (b1, .inl (cI, 12, .inl (fun _ => 0))), (b2, .inl (cI, 12, .inl (fun _ => 0))), (b3, .inl (cI, 12, .inl (fun _ => 0))), (b4, .inl (cI, 3, .inl (fun _ => 0))), (fl, .inl (cZ, 2, .inl (fun _ => 0)))] (fun r ww => (r = cu_skp c1) ∧ ww = []) := by
  refine cu_W.intro (by decide) (Nat.le_of_ble_eq_true rfl) ?_
  intro p e s m args below meth c Q ls A S hret hP hD hS hA hK hl
  obtain ⟨hx, hb, hml, hown, hg⟩ := S
  have hown : s.vm.findClass RX8 = some m.cls := hown
  have hl : lv_has ls 2 [(0, .ref x), (1, .int c1)] := hl
  refine lv_iload_n hx hb d_X8_keep_0 rfl (lv_at hl 1 rfl) ?_
  refine lv_if_lt (tgt := 9) hx hb d_X8_keep_1 (by decide) (fun c_1 => ?_) (fun c_1 => ?_)
  · skip
    refine lv_iconst (v := (-1)) hx hb d_X8_keep_9 (by decide) ?_
    exact hret _ _ _ _ [] _ _ _ (hP.sub (ws' := []) [] rfl) (hD.sub (ws' := []) [] (by decide) rfl) hS (Nat.le_of_ble_eq_true rfl) (Nat.le_of_ble_eq_true rfl) d_X8_keep_10 (rfl) ⟨by unfold cu_skp; rw [if_pos c_1], rfl⟩
  · skip
    refine lv_iload_n hx hb d_X8_keep_4 rfl (lv_at hl 1 rfl) ?_
    refine lv_iconst (v := 2) hx hb d_X8_keep_5 (by decide) ?_
    refine lv_icmp_lt (tgt := 11) hx hb d_X8_keep_6 (by decide) (fun c_2 => ?_) (fun c_2 => ?_)
    · skip
      rcases cu_two c_1 c_2 with e9 | e9
      · skip
        subst e9
        refine lv_aload_n hx hb d_X8_keep_11 rfl (lv_at hl 0 rfl) ?_
        refine va_get (D := D) (ci := 6) (v := .ref sl) (C := RX8) (T := TX8) (N := 10) hx hb hg cu_iX8 hown hK.1 hP 0 rfl rfl 6 (by decide) (hg _ k_185) (fun _ h9 => h9) rfl d_X8_keep_12 ?_
        refine lv_iload_n hx hb d_X8_keep_15 rfl (lv_at hl 1 rfl) ?_
        refine va_aldq hx hb hK.1 hP 6 2 rfl rfl (vp_in_nI (n := 0) (N := 2) (Nat.le_of_ble_eq_true rfl) (by decide)) d_X8_keep_16 ?_
        refine cu_topv (y := .ref h0) (rfl) ?_
        refine lv_aload_n hx hb d_X8_keep_17 rfl (lv_at hl 0 rfl) ?_
        refine va_get (D := D) (ci := 6) (v := .ref nw) (C := RX8) (T := TX8) (N := 10) hx hb hg cu_iX8 hown hK.1 hP 0 rfl rfl 1 (by decide) (hg _ k_180) (fun _ h9 => h9) rfl d_X8_keep_18 ?_
        refine cu_VV (wc := [(h0, .inr (2, [.ref a1, .ref a2, .ref a3, .ref a4, .int 0, .int 0, .int 1, .int 0])), (a1, .inl (cI, 12, .inl (fun _ => 0))), (a2, .inl (cI, 12, .inl (fun _ => 0))), (a3, .inl (cI, 12, .inl (fun _ => 0))), (a4, .inl (cI, 3, .inl (fun _ => 0))), (nw, .inr (2, [.ref n1, .ref n2, .ref n3, .ref n4, .int 0, .int 0, .int 1, .int 0])), (n1, .inl (cI, 12, .inl (fun _ => 0))), (n2, .inl (cI, 12, .inl (fun _ => 0))), (n3, .inl (cI, 12, .inl (fun _ => 0))), (n4, .inl (cI, 3, .inl (fun _ => 0)))]) (wr := [(x, .inr (6, [.ref tx, .ref nw, .ref sp, .ref ac, .ref cr, .ref sg, .ref sl, .ref fl, .null, .long 0])), (sl, .inl (cQ, 2, .inr (.inr (.inr (.inr (va_up (va_up (fun _ => none) 0 (some h0)) 1 (some h1))))))), (h1, .inr (2, [.ref b1, .ref b2, .ref b3, .ref b4, .int 0, .int 0, .int 1, .int 0])), (b1, .inl (cI, 12, .inl (fun _ => 0))), (b2, .inl (cI, 12, .inl (fun _ => 0))), (b3, .inl (cI, 12, .inl (fun _ => 0))), (b4, .inl (cI, 3, .inl (fun _ => 0))), (fl, .inl (cZ, 2, .inl (fun _ => 0)))]) (rest := []) [.ref nw] ⟨hx, hb, hml, hown, hg⟩ (c_X3_copyFrom l D cI cZ cQ h0 a1 a2 a3 a4 nw n1 n2 n3 n4 1 0 1 0) hd_X3_copyFrom k_269 k_266 k_267 k_268 k_45 ⟨Nat.le_of_ble_eq_true rfl, Nat.le_of_ble_eq_true rfl⟩ ⟨Nat.le_of_ble_eq_true rfl, Nat.le_of_ble_eq_true rfl⟩ hP hD hS hA hK [7, 8, 9, 10, 11, 1, 2, 3, 4, 5] [0, 6, 12, 13, 14, 15, 16, 17] rfl rfl (by decide) (by decide) (by decide) 0 rfl rfl rfl hl.1 rfl (Nat.le_of_ble_eq_true rfl) d_X8_keep_21 (fun w_5 H locs hw_4 hP hD hS => ?_)
        subst hw_4
        have hP : va_P D vwCl [(x, .inr (6, [.ref tx, .ref nw, .ref sp, .ref ac, .ref cr, .ref sg, .ref sl, .ref fl, .null, .long 0])), (sl, .inl (cQ, 2, .inr (.inr (.inr (.inr (va_up (va_up (fun _ => none) 0 (some h0)) 1 (some h1))))))), (h1, .inr (2, [.ref b1, .ref b2, .ref b3, .ref b4, .int 0, .int 0, .int 1, .int 0])), (b1, .inl (cI, 12, .inl (fun _ => 0))), (b2, .inl (cI, 12, .inl (fun _ => 0))), (b3, .inl (cI, 12, .inl (fun _ => 0))), (b4, .inl (cI, 3, .inl (fun _ => 0))), (fl, .inl (cZ, 2, .inl (fun _ => 0))), (h0, .inr (2, [.ref a1, .ref a2, .ref a3, .ref a4, .int 0, .int 0, .int 1, .int 0])), (nw, .inr (2, [.ref n1, .ref n2, .ref n3, .ref n4, .int 0, .int 0, .int 1, .int 0]))] H := hP
        have hD : va_D A [(x, .inr (6, [.ref tx, .ref nw, .ref sp, .ref ac, .ref cr, .ref sg, .ref sl, .ref fl, .null, .long 0])), (sl, .inl (cQ, 2, .inr (.inr (.inr (.inr (va_up (va_up (fun _ => none) 0 (some h0)) 1 (some h1))))))), (h1, .inr (2, [.ref b1, .ref b2, .ref b3, .ref b4, .int 0, .int 0, .int 1, .int 0])), (b1, .inl (cI, 12, .inl (fun _ => 0))), (b2, .inl (cI, 12, .inl (fun _ => 0))), (b3, .inl (cI, 12, .inl (fun _ => 0))), (b4, .inl (cI, 3, .inl (fun _ => 0))), (fl, .inl (cZ, 2, .inl (fun _ => 0))), (h0, .inr (2, [.ref a1, .ref a2, .ref a3, .ref a4, .int 0, .int 0, .int 1, .int 0])), (nw, .inr (2, [.ref n1, .ref n2, .ref n3, .ref n4, .int 0, .int 0, .int 1, .int 0]))] := hD
        refine lv_aload_n hx hb d_X8_keep_24 rfl (lv_at hl 0 rfl) ?_
        refine va_get (D := D) (ci := 6) (v := .ref fl) (C := RX8) (T := TX8) (N := 10) hx hb hg cu_iX8 hown hK.1 hP 0 rfl rfl 7 (by decide) (hg _ k_186) (fun _ h9 => h9) rfl d_X8_keep_25 ?_
        refine lv_iload_n hx hb d_X8_keep_28 rfl (lv_at hl 1 rfl) ?_
        refine lv_iconst (v := 1) hx hb d_X8_keep_29 (by decide) ?_
        refine va_zast hx hb hK.1 hP hD hS 7 1 rfl rfl (vp_in_nI (n := 0) (N := 2) (Nat.le_of_ble_eq_true rfl) (by decide)) d_X8_keep_30 (fun H locs hP hD hS => ?_)
        have hP : va_P D vwCl [(x, .inr (6, [.ref tx, .ref nw, .ref sp, .ref ac, .ref cr, .ref sg, .ref sl, .ref fl, .null, .long 0])), (sl, .inl (cQ, 2, .inr (.inr (.inr (.inr (va_up (va_up (fun _ => none) 0 (some h0)) 1 (some h1))))))), (h1, .inr (2, [.ref b1, .ref b2, .ref b3, .ref b4, .int 0, .int 0, .int 1, .int 0])), (b1, .inl (cI, 12, .inl (fun _ => 0))), (b2, .inl (cI, 12, .inl (fun _ => 0))), (b3, .inl (cI, 12, .inl (fun _ => 0))), (b4, .inl (cI, 3, .inl (fun _ => 0))), (fl, .inl (cZ, 2, .inl (upd (fun _ => 0) 0 (vp_nar .boolean (1 : Int32))))), (h0, .inr (2, [.ref a1, .ref a2, .ref a3, .ref a4, .int 0, .int 0, .int 1, .int 0])), (nw, .inr (2, [.ref n1, .ref n2, .ref n3, .ref n4, .int 0, .int 0, .int 1, .int 0]))] H := hP
        have hD : va_D A [(x, .inr (6, [.ref tx, .ref nw, .ref sp, .ref ac, .ref cr, .ref sg, .ref sl, .ref fl, .null, .long 0])), (sl, .inl (cQ, 2, .inr (.inr (.inr (.inr (va_up (va_up (fun _ => none) 0 (some h0)) 1 (some h1))))))), (h1, .inr (2, [.ref b1, .ref b2, .ref b3, .ref b4, .int 0, .int 0, .int 1, .int 0])), (b1, .inl (cI, 12, .inl (fun _ => 0))), (b2, .inl (cI, 12, .inl (fun _ => 0))), (b3, .inl (cI, 12, .inl (fun _ => 0))), (b4, .inl (cI, 3, .inl (fun _ => 0))), (fl, .inl (cZ, 2, .inl (upd (fun _ => 0) 0 (vp_nar .boolean (1 : Int32))))), (h0, .inr (2, [.ref a1, .ref a2, .ref a3, .ref a4, .int 0, .int 0, .int 1, .int 0])), (nw, .inr (2, [.ref n1, .ref n2, .ref n3, .ref n4, .int 0, .int 0, .int 1, .int 0]))] := hD
        refine lv_aload_n hx hb d_X8_keep_31 rfl (lv_at hl 0 rfl) ?_
        refine va_get (D := D) (ci := 6) (v := .ref nw) (C := RX8) (T := TX8) (N := 10) hx hb hg cu_iX8 hown hK.1 hP 0 rfl rfl 1 (by decide) (hg _ k_180) (fun _ h9 => h9) rfl d_X8_keep_32 ?_
        refine va_get (D := D) (ci := 2) (v := .int 0) (C := RX3) (T := TX3) (N := 8) hx hb hg cu_iX3 hown hK.1 hP 9 rfl rfl 4 (by decide) (hg _ k_96) (fun _ h9 => h9) rfl d_X8_keep_35 ?_
        exact hret _ _ _ _ [] _ _ _ (hP.sub (ws' := []) [] rfl) (hD.sub (ws' := []) [] (by decide) rfl) hS (Nat.le_of_ble_eq_true rfl) (Nat.le_of_ble_eq_true rfl) d_X8_keep_38 (rfl) ⟨by unfold cu_skp; rw [if_neg c_1, if_pos c_2], rfl⟩
      · skip
        subst e9
        refine lv_aload_n hx hb d_X8_keep_11 rfl (lv_at hl 0 rfl) ?_
        refine va_get (D := D) (ci := 6) (v := .ref sl) (C := RX8) (T := TX8) (N := 10) hx hb hg cu_iX8 hown hK.1 hP 0 rfl rfl 6 (by decide) (hg _ k_185) (fun _ h9 => h9) rfl d_X8_keep_12 ?_
        refine lv_iload_n hx hb d_X8_keep_15 rfl (lv_at hl 1 rfl) ?_
        refine va_aldq hx hb hK.1 hP 6 2 rfl rfl (vp_in_nI (n := 1) (N := 2) (Nat.le_of_ble_eq_true rfl) (by decide)) d_X8_keep_16 ?_
        refine cu_topv (y := .ref h1) (rfl) ?_
        refine lv_aload_n hx hb d_X8_keep_17 rfl (lv_at hl 0 rfl) ?_
        refine va_get (D := D) (ci := 6) (v := .ref nw) (C := RX8) (T := TX8) (N := 10) hx hb hg cu_iX8 hown hK.1 hP 0 rfl rfl 1 (by decide) (hg _ k_180) (fun _ h9 => h9) rfl d_X8_keep_18 ?_
        refine cu_VV (wc := [(h1, .inr (2, [.ref b1, .ref b2, .ref b3, .ref b4, .int 0, .int 0, .int 1, .int 0])), (b1, .inl (cI, 12, .inl (fun _ => 0))), (b2, .inl (cI, 12, .inl (fun _ => 0))), (b3, .inl (cI, 12, .inl (fun _ => 0))), (b4, .inl (cI, 3, .inl (fun _ => 0))), (nw, .inr (2, [.ref n1, .ref n2, .ref n3, .ref n4, .int 0, .int 0, .int 1, .int 0])), (n1, .inl (cI, 12, .inl (fun _ => 0))), (n2, .inl (cI, 12, .inl (fun _ => 0))), (n3, .inl (cI, 12, .inl (fun _ => 0))), (n4, .inl (cI, 3, .inl (fun _ => 0)))]) (wr := [(x, .inr (6, [.ref tx, .ref nw, .ref sp, .ref ac, .ref cr, .ref sg, .ref sl, .ref fl, .null, .long 0])), (sl, .inl (cQ, 2, .inr (.inr (.inr (.inr (va_up (va_up (fun _ => none) 0 (some h0)) 1 (some h1))))))), (h0, .inr (2, [.ref a1, .ref a2, .ref a3, .ref a4, .int 0, .int 0, .int 1, .int 0])), (a1, .inl (cI, 12, .inl (fun _ => 0))), (a2, .inl (cI, 12, .inl (fun _ => 0))), (a3, .inl (cI, 12, .inl (fun _ => 0))), (a4, .inl (cI, 3, .inl (fun _ => 0))), (fl, .inl (cZ, 2, .inl (fun _ => 0)))]) (rest := []) [.ref nw] ⟨hx, hb, hml, hown, hg⟩ (c_X3_copyFrom l D cI cZ cQ h1 b1 b2 b3 b4 nw n1 n2 n3 n4 1 0 1 0) hd_X3_copyFrom k_269 k_266 k_267 k_268 k_45 ⟨Nat.le_of_ble_eq_true rfl, Nat.le_of_ble_eq_true rfl⟩ ⟨Nat.le_of_ble_eq_true rfl, Nat.le_of_ble_eq_true rfl⟩ hP hD hS hA hK [12, 13, 14, 15, 16, 1, 2, 3, 4, 5] [0, 6, 7, 8, 9, 10, 11, 17] rfl rfl (by decide) (by decide) (by decide) 0 rfl rfl rfl hl.1 rfl (Nat.le_of_ble_eq_true rfl) d_X8_keep_21 (fun w_8 H locs hw_7 hP hD hS => ?_)
        subst hw_7
        have hP : va_P D vwCl [(x, .inr (6, [.ref tx, .ref nw, .ref sp, .ref ac, .ref cr, .ref sg, .ref sl, .ref fl, .null, .long 0])), (sl, .inl (cQ, 2, .inr (.inr (.inr (.inr (va_up (va_up (fun _ => none) 0 (some h0)) 1 (some h1))))))), (h0, .inr (2, [.ref a1, .ref a2, .ref a3, .ref a4, .int 0, .int 0, .int 1, .int 0])), (a1, .inl (cI, 12, .inl (fun _ => 0))), (a2, .inl (cI, 12, .inl (fun _ => 0))), (a3, .inl (cI, 12, .inl (fun _ => 0))), (a4, .inl (cI, 3, .inl (fun _ => 0))), (fl, .inl (cZ, 2, .inl (fun _ => 0))), (h1, .inr (2, [.ref b1, .ref b2, .ref b3, .ref b4, .int 0, .int 0, .int 1, .int 0])), (nw, .inr (2, [.ref n1, .ref n2, .ref n3, .ref n4, .int 0, .int 0, .int 1, .int 0]))] H := hP
        have hD : va_D A [(x, .inr (6, [.ref tx, .ref nw, .ref sp, .ref ac, .ref cr, .ref sg, .ref sl, .ref fl, .null, .long 0])), (sl, .inl (cQ, 2, .inr (.inr (.inr (.inr (va_up (va_up (fun _ => none) 0 (some h0)) 1 (some h1))))))), (h0, .inr (2, [.ref a1, .ref a2, .ref a3, .ref a4, .int 0, .int 0, .int 1, .int 0])), (a1, .inl (cI, 12, .inl (fun _ => 0))), (a2, .inl (cI, 12, .inl (fun _ => 0))), (a3, .inl (cI, 12, .inl (fun _ => 0))), (a4, .inl (cI, 3, .inl (fun _ => 0))), (fl, .inl (cZ, 2, .inl (fun _ => 0))), (h1, .inr (2, [.ref b1, .ref b2, .ref b3, .ref b4, .int 0, .int 0, .int 1, .int 0])), (nw, .inr (2, [.ref n1, .ref n2, .ref n3, .ref n4, .int 0, .int 0, .int 1, .int 0]))] := hD
        refine lv_aload_n hx hb d_X8_keep_24 rfl (lv_at hl 0 rfl) ?_
        refine va_get (D := D) (ci := 6) (v := .ref fl) (C := RX8) (T := TX8) (N := 10) hx hb hg cu_iX8 hown hK.1 hP 0 rfl rfl 7 (by decide) (hg _ k_186) (fun _ h9 => h9) rfl d_X8_keep_25 ?_
        refine lv_iload_n hx hb d_X8_keep_28 rfl (lv_at hl 1 rfl) ?_
        refine lv_iconst (v := 1) hx hb d_X8_keep_29 (by decide) ?_
        refine va_zast hx hb hK.1 hP hD hS 7 1 rfl rfl (vp_in_nI (n := 1) (N := 2) (Nat.le_of_ble_eq_true rfl) (by decide)) d_X8_keep_30 (fun H locs hP hD hS => ?_)
        have hP : va_P D vwCl [(x, .inr (6, [.ref tx, .ref nw, .ref sp, .ref ac, .ref cr, .ref sg, .ref sl, .ref fl, .null, .long 0])), (sl, .inl (cQ, 2, .inr (.inr (.inr (.inr (va_up (va_up (fun _ => none) 0 (some h0)) 1 (some h1))))))), (h0, .inr (2, [.ref a1, .ref a2, .ref a3, .ref a4, .int 0, .int 0, .int 1, .int 0])), (a1, .inl (cI, 12, .inl (fun _ => 0))), (a2, .inl (cI, 12, .inl (fun _ => 0))), (a3, .inl (cI, 12, .inl (fun _ => 0))), (a4, .inl (cI, 3, .inl (fun _ => 0))), (fl, .inl (cZ, 2, .inl (upd (fun _ => 0) 1 (vp_nar .boolean (1 : Int32))))), (h1, .inr (2, [.ref b1, .ref b2, .ref b3, .ref b4, .int 0, .int 0, .int 1, .int 0])), (nw, .inr (2, [.ref n1, .ref n2, .ref n3, .ref n4, .int 0, .int 0, .int 1, .int 0]))] H := hP
        have hD : va_D A [(x, .inr (6, [.ref tx, .ref nw, .ref sp, .ref ac, .ref cr, .ref sg, .ref sl, .ref fl, .null, .long 0])), (sl, .inl (cQ, 2, .inr (.inr (.inr (.inr (va_up (va_up (fun _ => none) 0 (some h0)) 1 (some h1))))))), (h0, .inr (2, [.ref a1, .ref a2, .ref a3, .ref a4, .int 0, .int 0, .int 1, .int 0])), (a1, .inl (cI, 12, .inl (fun _ => 0))), (a2, .inl (cI, 12, .inl (fun _ => 0))), (a3, .inl (cI, 12, .inl (fun _ => 0))), (a4, .inl (cI, 3, .inl (fun _ => 0))), (fl, .inl (cZ, 2, .inl (upd (fun _ => 0) 1 (vp_nar .boolean (1 : Int32))))), (h1, .inr (2, [.ref b1, .ref b2, .ref b3, .ref b4, .int 0, .int 0, .int 1, .int 0])), (nw, .inr (2, [.ref n1, .ref n2, .ref n3, .ref n4, .int 0, .int 0, .int 1, .int 0]))] := hD
        refine lv_aload_n hx hb d_X8_keep_31 rfl (lv_at hl 0 rfl) ?_
        refine va_get (D := D) (ci := 6) (v := .ref nw) (C := RX8) (T := TX8) (N := 10) hx hb hg cu_iX8 hown hK.1 hP 0 rfl rfl 1 (by decide) (hg _ k_180) (fun _ h9 => h9) rfl d_X8_keep_32 ?_
        refine va_get (D := D) (ci := 2) (v := .int 0) (C := RX3) (T := TX3) (N := 8) hx hb hg cu_iX3 hown hK.1 hP 9 rfl rfl 4 (by decide) (hg _ k_96) (fun _ h9 => h9) rfl d_X8_keep_35 ?_
        exact hret _ _ _ _ [] _ _ _ (hP.sub (ws' := []) [] rfl) (hD.sub (ws' := []) [] (by decide) rfl) hS (Nat.le_of_ble_eq_true rfl) (Nat.le_of_ble_eq_true rfl) d_X8_keep_38 (rfl) ⟨by unfold cu_skp; rw [if_neg c_1, if_pos c_2], rfl⟩
    · skip
      refine lv_iconst (v := (-1)) hx hb d_X8_keep_9 (by decide) ?_
      exact hret _ _ _ _ [] _ _ _ (hP.sub (ws' := []) [] rfl) (hD.sub (ws' := []) [] (by decide) rfl) hS (Nat.le_of_ble_eq_true rfl) (Nat.le_of_ble_eq_true rfl) d_X8_keep_10 (rfl) ⟨by unfold cu_skp; rw [if_neg c_1, if_neg c_2], rfl⟩
def cu_sdr (c1 : Int32) : Int32 := if c1 < 1 then (-2) else if 20 < c1 then (-2) else 0
set_option maxHeartbeats 4000000 in
set_option maxRecDepth 100000 in
theorem c_X8_drawn (l : Launch) (D : va_G) (cI cZ cQ : ClassId) (x tx nw sp ac cr sg sl fl : Nat) (w y a u : Nat) (c1 : Int32) : cu_W l D (cu_TY cI cZ cQ) yX8_drawn cX8_drawn 4 .int 2 46 0 0 [.ref x, .int c1] [(x, .inr (6, [.ref tx, .ref nw, .ref sp, .ref ac, .ref cr, .ref sg, .ref sl, .ref fl, .null, .long 0])), (nw, .inr (2, [.ref w, .ref y, .ref a, .ref u, .int 0, .int 0, .int 1, .int 0]))] (fun r ww => (r = cu_sdr c1) ∧ ww = []) := by
  refine cu_W.intro (by decide) (Nat.le_of_ble_eq_true rfl) ?_
  intro p e s m args below meth c Q ls A S hret hP hD hS hA hK hl
  obtain ⟨hx, hb, hml, hown, hg⟩ := S
  have hown : s.vm.findClass RX8 = some m.cls := hown
  have hl : lv_has ls 4 [(0, .ref x), (1, .int c1)] := hl
  refine lv_iload_n hx hb d_X8_drawn_0 rfl (lv_at hl 1 rfl) ?_
  refine lv_iconst (v := 1) hx hb d_X8_drawn_1 (by decide) ?_
  refine lv_icmp_lt (tgt := 11) hx hb d_X8_drawn_2 (by decide) (fun c_1 => ?_) (fun c_1 => ?_)
  · skip
    refine lv_bipush (v := (-2)) hx hb d_X8_drawn_11 (by decide) ?_
    exact hret _ _ _ _ [] _ _ _ (hP.sub (ws' := []) [] rfl) (hD.sub (ws' := []) [] (by decide) rfl) hS (Nat.le_of_ble_eq_true rfl) (Nat.le_of_ble_eq_true rfl) d_X8_drawn_13 (rfl) ⟨by unfold cu_sdr; rw [if_pos c_1], rfl⟩
  · skip
    refine lv_iload_n hx hb d_X8_drawn_5 rfl (lv_at hl 1 rfl) ?_
    refine lv_bipush (v := 20) hx hb d_X8_drawn_6 (by decide) ?_
    refine lv_icmp_le (tgt := 14) hx hb d_X8_drawn_8 (by decide) (fun c_2 => ?_) (fun c_2 => ?_)
    · skip
      obtain ⟨k9, hk9, e9⟩ := cu_nat 1 20 (by decide) (by decide) c_1 (Int32.not_lt.mpr c_2)
      subst e9
      refine lv_iconst (v := 0) hx hb d_X8_drawn_14 (by decide) ?_
      refine lv_istore_n (lv' := [(2, .int 0), (0, .ref x), (1, .int (nI k9))]) hx hb d_X8_drawn_15 rfl hl (by decide) rfl (fun ls hl => ?_)
      refine lv_iconst (v := 0) hx hb d_X8_drawn_16 (by decide) ?_
      refine lv_istore_n (lv' := [(3, .int 0), (2, .int 0), (0, .ref x), (1, .int (nI k9))]) hx hb d_X8_drawn_17 rfl hl (by decide) rfl (fun ls hl => ?_)
      have key_3 : ∀ (n_5 j_4 : Nat) (hj_7 : j_4 + n_5 = k9) (sv : Int64)  (H : Heap) (locs : List Loc) (ls : Array Slot) (hP : va_P D vwCl [(x, .inr (6, [.ref tx, .ref nw, .ref sp, .ref ac, .ref cr, .ref sg, .ref sl, .ref fl, .null, .long sv])), (nw, .inr (2, [.ref w, .ref y, .ref a, .ref u, .int 0, .int 0, .int 1, .int 0]))] H) (hD : va_D A [(x, .inr (6, [.ref tx, .ref nw, .ref sp, .ref ac, .ref cr, .ref sg, .ref sl, .ref fl, .null, .long sv])), (nw, .inr (2, [.ref w, .ref y, .ref a, .ref u, .int 0, .int 0, .int 1, .int 0]))]) (hS : va_S A s.heap H locs) (hl : lv_has ls 4 [(3, .int (nI j_4)), (2, .int 0), (0, .ref x), (1, .int (nI k9))]), W p l e (cu_rm 2 46 0 0) s m args below meth c H locs 0 0 Q (F0 m 18 ls []) := by
        intro n_5
        induction n_5 with
        | zero =>
          intro j_4 hj_7 sv  H locs ls hP hD hS hl
          obtain rfl : k9 = j_4 := by omega
          have hl : lv_has ls 4 [(3, .int (nI k9)), (2, .int 0), (0, .ref x), (1, .int (nI k9))] := hl
          have hP : va_P D vwCl [(x, .inr (6, [.ref tx, .ref nw, .ref sp, .ref ac, .ref cr, .ref sg, .ref sl, .ref fl, .null, .long sv])), (nw, .inr (2, [.ref w, .ref y, .ref a, .ref u, .int 0, .int 0, .int 1, .int 0]))] H := hP
          have hD : va_D A [(x, .inr (6, [.ref tx, .ref nw, .ref sp, .ref ac, .ref cr, .ref sg, .ref sl, .ref fl, .null, .long sv])), (nw, .inr (2, [.ref w, .ref y, .ref a, .ref u, .int 0, .int 0, .int 1, .int 0]))] := hD
          refine lv_iload_n hx hb d_X8_drawn_18 rfl (lv_at hl 0 rfl) ?_
          refine lv_iload_n hx hb d_X8_drawn_19 rfl (lv_at hl 3 rfl) ?_
          refine lv_icmp_ge (tgt := 66) hx hb d_X8_drawn_20 (by decide) (fun _ => ?_) (fun c_8 => absurd (Int32.le_refl _) c_8)
          refine lv_iload_n hx hb d_X8_drawn_66 rfl (lv_at hl 1 rfl) ?_
          exact hret _ _ _ _ [] _ _ _ (hP.sub (ws' := []) [] rfl) (hD.sub (ws' := []) [] (by decide) rfl) hS (Nat.le_of_ble_eq_true rfl) (Nat.le_of_ble_eq_true rfl) d_X8_drawn_67 (rfl) ⟨by unfold cu_sdr; rw [if_neg c_1, if_neg (Int32.not_lt.mpr c_2)], rfl⟩
        | succ n_5 ih_6 =>
          intro j_4 hj_7 sv  H locs ls hP hD hS hl
          refine lv_iload_n hx hb d_X8_drawn_18 rfl (lv_at hl 0 rfl) ?_
          refine lv_iload_n hx hb d_X8_drawn_19 rfl (lv_at hl 3 rfl) ?_
          refine lv_icmp_ge (tgt := 66) hx hb d_X8_drawn_20 (by decide) (fun c_9 => absurd c_9 (mt (nI_leI (by omega) (by omega)).mp (by omega))) (fun _ => ?_)
          refine lv_aload_n hx hb d_X8_drawn_23 rfl (lv_at hl 2 rfl) ?_
          refine lv_aload_n hx hb d_X8_drawn_24 rfl (lv_at hl 2 rfl) ?_
          refine va_get (D := D) (ci := 6) (v := .long sv) (C := RX8) (T := TX8) (N := 10) hx hb hg cu_iX8 hown hK.1 hP 0 rfl rfl 9 (by decide) (hg _ k_188) (fun _ h9 => h9) rfl d_X8_drawn_25 ?_
          refine lv_ldc2 (v := 6364136223846793005) hx hb hown (hg _ k_654) d_X8_drawn_28 ?_
          refine lv_lmul hx hb d_X8_drawn_31 ?_
          refine lv_ldc2 (v := 1442695040888963407) hx hb hown (hg _ k_655) d_X8_drawn_32 ?_
          refine lv_ladd hx hb d_X8_drawn_35 ?_
          refine va_put (D := D) (ci := 6) (v := .long ((sv * 6364136223846793005) + 1442695040888963407)) (ty := .long) (C := RX8) (T := TX8) (N := 10) hx hb hg cu_iX8 tyX8 tyX8_ok nmX8 hown hK.1 hP hD hS 0 rfl rfl 9 (by decide) (hg _ k_188) (fun _ h9 => h9) rfl (by decide +kernel) rfl rfl (Nat.le_of_ble_eq_true rfl) d_X8_drawn_36 (fun H locs hP hD hS => ?_)
          have hP : va_P D vwCl [(x, .inr (6, [.ref tx, .ref nw, .ref sp, .ref ac, .ref cr, .ref sg, .ref sl, .ref fl, .null, .long ((sv * 6364136223846793005) + 1442695040888963407)])), (nw, .inr (2, [.ref w, .ref y, .ref a, .ref u, .int 0, .int 0, .int 1, .int 0]))] H := hP
          have hD : va_D A [(x, .inr (6, [.ref tx, .ref nw, .ref sp, .ref ac, .ref cr, .ref sg, .ref sl, .ref fl, .null, .long ((sv * 6364136223846793005) + 1442695040888963407)])), (nw, .inr (2, [.ref w, .ref y, .ref a, .ref u, .int 0, .int 0, .int 1, .int 0]))] := hD
          refine lv_aload_n hx hb d_X8_drawn_39 rfl (lv_at hl 2 rfl) ?_
          refine va_get (D := D) (ci := 6) (v := .ref nw) (C := RX8) (T := TX8) (N := 10) hx hb hg cu_iX8 hown hK.1 hP 0 rfl rfl 1 (by decide) (hg _ k_180) (fun _ h9 => h9) rfl d_X8_drawn_40 ?_
          refine lv_aload_n hx hb d_X8_drawn_43 rfl (lv_at hl 2 rfl) ?_
          refine va_get (D := D) (ci := 6) (v := .long ((sv * 6364136223846793005) + 1442695040888963407)) (C := RX8) (T := TX8) (N := 10) hx hb hg cu_iX8 hown hK.1 hP 0 rfl rfl 9 (by decide) (hg _ k_188) (fun _ h9 => h9) rfl d_X8_drawn_44 ?_
          refine lv_bipush (v := 33) hx hb d_X8_drawn_47 (by decide) ?_
          refine lv_lushr (v := (((sv * 6364136223846793005) + 1442695040888963407).toUInt64 >>> (((33 : Int32)).toInt64.toUInt64 &&& Int64.toUInt64 63)).toInt64) hx hb d_X8_drawn_49 rfl ?_
          refine lv_topl (fun g_10 _ => ?_)
          refine lv_l2i (v := g_10.toInt32) hx hb d_X8_drawn_50 rfl ?_
          refine cu_VR (wc := [(nw, .inr (2, [.ref w, .ref y, .ref a, .ref u, .int 0, .int 0, .int 1, .int 0]))]) (rest := []) [.int g_10.toInt32] ⟨hx, hb, hml, hown, hg⟩ (c_X3_recognizes l D cI cZ cQ nw w y a u 1 0 g_10.toInt32) hd_X3_recognizes k_659 k_656 k_657 k_658 k_45 ⟨Nat.le_of_ble_eq_true rfl, Nat.le_of_ble_eq_true rfl⟩ ⟨Nat.le_of_ble_eq_true rfl, Nat.le_of_ble_eq_true rfl⟩ hP hK [1] rfl 0 rfl rfl rfl hl.1 rfl (Nat.le_of_ble_eq_true rfl) d_X8_drawn_51 (fun r_11 hr_12 => ?_)
          subst hr_12
          refine lv_if_eq (tgt := 60) hx hb d_X8_drawn_54 (by decide) (fun _ => ?_) (fun c_13 => absurd (by decide +kernel) c_13)
          refine lv_iinc (v := nI (j_4 + 1)) (lv' := [(3, .int (nI (j_4 + 1))), (2, .int 0), (0, .ref x), (1, .int (nI k9))]) hx hb d_X8_drawn_60 hl (k := 0) rfl (nI_1 j_4) (by decide) rfl (fun ls hl => ?_)
          refine lv_goto (tgt := 18) hx hb d_X8_drawn_63 (by decide) ?_
          exact ih_6 (j_4 + 1) (by first | rfl | omega) ((sv * 6364136223846793005) + 1442695040888963407)  _ _ _ hP hD hS (lv_sub hl [0, 1, 2, 3] rfl)
      exact key_3 k9 0 (by first | rfl | omega) 0  _ _ _ hP hD hS (lv_sub hl [0, 1, 2, 3] rfl)
    · skip
      refine lv_bipush (v := (-2)) hx hb d_X8_drawn_11 (by decide) ?_
      exact hret _ _ _ _ [] _ _ _ (hP.sub (ws' := []) [] rfl) (hD.sub (ws' := []) [] (by decide) rfl) hS (Nat.le_of_ble_eq_true rfl) (Nat.le_of_ble_eq_true rfl) d_X8_drawn_13 (rfl) ⟨by unfold cu_sdr; rw [if_neg c_1, if_pos (Int32.not_le.mp c_2)], rfl⟩
set_option maxHeartbeats 4000000 in
set_option maxRecDepth 100000 in
theorem c_X6_look (l : Launch) (D : va_G) (cI cZ cQ : ClassId) (h w y a u v : Nat) (o w2 y2 a2 u2 : Nat) (rt lw : Int32) : cu_V l D (cu_TY cI cZ cQ) yX6_look cX6_look 5 2 42 0 0 [.ref h, .ref o] [(h, .inr (4, [.ref w, .ref y, .ref a, .ref u, .ref v, .int 1, .int 0, .int 0, .int 0, .int 0, .int 0])), (w, .inl (cI, 12, .inl (fun _ => 0))), (y, .inl (cI, 12, .inl (fun _ => 0))), (o, .inr (2, [.ref w2, .ref y2, .ref a2, .ref u2, .int 0, .int 0, .int rt, .int lw]))] (fun ww => ww = [(h, .inr (4, [.ref w, .ref y, .ref a, .ref u, .ref v, .int 1, .int 0, .int 0, .int 0, .int 0, .int 0])), (w, .inl (cI, 12, .inl (fun _ => 0))), (y, .inl (cI, 12, .inl (fun _ => 0))), (o, .inr (2, [.ref w2, .ref y2, .ref a2, .ref u2, .int 0, .int 0, .int rt, .int lw]))]) := by
  refine cu_V.intro (by decide) (Nat.le_of_ble_eq_true rfl) ?_
  intro p e s m args below meth c Q ls A S hin hret hP hD hS hA hK hl
  obtain ⟨hx, hb, hml, hown, hg⟩ := S
  have hown : s.vm.findClass RX6 = some m.cls := hown
  have hin : meth.name = "look" := hin
  have hl : lv_has ls 5 [(0, .ref h), (1, .ref o)] := hl
  refine lv_iconst (v := 0) hx hb d_X6_look_0 (by decide) ?_
  refine lv_istore_n (lv' := [(2, .int 0), (0, .ref h), (1, .ref o)]) hx hb d_X6_look_1 rfl hl (by decide) rfl (fun ls hl => ?_)
  have key_1 : ∀ (n_3 j_2 : Nat) (hj_5 : j_2 + n_3 = 12)   (H : Heap) (locs : List Loc) (ls : Array Slot) (hP : va_P D vwCl [(h, .inr (4, [.ref w, .ref y, .ref a, .ref u, .ref v, .int 1, .int 0, .int 0, .int 0, .int 0, .int 0])), (w, .inl (cI, 12, .inl (fun _ => 0))), (y, .inl (cI, 12, .inl (fun _ => 0))), (o, .inr (2, [.ref w2, .ref y2, .ref a2, .ref u2, .int 0, .int 0, .int rt, .int lw]))] H) (hD : va_D A [(h, .inr (4, [.ref w, .ref y, .ref a, .ref u, .ref v, .int 1, .int 0, .int 0, .int 0, .int 0, .int 0])), (w, .inl (cI, 12, .inl (fun _ => 0))), (y, .inl (cI, 12, .inl (fun _ => 0))), (o, .inr (2, [.ref w2, .ref y2, .ref a2, .ref u2, .int 0, .int 0, .int rt, .int lw]))]) (hS : va_S A s.heap H locs) (hl : lv_has ls 5 [(2, .int (nI j_2)), (0, .ref h), (1, .ref o)]), W p l e (cu_rm 2 42 0 0) s m args below meth c H locs 0 0 Q (F0 m 2 ls []) := by
    intro n_3
    induction n_3 with
    | zero =>
      intro j_2 hj_5   H locs ls hP hD hS hl
      obtain rfl : 12 = j_2 := by omega
      have hl : lv_has ls 5 [(2, .int 12), (0, .ref h), (1, .ref o)] := hl
      have hP : va_P D vwCl [(h, .inr (4, [.ref w, .ref y, .ref a, .ref u, .ref v, .int 1, .int 0, .int 0, .int 0, .int 0, .int 0])), (w, .inl (cI, 12, .inl (fun _ => 0))), (y, .inl (cI, 12, .inl (fun _ => 0))), (o, .inr (2, [.ref w2, .ref y2, .ref a2, .ref u2, .int 0, .int 0, .int rt, .int lw]))] H := hP
      have hD : va_D A [(h, .inr (4, [.ref w, .ref y, .ref a, .ref u, .ref v, .int 1, .int 0, .int 0, .int 0, .int 0, .int 0])), (w, .inl (cI, 12, .inl (fun _ => 0))), (y, .inl (cI, 12, .inl (fun _ => 0))), (o, .inr (2, [.ref w2, .ref y2, .ref a2, .ref u2, .int 0, .int 0, .int rt, .int lw]))] := hD
      refine lv_iload_n hx hb d_X6_look_2 rfl (lv_at hl 0 rfl) ?_
      refine lv_bipush (v := 12) hx hb d_X6_look_3 (by decide) ?_
      refine lv_icmp_ge (tgt := 91) hx hb d_X6_look_5 (by decide) (fun _ => ?_) (fun c_6 => absurd (by decide +kernel) c_6)
      exact hret _ _ _ _ [(h, .inr (4, [.ref w, .ref y, .ref a, .ref u, .ref v, .int 1, .int 0, .int 0, .int 0, .int 0, .int 0])), (w, .inl (cI, 12, .inl (fun _ => 0))), (y, .inl (cI, 12, .inl (fun _ => 0))), (o, .inr (2, [.ref w2, .ref y2, .ref a2, .ref u2, .int 0, .int 0, .int rt, .int lw]))] _ _ (hP.sub (ws' := [(h, .inr (4, [.ref w, .ref y, .ref a, .ref u, .ref v, .int 1, .int 0, .int 0, .int 0, .int 0, .int 0])), (w, .inl (cI, 12, .inl (fun _ => 0))), (y, .inl (cI, 12, .inl (fun _ => 0))), (o, .inr (2, [.ref w2, .ref y2, .ref a2, .ref u2, .int 0, .int 0, .int rt, .int lw]))]) [0, 1, 2, 3] rfl) (hD.sub (ws' := [(h, .inr (4, [.ref w, .ref y, .ref a, .ref u, .ref v, .int 1, .int 0, .int 0, .int 0, .int 0, .int 0])), (w, .inl (cI, 12, .inl (fun _ => 0))), (y, .inl (cI, 12, .inl (fun _ => 0))), (o, .inr (2, [.ref w2, .ref y2, .ref a2, .ref u2, .int 0, .int 0, .int rt, .int lw]))]) [0, 1, 2, 3] (by decide) rfl) hS (Nat.le_of_ble_eq_true rfl) (Nat.le_of_ble_eq_true rfl) d_X6_look_91 rfl
    | succ n_3 ih_4 =>
      intro j_2 hj_5   H locs ls hP hD hS hl
      refine lv_iload_n hx hb d_X6_look_2 rfl (lv_at hl 0 rfl) ?_
      refine lv_bipush (v := 12) hx hb d_X6_look_3 (by decide) ?_
      refine lv_icmp_ge (tgt := 91) hx hb d_X6_look_5 (by decide) (fun c_7 => absurd c_7 (mt (nI_leI (a := 12) (b := j_2) (by omega) (by omega)).mp (by omega))) (fun _ => ?_)
      refine lv_aload_n hx hb d_X6_look_8 rfl (lv_at hl 2 rfl) ?_
      refine lv_iload_n hx hb d_X6_look_9 rfl (lv_at hl 0 rfl) ?_
      refine cu_VR (wc := [(o, .inr (2, [.ref w2, .ref y2, .ref a2, .ref u2, .int 0, .int 0, .int rt, .int lw]))]) (rest := []) [.int (nI j_2)] ⟨hx, hb, hml, hown, hg⟩ (c_X3_counts l D cI cZ cQ o w2 y2 a2 u2 rt lw (nI j_2)) hd_X3_counts k_329 k_473 k_327 k_328 k_45 ⟨Nat.le_of_ble_eq_true rfl, Nat.le_of_ble_eq_true rfl⟩ ⟨Nat.le_of_ble_eq_true rfl, Nat.le_of_ble_eq_true rfl⟩ hP hK [3] rfl 0 rfl rfl rfl hl.1 rfl (Nat.le_of_ble_eq_true rfl) d_X6_look_10 (fun r_8 hr_9 => ?_)
      subst hr_9
      refine lv_if_eq (tgt := 25) hx hb d_X6_look_13 (by decide) (fun _ => ?_) (fun c_10 => absurd (by decide +kernel) c_10)
      refine lv_iconst (v := 0) hx hb d_X6_look_25 (by decide) ?_
      refine lv_istore_n (lv' := [(3, .int 0), (2, .int (nI j_2)), (0, .ref h), (1, .ref o)]) hx hb d_X6_look_26 rfl hl (by decide) rfl (fun ls hl => ?_)
      refine lv_aload_n hx hb d_X6_look_27 rfl (lv_at hl 3 rfl) ?_
      refine lv_iload_n hx hb d_X6_look_28 rfl (lv_at hl 1 rfl) ?_
      refine cu_VR (wc := [(o, .inr (2, [.ref w2, .ref y2, .ref a2, .ref u2, .int 0, .int 0, .int rt, .int lw]))]) (rest := []) [.int (nI j_2)] ⟨hx, hb, hml, hown, hg⟩ (c_X3_counts l D cI cZ cQ o w2 y2 a2 u2 rt lw (nI j_2)) hd_X3_counts k_329 k_473 k_327 k_328 k_45 ⟨Nat.le_of_ble_eq_true rfl, Nat.le_of_ble_eq_true rfl⟩ ⟨Nat.le_of_ble_eq_true rfl, Nat.le_of_ble_eq_true rfl⟩ hP hK [3] rfl 0 rfl rfl rfl hl.1 rfl (Nat.le_of_ble_eq_true rfl) d_X6_look_29 (fun r_11 hr_12 => ?_)
      subst hr_12
      refine lv_if_eq (tgt := 43) hx hb d_X6_look_32 (by decide) (fun _ => ?_) (fun c_13 => absurd (by decide +kernel) c_13)
      refine lv_iconst (v := 0) hx hb d_X6_look_43 (by decide) ?_
      refine lv_istore (lv' := [(4, .int 0), (3, .int 0), (2, .int (nI j_2)), (0, .ref h), (1, .ref o)]) hx hb d_X6_look_44 hl (by decide) rfl (fun ls hl => ?_)
      refine lv_iload_n hx hb d_X6_look_46 rfl (lv_at hl 1 rfl) ?_
      refine lv_aload_n hx hb d_X6_look_47 rfl (lv_at hl 3 rfl) ?_
      refine va_get (D := D) (ci := 4) (v := .ref w) (C := RX6) (T := TX6) (N := 11) hx hb hg cu_iX6 hown hK.1 hP 0 rfl rfl 0 (by decide) (hg _ k_431) (fun _ h9 => h9) rfl d_X6_look_48 ?_
      refine lv_iload_n hx hb d_X6_look_51 rfl (lv_at hl 2 rfl) ?_
      refine va_iald hx hb hK.1 hP 1 0 rfl rfl (vp_in_nI (by omega) (by decide)) d_X6_look_52 ?_
      refine cu_topi (y := 0) rfl ?_
      refine lv_icmp_ne (tgt := 67) hx hb d_X6_look_53 (by decide) (fun c_14 => absurd (by decide +kernel) c_14) (fun _ => ?_)
      refine lv_iload hx hb d_X6_look_56 (lv_at hl 0 rfl) ?_
      refine lv_aload_n hx hb d_X6_look_58 rfl (lv_at hl 3 rfl) ?_
      refine va_get (D := D) (ci := 4) (v := .ref y) (C := RX6) (T := TX6) (N := 11) hx hb hg cu_iX6 hown hK.1 hP 0 rfl rfl 1 (by decide) (hg _ k_432) (fun _ h9 => h9) rfl d_X6_look_59 ?_
      refine lv_iload_n hx hb d_X6_look_62 rfl (lv_at hl 2 rfl) ?_
      refine va_iald hx hb hK.1 hP 2 0 rfl rfl (vp_in_nI (by omega) (by decide)) d_X6_look_63 ?_
      refine cu_topi (y := 0) rfl ?_
      refine lv_icmp_eq (tgt := 85) hx hb d_X6_look_64 (by decide) (fun _ => ?_) (fun c_15 => absurd (by decide +kernel) c_15)
      refine lv_iinc (v := nI (j_2 + 1)) (lv' := [(2, .int (nI (j_2 + 1))), (4, .int 0), (3, .int 0), (0, .ref h), (1, .ref o)]) hx hb d_X6_look_85 hl (k := 2) rfl (nI_1 j_2) (by decide) rfl (fun ls hl => ?_)
      refine lv_goto (tgt := 2) hx hb d_X6_look_88 (by decide) ?_
      exact ih_4 (j_2 + 1) (by first | rfl | omega)   _ _ _ hP hD hS (lv_sub hl [0, 3, 4] rfl)
  exact key_1 12 0 (by first | rfl | omega)   _ _ _ hP hD hS (lv_sub hl [0, 1, 2] rfl)
set_option maxHeartbeats 4000000 in
set_option maxRecDepth 100000 in
theorem c_X8_surveyNow (l : Launch) (D : va_G) (cI cZ cQ : ClassId) (x tx nw sp ac cr sg sl fl : Nat) (w y a u : Nat) : cu_Q l D (cu_TY cI cZ cQ) yX8_surveyNow cX8_surveyNow 1 "CommonUnits$Survey" 3 66 6 14034 [.ref x] [(x, .inr (6, [.ref tx, .ref nw, .ref sp, .ref ac, .ref cr, .ref sg, .ref sl, .ref fl, .null, .long 0])), (nw, .inr (2, [.ref w, .ref y, .ref a, .ref u, .int 0, .int 0, .int 1, .int 0]))] (fun uu => ∃ q0 : Nat, ∃ v1 : Nat, ∃ v2 : Nat, ∃ v3 : Nat, ∃ v4 : Nat, ∃ v5 : Nat, uu = (q0, [(x, .inr (6, [.ref tx, .ref nw, .ref sp, .ref ac, .ref cr, .ref sg, .ref sl, .ref fl, .ref q0, .long 0])), (nw, .inr (2, [.ref w, .ref y, .ref a, .ref u, .int 0, .int 0, .int 1, .int 0])), (q0, .inr (4, [.ref v1, .ref v2, .ref v3, .ref v4, .ref v5, .int 1, .int 0, .int 0, .int 0, .int 0, .int 0])), (v1, .inl (cI, 12, .inl (fun _ => 0))), (v2, .inl (cI, 12, .inl (fun _ => 0))), (v3, .inl (cI, 12000, .inl (fun _ => 0))), (v4, .inl (cI, 1000, .inl (fun _ => 0))), (v5, .inl (cI, 999, .inl (fun _ => 0)))])) := by
  refine cu_Q.intro (by decide) (Nat.le_of_ble_eq_true rfl) ?_
  intro p e s m args below meth c Q ls A S hret hP hD hS hA hK hl
  obtain ⟨hx, hb, hml, hown, hg⟩ := S
  have hown : s.vm.findClass RX8 = some m.cls := hown
  have hl : lv_has ls 1 [(0, .ref x)] := hl
  refine lv_aload_n hx hb d_X8_surveyNow_0 rfl (lv_at hl 0 rfl) ?_
  refine va_get (D := D) (ci := 6) (v := .null) (C := RX8) (T := TX8) (N := 10) hx hb hg cu_iX8 hown hK.1 hP 0 rfl rfl 8 (by decide) (hg _ k_187) (fun _ h9 => h9) rfl d_X8_surveyNow_1 ?_
  refine lv_ifnonnullN hx hb d_X8_surveyNow_4 ?_
  refine lv_aload_n hx hb d_X8_surveyNow_7 rfl (lv_at hl 0 rfl) ?_
  refine va_new (ci := 4) (fs := [.null, .null, .null, .null, .null, .int 0, .int 0, .int 0, .int 0, .int 0, .int 0]) (C := RX6) (T := TX6) (N := 11) hx hb hg cu_iX6 tyX6 tyX6_ok hown (hg _ k_425) (hg _ k_426) (hg _ k_53) hK.1 hP hD hS hA rfl (fun j hj => by rcases (show j = 0 ∨ j = 1 ∨ j = 2 ∨ j = 3 ∨ j = 4 ∨ j = 5 ∨ j = 6 ∨ j = 7 ∨ j = 8 ∨ j = 9 ∨ j = 10 by omega) with rfl | rfl | rfl | rfl | rfl | rfl | rfl | rfl | rfl | rfl | rfl <;> rfl) (Nat.le_of_ble_eq_true rfl) (Nat.le_of_ble_eq_true rfl) d_X8_surveyNow_8 (fun q_1 H hP hD hS => ?_)
  have hP : va_P D vwCl [(x, .inr (6, [.ref tx, .ref nw, .ref sp, .ref ac, .ref cr, .ref sg, .ref sl, .ref fl, .null, .long 0])), (nw, .inr (2, [.ref w, .ref y, .ref a, .ref u, .int 0, .int 0, .int 1, .int 0])), (q_1, .inr (4, [.null, .null, .null, .null, .null, .int 0, .int 0, .int 0, .int 0, .int 0, .int 0]))] H := hP
  have hD : va_D A [(x, .inr (6, [.ref tx, .ref nw, .ref sp, .ref ac, .ref cr, .ref sg, .ref sl, .ref fl, .null, .long 0])), (nw, .inr (2, [.ref w, .ref y, .ref a, .ref u, .int 0, .int 0, .int 1, .int 0])), (q_1, .inr (4, [.null, .null, .null, .null, .null, .int 0, .int 0, .int 0, .int 0, .int 0, .int 0]))] := hD
  refine W.widen (k := 1) (n := 11) (Nat.le_of_ble_eq_true rfl) (Nat.le_of_ble_eq_true rfl) ?_
  refine lv_dup hx hb d_X8_surveyNow_11 rfl ?_
  refine cu_NV (wc := [(q_1, .inr (4, [.null, .null, .null, .null, .null, .int 0, .int 0, .int 0, .int 0, .int 0, .int 0]))]) (wr := [(x, .inr (6, [.ref tx, .ref nw, .ref sp, .ref ac, .ref cr, .ref sg, .ref sl, .ref fl, .null, .long 0])), (nw, .inr (2, [.ref w, .ref y, .ref a, .ref u, .int 0, .int 0, .int 1, .int 0]))]) (rest := [.ref q_1, .ref x]) [] ⟨hx, hb, hml, hown, hg⟩ (c_X6_init l D cI cZ cQ q_1) hd_X6_init k_429 hK.2.2.2.2.2.2.2 k_428 k_53 rfl ⟨Nat.le_of_ble_eq_true rfl, Nat.le_of_ble_eq_true rfl⟩ ⟨Nat.le_of_ble_eq_true rfl, Nat.le_of_ble_eq_true rfl⟩ hP hD hS hA hK [2] [0, 1] rfl rfl (by decide) (by decide) (by decide) rfl hl.1 rfl (Nat.le_of_ble_eq_true rfl) d_X8_surveyNow_12 (fun w_4 H locs hw_3 hP hD hS => ?_)
  obtain ⟨w_5, y_6, a_7, u_8, v_9, rfl⟩ := hw_3
  have hP : va_P D vwCl [(x, .inr (6, [.ref tx, .ref nw, .ref sp, .ref ac, .ref cr, .ref sg, .ref sl, .ref fl, .null, .long 0])), (nw, .inr (2, [.ref w, .ref y, .ref a, .ref u, .int 0, .int 0, .int 1, .int 0])), (q_1, .inr (4, [.ref w_5, .ref y_6, .ref a_7, .ref u_8, .ref v_9, .int 1, .int 0, .int 0, .int 0, .int 0, .int 0])), (w_5, .inl (cI, 12, .inl (fun _ => 0))), (y_6, .inl (cI, 12, .inl (fun _ => 0))), (a_7, .inl (cI, 12000, .inl (fun _ => 0))), (u_8, .inl (cI, 1000, .inl (fun _ => 0))), (v_9, .inl (cI, 999, .inl (fun _ => 0)))] H := hP
  have hD : va_D A [(x, .inr (6, [.ref tx, .ref nw, .ref sp, .ref ac, .ref cr, .ref sg, .ref sl, .ref fl, .null, .long 0])), (nw, .inr (2, [.ref w, .ref y, .ref a, .ref u, .int 0, .int 0, .int 1, .int 0])), (q_1, .inr (4, [.ref w_5, .ref y_6, .ref a_7, .ref u_8, .ref v_9, .int 1, .int 0, .int 0, .int 0, .int 0, .int 0])), (w_5, .inl (cI, 12, .inl (fun _ => 0))), (y_6, .inl (cI, 12, .inl (fun _ => 0))), (a_7, .inl (cI, 12000, .inl (fun _ => 0))), (u_8, .inl (cI, 1000, .inl (fun _ => 0))), (v_9, .inl (cI, 999, .inl (fun _ => 0)))] := hD
  refine W.widen (k := 6) (n := 14034) (Nat.le_of_ble_eq_true rfl) (Nat.le_of_ble_eq_true rfl) ?_
  refine va_put (D := D) (ci := 6) (v := .ref q_1) (ty := .object "CommonUnits$Survey") (C := RX8) (T := TX8) (N := 10) hx hb hg cu_iX8 tyX8 tyX8_ok nmX8 hown hK.1 hP hD hS 0 rfl rfl 8 (by decide) (hg _ k_187) (fun _ h9 => h9) rfl (by decide +kernel) rfl rfl (Nat.le_of_ble_eq_true rfl) d_X8_surveyNow_15 (fun H locs hP hD hS => ?_)
  have hP : va_P D vwCl [(x, .inr (6, [.ref tx, .ref nw, .ref sp, .ref ac, .ref cr, .ref sg, .ref sl, .ref fl, .ref q_1, .long 0])), (nw, .inr (2, [.ref w, .ref y, .ref a, .ref u, .int 0, .int 0, .int 1, .int 0])), (q_1, .inr (4, [.ref w_5, .ref y_6, .ref a_7, .ref u_8, .ref v_9, .int 1, .int 0, .int 0, .int 0, .int 0, .int 0])), (w_5, .inl (cI, 12, .inl (fun _ => 0))), (y_6, .inl (cI, 12, .inl (fun _ => 0))), (a_7, .inl (cI, 12000, .inl (fun _ => 0))), (u_8, .inl (cI, 1000, .inl (fun _ => 0))), (v_9, .inl (cI, 999, .inl (fun _ => 0)))] H := hP
  have hD : va_D A [(x, .inr (6, [.ref tx, .ref nw, .ref sp, .ref ac, .ref cr, .ref sg, .ref sl, .ref fl, .ref q_1, .long 0])), (nw, .inr (2, [.ref w, .ref y, .ref a, .ref u, .int 0, .int 0, .int 1, .int 0])), (q_1, .inr (4, [.ref w_5, .ref y_6, .ref a_7, .ref u_8, .ref v_9, .int 1, .int 0, .int 0, .int 0, .int 0, .int 0])), (w_5, .inl (cI, 12, .inl (fun _ => 0))), (y_6, .inl (cI, 12, .inl (fun _ => 0))), (a_7, .inl (cI, 12000, .inl (fun _ => 0))), (u_8, .inl (cI, 1000, .inl (fun _ => 0))), (v_9, .inl (cI, 999, .inl (fun _ => 0)))] := hD
  refine lv_aload_n hx hb d_X8_surveyNow_18 rfl (lv_at hl 0 rfl) ?_
  refine va_get (D := D) (ci := 6) (v := .ref q_1) (C := RX8) (T := TX8) (N := 10) hx hb hg cu_iX8 hown hK.1 hP 0 rfl rfl 8 (by decide) (hg _ k_187) (fun _ h9 => h9) rfl d_X8_surveyNow_19 ?_
  refine lv_aload_n hx hb d_X8_surveyNow_22 rfl (lv_at hl 0 rfl) ?_
  refine va_get (D := D) (ci := 6) (v := .ref nw) (C := RX8) (T := TX8) (N := 10) hx hb hg cu_iX8 hown hK.1 hP 0 rfl rfl 1 (by decide) (hg _ k_180) (fun _ h9 => h9) rfl d_X8_surveyNow_23 ?_
  refine cu_VV (wc := [(q_1, .inr (4, [.ref w_5, .ref y_6, .ref a_7, .ref u_8, .ref v_9, .int 1, .int 0, .int 0, .int 0, .int 0, .int 0])), (w_5, .inl (cI, 12, .inl (fun _ => 0))), (y_6, .inl (cI, 12, .inl (fun _ => 0))), (nw, .inr (2, [.ref w, .ref y, .ref a, .ref u, .int 0, .int 0, .int 1, .int 0]))]) (wr := [(x, .inr (6, [.ref tx, .ref nw, .ref sp, .ref ac, .ref cr, .ref sg, .ref sl, .ref fl, .ref q_1, .long 0])), (a_7, .inl (cI, 12000, .inl (fun _ => 0))), (u_8, .inl (cI, 1000, .inl (fun _ => 0))), (v_9, .inl (cI, 999, .inl (fun _ => 0)))]) (rest := []) [.ref nw] ⟨hx, hb, hml, hown, hg⟩ (c_X6_look l D cI cZ cQ q_1 w_5 y_6 a_7 u_8 v_9 nw w y a u 1 0) hd_X6_look k_472 k_469 k_470 k_471 k_53 ⟨Nat.le_of_ble_eq_true rfl, Nat.le_of_ble_eq_true rfl⟩ ⟨Nat.le_of_ble_eq_true rfl, Nat.le_of_ble_eq_true rfl⟩ hP hD hS hA hK [2, 3, 4, 1] [0, 5, 6, 7] rfl rfl (by decide) (by decide) (by decide) 0 rfl rfl rfl hl.1 rfl (Nat.le_of_ble_eq_true rfl) d_X8_surveyNow_26 (fun w_12 H locs hw_11 hP hD hS => ?_)
  subst hw_11
  have hP : va_P D vwCl [(x, .inr (6, [.ref tx, .ref nw, .ref sp, .ref ac, .ref cr, .ref sg, .ref sl, .ref fl, .ref q_1, .long 0])), (a_7, .inl (cI, 12000, .inl (fun _ => 0))), (u_8, .inl (cI, 1000, .inl (fun _ => 0))), (v_9, .inl (cI, 999, .inl (fun _ => 0))), (q_1, .inr (4, [.ref w_5, .ref y_6, .ref a_7, .ref u_8, .ref v_9, .int 1, .int 0, .int 0, .int 0, .int 0, .int 0])), (w_5, .inl (cI, 12, .inl (fun _ => 0))), (y_6, .inl (cI, 12, .inl (fun _ => 0))), (nw, .inr (2, [.ref w, .ref y, .ref a, .ref u, .int 0, .int 0, .int 1, .int 0]))] H := hP
  have hD : va_D A [(x, .inr (6, [.ref tx, .ref nw, .ref sp, .ref ac, .ref cr, .ref sg, .ref sl, .ref fl, .ref q_1, .long 0])), (a_7, .inl (cI, 12000, .inl (fun _ => 0))), (u_8, .inl (cI, 1000, .inl (fun _ => 0))), (v_9, .inl (cI, 999, .inl (fun _ => 0))), (q_1, .inr (4, [.ref w_5, .ref y_6, .ref a_7, .ref u_8, .ref v_9, .int 1, .int 0, .int 0, .int 0, .int 0, .int 0])), (w_5, .inl (cI, 12, .inl (fun _ => 0))), (y_6, .inl (cI, 12, .inl (fun _ => 0))), (nw, .inr (2, [.ref w, .ref y, .ref a, .ref u, .int 0, .int 0, .int 1, .int 0]))] := hD
  refine lv_aload_n hx hb d_X8_surveyNow_29 rfl (lv_at hl 0 rfl) ?_
  refine va_get (D := D) (ci := 6) (v := .ref q_1) (C := RX8) (T := TX8) (N := 10) hx hb hg cu_iX8 hown hK.1 hP 0 rfl rfl 8 (by decide) (hg _ k_187) (fun _ h9 => h9) rfl d_X8_surveyNow_30 ?_
  exact hret _ _ _ _ [(x, .inr (6, [.ref tx, .ref nw, .ref sp, .ref ac, .ref cr, .ref sg, .ref sl, .ref fl, .ref q_1, .long 0])), (nw, .inr (2, [.ref w, .ref y, .ref a, .ref u, .int 0, .int 0, .int 1, .int 0])), (q_1, .inr (4, [.ref w_5, .ref y_6, .ref a_7, .ref u_8, .ref v_9, .int 1, .int 0, .int 0, .int 0, .int 0, .int 0])), (w_5, .inl (cI, 12, .inl (fun _ => 0))), (y_6, .inl (cI, 12, .inl (fun _ => 0))), (a_7, .inl (cI, 12000, .inl (fun _ => 0))), (u_8, .inl (cI, 1000, .inl (fun _ => 0))), (v_9, .inl (cI, 999, .inl (fun _ => 0)))] _ _ _ (hP.sub (ws' := [(x, .inr (6, [.ref tx, .ref nw, .ref sp, .ref ac, .ref cr, .ref sg, .ref sl, .ref fl, .ref q_1, .long 0])), (nw, .inr (2, [.ref w, .ref y, .ref a, .ref u, .int 0, .int 0, .int 1, .int 0])), (q_1, .inr (4, [.ref w_5, .ref y_6, .ref a_7, .ref u_8, .ref v_9, .int 1, .int 0, .int 0, .int 0, .int 0, .int 0])), (w_5, .inl (cI, 12, .inl (fun _ => 0))), (y_6, .inl (cI, 12, .inl (fun _ => 0))), (a_7, .inl (cI, 12000, .inl (fun _ => 0))), (u_8, .inl (cI, 1000, .inl (fun _ => 0))), (v_9, .inl (cI, 999, .inl (fun _ => 0)))]) [0, 7, 4, 5, 6, 1, 2, 3] rfl) (hD.sub (ws' := [(x, .inr (6, [.ref tx, .ref nw, .ref sp, .ref ac, .ref cr, .ref sg, .ref sl, .ref fl, .ref q_1, .long 0])), (nw, .inr (2, [.ref w, .ref y, .ref a, .ref u, .int 0, .int 0, .int 1, .int 0])), (q_1, .inr (4, [.ref w_5, .ref y_6, .ref a_7, .ref u_8, .ref v_9, .int 1, .int 0, .int 0, .int 0, .int 0, .int 0])), (w_5, .inl (cI, 12, .inl (fun _ => 0))), (y_6, .inl (cI, 12, .inl (fun _ => 0))), (a_7, .inl (cI, 12000, .inl (fun _ => 0))), (u_8, .inl (cI, 1000, .inl (fun _ => 0))), (v_9, .inl (cI, 999, .inl (fun _ => 0)))]) [0, 7, 4, 5, 6, 1, 2, 3] (by decide) rfl) hS (Nat.le_of_ble_eq_true rfl) (Nat.le_of_ble_eq_true rfl) d_X8_surveyNow_33 ⟨q_1, w_5, y_6, a_7, u_8, v_9, rfl⟩
def cu_siu (c1 : Int32) : Int32 := if c1 < 1 then 0 else if 999 < c1 then 0 else 1
set_option maxHeartbeats 4000000 in
set_option maxRecDepth 100000 in
theorem c_X2_isUnit (l : Launch) (D : va_G) (cI cZ cQ : ClassId) (c1 : Int32) : cu_R l D (cu_TY cI cZ cQ) yX2_isUnit cX2_isUnit 1 .boolean 0 0 [.int c1] [] (fun r => r = cu_siu c1) := by
  refine cu_R.intro (by decide) (Nat.le_of_ble_eq_true rfl) ?_
  intro p e s m args below meth c Q ls S hret hP hK hl
  obtain ⟨hx, hb, hml, hown, hg⟩ := S
  have hown : s.vm.findClass RX2 = some m.cls := hown
  have hl : lv_has ls 1 [(0, .int c1)] := hl
  refine lv_iload_n hx hb d_X2_isUnit_0 rfl (lv_at hl 0 rfl) ?_
  refine lv_iconst (v := 1) hx hb d_X2_isUnit_1 (by decide) ?_
  refine lv_icmp_lt (tgt := 16) hx hb d_X2_isUnit_2 (by decide) (fun c_1 => ?_) (fun c_1 => ?_)
  · skip
    refine lv_iconst (v := 0) hx hb d_X2_isUnit_16 (by decide) ?_
    exact hret _ _ _ d_X2_isUnit_17 (by decide +kernel) (by unfold cu_siu; rw [if_pos c_1])
  · skip
    refine lv_iload_n hx hb d_X2_isUnit_5 rfl (lv_at hl 0 rfl) ?_
    refine lv_sipush (v := 999) hx hb d_X2_isUnit_6 (by decide) ?_
    refine lv_icmp_gt (tgt := 16) hx hb d_X2_isUnit_9 (by decide) (fun c_2 => ?_) (fun c_2 => ?_)
    · skip
      refine lv_iconst (v := 0) hx hb d_X2_isUnit_16 (by decide) ?_
      exact hret _ _ _ d_X2_isUnit_17 (by decide +kernel) (by unfold cu_siu; rw [if_neg c_1, if_pos c_2])
    · skip
      refine lv_iconst (v := 1) hx hb d_X2_isUnit_12 (by decide) ?_
      refine lv_goto (tgt := 17) hx hb d_X2_isUnit_13 (by decide) ?_
      exact hret _ _ _ d_X2_isUnit_17 (by decide +kernel) (by unfold cu_siu; rw [if_neg c_1, if_neg c_2])
set_option maxHeartbeats 4000000 in
set_option maxRecDepth 100000 in
theorem c_X2_isUnitK (l : Launch) (D : va_G) (cI cZ cQ : ClassId) (k : Nat) (hy_0 : 1 ≤ k ∧ k ≤ 999) : cu_R l D (cu_TY cI cZ cQ) yX2_isUnit cX2_isUnit 1 .boolean 0 0 [.int (nI k)] [] (fun r => r = 1) := by
  refine cu_R.intro (by decide) (Nat.le_of_ble_eq_true rfl) ?_
  intro p e s m args below meth c Q ls S hret hP hK hl
  obtain ⟨hx, hb, hml, hown, hg⟩ := S
  have hown : s.vm.findClass RX2 = some m.cls := hown
  have hl : lv_has ls 1 [(0, .int (nI k))] := hl
  refine lv_iload_n hx hb d_X2_isUnit_0 rfl (lv_at hl 0 rfl) ?_
  refine lv_iconst (v := 1) hx hb d_X2_isUnit_1 (by decide) ?_
  refine lv_icmp_lt (tgt := 16) hx hb d_X2_isUnit_2 (by decide) (fun c_1 => absurd c_1 (mt (nI_ltI (a := k) (b := 1) (by omega) (by omega)).mp (by omega))) (fun _ => ?_)
  refine lv_iload_n hx hb d_X2_isUnit_5 rfl (lv_at hl 0 rfl) ?_
  refine lv_sipush (v := 999) hx hb d_X2_isUnit_6 (by decide) ?_
  refine lv_icmp_gt (tgt := 16) hx hb d_X2_isUnit_9 (by decide) (fun c_2 => absurd c_2 (mt (nI_ltI (a := 999) (b := k) (by omega) (by omega)).mp (by omega))) (fun _ => ?_)
  refine lv_iconst (v := 1) hx hb d_X2_isUnit_12 (by decide) ?_
  refine lv_goto (tgt := 17) hx hb d_X2_isUnit_13 (by decide) ?_
  exact hret _ _ _ d_X2_isUnit_17 (by decide +kernel) (rfl)
set_option maxHeartbeats 4000000 in
set_option maxRecDepth 100000 in
theorem c_X6_keyOf (l : Launch) (D : va_G) (cI cZ cQ : ClassId) (h w y a u v : Nat) (k : Nat) (hy_0 : 1 ≤ k ∧ k ≤ 999) : cu_R l D (cu_TY cI cZ cQ) yX6_keyOf cX6_keyOf 2 .int 1 20 [.ref h, .int (nI k)] [(h, .inr (4, [.ref w, .ref y, .ref a, .ref u, .ref v, .int 1, .int 0, .int 0, .int 0, .int 0, .int 0])), (u, .inl (cI, 1000, .inl (fun _ => 0)))] (fun r => r = nI (999 - k)) := by
  refine cu_R.intro (by decide) (Nat.le_of_ble_eq_true rfl) ?_
  intro p e s m args below meth c Q ls S hret hP hK hl
  obtain ⟨hx, hb, hml, hown, hg⟩ := S
  have hown : s.vm.findClass RX6 = some m.cls := hown
  have hl : lv_has ls 2 [(0, .ref h), (1, .int (nI k))] := hl
  refine lv_iload_n hx hb d_X6_keyOf_0 rfl (lv_at hl 1 rfl) ?_
  refine cu_SR (wc := []) (rest := []) [.int (nI k)] ⟨hx, hb, hml, hown, hg⟩ (c_X2_isUnitK l D cI cZ cQ k (⟨by omega, by omega⟩)) hd_X2_isUnit k_398 k_490 k_397 k_50 ⟨Nat.le_of_ble_eq_true rfl, Nat.le_of_ble_eq_true rfl⟩ ⟨Nat.le_of_ble_eq_true rfl, Nat.le_of_ble_eq_true rfl⟩ hP hK [] rfl rfl hl.1 rfl (Nat.le_of_ble_eq_true rfl) d_X6_keyOf_1 (fun r_1 hr_2 => ?_)
  subst hr_2
  refine lv_if_eq (tgt := 26) hx hb d_X6_keyOf_4 (by decide) (fun c_3 => absurd c_3 (by decide +kernel)) (fun _ => ?_)
  refine lv_aload_n hx hb d_X6_keyOf_7 rfl (lv_at hl 0 rfl) ?_
  refine va_get (D := D) (ci := 4) (v := .ref u) (C := RX6) (T := TX6) (N := 11) hx hb hg cu_iX6 hown hK.1 hP 0 rfl rfl 3 (by decide) (hg _ k_434) (fun _ h9 => h9) rfl d_X6_keyOf_8 ?_
  refine lv_iload_n hx hb d_X6_keyOf_11 rfl (lv_at hl 1 rfl) ?_
  refine va_iald hx hb hK.1 hP 1 0 rfl rfl (vp_in_nI (by omega) (by decide)) d_X6_keyOf_12 ?_
  refine cu_topi (y := 0) rfl ?_
  refine lv_sipush (v := 1000) hx hb d_X6_keyOf_13 (by decide) ?_
  refine lv_imul hx hb d_X6_keyOf_16 ?_
  refine cu_topi (y := 0) (by decide +kernel) ?_
  refine lv_sipush (v := 999) hx hb d_X6_keyOf_17 (by decide) ?_
  refine lv_iadd hx hb d_X6_keyOf_20 ?_
  refine cu_topi (y := 999) (by decide +kernel) ?_
  refine lv_iload_n hx hb d_X6_keyOf_21 rfl (lv_at hl 1 rfl) ?_
  refine lv_isub hx hb d_X6_keyOf_22 ?_
  refine cu_topi (y := nI (999 - k)) (cu_nsub (a := 999) (by omega)) ?_
  refine lv_goto (tgt := 27) hx hb d_X6_keyOf_23 (by decide) ?_
  exact hret _ _ _ d_X6_keyOf_27 (rfl) (rfl)
set_option maxHeartbeats 4000000 in
set_option maxRecDepth 100000 in
theorem c_X6_rankOf (l : Launch) (D : va_G) (cI cZ cQ : ClassId) (h w y a u v : Nat) (k : Nat) (hy_0 : 1 ≤ k ∧ k ≤ 999) : cu_R l D (cu_TY cI cZ cQ) yX6_rankOf cX6_rankOf 5 .int 2 41 [.ref h, .int (nI k)] [(h, .inr (4, [.ref w, .ref y, .ref a, .ref u, .ref v, .int 1, .int 0, .int 0, .int 0, .int 0, .int 0])), (u, .inl (cI, 1000, .inl (fun _ => 0)))] (fun r => r = nI (999 - k)) := by
  refine cu_R.intro (by decide) (Nat.le_of_ble_eq_true rfl) ?_
  intro p e s m args below meth c Q ls S hret hP hK hl
  obtain ⟨hx, hb, hml, hown, hg⟩ := S
  have hown : s.vm.findClass RX6 = some m.cls := hown
  have hl : lv_has ls 5 [(0, .ref h), (1, .int (nI k))] := hl
  refine lv_iconst (v := 0) hx hb d_X6_rankOf_0 (by decide) ?_
  refine lv_istore_n (lv' := [(2, .int 0), (0, .ref h), (1, .int (nI k))]) hx hb d_X6_rankOf_1 rfl hl (by decide) rfl (fun ls hl => ?_)
  refine lv_aload_n hx hb d_X6_rankOf_2 rfl (lv_at hl 1 rfl) ?_
  refine lv_iload_n hx hb d_X6_rankOf_3 rfl (lv_at hl 2 rfl) ?_
  refine cu_VR (wc := [(h, .inr (4, [.ref w, .ref y, .ref a, .ref u, .ref v, .int 1, .int 0, .int 0, .int 0, .int 0, .int 0])), (u, .inl (cI, 1000, .inl (fun _ => 0)))]) (rest := []) [.int (nI k)] ⟨hx, hb, hml, hown, hg⟩ (c_X6_keyOf l D cI cZ cQ h w y a u v k (⟨by omega, by omega⟩)) hd_X6_keyOf k_489 k_486 k_488 k_9 k_53 ⟨Nat.le_of_ble_eq_true rfl, Nat.le_of_ble_eq_true rfl⟩ ⟨Nat.le_of_ble_eq_true rfl, Nat.le_of_ble_eq_true rfl⟩ hP hK [0, 1] rfl 0 rfl rfl rfl hl.1 rfl (Nat.le_of_ble_eq_true rfl) d_X6_rankOf_4 (fun r_1 hr_2 => ?_)
  subst hr_2
  refine lv_istore_n (lv' := [(3, .int (nI (999 - k))), (2, .int 0), (0, .ref h), (1, .int (nI k))]) hx hb d_X6_rankOf_7 rfl hl (by decide) rfl (fun ls hl => ?_)
  refine lv_iconst (v := 1) hx hb d_X6_rankOf_8 (by decide) ?_
  refine lv_istore (lv' := [(4, .int 1), (3, .int (nI (999 - k))), (2, .int 0), (0, .ref h), (1, .int (nI k))]) hx hb d_X6_rankOf_9 hl (by decide) rfl (fun ls hl => ?_)
  have key_3 : ∀ (n_5 j_4 : Nat) (hj_7 : j_4 + n_5 = 1000)  (hi_8 : 1 ≤ j_4) (ls : Array Slot) (hl : lv_has ls 5 [(4, .int (nI j_4)), (3, .int (nI (999 - k))), (2, .int (nI (j_4 - 1 - k))), (0, .ref h), (1, .int (nI k))]), W p l e (cu_rm 2 41 0 0) s m args below meth c s.heap [] 0 0 Q (F0 m 11 ls []) := by
    intro n_5
    induction n_5 with
    | zero =>
      intro j_4 hj_7  hi_8 ls hl
      obtain rfl : 1000 = j_4 := by omega
      have hl : lv_has ls 5 [(4, .int 1000), (3, .int (nI (999 - k))), (2, .int (nI (1000 - 1 - k))), (0, .ref h), (1, .int (nI k))] := hl
      refine lv_iload hx hb d_X6_rankOf_11 (lv_at hl 0 rfl) ?_
      refine lv_sipush (v := 999) hx hb d_X6_rankOf_13 (by decide) ?_
      refine lv_icmp_gt (tgt := 38) hx hb d_X6_rankOf_16 (by decide) (fun _ => ?_) (fun c_9 => absurd (by decide +kernel) c_9)
      refine lv_iload_n hx hb d_X6_rankOf_38 rfl (lv_at hl 2 rfl) ?_
      exact hret _ _ _ d_X6_rankOf_39 (rfl) (congrArg nI (by omega))
    | succ n_5 ih_6 =>
      intro j_4 hj_7  hi_8 ls hl
      refine lv_iload hx hb d_X6_rankOf_11 (lv_at hl 0 rfl) ?_
      refine lv_sipush (v := 999) hx hb d_X6_rankOf_13 (by decide) ?_
      refine lv_icmp_gt (tgt := 38) hx hb d_X6_rankOf_16 (by decide) (fun c_10 => absurd c_10 (mt (nI_ltI (a := 999) (b := j_4) (by omega) (by omega)).mp (by omega))) (fun _ => ?_)
      refine lv_aload_n hx hb d_X6_rankOf_19 rfl (lv_at hl 3 rfl) ?_
      refine lv_iload hx hb d_X6_rankOf_20 (lv_at hl 0 rfl) ?_
      refine cu_VR (wc := [(h, .inr (4, [.ref w, .ref y, .ref a, .ref u, .ref v, .int 1, .int 0, .int 0, .int 0, .int 0, .int 0])), (u, .inl (cI, 1000, .inl (fun _ => 0)))]) (rest := []) [.int (nI j_4)] ⟨hx, hb, hml, hown, hg⟩ (c_X6_keyOf l D cI cZ cQ h w y a u v j_4 (⟨by omega, by omega⟩)) hd_X6_keyOf k_489 k_486 k_488 k_9 k_53 ⟨Nat.le_of_ble_eq_true rfl, Nat.le_of_ble_eq_true rfl⟩ ⟨Nat.le_of_ble_eq_true rfl, Nat.le_of_ble_eq_true rfl⟩ hP hK [0, 1] rfl 0 rfl rfl rfl hl.1 rfl (Nat.le_of_ble_eq_true rfl) d_X6_rankOf_22 (fun r_11 hr_12 => ?_)
      subst hr_12
      refine lv_iload_n hx hb d_X6_rankOf_25 rfl (lv_at hl 1 rfl) ?_
      refine lv_icmp_ge (tgt := 32) hx hb d_X6_rankOf_26 (by decide) (fun c_13 => ?_) (fun c_13 => ?_)
      · skip
        have hn9 := (nI_leI (by omega) (by omega)).mp c_13
        refine lv_iinc (v := nI (j_4 + 1)) (lv' := [(4, .int (nI (j_4 + 1))), (3, .int (nI (999 - k))), (2, .int (nI (j_4 - 1 - k))), (0, .ref h), (1, .int (nI k))]) hx hb d_X6_rankOf_32 hl (k := 0) rfl (nI_1 j_4) (by decide) rfl (fun ls hl => ?_)
        refine lv_goto (tgt := 11) hx hb d_X6_rankOf_35 (by decide) ?_
        have he_14 : (nI (j_4 - 1 - k) : Int32) = nI ((j_4 + 1) - 1 - k) := congrArg nI (by omega)
        rw [he_14] at hl
        exact ih_6 (j_4 + 1) (by first | rfl | omega)  (by omega) _ (lv_sub hl [0, 1, 2, 3, 4] rfl)
      · skip
        have hn9 := mt (nI_leI (by omega) (by omega)).mpr c_13
        refine lv_iinc (v := nI ((j_4 - 1 - k) + 1)) (lv' := [(2, .int (nI ((j_4 - 1 - k) + 1))), (4, .int (nI j_4)), (3, .int (nI (999 - k))), (0, .ref h), (1, .int (nI k))]) hx hb d_X6_rankOf_29 hl (k := 2) rfl (nI_1 (j_4 - 1 - k)) (by decide) rfl (fun ls hl => ?_)
        refine lv_iinc (v := nI (j_4 + 1)) (lv' := [(4, .int (nI (j_4 + 1))), (2, .int (nI ((j_4 - 1 - k) + 1))), (3, .int (nI (999 - k))), (0, .ref h), (1, .int (nI k))]) hx hb d_X6_rankOf_32 hl (k := 1) rfl (nI_1 j_4) (by decide) rfl (fun ls hl => ?_)
        refine lv_goto (tgt := 11) hx hb d_X6_rankOf_35 (by decide) ?_
        have he_15 : (nI ((j_4 - 1 - k) + 1) : Int32) = nI ((j_4 + 1) - 1 - k) := congrArg nI (by omega)
        rw [he_15] at hl
        exact ih_6 (j_4 + 1) (by first | rfl | omega)  (by omega) _ (lv_sub hl [0, 2, 1, 3, 4] rfl)
  exact key_3 999 1 (by first | rfl | omega)  (Nat.le_refl _) _ (by rw [show (1 - 1 - k) = 0 by omega]; exact lv_sub hl [0, 1, 2, 3, 4] rfl)
set_option maxHeartbeats 4000000 in
set_option maxRecDepth 100000 in
theorem c_J6_bitCount (l : Launch) (D : va_G) (cI cZ cQ : ClassId) : cu_R l D (cu_TY cI cZ cQ) yJ6_bitCount_0f7a4 cJ6_bitCount_0f7a4 1 .int 0 0 [.int 0] [] (fun r => r = 0) := by
  refine cu_R.intro (by decide) (Nat.le_of_ble_eq_true rfl) ?_
  intro p e s m args below meth c Q ls S hret hP hK hl
  obtain ⟨hx, hb, hml, hown, hg⟩ := S
  have hown : s.vm.findClass RJ6 = some m.cls := hown
  have hl : lv_has ls 1 [(0, .int 0)] := hl
  refine lv_iload_n hx hb d_J6_bitCount_0f7a4_0 rfl (lv_at hl 0 rfl) ?_
  refine lv_iload_n hx hb d_J6_bitCount_0f7a4_1 rfl (lv_at hl 0 rfl) ?_
  refine lv_iconst (v := 1) hx hb d_J6_bitCount_0f7a4_2 (by decide) ?_
  refine lv_iushr (v := 0) hx hb d_J6_bitCount_0f7a4_3 (by decide +kernel) ?_
  refine lv_ldcw (v := 1431655765) hx hb hown (hg _ k_334) d_J6_bitCount_0f7a4_4 ?_
  refine lv_iand hx hb d_J6_bitCount_0f7a4_7 ?_
  refine cu_topi (y := 0) (by decide +kernel) ?_
  refine lv_isub hx hb d_J6_bitCount_0f7a4_8 ?_
  refine cu_topi (y := 0) (by decide +kernel) ?_
  refine lv_istore_n (lv' := [(0, .int 0)]) hx hb d_J6_bitCount_0f7a4_9 rfl hl (by decide) rfl (fun ls hl => ?_)
  refine lv_iload_n hx hb d_J6_bitCount_0f7a4_10 rfl (lv_at hl 0 rfl) ?_
  refine lv_ldcw (v := 858993459) hx hb hown (hg _ k_335) d_J6_bitCount_0f7a4_11 ?_
  refine lv_iand hx hb d_J6_bitCount_0f7a4_14 ?_
  refine cu_topi (y := 0) (by decide +kernel) ?_
  refine lv_iload_n hx hb d_J6_bitCount_0f7a4_15 rfl (lv_at hl 0 rfl) ?_
  refine lv_iconst (v := 2) hx hb d_J6_bitCount_0f7a4_16 (by decide) ?_
  refine lv_iushr (v := 0) hx hb d_J6_bitCount_0f7a4_17 (by decide +kernel) ?_
  refine lv_ldcw (v := 858993459) hx hb hown (hg _ k_335) d_J6_bitCount_0f7a4_18 ?_
  refine lv_iand hx hb d_J6_bitCount_0f7a4_21 ?_
  refine cu_topi (y := 0) (by decide +kernel) ?_
  refine lv_iadd hx hb d_J6_bitCount_0f7a4_22 ?_
  refine cu_topi (y := 0) (by decide +kernel) ?_
  refine lv_istore_n (lv' := [(0, .int 0)]) hx hb d_J6_bitCount_0f7a4_23 rfl hl (by decide) rfl (fun ls hl => ?_)
  refine lv_iload_n hx hb d_J6_bitCount_0f7a4_24 rfl (lv_at hl 0 rfl) ?_
  refine lv_iload_n hx hb d_J6_bitCount_0f7a4_25 rfl (lv_at hl 0 rfl) ?_
  refine lv_iconst (v := 4) hx hb d_J6_bitCount_0f7a4_26 (by decide) ?_
  refine lv_iushr (v := 0) hx hb d_J6_bitCount_0f7a4_27 (by decide +kernel) ?_
  refine lv_iadd hx hb d_J6_bitCount_0f7a4_28 ?_
  refine cu_topi (y := 0) (by decide +kernel) ?_
  refine lv_ldcw (v := 252645135) hx hb hown (hg _ k_336) d_J6_bitCount_0f7a4_29 ?_
  refine lv_iand hx hb d_J6_bitCount_0f7a4_32 ?_
  refine cu_topi (y := 0) (by decide +kernel) ?_
  refine lv_istore_n (lv' := [(0, .int 0)]) hx hb d_J6_bitCount_0f7a4_33 rfl hl (by decide) rfl (fun ls hl => ?_)
  refine lv_iload_n hx hb d_J6_bitCount_0f7a4_34 rfl (lv_at hl 0 rfl) ?_
  refine lv_iload_n hx hb d_J6_bitCount_0f7a4_35 rfl (lv_at hl 0 rfl) ?_
  refine lv_bipush (v := 8) hx hb d_J6_bitCount_0f7a4_36 (by decide) ?_
  refine lv_iushr (v := 0) hx hb d_J6_bitCount_0f7a4_38 (by decide +kernel) ?_
  refine lv_iadd hx hb d_J6_bitCount_0f7a4_39 ?_
  refine cu_topi (y := 0) (by decide +kernel) ?_
  refine lv_istore_n (lv' := [(0, .int 0)]) hx hb d_J6_bitCount_0f7a4_40 rfl hl (by decide) rfl (fun ls hl => ?_)
  refine lv_iload_n hx hb d_J6_bitCount_0f7a4_41 rfl (lv_at hl 0 rfl) ?_
  refine lv_iload_n hx hb d_J6_bitCount_0f7a4_42 rfl (lv_at hl 0 rfl) ?_
  refine lv_bipush (v := 16) hx hb d_J6_bitCount_0f7a4_43 (by decide) ?_
  refine lv_iushr (v := 0) hx hb d_J6_bitCount_0f7a4_45 (by decide +kernel) ?_
  refine lv_iadd hx hb d_J6_bitCount_0f7a4_46 ?_
  refine cu_topi (y := 0) (by decide +kernel) ?_
  refine lv_istore_n (lv' := [(0, .int 0)]) hx hb d_J6_bitCount_0f7a4_47 rfl hl (by decide) rfl (fun ls hl => ?_)
  refine lv_iload_n hx hb d_J6_bitCount_0f7a4_48 rfl (lv_at hl 0 rfl) ?_
  refine lv_bipush (v := 63) hx hb d_J6_bitCount_0f7a4_49 (by decide) ?_
  refine lv_iand hx hb d_J6_bitCount_0f7a4_51 ?_
  refine cu_topi (y := 0) (by decide +kernel) ?_
  exact hret _ _ _ d_J6_bitCount_0f7a4_52 (rfl) (rfl)
def cu_sun (c1 c2 : Int32) : Int32 := if c1 < 1 then (-2) else if 999 < c1 then (-2) else if c2 = 0 then 0 else if c2 = 1 then 0 else if c2 = 2 then 0 else if c2 = 3 then (999 - c1) else (-2)
set_option maxHeartbeats 4000000 in
set_option maxRecDepth 100000 in
theorem c_X8_unit (l : Launch) (D : va_G) (cI cZ cQ : ClassId) (x tx nw sp ac cr sg sl fl : Nat) (w y a u : Nat) (c1 c2 : Int32) : cu_W l D (cu_TY cI cZ cQ) yX8_unit cX8_unit 3 .int 4 86 6 14034 [.ref x, .int c1, .int c2] [(x, .inr (6, [.ref tx, .ref nw, .ref sp, .ref ac, .ref cr, .ref sg, .ref sl, .ref fl, .null, .long 0])), (nw, .inr (2, [.ref w, .ref y, .ref a, .ref u, .int 0, .int 0, .int 1, .int 0]))] (fun r ww => (r = cu_sun c1 c2) ∧ ww = []) := by
  refine cu_W.intro (by decide) (Nat.le_of_ble_eq_true rfl) ?_
  intro p e s m args below meth c Q ls A S hret hP hD hS hA hK hl
  obtain ⟨hx, hb, hml, hown, hg⟩ := S
  have hown : s.vm.findClass RX8 = some m.cls := hown
  have hl : lv_has ls 3 [(0, .ref x), (1, .int c1), (2, .int c2)] := hl
  refine lv_iload_n hx hb d_X8_unit_0 rfl (lv_at hl 1 rfl) ?_
  refine cu_SR (wc := []) (rest := []) [.int c1] ⟨hx, hb, hml, hown, hg⟩ (c_X2_isUnit l D cI cZ cQ c1) hd_X2_isUnit k_398 k_396 k_397 k_50 ⟨Nat.le_of_ble_eq_true rfl, Nat.le_of_ble_eq_true rfl⟩ ⟨Nat.le_of_ble_eq_true rfl, Nat.le_of_ble_eq_true rfl⟩ hP hK [] rfl rfl hl.1 rfl (Nat.le_of_ble_eq_true rfl) d_X8_unit_1 (fun r_1 hr_2 => ?_)
  subst hr_2
  by_cases hc_3 : c1 < 1
  · skip
    refine cu_topi (y := 0) (by unfold cu_siu; rw [if_pos hc_3]) ?_
    refine lv_if_ne (tgt := 10) hx hb d_X8_unit_4 (by decide) (fun c_4 => absurd (by decide +kernel) c_4) (fun _ => ?_)
    refine lv_bipush (v := (-2)) hx hb d_X8_unit_7 (by decide) ?_
    exact hret _ _ _ _ [] _ _ _ (hP.sub (ws' := []) [] rfl) (hD.sub (ws' := []) [] (by decide) rfl) hS (Nat.le_of_ble_eq_true rfl) (Nat.le_of_ble_eq_true rfl) d_X8_unit_9 (rfl) ⟨by unfold cu_sun; rw [if_pos hc_3], rfl⟩
  · skip
    by_cases hc_5 : 999 < c1
    · skip
      refine cu_topi (y := 0) (by unfold cu_siu; rw [if_neg hc_3, if_pos hc_5]) ?_
      refine lv_if_ne (tgt := 10) hx hb d_X8_unit_4 (by decide) (fun c_6 => absurd (by decide +kernel) c_6) (fun _ => ?_)
      refine lv_bipush (v := (-2)) hx hb d_X8_unit_7 (by decide) ?_
      exact hret _ _ _ _ [] _ _ _ (hP.sub (ws' := []) [] rfl) (hD.sub (ws' := []) [] (by decide) rfl) hS (Nat.le_of_ble_eq_true rfl) (Nat.le_of_ble_eq_true rfl) d_X8_unit_9 (rfl) ⟨by unfold cu_sun; rw [if_neg hc_3, if_pos hc_5], rfl⟩
    · skip
      refine cu_topi (y := 1) (by unfold cu_siu; rw [if_neg hc_3, if_neg hc_5]) ?_
      refine lv_if_ne (tgt := 10) hx hb d_X8_unit_4 (by decide) (fun _ => ?_) (fun c_7 => absurd c_7 (by decide +kernel))
      refine lv_iload_n hx hb d_X8_unit_10 rfl (lv_at hl 2 rfl) ?_
      by_cases hk_8 : c2 = 0
      · skip
        refine cu_topi (y := 0) hk_8 ?_
        refine lv_tableIn (off := 29) (tgt := 40) hx hb d_X8_unit_11 (by decide) (by decide) (by decide +kernel) (by decide) ?_
        refine lv_aload_n hx hb d_X8_unit_40 rfl (lv_at hl 0 rfl) ?_
        refine va_get (D := D) (ci := 6) (v := .ref nw) (C := RX8) (T := TX8) (N := 10) hx hb hg cu_iX8 hown hK.1 hP 0 rfl rfl 1 (by decide) (hg _ k_180) (fun _ h9 => h9) rfl d_X8_unit_41 ?_
        refine lv_iload_n hx hb d_X8_unit_44 rfl (lv_at hl 1 rfl) ?_
        refine cu_VR (wc := [(nw, .inr (2, [.ref w, .ref y, .ref a, .ref u, .int 0, .int 0, .int 1, .int 0]))]) (rest := []) [.int c1] ⟨hx, hb, hml, hown, hg⟩ (c_X3_explainedBy l D cI cZ cQ nw w y a u 1 0 c1) hd_X3_explainedBy k_420 k_417 k_418 k_419 k_45 ⟨Nat.le_of_ble_eq_true rfl, Nat.le_of_ble_eq_true rfl⟩ ⟨Nat.le_of_ble_eq_true rfl, Nat.le_of_ble_eq_true rfl⟩ hP hK [1] rfl 0 rfl rfl rfl hl.1 rfl (Nat.le_of_ble_eq_true rfl) d_X8_unit_45 (fun r_9 hr_10 => ?_)
        subst hr_10
        refine cu_SR (wc := []) (rest := []) [.int 0] ⟨hx, hb, hml, hown, hg⟩ (c_J6_bitCount l D cI cZ cQ ) hd_J6_bitCount_0f7a4 k_333 k_331 k_332 k_51 ⟨Nat.le_of_ble_eq_true rfl, Nat.le_of_ble_eq_true rfl⟩ ⟨Nat.le_of_ble_eq_true rfl, Nat.le_of_ble_eq_true rfl⟩ hP hK [] rfl rfl hl.1 rfl (Nat.le_of_ble_eq_true rfl) d_X8_unit_48 (fun r_11 hr_12 => ?_)
        subst hr_12
        exact hret _ _ _ _ [] _ _ _ (hP.sub (ws' := []) [] rfl) (hD.sub (ws' := []) [] (by decide) rfl) hS (Nat.le_of_ble_eq_true rfl) (Nat.le_of_ble_eq_true rfl) d_X8_unit_51 (rfl) ⟨by unfold cu_sun; rw [if_neg hc_3, if_neg hc_5, if_pos hk_8], rfl⟩
      · skip
        by_cases hk_13 : c2 = 1
        · skip
          refine cu_topi (y := 1) hk_13 ?_
          refine lv_tableIn (off := 41) (tgt := 52) hx hb d_X8_unit_11 (by decide) (by decide) (by decide +kernel) (by decide) ?_
          refine lv_aload_n hx hb d_X8_unit_52 rfl (lv_at hl 0 rfl) ?_
          refine va_get (D := D) (ci := 6) (v := .ref nw) (C := RX8) (T := TX8) (N := 10) hx hb hg cu_iX8 hown hK.1 hP 0 rfl rfl 1 (by decide) (hg _ k_180) (fun _ h9 => h9) rfl d_X8_unit_53 ?_
          refine lv_iload_n hx hb d_X8_unit_56 rfl (lv_at hl 1 rfl) ?_
          refine cu_VR (wc := [(nw, .inr (2, [.ref w, .ref y, .ref a, .ref u, .int 0, .int 0, .int 1, .int 0]))]) (rest := []) [.int c1] ⟨hx, hb, hml, hown, hg⟩ (c_X3_explainedBy l D cI cZ cQ nw w y a u 1 0 c1) hd_X3_explainedBy k_420 k_417 k_418 k_419 k_45 ⟨Nat.le_of_ble_eq_true rfl, Nat.le_of_ble_eq_true rfl⟩ ⟨Nat.le_of_ble_eq_true rfl, Nat.le_of_ble_eq_true rfl⟩ hP hK [1] rfl 0 rfl rfl rfl hl.1 rfl (Nat.le_of_ble_eq_true rfl) d_X8_unit_57 (fun r_14 hr_15 => ?_)
          subst hr_15
          exact hret _ _ _ _ [] _ _ _ (hP.sub (ws' := []) [] rfl) (hD.sub (ws' := []) [] (by decide) rfl) hS (Nat.le_of_ble_eq_true rfl) (Nat.le_of_ble_eq_true rfl) d_X8_unit_60 (rfl) ⟨by unfold cu_sun; rw [if_neg hc_3, if_neg hc_5, if_neg hk_8, if_pos hk_13], rfl⟩
        · skip
          by_cases hk_16 : c2 = 2
          · skip
            refine cu_topi (y := 2) hk_16 ?_
            refine lv_tableIn (off := 50) (tgt := 61) hx hb d_X8_unit_11 (by decide) (by decide) (by decide +kernel) (by decide) ?_
            refine lv_aload_n hx hb d_X8_unit_61 rfl (lv_at hl 0 rfl) ?_
            refine va_get (D := D) (ci := 6) (v := .ref nw) (C := RX8) (T := TX8) (N := 10) hx hb hg cu_iX8 hown hK.1 hP 0 rfl rfl 1 (by decide) (hg _ k_180) (fun _ h9 => h9) rfl d_X8_unit_62 ?_
            refine lv_aload_n hx hb d_X8_unit_65 rfl (lv_at hl 0 rfl) ?_
            refine va_get (D := D) (ci := 6) (v := .ref nw) (C := RX8) (T := TX8) (N := 10) hx hb hg cu_iX8 hown hK.1 hP 0 rfl rfl 1 (by decide) (hg _ k_180) (fun _ h9 => h9) rfl d_X8_unit_66 ?_
            refine lv_iload_n hx hb d_X8_unit_69 rfl (lv_at hl 1 rfl) ?_
            refine cu_VR (wc := [(nw, .inr (2, [.ref w, .ref y, .ref a, .ref u, .int 0, .int 0, .int 1, .int 0]))]) (rest := [.ref nw]) [.int c1] ⟨hx, hb, hml, hown, hg⟩ (c_X3_explainedBy l D cI cZ cQ nw w y a u 1 0 c1) hd_X3_explainedBy k_420 k_417 k_418 k_419 k_45 ⟨Nat.le_of_ble_eq_true rfl, Nat.le_of_ble_eq_true rfl⟩ ⟨Nat.le_of_ble_eq_true rfl, Nat.le_of_ble_eq_true rfl⟩ hP hK [1] rfl 0 rfl rfl rfl hl.1 rfl (Nat.le_of_ble_eq_true rfl) d_X8_unit_70 (fun r_17 hr_18 => ?_)
            subst hr_18
            refine lv_iload_n hx hb d_X8_unit_73 rfl (lv_at hl 1 rfl) ?_
            refine cu_VR (wc := [(nw, .inr (2, [.ref w, .ref y, .ref a, .ref u, .int 0, .int 0, .int 1, .int 0]))]) (rest := []) [.int 0, .int c1] ⟨hx, hb, hml, hown, hg⟩ (c_X3_lossesOf l D cI cZ cQ nw w y a u 1 0 0 c1) hd_X3_lossesOf k_340 k_337 k_338 k_339 k_45 ⟨Nat.le_of_ble_eq_true rfl, Nat.le_of_ble_eq_true rfl⟩ ⟨Nat.le_of_ble_eq_true rfl, Nat.le_of_ble_eq_true rfl⟩ hP hK [1] rfl 0 rfl rfl rfl hl.1 rfl (Nat.le_of_ble_eq_true rfl) d_X8_unit_74 (fun r_19 hr_20 => ?_)
            subst hr_20
            exact hret _ _ _ _ [] _ _ _ (hP.sub (ws' := []) [] rfl) (hD.sub (ws' := []) [] (by decide) rfl) hS (Nat.le_of_ble_eq_true rfl) (Nat.le_of_ble_eq_true rfl) d_X8_unit_77 (rfl) ⟨by unfold cu_sun; rw [if_neg hc_3, if_neg hc_5, if_neg hk_8, if_neg hk_13, if_pos hk_16], rfl⟩
          · skip
            by_cases hk_21 : c2 = 3
            · skip
              refine cu_topi (y := 3) hk_21 ?_
              refine lv_tableIn (off := 67) (tgt := 78) hx hb d_X8_unit_11 (by decide) (by decide) (by decide +kernel) (by decide) ?_
              refine lv_aload_n hx hb d_X8_unit_78 rfl (lv_at hl 0 rfl) ?_
              refine cu_VQ (wc := [(x, .inr (6, [.ref tx, .ref nw, .ref sp, .ref ac, .ref cr, .ref sg, .ref sl, .ref fl, .null, .long 0])), (nw, .inr (2, [.ref w, .ref y, .ref a, .ref u, .int 0, .int 0, .int 1, .int 0]))]) (wr := []) (rest := []) [] ⟨hx, hb, hml, hown, hg⟩ (c_X8_surveyNow l D cI cZ cQ x tx nw sp ac cr sg sl fl w y a u) hd_X8_surveyNow k_424 k_421 k_423 k_7 k_43 ⟨Nat.le_of_ble_eq_true rfl, Nat.le_of_ble_eq_true rfl⟩ ⟨Nat.le_of_ble_eq_true rfl, Nat.le_of_ble_eq_true rfl⟩ hP hD hS hA hK [0, 1] [] rfl rfl (by decide) (by decide) (by decide) 0 rfl rfl rfl hl.1 rfl (Nat.le_of_ble_eq_true rfl) d_X8_unit_79 (fun r_22 w_24 H locs hw_23 hP hD hS => ?_)
              obtain ⟨q0_25, v1_26, v2_27, v3_28, v4_29, v5_30, hr_31⟩ := hw_23
              obtain ⟨hqa, hqb⟩ := Prod.mk.inj hr_31
              have hqa := hqa.symm
              subst hqa
              subst hqb
              have hP : va_P D vwCl [(x, .inr (6, [.ref tx, .ref nw, .ref sp, .ref ac, .ref cr, .ref sg, .ref sl, .ref fl, .ref q0_25, .long 0])), (nw, .inr (2, [.ref w, .ref y, .ref a, .ref u, .int 0, .int 0, .int 1, .int 0])), (q0_25, .inr (4, [.ref v1_26, .ref v2_27, .ref v3_28, .ref v4_29, .ref v5_30, .int 1, .int 0, .int 0, .int 0, .int 0, .int 0])), (v1_26, .inl (cI, 12, .inl (fun _ => 0))), (v2_27, .inl (cI, 12, .inl (fun _ => 0))), (v3_28, .inl (cI, 12000, .inl (fun _ => 0))), (v4_29, .inl (cI, 1000, .inl (fun _ => 0))), (v5_30, .inl (cI, 999, .inl (fun _ => 0)))] H := hP
              have hD : va_D A [(x, .inr (6, [.ref tx, .ref nw, .ref sp, .ref ac, .ref cr, .ref sg, .ref sl, .ref fl, .ref q0_25, .long 0])), (nw, .inr (2, [.ref w, .ref y, .ref a, .ref u, .int 0, .int 0, .int 1, .int 0])), (q0_25, .inr (4, [.ref v1_26, .ref v2_27, .ref v3_28, .ref v4_29, .ref v5_30, .int 1, .int 0, .int 0, .int 0, .int 0, .int 0])), (v1_26, .inl (cI, 12, .inl (fun _ => 0))), (v2_27, .inl (cI, 12, .inl (fun _ => 0))), (v3_28, .inl (cI, 12000, .inl (fun _ => 0))), (v4_29, .inl (cI, 1000, .inl (fun _ => 0))), (v5_30, .inl (cI, 999, .inl (fun _ => 0)))] := hD
              refine W.widen (k := 6) (n := 14034) (Nat.le_of_ble_eq_true rfl) (Nat.le_of_ble_eq_true rfl) ?_
              refine lv_iload_n hx hb d_X8_unit_82 rfl (lv_at hl 1 rfl) ?_
              obtain ⟨k9, hk9, e9⟩ := cu_nat 1 999 (by decide) (by decide) hc_3 hc_5
              refine cu_topi (y := nI k9) e9 ?_
              refine cu_VR (wc := [(q0_25, .inr (4, [.ref v1_26, .ref v2_27, .ref v3_28, .ref v4_29, .ref v5_30, .int 1, .int 0, .int 0, .int 0, .int 0, .int 0])), (v4_29, .inl (cI, 1000, .inl (fun _ => 0)))]) (rest := []) [.int (nI k9)] ⟨hx, hb, hml, hown, hg⟩ (c_X6_rankOf l D cI cZ cQ q0_25 v1_26 v2_27 v3_28 v4_29 v5_30 k9 (⟨by omega, by omega⟩)) hd_X6_rankOf k_485 k_482 k_483 k_484 k_53 ⟨Nat.le_of_ble_eq_true rfl, Nat.le_of_ble_eq_true rfl⟩ ⟨Nat.le_of_ble_eq_true rfl, Nat.le_of_ble_eq_true rfl⟩ hP hK [2, 6] rfl 0 rfl rfl rfl hl.1 rfl (Nat.le_of_ble_eq_true rfl) d_X8_unit_83 (fun r_32 hr_33 => ?_)
              subst hr_33
              exact hret _ _ _ _ [] _ _ _ (hP.sub (ws' := []) [] rfl) (hD.sub (ws' := []) [] (by decide) rfl) hS (Nat.le_of_ble_eq_true rfl) (Nat.le_of_ble_eq_true rfl) d_X8_unit_86 (rfl) ⟨by unfold cu_sun; rw [if_neg hc_3, if_neg hc_5, if_neg hk_8, if_neg hk_13, if_neg hk_16, if_pos hk_21]; rw [e9]; exact (cu_nsub (a := 999) (by omega)).symm, rfl⟩
            · skip
              refine lv_tableOut (tgt := 87) hx hb d_X8_unit_11 (cu_out4 hk_8 hk_13 hk_16 hk_21) (by decide) ?_
              refine lv_bipush (v := (-2)) hx hb d_X8_unit_87 (by decide) ?_
              exact hret _ _ _ _ [] _ _ _ (hP.sub (ws' := []) [] rfl) (hD.sub (ws' := []) [] (by decide) rfl) hS (Nat.le_of_ble_eq_true rfl) (Nat.le_of_ble_eq_true rfl) d_X8_unit_89 (rfl) ⟨by unfold cu_sun; rw [if_neg hc_3, if_neg hc_5, if_neg hk_8, if_neg hk_13, if_neg hk_16, if_neg hk_21], rfl⟩
set_option maxHeartbeats 4000000 in
set_option maxRecDepth 100000 in
theorem c_X6_countedColumns (l : Launch) (D : va_G) (cI cZ cQ : ClassId) (h w y a u v : Nat) (z1 z2 z3 z4 z5 z6 : Int32) : cu_R l D (cu_TY cI cZ cQ) yX6_countedColumns cX6_countedColumns 3 .int 0 0 [.ref h] [(h, .inr (4, [.ref w, .ref y, .ref a, .ref u, .ref v, .int z1, .int z2, .int z3, .int z4, .int z5, .int z6])), (w, .inl (cI, 12, .inl (fun _ => 0)))] (fun r => r = 0) := by
  refine cu_R.intro (by decide) (Nat.le_of_ble_eq_true rfl) ?_
  intro p e s m args below meth c Q ls S hret hP hK hl
  obtain ⟨hx, hb, hml, hown, hg⟩ := S
  have hown : s.vm.findClass RX6 = some m.cls := hown
  have hl : lv_has ls 3 [(0, .ref h)] := hl
  refine lv_iconst (v := 0) hx hb d_X6_countedColumns_0 (by decide) ?_
  refine lv_istore_n (lv' := [(1, .int 0), (0, .ref h)]) hx hb d_X6_countedColumns_1 rfl hl (by decide) rfl (fun ls hl => ?_)
  refine lv_iconst (v := 0) hx hb d_X6_countedColumns_2 (by decide) ?_
  refine lv_istore_n (lv' := [(2, .int 0), (1, .int 0), (0, .ref h)]) hx hb d_X6_countedColumns_3 rfl hl (by decide) rfl (fun ls hl => ?_)
  have key_1 : ∀ (n_3 j_2 : Nat) (hj_5 : j_2 + n_3 = 12)   (ls : Array Slot) (hl : lv_has ls 3 [(2, .int (nI j_2)), (1, .int 0), (0, .ref h)]), W p l e (cu_rm 0 0 0 0) s m args below meth c s.heap [] 0 0 Q (F0 m 4 ls []) := by
    intro n_3
    induction n_3 with
    | zero =>
      intro j_2 hj_5   ls hl
      obtain rfl : 12 = j_2 := by omega
      have hl : lv_has ls 3 [(2, .int 12), (1, .int 0), (0, .ref h)] := hl
      refine lv_iload_n hx hb d_X6_countedColumns_4 rfl (lv_at hl 0 rfl) ?_
      refine lv_bipush (v := 12) hx hb d_X6_countedColumns_5 (by decide) ?_
      refine lv_icmp_ge (tgt := 28) hx hb d_X6_countedColumns_7 (by decide) (fun _ => ?_) (fun c_6 => absurd (by decide +kernel) c_6)
      refine lv_iload_n hx hb d_X6_countedColumns_28 rfl (lv_at hl 1 rfl) ?_
      exact hret _ _ _ d_X6_countedColumns_29 (rfl) (rfl)
    | succ n_3 ih_4 =>
      intro j_2 hj_5   ls hl
      refine lv_iload_n hx hb d_X6_countedColumns_4 rfl (lv_at hl 0 rfl) ?_
      refine lv_bipush (v := 12) hx hb d_X6_countedColumns_5 (by decide) ?_
      refine lv_icmp_ge (tgt := 28) hx hb d_X6_countedColumns_7 (by decide) (fun c_7 => absurd c_7 (mt (nI_leI (a := 12) (b := j_2) (by omega) (by omega)).mp (by omega))) (fun _ => ?_)
      refine lv_aload_n hx hb d_X6_countedColumns_10 rfl (lv_at hl 2 rfl) ?_
      refine va_get (D := D) (ci := 4) (v := .ref w) (C := RX6) (T := TX6) (N := 11) hx hb hg cu_iX6 hown hK.1 hP 0 rfl rfl 0 (by decide) (hg _ k_431) (fun _ h9 => h9) rfl d_X6_countedColumns_11 ?_
      refine lv_iload_n hx hb d_X6_countedColumns_14 rfl (lv_at hl 0 rfl) ?_
      refine va_iald hx hb hK.1 hP 1 0 rfl rfl (vp_in_nI (by omega) (by decide)) d_X6_countedColumns_15 ?_
      refine cu_topi (y := 0) rfl ?_
      refine lv_if_le (tgt := 22) hx hb d_X6_countedColumns_16 (by decide) (fun _ => ?_) (fun c_8 => absurd (by decide +kernel) c_8)
      refine lv_iinc (v := nI (j_2 + 1)) (lv' := [(2, .int (nI (j_2 + 1))), (1, .int 0), (0, .ref h)]) hx hb d_X6_countedColumns_22 hl (k := 0) rfl (nI_1 j_2) (by decide) rfl (fun ls hl => ?_)
      refine lv_goto (tgt := 4) hx hb d_X6_countedColumns_25 (by decide) ?_
      exact ih_4 (j_2 + 1) (by first | rfl | omega)   _ (lv_sub hl [0, 1, 2] rfl)
  exact key_1 12 0 (by first | rfl | omega)   _ (lv_sub hl [0, 1, 2] rfl)
set_option maxHeartbeats 4000000 in
set_option maxRecDepth 100000 in
theorem c_X6_width (l : Launch) (D : va_G) (cI cZ cQ : ClassId) (h w y a u v : Nat) (z1 z2 z3 z4 z5 z6 : Int32) : cu_R l D (cu_TY cI cZ cQ) yX6_width cX6_width 3 .int 0 0 [.ref h] [(h, .inr (4, [.ref w, .ref y, .ref a, .ref u, .ref v, .int z1, .int z2, .int z3, .int z4, .int z5, .int z6])), (w, .inl (cI, 12, .inl (fun _ => 0)))] (fun r => r = 0) := by
  refine cu_R.intro (by decide) (Nat.le_of_ble_eq_true rfl) ?_
  intro p e s m args below meth c Q ls S hret hP hK hl
  obtain ⟨hx, hb, hml, hown, hg⟩ := S
  have hown : s.vm.findClass RX6 = some m.cls := hown
  have hl : lv_has ls 3 [(0, .ref h)] := hl
  refine lv_iconst (v := 0) hx hb d_X6_width_0 (by decide) ?_
  refine lv_istore_n (lv' := [(1, .int 0), (0, .ref h)]) hx hb d_X6_width_1 rfl hl (by decide) rfl (fun ls hl => ?_)
  refine lv_iconst (v := 0) hx hb d_X6_width_2 (by decide) ?_
  refine lv_istore_n (lv' := [(2, .int 0), (1, .int 0), (0, .ref h)]) hx hb d_X6_width_3 rfl hl (by decide) rfl (fun ls hl => ?_)
  have key_1 : ∀ (n_3 j_2 : Nat) (hj_5 : j_2 + n_3 = 12)   (ls : Array Slot) (hl : lv_has ls 3 [(2, .int (nI j_2)), (1, .int 0), (0, .ref h)]), W p l e (cu_rm 0 0 0 0) s m args below meth c s.heap [] 0 0 Q (F0 m 4 ls []) := by
    intro n_3
    induction n_3 with
    | zero =>
      intro j_2 hj_5   ls hl
      obtain rfl : 12 = j_2 := by omega
      have hl : lv_has ls 3 [(2, .int 12), (1, .int 0), (0, .ref h)] := hl
      refine lv_iload_n hx hb d_X6_width_4 rfl (lv_at hl 0 rfl) ?_
      refine lv_bipush (v := 12) hx hb d_X6_width_5 (by decide) ?_
      refine lv_icmp_ge (tgt := 29) hx hb d_X6_width_7 (by decide) (fun _ => ?_) (fun c_6 => absurd (by decide +kernel) c_6)
      refine lv_iload_n hx hb d_X6_width_29 rfl (lv_at hl 1 rfl) ?_
      exact hret _ _ _ d_X6_width_30 (rfl) (rfl)
    | succ n_3 ih_4 =>
      intro j_2 hj_5   ls hl
      refine lv_iload_n hx hb d_X6_width_4 rfl (lv_at hl 0 rfl) ?_
      refine lv_bipush (v := 12) hx hb d_X6_width_5 (by decide) ?_
      refine lv_icmp_ge (tgt := 29) hx hb d_X6_width_7 (by decide) (fun c_7 => absurd c_7 (mt (nI_leI (a := 12) (b := j_2) (by omega) (by omega)).mp (by omega))) (fun _ => ?_)
      refine lv_aload_n hx hb d_X6_width_10 rfl (lv_at hl 2 rfl) ?_
      refine va_get (D := D) (ci := 4) (v := .ref w) (C := RX6) (T := TX6) (N := 11) hx hb hg cu_iX6 hown hK.1 hP 0 rfl rfl 0 (by decide) (hg _ k_431) (fun _ h9 => h9) rfl d_X6_width_11 ?_
      refine lv_iload_n hx hb d_X6_width_14 rfl (lv_at hl 0 rfl) ?_
      refine va_iald hx hb hK.1 hP 1 0 rfl rfl (vp_in_nI (by omega) (by decide)) d_X6_width_15 ?_
      refine cu_topi (y := 0) rfl ?_
      refine lv_if_le (tgt := 23) hx hb d_X6_width_16 (by decide) (fun _ => ?_) (fun c_8 => absurd (by decide +kernel) c_8)
      refine lv_iinc (v := nI (j_2 + 1)) (lv' := [(2, .int (nI (j_2 + 1))), (1, .int 0), (0, .ref h)]) hx hb d_X6_width_23 hl (k := 0) rfl (nI_1 j_2) (by decide) rfl (fun ls hl => ?_)
      refine lv_goto (tgt := 4) hx hb d_X6_width_26 (by decide) ?_
      exact ih_4 (j_2 + 1) (by first | rfl | omega)   _ (lv_sub hl [0, 1, 2] rfl)
  exact key_1 12 0 (by first | rfl | omega)   _ (lv_sub hl [0, 1, 2] rfl)
set_option maxHeartbeats 4000000 in
set_option maxRecDepth 100000 in
theorem c_X6_bestUnit (l : Launch) (D : va_G) (cI cZ cQ : ClassId) (h w y a u v : Nat) (z1 z2 z3 z4 z5 z6 : Int32) : cu_R l D (cu_TY cI cZ cQ) yX6_bestUnit cX6_bestUnit 3 .int 0 0 [.ref h] [(h, .inr (4, [.ref w, .ref y, .ref a, .ref u, .ref v, .int z1, .int z2, .int z3, .int z4, .int z5, .int z6])), (u, .inl (cI, 1000, .inl (fun _ => 0)))] (fun r => r = 1) := by
  refine cu_R.intro (by decide) (Nat.le_of_ble_eq_true rfl) ?_
  intro p e s m args below meth c Q ls S hret hP hK hl
  obtain ⟨hx, hb, hml, hown, hg⟩ := S
  have hown : s.vm.findClass RX6 = some m.cls := hown
  have hl : lv_has ls 3 [(0, .ref h)] := hl
  refine lv_iconst (v := 1) hx hb d_X6_bestUnit_0 (by decide) ?_
  refine lv_istore_n (lv' := [(1, .int 1), (0, .ref h)]) hx hb d_X6_bestUnit_1 rfl hl (by decide) rfl (fun ls hl => ?_)
  refine lv_iconst (v := 2) hx hb d_X6_bestUnit_2 (by decide) ?_
  refine lv_istore_n (lv' := [(2, .int 2), (1, .int 1), (0, .ref h)]) hx hb d_X6_bestUnit_3 rfl hl (by decide) rfl (fun ls hl => ?_)
  have key_1 : ∀ (n_3 j_2 : Nat) (hj_5 : j_2 + n_3 = 1000)  (hi_6 : 2 ≤ j_2) (ls : Array Slot) (hl : lv_has ls 3 [(2, .int (nI j_2)), (1, .int 1), (0, .ref h)]), W p l e (cu_rm 0 0 0 0) s m args below meth c s.heap [] 0 0 Q (F0 m 4 ls []) := by
    intro n_3
    induction n_3 with
    | zero =>
      intro j_2 hj_5  hi_6 ls hl
      obtain rfl : 1000 = j_2 := by omega
      have hl : lv_has ls 3 [(2, .int 1000), (1, .int 1), (0, .ref h)] := hl
      refine lv_iload_n hx hb d_X6_bestUnit_4 rfl (lv_at hl 0 rfl) ?_
      refine lv_sipush (v := 999) hx hb d_X6_bestUnit_5 (by decide) ?_
      refine lv_icmp_gt (tgt := 34) hx hb d_X6_bestUnit_8 (by decide) (fun _ => ?_) (fun c_7 => absurd (by decide +kernel) c_7)
      refine lv_iload_n hx hb d_X6_bestUnit_34 rfl (lv_at hl 1 rfl) ?_
      exact hret _ _ _ d_X6_bestUnit_35 (rfl) (rfl)
    | succ n_3 ih_4 =>
      intro j_2 hj_5  hi_6 ls hl
      refine lv_iload_n hx hb d_X6_bestUnit_4 rfl (lv_at hl 0 rfl) ?_
      refine lv_sipush (v := 999) hx hb d_X6_bestUnit_5 (by decide) ?_
      refine lv_icmp_gt (tgt := 34) hx hb d_X6_bestUnit_8 (by decide) (fun c_8 => absurd c_8 (mt (nI_ltI (a := 999) (b := j_2) (by omega) (by omega)).mp (by omega))) (fun _ => ?_)
      refine lv_aload_n hx hb d_X6_bestUnit_11 rfl (lv_at hl 2 rfl) ?_
      refine va_get (D := D) (ci := 4) (v := .ref u) (C := RX6) (T := TX6) (N := 11) hx hb hg cu_iX6 hown hK.1 hP 0 rfl rfl 3 (by decide) (hg _ k_434) (fun _ h9 => h9) rfl d_X6_bestUnit_12 ?_
      refine lv_iload_n hx hb d_X6_bestUnit_15 rfl (lv_at hl 0 rfl) ?_
      refine va_iald hx hb hK.1 hP 1 0 rfl rfl (vp_in_nI (by omega) (by decide)) d_X6_bestUnit_16 ?_
      refine cu_topi (y := 0) rfl ?_
      refine lv_aload_n hx hb d_X6_bestUnit_17 rfl (lv_at hl 2 rfl) ?_
      refine va_get (D := D) (ci := 4) (v := .ref u) (C := RX6) (T := TX6) (N := 11) hx hb hg cu_iX6 hown hK.1 hP 0 rfl rfl 3 (by decide) (hg _ k_434) (fun _ h9 => h9) rfl d_X6_bestUnit_18 ?_
      refine lv_iload_n hx hb d_X6_bestUnit_21 rfl (lv_at hl 1 rfl) ?_
      refine va_iald hx hb hK.1 hP 1 0 rfl rfl (vp_in_nI (n := 1) (N := 1000) (Nat.le_of_ble_eq_true rfl) (by decide)) d_X6_bestUnit_22 ?_
      refine cu_topi (y := 0) rfl ?_
      refine lv_icmp_ge (tgt := 28) hx hb d_X6_bestUnit_23 (by decide) (fun _ => ?_) (fun c_9 => absurd (by decide +kernel) c_9)
      refine lv_iinc (v := nI (j_2 + 1)) (lv' := [(2, .int (nI (j_2 + 1))), (1, .int 1), (0, .ref h)]) hx hb d_X6_bestUnit_28 hl (k := 0) rfl (nI_1 j_2) (by decide) rfl (fun ls hl => ?_)
      refine lv_goto (tgt := 4) hx hb d_X6_bestUnit_31 (by decide) ?_
      exact ih_4 (j_2 + 1) (by first | rfl | omega)  (by omega) _ (lv_sub hl [0, 1, 2] rfl)
  exact key_1 998 2 (by first | rfl | omega)  (Nat.le_refl _) _ (lv_sub hl [0, 1, 2] rfl)
set_option maxHeartbeats 4000000 in
set_option maxRecDepth 100000 in
theorem c_X6_jointLack (l : Launch) (D : va_G) (cI cZ cQ : ClassId) (h w y a u v : Nat) (z1 z2 z3 z4 z5 z6 : Int32) (c1 c2 c4 : Int32) : cu_R l D (cu_TY cI cZ cQ) yX6_jointLack cX6_jointLack 11 .int 0 0 [.ref h, .int c1, .int c2, .int 0, .int c4] [(h, .inr (4, [.ref w, .ref y, .ref a, .ref u, .ref v, .int z1, .int z2, .int z3, .int z4, .int z5, .int z6]))] (fun r => r = 0) := by
  refine cu_R.intro (by decide) (Nat.le_of_ble_eq_true rfl) ?_
  intro p e s m args below meth c Q ls S hret hP hK hl
  obtain ⟨hx, hb, hml, hown, hg⟩ := S
  have hown : s.vm.findClass RX6 = some m.cls := hown
  have hl : lv_has ls 11 [(0, .ref h), (1, .int c1), (2, .int c2), (3, .int 0), (4, .int c4)] := hl
  refine lv_iload_n hx hb d_X6_jointLack_0 rfl (lv_at hl 1 rfl) ?_
  refine lv_bipush (v := 12) hx hb d_X6_jointLack_1 (by decide) ?_
  refine lv_imul hx hb d_X6_jointLack_3 ?_
  refine lv_istore (lv' := [(5, .int (c1 * 12)), (0, .ref h), (1, .int c1), (2, .int c2), (3, .int 0), (4, .int c4)]) hx hb d_X6_jointLack_4 hl (by decide) rfl (fun ls hl => ?_)
  refine lv_iload_n hx hb d_X6_jointLack_6 rfl (lv_at hl 3 rfl) ?_
  refine lv_bipush (v := 12) hx hb d_X6_jointLack_7 (by decide) ?_
  refine lv_imul hx hb d_X6_jointLack_9 ?_
  refine lv_istore (lv' := [(6, .int (c2 * 12)), (5, .int (c1 * 12)), (0, .ref h), (1, .int c1), (2, .int c2), (3, .int 0), (4, .int c4)]) hx hb d_X6_jointLack_10 hl (by decide) rfl (fun ls hl => ?_)
  refine lv_iconst (v := 0) hx hb d_X6_jointLack_12 (by decide) ?_
  refine lv_istore (lv' := [(7, .int 0), (6, .int (c2 * 12)), (5, .int (c1 * 12)), (0, .ref h), (1, .int c1), (2, .int c2), (3, .int 0), (4, .int c4)]) hx hb d_X6_jointLack_13 hl (by decide) rfl (fun ls hl => ?_)
  refine lv_iconst (v := 0) hx hb d_X6_jointLack_15 (by decide) ?_
  refine lv_istore (lv' := [(8, .int 0), (7, .int 0), (6, .int (c2 * 12)), (5, .int (c1 * 12)), (0, .ref h), (1, .int c1), (2, .int c2), (3, .int 0), (4, .int c4)]) hx hb d_X6_jointLack_16 hl (by decide) rfl (fun ls hl => ?_)
  refine lv_iload hx hb d_X6_jointLack_18 (lv_at hl 0 rfl) ?_
  refine lv_iload_n hx hb d_X6_jointLack_20 rfl (lv_at hl 7 rfl) ?_
  refine lv_icmp_ge (tgt := 80) hx hb d_X6_jointLack_21 (by decide) (fun _ => ?_) (fun c_1 => absurd (by decide +kernel) c_1)
  refine lv_iload hx hb d_X6_jointLack_80 (lv_at hl 1 rfl) ?_
  exact hret _ _ _ d_X6_jointLack_82 (rfl) (rfl)
set_option maxHeartbeats 4000000 in
set_option maxRecDepth 100000 in
theorem c_X6_leastWith (l : Launch) (D : va_G) (cI cZ cQ : ClassId) (h w y a u v : Nat) (z1 z2 z3 z4 z5 z6 : Int32) : cu_R l D (cu_TY cI cZ cQ) yX6_leastWith cX6_leastWith 5 .int 1 30 [.ref h, .int 1] [(h, .inr (4, [.ref w, .ref y, .ref a, .ref u, .ref v, .int z1, .int z2, .int z3, .int z4, .int z5, .int z6])), (w, .inl (cI, 12, .inl (fun _ => 0)))] (fun r => r = 0) := by
  refine cu_R.intro (by decide) (Nat.le_of_ble_eq_true rfl) ?_
  intro p e s m args below meth c Q ls S hret hP hK hl
  obtain ⟨hx, hb, hml, hown, hg⟩ := S
  have hown : s.vm.findClass RX6 = some m.cls := hown
  have hl : lv_has ls 5 [(0, .ref h), (1, .int 1)] := hl
  refine lv_ldc (v := 53248) hx hb hown (hg _ k_523) d_X6_leastWith_0 ?_
  refine lv_istore_n (lv' := [(2, .int 53248), (0, .ref h), (1, .int 1)]) hx hb d_X6_leastWith_2 rfl hl (by decide) rfl (fun ls hl => ?_)
  refine lv_aload_n hx hb d_X6_leastWith_3 rfl (lv_at hl 1 rfl) ?_
  refine cu_VR (wc := [(h, .inr (4, [.ref w, .ref y, .ref a, .ref u, .ref v, .int z1, .int z2, .int z3, .int z4, .int z5, .int z6])), (w, .inl (cI, 12, .inl (fun _ => 0)))]) (rest := []) [] ⟨hx, hb, hml, hown, hg⟩ (c_X6_width l D cI cZ cQ h w y a u v z1 z2 z3 z4 z5 z6) hd_X6_width k_527 k_524 k_526 k_14 k_53 ⟨Nat.le_of_ble_eq_true rfl, Nat.le_of_ble_eq_true rfl⟩ ⟨Nat.le_of_ble_eq_true rfl, Nat.le_of_ble_eq_true rfl⟩ hP hK [0, 1] rfl 0 rfl rfl rfl hl.1 rfl (Nat.le_of_ble_eq_true rfl) d_X6_leastWith_4 (fun r_1 hr_2 => ?_)
  subst hr_2
  refine lv_istore_n (lv' := [(3, .int 0), (2, .int 53248), (0, .ref h), (1, .int 1)]) hx hb d_X6_leastWith_7 rfl hl (by decide) rfl (fun ls hl => ?_)
  refine lv_iconst (v := 1) hx hb d_X6_leastWith_8 (by decide) ?_
  refine lv_istore (lv' := [(4, .int 1), (3, .int 0), (2, .int 53248), (0, .ref h), (1, .int 1)]) hx hb d_X6_leastWith_9 hl (by decide) rfl (fun ls hl => ?_)
  refine lv_iload hx hb d_X6_leastWith_11 (lv_at hl 0 rfl) ?_
  refine lv_sipush (v := 999) hx hb d_X6_leastWith_13 (by decide) ?_
  refine lv_icmp_gt (tgt := 45) hx hb d_X6_leastWith_16 (by decide) (fun c_3 => absurd c_3 (by decide +kernel)) (fun _ => ?_)
  refine lv_iload hx hb d_X6_leastWith_19 (lv_at hl 0 rfl) ?_
  refine lv_iload_n hx hb d_X6_leastWith_21 rfl (lv_at hl 4 rfl) ?_
  refine lv_icmp_eq (tgt := 39) hx hb d_X6_leastWith_22 (by decide) (fun _ => ?_) (fun c_4 => absurd (by decide +kernel) c_4)
  refine lv_iinc (v := 2) (lv' := [(4, .int 2), (3, .int 0), (2, .int 53248), (0, .ref h), (1, .int 1)]) hx hb d_X6_leastWith_39 hl (k := 0) rfl (by decide +kernel) (by decide) rfl (fun ls hl => ?_)
  refine lv_goto (tgt := 11) hx hb d_X6_leastWith_42 (by decide) ?_
  refine lv_iload hx hb d_X6_leastWith_11 (lv_at hl 0 rfl) ?_
  refine lv_sipush (v := 999) hx hb d_X6_leastWith_13 (by decide) ?_
  refine lv_icmp_gt (tgt := 45) hx hb d_X6_leastWith_16 (by decide) (fun c_5 => absurd c_5 (by decide +kernel)) (fun _ => ?_)
  refine lv_iload hx hb d_X6_leastWith_19 (lv_at hl 0 rfl) ?_
  refine lv_iload_n hx hb d_X6_leastWith_21 rfl (lv_at hl 4 rfl) ?_
  refine lv_icmp_eq (tgt := 39) hx hb d_X6_leastWith_22 (by decide) (fun c_6 => absurd c_6 (by decide +kernel)) (fun _ => ?_)
  refine lv_iload_n hx hb d_X6_leastWith_25 rfl (lv_at hl 2 rfl) ?_
  refine lv_aload_n hx hb d_X6_leastWith_26 rfl (lv_at hl 3 rfl) ?_
  refine lv_iload_n hx hb d_X6_leastWith_27 rfl (lv_at hl 4 rfl) ?_
  refine lv_iload hx hb d_X6_leastWith_28 (lv_at hl 0 rfl) ?_
  refine lv_iload_n hx hb d_X6_leastWith_30 rfl (lv_at hl 1 rfl) ?_
  refine lv_iload_n hx hb d_X6_leastWith_31 rfl (lv_at hl 2 rfl) ?_
  refine cu_VR (wc := [(h, .inr (4, [.ref w, .ref y, .ref a, .ref u, .ref v, .int z1, .int z2, .int z3, .int z4, .int z5, .int z6]))]) (rest := [.int 53248]) [.int 1, .int 2, .int 0, .int 53248] ⟨hx, hb, hml, hown, hg⟩ (c_X6_jointLack l D cI cZ cQ h w y a u v z1 z2 z3 z4 z5 z6 1 2 53248) hd_X6_jointLack k_531 k_528 k_530 k_15 k_53 ⟨Nat.le_of_ble_eq_true rfl, Nat.le_of_ble_eq_true rfl⟩ ⟨Nat.le_of_ble_eq_true rfl, Nat.le_of_ble_eq_true rfl⟩ hP hK [0] rfl 0 rfl rfl rfl hl.1 rfl (Nat.le_of_ble_eq_true rfl) d_X6_leastWith_32 (fun r_7 hr_8 => ?_)
  subst hr_8
  refine va_mmin hx hb (by rw [hml, hl.1]) hown (hg _ k_532) (hg _ k_361) (hg _ k_52) (hg _ k_362) (Nat.le_of_ble_eq_true rfl) (Nat.le_of_ble_eq_true rfl) (Nat.le_of_ble_eq_true rfl) (Nat.le_of_ble_eq_true rfl) d_X6_leastWith_35 ?_
  refine cu_topi (y := 0) (by decide +kernel) ?_
  refine lv_istore_n (lv' := [(2, .int 0), (4, .int 2), (3, .int 0), (0, .ref h), (1, .int 1)]) hx hb d_X6_leastWith_38 rfl hl (by decide) rfl (fun ls hl => ?_)
  refine lv_iinc (v := 3) (lv' := [(4, .int 3), (2, .int 0), (3, .int 0), (0, .ref h), (1, .int 1)]) hx hb d_X6_leastWith_39 hl (k := 1) rfl (by decide +kernel) (by decide) rfl (fun ls hl => ?_)
  refine lv_goto (tgt := 11) hx hb d_X6_leastWith_42 (by decide) ?_
  have key_9 : ∀ (n_11 j_10 : Nat) (hj_13 : j_10 + n_11 = 1000)  (hi_14 : 3 ≤ j_10) (ls : Array Slot) (hl : lv_has ls 5 [(4, .int (nI j_10)), (2, .int 0), (3, .int 0), (0, .ref h), (1, .int 1)]), W p l e (cu_rm 1 30 0 0) s m args below meth c s.heap [] 0 0 Q (F0 m 11 ls []) := by
    intro n_11
    induction n_11 with
    | zero =>
      intro j_10 hj_13  hi_14 ls hl
      obtain rfl : 1000 = j_10 := by omega
      have hl : lv_has ls 5 [(4, .int 1000), (2, .int 0), (3, .int 0), (0, .ref h), (1, .int 1)] := hl
      refine lv_iload hx hb d_X6_leastWith_11 (lv_at hl 0 rfl) ?_
      refine lv_sipush (v := 999) hx hb d_X6_leastWith_13 (by decide) ?_
      refine lv_icmp_gt (tgt := 45) hx hb d_X6_leastWith_16 (by decide) (fun _ => ?_) (fun c_15 => absurd (by decide +kernel) c_15)
      refine lv_iload_n hx hb d_X6_leastWith_45 rfl (lv_at hl 1 rfl) ?_
      exact hret _ _ _ d_X6_leastWith_46 (rfl) (rfl)
    | succ n_11 ih_12 =>
      intro j_10 hj_13  hi_14 ls hl
      refine lv_iload hx hb d_X6_leastWith_11 (lv_at hl 0 rfl) ?_
      refine lv_sipush (v := 999) hx hb d_X6_leastWith_13 (by decide) ?_
      refine lv_icmp_gt (tgt := 45) hx hb d_X6_leastWith_16 (by decide) (fun c_16 => absurd c_16 (mt (nI_ltI (a := 999) (b := j_10) (by omega) (by omega)).mp (by omega))) (fun _ => ?_)
      refine lv_iload hx hb d_X6_leastWith_19 (lv_at hl 0 rfl) ?_
      refine lv_iload_n hx hb d_X6_leastWith_21 rfl (lv_at hl 4 rfl) ?_
      refine lv_icmp_eq (tgt := 39) hx hb d_X6_leastWith_22 (by decide) (fun c_17 => absurd c_17 (mt (nI_eq (a := j_10) (b := 1) (by omega) (by omega)).mp (by omega))) (fun _ => ?_)
      refine lv_iload_n hx hb d_X6_leastWith_25 rfl (lv_at hl 1 rfl) ?_
      refine lv_aload_n hx hb d_X6_leastWith_26 rfl (lv_at hl 3 rfl) ?_
      refine lv_iload_n hx hb d_X6_leastWith_27 rfl (lv_at hl 4 rfl) ?_
      refine lv_iload hx hb d_X6_leastWith_28 (lv_at hl 0 rfl) ?_
      refine lv_iload_n hx hb d_X6_leastWith_30 rfl (lv_at hl 2 rfl) ?_
      refine lv_iload_n hx hb d_X6_leastWith_31 rfl (lv_at hl 1 rfl) ?_
      refine cu_VR (wc := [(h, .inr (4, [.ref w, .ref y, .ref a, .ref u, .ref v, .int z1, .int z2, .int z3, .int z4, .int z5, .int z6]))]) (rest := [.int 0]) [.int 1, .int (nI j_10), .int 0, .int 0] ⟨hx, hb, hml, hown, hg⟩ (c_X6_jointLack l D cI cZ cQ h w y a u v z1 z2 z3 z4 z5 z6 1 (nI j_10) 0) hd_X6_jointLack k_531 k_528 k_530 k_15 k_53 ⟨Nat.le_of_ble_eq_true rfl, Nat.le_of_ble_eq_true rfl⟩ ⟨Nat.le_of_ble_eq_true rfl, Nat.le_of_ble_eq_true rfl⟩ hP hK [0] rfl 0 rfl rfl rfl hl.1 rfl (Nat.le_of_ble_eq_true rfl) d_X6_leastWith_32 (fun r_18 hr_19 => ?_)
      subst hr_19
      refine va_mmin hx hb (by rw [hml, hl.1]) hown (hg _ k_532) (hg _ k_361) (hg _ k_52) (hg _ k_362) (Nat.le_of_ble_eq_true rfl) (Nat.le_of_ble_eq_true rfl) (Nat.le_of_ble_eq_true rfl) (Nat.le_of_ble_eq_true rfl) d_X6_leastWith_35 ?_
      refine cu_topi (y := 0) (by decide +kernel) ?_
      refine lv_istore_n (lv' := [(2, .int 0), (4, .int (nI j_10)), (3, .int 0), (0, .ref h), (1, .int 1)]) hx hb d_X6_leastWith_38 rfl hl (by decide) rfl (fun ls hl => ?_)
      refine lv_iinc (v := nI (j_10 + 1)) (lv' := [(4, .int (nI (j_10 + 1))), (2, .int 0), (3, .int 0), (0, .ref h), (1, .int 1)]) hx hb d_X6_leastWith_39 hl (k := 1) rfl (nI_1 j_10) (by decide) rfl (fun ls hl => ?_)
      refine lv_goto (tgt := 11) hx hb d_X6_leastWith_42 (by decide) ?_
      exact ih_12 (j_10 + 1) (by first | rfl | omega)  (by omega) _ (lv_sub hl [0, 1, 2, 3, 4] rfl)
  exact key_9 997 3 (by first | rfl | omega)  (Nat.le_refl _) _ (lv_sub hl [0, 1, 2, 3, 4] rfl)
set_option maxHeartbeats 4000000 in
set_option maxRecDepth 100000 in
theorem c_X6_findUpper (l : Launch) (D : va_G) (cI cZ cQ : ClassId) (h w y a u v : Nat) : cu_V l D (cu_TY cI cZ cQ) yX6_findUpper cX6_findUpper 6 1 30 0 0 [.ref h, .int 1, .int 0] [(h, .inr (4, [.ref w, .ref y, .ref a, .ref u, .ref v, .int 1, .int 0, .int 1, .int 0, .int 0, .int 1])), (w, .inl (cI, 12, .inl (fun _ => 0))), (u, .inl (cI, 1000, .inl (fun _ => 0)))] (fun ww => ww = [(h, .inr (4, [.ref w, .ref y, .ref a, .ref u, .ref v, .int 1, .int 0, .int 1, .int 1, .int 2, .int 0]))]) := by
  refine cu_V.intro (by decide) (Nat.le_of_ble_eq_true rfl) ?_
  intro p e s m args below meth c Q ls A S hin hret hP hD hS hA hK hl
  obtain ⟨hx, hb, hml, hown, hg⟩ := S
  have hown : s.vm.findClass RX6 = some m.cls := hown
  have hin : meth.name = "findUpper" := hin
  have hl : lv_has ls 6 [(0, .ref h), (1, .int 1), (2, .int 0)] := hl
  refine lv_aload_n hx hb d_X6_findUpper_0 rfl (lv_at hl 0 rfl) ?_
  refine cu_VR (wc := [(h, .inr (4, [.ref w, .ref y, .ref a, .ref u, .ref v, .int 1, .int 0, .int 1, .int 0, .int 0, .int 1])), (w, .inl (cI, 12, .inl (fun _ => 0)))]) (rest := []) [] ⟨hx, hb, hml, hown, hg⟩ (c_X6_width l D cI cZ cQ h w y a u v 1 0 1 0 0 1) hd_X6_width k_527 k_524 k_526 k_14 k_53 ⟨Nat.le_of_ble_eq_true rfl, Nat.le_of_ble_eq_true rfl⟩ ⟨Nat.le_of_ble_eq_true rfl, Nat.le_of_ble_eq_true rfl⟩ hP hK [0, 1] rfl 0 rfl rfl rfl hl.1 rfl (Nat.le_of_ble_eq_true rfl) d_X6_findUpper_1 (fun r_1 hr_2 => ?_)
  subst hr_2
  refine lv_istore_n (lv' := [(3, .int 0), (0, .ref h), (1, .int 1), (2, .int 0)]) hx hb d_X6_findUpper_4 rfl hl (by decide) rfl (fun ls hl => ?_)
  refine lv_iload_n hx hb d_X6_findUpper_5 rfl (lv_at hl 2 rfl) ?_
  refine lv_iconst (v := 1) hx hb d_X6_findUpper_6 (by decide) ?_
  refine lv_iadd hx hb d_X6_findUpper_7 ?_
  refine cu_topi (y := 2) (by decide +kernel) ?_
  refine lv_istore (lv' := [(4, .int 2), (3, .int 0), (0, .ref h), (1, .int 1), (2, .int 0)]) hx hb d_X6_findUpper_8 hl (by decide) rfl (fun ls hl => ?_)
  refine lv_iload hx hb d_X6_findUpper_10 (lv_at hl 0 rfl) ?_
  refine lv_sipush (v := 999) hx hb d_X6_findUpper_12 (by decide) ?_
  refine lv_icmp_gt (tgt := 94) hx hb d_X6_findUpper_15 (by decide) (fun c_3 => absurd c_3 (by decide +kernel)) (fun _ => ?_)
  refine lv_aload_n hx hb d_X6_findUpper_18 rfl (lv_at hl 2 rfl) ?_
  refine va_get (D := D) (ci := 4) (v := .int 1) (C := RX6) (T := TX6) (N := 11) hx hb hg cu_iX6 hown hK.1 hP 0 rfl rfl 10 (by decide) (hg _ k_444) (fun _ h9 => h9) rfl d_X6_findUpper_19 ?_
  refine lv_if_le (tgt := 94) hx hb d_X6_findUpper_22 (by decide) (fun c_4 => absurd c_4 (by decide +kernel)) (fun _ => ?_)
  refine lv_aload_n hx hb d_X6_findUpper_25 rfl (lv_at hl 2 rfl) ?_
  refine va_get (D := D) (ci := 4) (v := .ref u) (C := RX6) (T := TX6) (N := 11) hx hb hg cu_iX6 hown hK.1 hP 0 rfl rfl 3 (by decide) (hg _ k_434) (fun _ h9 => h9) rfl d_X6_findUpper_26 ?_
  refine lv_iload_n hx hb d_X6_findUpper_29 rfl (lv_at hl 3 rfl) ?_
  refine va_iald hx hb hK.1 hP 2 0 rfl rfl (vp_in_nI (n := 1) (N := 1000) (Nat.le_of_ble_eq_true rfl) (by decide)) d_X6_findUpper_30 ?_
  refine cu_topi (y := 0) rfl ?_
  refine lv_aload_n hx hb d_X6_findUpper_31 rfl (lv_at hl 2 rfl) ?_
  refine va_get (D := D) (ci := 4) (v := .ref u) (C := RX6) (T := TX6) (N := 11) hx hb hg cu_iX6 hown hK.1 hP 0 rfl rfl 3 (by decide) (hg _ k_434) (fun _ h9 => h9) rfl d_X6_findUpper_32 ?_
  refine lv_iload hx hb d_X6_findUpper_35 (lv_at hl 0 rfl) ?_
  refine va_iald hx hb hK.1 hP 2 0 rfl rfl (vp_in_nI (n := 2) (N := 1000) (Nat.le_of_ble_eq_true rfl) (by decide)) d_X6_findUpper_37 ?_
  refine cu_topi (y := 0) rfl ?_
  refine lv_iadd hx hb d_X6_findUpper_38 ?_
  refine cu_topi (y := 0) (by decide +kernel) ?_
  refine lv_iload_n hx hb d_X6_findUpper_39 rfl (lv_at hl 4 rfl) ?_
  refine lv_isub hx hb d_X6_findUpper_40 ?_
  refine cu_topi (y := 0) (by decide +kernel) ?_
  refine lv_aload_n hx hb d_X6_findUpper_41 rfl (lv_at hl 2 rfl) ?_
  refine va_get (D := D) (ci := 4) (v := .int 1) (C := RX6) (T := TX6) (N := 11) hx hb hg cu_iX6 hown hK.1 hP 0 rfl rfl 10 (by decide) (hg _ k_444) (fun _ h9 => h9) rfl d_X6_findUpper_42 ?_
  refine lv_icmp_ge (tgt := 88) hx hb d_X6_findUpper_45 (by decide) (fun c_5 => absurd c_5 (by decide +kernel)) (fun _ => ?_)
  refine lv_aload_n hx hb d_X6_findUpper_48 rfl (lv_at hl 2 rfl) ?_
  refine lv_iload_n hx hb d_X6_findUpper_49 rfl (lv_at hl 3 rfl) ?_
  refine lv_iload hx hb d_X6_findUpper_50 (lv_at hl 0 rfl) ?_
  refine lv_iload_n hx hb d_X6_findUpper_52 rfl (lv_at hl 1 rfl) ?_
  refine lv_aload_n hx hb d_X6_findUpper_53 rfl (lv_at hl 2 rfl) ?_
  refine va_get (D := D) (ci := 4) (v := .int 1) (C := RX6) (T := TX6) (N := 11) hx hb hg cu_iX6 hown hK.1 hP 0 rfl rfl 10 (by decide) (hg _ k_444) (fun _ h9 => h9) rfl d_X6_findUpper_54 ?_
  refine cu_VR (wc := [(h, .inr (4, [.ref w, .ref y, .ref a, .ref u, .ref v, .int 1, .int 0, .int 1, .int 0, .int 0, .int 1]))]) (rest := []) [.int 1, .int 2, .int 0, .int 1] ⟨hx, hb, hml, hown, hg⟩ (c_X6_jointLack l D cI cZ cQ h w y a u v 1 0 1 0 0 1 1 2 1) hd_X6_jointLack k_531 k_528 k_530 k_15 k_53 ⟨Nat.le_of_ble_eq_true rfl, Nat.le_of_ble_eq_true rfl⟩ ⟨Nat.le_of_ble_eq_true rfl, Nat.le_of_ble_eq_true rfl⟩ hP hK [0] rfl 0 rfl rfl rfl hl.1 rfl (Nat.le_of_ble_eq_true rfl) d_X6_findUpper_57 (fun r_6 hr_7 => ?_)
  subst hr_7
  refine lv_istore (lv' := [(5, .int 0), (4, .int 2), (3, .int 0), (0, .ref h), (1, .int 1), (2, .int 0)]) hx hb d_X6_findUpper_60 hl (by decide) rfl (fun ls hl => ?_)
  refine lv_iload hx hb d_X6_findUpper_62 (lv_at hl 0 rfl) ?_
  refine lv_aload_n hx hb d_X6_findUpper_64 rfl (lv_at hl 3 rfl) ?_
  refine va_get (D := D) (ci := 4) (v := .int 1) (C := RX6) (T := TX6) (N := 11) hx hb hg cu_iX6 hown hK.1 hP 0 rfl rfl 10 (by decide) (hg _ k_444) (fun _ h9 => h9) rfl d_X6_findUpper_65 ?_
  refine lv_icmp_ge (tgt := 88) hx hb d_X6_findUpper_68 (by decide) (fun c_8 => absurd c_8 (by decide +kernel)) (fun _ => ?_)
  refine lv_aload_n hx hb d_X6_findUpper_71 rfl (lv_at hl 3 rfl) ?_
  refine lv_iload hx hb d_X6_findUpper_72 (lv_at hl 0 rfl) ?_
  refine va_put (D := D) (ci := 4) (v := .int 0) (ty := .int) (C := RX6) (T := TX6) (N := 11) hx hb hg cu_iX6 tyX6 tyX6_ok nmX6 hown hK.1 hP hD hS 0 rfl rfl 10 (by decide) (hg _ k_444) (fun _ h9 => h9) rfl (by decide +kernel) rfl rfl (Nat.le_of_ble_eq_true rfl) d_X6_findUpper_74 (fun H locs hP hD hS => ?_)
  have hP : va_P D vwCl [(h, .inr (4, [.ref w, .ref y, .ref a, .ref u, .ref v, .int 1, .int 0, .int 1, .int 0, .int 0, .int 0])), (w, .inl (cI, 12, .inl (fun _ => 0))), (u, .inl (cI, 1000, .inl (fun _ => 0)))] H := hP
  have hD : va_D A [(h, .inr (4, [.ref w, .ref y, .ref a, .ref u, .ref v, .int 1, .int 0, .int 1, .int 0, .int 0, .int 0])), (w, .inl (cI, 12, .inl (fun _ => 0))), (u, .inl (cI, 1000, .inl (fun _ => 0)))] := hD
  refine lv_aload_n hx hb d_X6_findUpper_77 rfl (lv_at hl 3 rfl) ?_
  refine lv_iload_n hx hb d_X6_findUpper_78 rfl (lv_at hl 4 rfl) ?_
  refine va_put (D := D) (ci := 4) (v := .int 1) (ty := .int) (C := RX6) (T := TX6) (N := 11) hx hb hg cu_iX6 tyX6 tyX6_ok nmX6 hown hK.1 hP hD hS 0 rfl rfl 8 (by decide) (hg _ k_440) (fun _ h9 => h9) rfl (by decide +kernel) rfl rfl (Nat.le_of_ble_eq_true rfl) d_X6_findUpper_79 (fun H locs hP hD hS => ?_)
  have hP : va_P D vwCl [(h, .inr (4, [.ref w, .ref y, .ref a, .ref u, .ref v, .int 1, .int 0, .int 1, .int 1, .int 0, .int 0])), (w, .inl (cI, 12, .inl (fun _ => 0))), (u, .inl (cI, 1000, .inl (fun _ => 0)))] H := hP
  have hD : va_D A [(h, .inr (4, [.ref w, .ref y, .ref a, .ref u, .ref v, .int 1, .int 0, .int 1, .int 1, .int 0, .int 0])), (w, .inl (cI, 12, .inl (fun _ => 0))), (u, .inl (cI, 1000, .inl (fun _ => 0)))] := hD
  refine lv_aload_n hx hb d_X6_findUpper_82 rfl (lv_at hl 3 rfl) ?_
  refine lv_iload hx hb d_X6_findUpper_83 (lv_at hl 1 rfl) ?_
  refine va_put (D := D) (ci := 4) (v := .int 2) (ty := .int) (C := RX6) (T := TX6) (N := 11) hx hb hg cu_iX6 tyX6 tyX6_ok nmX6 hown hK.1 hP hD hS 0 rfl rfl 9 (by decide) (hg _ k_442) (fun _ h9 => h9) rfl (by decide +kernel) rfl rfl (Nat.le_of_ble_eq_true rfl) d_X6_findUpper_85 (fun H locs hP hD hS => ?_)
  have hP : va_P D vwCl [(h, .inr (4, [.ref w, .ref y, .ref a, .ref u, .ref v, .int 1, .int 0, .int 1, .int 1, .int 2, .int 0])), (w, .inl (cI, 12, .inl (fun _ => 0))), (u, .inl (cI, 1000, .inl (fun _ => 0)))] H := hP
  have hD : va_D A [(h, .inr (4, [.ref w, .ref y, .ref a, .ref u, .ref v, .int 1, .int 0, .int 1, .int 1, .int 2, .int 0])), (w, .inl (cI, 12, .inl (fun _ => 0))), (u, .inl (cI, 1000, .inl (fun _ => 0)))] := hD
  refine lv_iinc (v := 3) (lv' := [(4, .int 3), (5, .int 0), (3, .int 0), (0, .ref h), (1, .int 1), (2, .int 0)]) hx hb d_X6_findUpper_88 hl (k := 1) rfl (by decide +kernel) (by decide) rfl (fun ls hl => ?_)
  refine lv_goto (tgt := 10) hx hb d_X6_findUpper_91 (by decide) ?_
  refine lv_iload hx hb d_X6_findUpper_10 (lv_at hl 0 rfl) ?_
  refine lv_sipush (v := 999) hx hb d_X6_findUpper_12 (by decide) ?_
  refine lv_icmp_gt (tgt := 94) hx hb d_X6_findUpper_15 (by decide) (fun c_9 => absurd c_9 (by decide +kernel)) (fun _ => ?_)
  refine lv_aload_n hx hb d_X6_findUpper_18 rfl (lv_at hl 3 rfl) ?_
  refine va_get (D := D) (ci := 4) (v := .int 0) (C := RX6) (T := TX6) (N := 11) hx hb hg cu_iX6 hown hK.1 hP 0 rfl rfl 10 (by decide) (hg _ k_444) (fun _ h9 => h9) rfl d_X6_findUpper_19 ?_
  refine lv_if_le (tgt := 94) hx hb d_X6_findUpper_22 (by decide) (fun _ => ?_) (fun c_10 => absurd (by decide +kernel) c_10)
  exact hret _ _ _ _ [(h, .inr (4, [.ref w, .ref y, .ref a, .ref u, .ref v, .int 1, .int 0, .int 1, .int 1, .int 2, .int 0]))] _ _ (hP.sub (ws' := [(h, .inr (4, [.ref w, .ref y, .ref a, .ref u, .ref v, .int 1, .int 0, .int 1, .int 1, .int 2, .int 0]))]) [0] rfl) (hD.sub (ws' := [(h, .inr (4, [.ref w, .ref y, .ref a, .ref u, .ref v, .int 1, .int 0, .int 1, .int 1, .int 2, .int 0]))]) [0] (by decide) rfl) hS (Nat.le_of_ble_eq_true rfl) (Nat.le_of_ble_eq_true rfl) d_X6_findUpper_94 rfl
set_option maxHeartbeats 4000000 in
set_option maxRecDepth 100000 in
theorem c_X6_findPair (l : Launch) (D : va_G) (cI cZ cQ : ClassId) (h w y a u v : Nat) : cu_V l D (cu_TY cI cZ cQ) yX6_findPair cX6_findPair 4 2 55 0 0 [.ref h] [(h, .inr (4, [.ref w, .ref y, .ref a, .ref u, .ref v, .int 1, .int 0, .int 0, .int 0, .int 0, .int 0])), (w, .inl (cI, 12, .inl (fun _ => 0))), (u, .inl (cI, 1000, .inl (fun _ => 0)))] (fun ww => ww = [(h, .inr (4, [.ref w, .ref y, .ref a, .ref u, .ref v, .int 1, .int 0, .int 1, .int 1, .int 2, .int 0]))]) := by
  refine cu_V.intro (by decide) (Nat.le_of_ble_eq_true rfl) ?_
  intro p e s m args below meth c Q ls A S hin hret hP hD hS hA hK hl
  obtain ⟨hx, hb, hml, hown, hg⟩ := S
  have hown : s.vm.findClass RX6 = some m.cls := hown
  have hin : meth.name = "findPair" := hin
  have hl : lv_has ls 4 [(0, .ref h)] := hl
  refine lv_aload_n hx hb d_X6_findPair_0 rfl (lv_at hl 0 rfl) ?_
  refine va_get (D := D) (ci := 4) (v := .int 0) (C := RX6) (T := TX6) (N := 11) hx hb hg cu_iX6 hown hK.1 hP 0 rfl rfl 7 (by decide) (hg _ k_439) (fun _ h9 => h9) rfl d_X6_findPair_1 ?_
  refine lv_aload_n hx hb d_X6_findPair_4 rfl (lv_at hl 0 rfl) ?_
  refine va_get (D := D) (ci := 4) (v := .int 1) (C := RX6) (T := TX6) (N := 11) hx hb hg cu_iX6 hown hK.1 hP 0 rfl rfl 5 (by decide) (hg _ k_436) (fun _ h9 => h9) rfl d_X6_findPair_5 ?_
  refine lv_icmp_ne (tgt := 12) hx hb d_X6_findPair_8 (by decide) (fun _ => ?_) (fun c_1 => absurd c_1 (by decide +kernel))
  refine lv_aload_n hx hb d_X6_findPair_12 rfl (lv_at hl 0 rfl) ?_
  refine lv_aload_n hx hb d_X6_findPair_13 rfl (lv_at hl 0 rfl) ?_
  refine va_get (D := D) (ci := 4) (v := .int 1) (C := RX6) (T := TX6) (N := 11) hx hb hg cu_iX6 hown hK.1 hP 0 rfl rfl 5 (by decide) (hg _ k_436) (fun _ h9 => h9) rfl d_X6_findPair_14 ?_
  refine va_put (D := D) (ci := 4) (v := .int 1) (ty := .int) (C := RX6) (T := TX6) (N := 11) hx hb hg cu_iX6 tyX6 tyX6_ok nmX6 hown hK.1 hP hD hS 0 rfl rfl 7 (by decide) (hg _ k_439) (fun _ h9 => h9) rfl (by decide +kernel) rfl rfl (Nat.le_of_ble_eq_true rfl) d_X6_findPair_17 (fun H locs hP hD hS => ?_)
  have hP : va_P D vwCl [(h, .inr (4, [.ref w, .ref y, .ref a, .ref u, .ref v, .int 1, .int 0, .int 1, .int 0, .int 0, .int 0])), (w, .inl (cI, 12, .inl (fun _ => 0))), (u, .inl (cI, 1000, .inl (fun _ => 0)))] H := hP
  have hD : va_D A [(h, .inr (4, [.ref w, .ref y, .ref a, .ref u, .ref v, .int 1, .int 0, .int 1, .int 0, .int 0, .int 0])), (w, .inl (cI, 12, .inl (fun _ => 0))), (u, .inl (cI, 1000, .inl (fun _ => 0)))] := hD
  refine lv_aload_n hx hb d_X6_findPair_20 rfl (lv_at hl 0 rfl) ?_
  refine cu_VR (wc := [(h, .inr (4, [.ref w, .ref y, .ref a, .ref u, .ref v, .int 1, .int 0, .int 1, .int 0, .int 0, .int 0])), (u, .inl (cI, 1000, .inl (fun _ => 0)))]) (rest := []) [] ⟨hx, hb, hml, hown, hg⟩ (c_X6_bestUnit l D cI cZ cQ h w y a u v 1 0 1 0 0 0) hd_X6_bestUnit k_514 k_511 k_513 k_11 k_53 ⟨Nat.le_of_ble_eq_true rfl, Nat.le_of_ble_eq_true rfl⟩ ⟨Nat.le_of_ble_eq_true rfl, Nat.le_of_ble_eq_true rfl⟩ hP hK [0, 2] rfl 0 rfl rfl rfl hl.1 rfl (Nat.le_of_ble_eq_true rfl) d_X6_findPair_21 (fun r_2 hr_3 => ?_)
  subst hr_3
  refine lv_istore_n (lv' := [(1, .int 1), (0, .ref h)]) hx hb d_X6_findPair_24 rfl hl (by decide) rfl (fun ls hl => ?_)
  refine lv_aload_n hx hb d_X6_findPair_25 rfl (lv_at hl 1 rfl) ?_
  refine cu_VR (wc := [(h, .inr (4, [.ref w, .ref y, .ref a, .ref u, .ref v, .int 1, .int 0, .int 1, .int 0, .int 0, .int 0])), (w, .inl (cI, 12, .inl (fun _ => 0)))]) (rest := []) [] ⟨hx, hb, hml, hown, hg⟩ (c_X6_countedColumns l D cI cZ cQ h w y a u v 1 0 1 0 0 0) hd_X6_countedColumns k_518 k_515 k_517 k_12 k_53 ⟨Nat.le_of_ble_eq_true rfl, Nat.le_of_ble_eq_true rfl⟩ ⟨Nat.le_of_ble_eq_true rfl, Nat.le_of_ble_eq_true rfl⟩ hP hK [0, 1] rfl 0 rfl rfl rfl hl.1 rfl (Nat.le_of_ble_eq_true rfl) d_X6_findPair_26 (fun r_4 hr_5 => ?_)
  subst hr_5
  refine lv_sipush (v := 4096) hx hb d_X6_findPair_29 (by decide) ?_
  refine lv_imul hx hb d_X6_findPair_32 ?_
  refine cu_topi (y := 0) (by decide +kernel) ?_
  refine lv_istore_n (lv' := [(2, .int 0), (1, .int 1), (0, .ref h)]) hx hb d_X6_findPair_33 rfl hl (by decide) rfl (fun ls hl => ?_)
  refine lv_aload_n hx hb d_X6_findPair_34 rfl (lv_at hl 2 rfl) ?_
  refine lv_aload_n hx hb d_X6_findPair_35 rfl (lv_at hl 2 rfl) ?_
  refine lv_iload_n hx hb d_X6_findPair_36 rfl (lv_at hl 1 rfl) ?_
  refine cu_VR (wc := [(h, .inr (4, [.ref w, .ref y, .ref a, .ref u, .ref v, .int 1, .int 0, .int 1, .int 0, .int 0, .int 0])), (w, .inl (cI, 12, .inl (fun _ => 0)))]) (rest := [.ref h]) [.int 1] ⟨hx, hb, hml, hown, hg⟩ (c_X6_leastWith l D cI cZ cQ h w y a u v 1 0 1 0 0 0) hd_X6_leastWith k_522 k_519 k_521 k_13 k_53 ⟨Nat.le_of_ble_eq_true rfl, Nat.le_of_ble_eq_true rfl⟩ ⟨Nat.le_of_ble_eq_true rfl, Nat.le_of_ble_eq_true rfl⟩ hP hK [0, 1] rfl 0 rfl rfl rfl hl.1 rfl (Nat.le_of_ble_eq_true rfl) d_X6_findPair_37 (fun r_6 hr_7 => ?_)
  subst hr_7
  refine lv_iconst (v := 1) hx hb d_X6_findPair_40 (by decide) ?_
  refine lv_iadd hx hb d_X6_findPair_41 ?_
  refine cu_topi (y := 1) (by decide +kernel) ?_
  refine va_put (D := D) (ci := 4) (v := .int 1) (ty := .int) (C := RX6) (T := TX6) (N := 11) hx hb hg cu_iX6 tyX6 tyX6_ok nmX6 hown hK.1 hP hD hS 0 rfl rfl 10 (by decide) (hg _ k_444) (fun _ h9 => h9) rfl (by decide +kernel) rfl rfl (Nat.le_of_ble_eq_true rfl) d_X6_findPair_42 (fun H locs hP hD hS => ?_)
  have hP : va_P D vwCl [(h, .inr (4, [.ref w, .ref y, .ref a, .ref u, .ref v, .int 1, .int 0, .int 1, .int 0, .int 0, .int 1])), (w, .inl (cI, 12, .inl (fun _ => 0))), (u, .inl (cI, 1000, .inl (fun _ => 0)))] H := hP
  have hD : va_D A [(h, .inr (4, [.ref w, .ref y, .ref a, .ref u, .ref v, .int 1, .int 0, .int 1, .int 0, .int 0, .int 1])), (w, .inl (cI, 12, .inl (fun _ => 0))), (u, .inl (cI, 1000, .inl (fun _ => 0)))] := hD
  refine lv_iconst (v := 1) hx hb d_X6_findPair_45 (by decide) ?_
  refine lv_istore_n (lv' := [(3, .int 1), (2, .int 0), (1, .int 1), (0, .ref h)]) hx hb d_X6_findPair_46 rfl hl (by decide) rfl (fun ls hl => ?_)
  refine lv_iload_n hx hb d_X6_findPair_47 rfl (lv_at hl 0 rfl) ?_
  refine lv_sipush (v := 999) hx hb d_X6_findPair_48 (by decide) ?_
  refine lv_icmp_ge (tgt := 95) hx hb d_X6_findPair_51 (by decide) (fun c_8 => absurd c_8 (by decide +kernel)) (fun _ => ?_)
  refine lv_aload_n hx hb d_X6_findPair_54 rfl (lv_at hl 3 rfl) ?_
  refine va_get (D := D) (ci := 4) (v := .int 1) (C := RX6) (T := TX6) (N := 11) hx hb hg cu_iX6 hown hK.1 hP 0 rfl rfl 10 (by decide) (hg _ k_444) (fun _ h9 => h9) rfl d_X6_findPair_55 ?_
  refine lv_if_le (tgt := 95) hx hb d_X6_findPair_58 (by decide) (fun c_9 => absurd c_9 (by decide +kernel)) (fun _ => ?_)
  refine lv_aload_n hx hb d_X6_findPair_61 rfl (lv_at hl 3 rfl) ?_
  refine va_get (D := D) (ci := 4) (v := .ref u) (C := RX6) (T := TX6) (N := 11) hx hb hg cu_iX6 hown hK.1 hP 0 rfl rfl 3 (by decide) (hg _ k_434) (fun _ h9 => h9) rfl d_X6_findPair_62 ?_
  refine lv_iload_n hx hb d_X6_findPair_65 rfl (lv_at hl 0 rfl) ?_
  refine va_iald hx hb hK.1 hP 2 0 rfl rfl (vp_in_nI (n := 1) (N := 1000) (Nat.le_of_ble_eq_true rfl) (by decide)) d_X6_findPair_66 ?_
  refine cu_topi (y := 0) rfl ?_
  refine lv_aload_n hx hb d_X6_findPair_67 rfl (lv_at hl 3 rfl) ?_
  refine va_get (D := D) (ci := 4) (v := .ref u) (C := RX6) (T := TX6) (N := 11) hx hb hg cu_iX6 hown hK.1 hP 0 rfl rfl 3 (by decide) (hg _ k_434) (fun _ h9 => h9) rfl d_X6_findPair_68 ?_
  refine lv_iload_n hx hb d_X6_findPair_71 rfl (lv_at hl 2 rfl) ?_
  refine va_iald hx hb hK.1 hP 2 0 rfl rfl (vp_in_nI (n := 1) (N := 1000) (Nat.le_of_ble_eq_true rfl) (by decide)) d_X6_findPair_72 ?_
  refine cu_topi (y := 0) rfl ?_
  refine lv_iadd hx hb d_X6_findPair_73 ?_
  refine cu_topi (y := 0) (by decide +kernel) ?_
  refine lv_iload_n hx hb d_X6_findPair_74 rfl (lv_at hl 1 rfl) ?_
  refine lv_isub hx hb d_X6_findPair_75 ?_
  refine cu_topi (y := 0) (by decide +kernel) ?_
  refine lv_aload_n hx hb d_X6_findPair_76 rfl (lv_at hl 3 rfl) ?_
  refine va_get (D := D) (ci := 4) (v := .int 1) (C := RX6) (T := TX6) (N := 11) hx hb hg cu_iX6 hown hK.1 hP 0 rfl rfl 10 (by decide) (hg _ k_444) (fun _ h9 => h9) rfl d_X6_findPair_77 ?_
  refine lv_icmp_ge (tgt := 89) hx hb d_X6_findPair_80 (by decide) (fun c_10 => absurd c_10 (by decide +kernel)) (fun _ => ?_)
  refine lv_aload_n hx hb d_X6_findPair_83 rfl (lv_at hl 3 rfl) ?_
  refine lv_iload_n hx hb d_X6_findPair_84 rfl (lv_at hl 0 rfl) ?_
  refine lv_iload_n hx hb d_X6_findPair_85 rfl (lv_at hl 1 rfl) ?_
  refine cu_VV (wc := [(h, .inr (4, [.ref w, .ref y, .ref a, .ref u, .ref v, .int 1, .int 0, .int 1, .int 0, .int 0, .int 1])), (w, .inl (cI, 12, .inl (fun _ => 0))), (u, .inl (cI, 1000, .inl (fun _ => 0)))]) (wr := []) (rest := []) [.int 1, .int 0] ⟨hx, hb, hml, hown, hg⟩ (c_X6_findUpper l D cI cZ cQ h w y a u v) hd_X6_findUpper k_536 k_533 k_535 k_16 k_53 ⟨Nat.le_of_ble_eq_true rfl, Nat.le_of_ble_eq_true rfl⟩ ⟨Nat.le_of_ble_eq_true rfl, Nat.le_of_ble_eq_true rfl⟩ hP hD hS hA hK [0, 1, 2] [] rfl rfl (by decide) (by decide) (by decide) 0 rfl rfl rfl hl.1 rfl (Nat.le_of_ble_eq_true rfl) d_X6_findPair_86 (fun w_13 H locs hw_12 hP hD hS => ?_)
  subst hw_12
  have hP : va_P D vwCl [(h, .inr (4, [.ref w, .ref y, .ref a, .ref u, .ref v, .int 1, .int 0, .int 1, .int 1, .int 2, .int 0]))] H := hP
  have hD : va_D A [(h, .inr (4, [.ref w, .ref y, .ref a, .ref u, .ref v, .int 1, .int 0, .int 1, .int 1, .int 2, .int 0]))] := hD
  refine lv_iinc (v := 2) (lv' := [(3, .int 2), (2, .int 0), (1, .int 1), (0, .ref h)]) hx hb d_X6_findPair_89 hl (k := 0) rfl (by decide +kernel) (by decide) rfl (fun ls hl => ?_)
  refine lv_goto (tgt := 47) hx hb d_X6_findPair_92 (by decide) ?_
  refine lv_iload_n hx hb d_X6_findPair_47 rfl (lv_at hl 0 rfl) ?_
  refine lv_sipush (v := 999) hx hb d_X6_findPair_48 (by decide) ?_
  refine lv_icmp_ge (tgt := 95) hx hb d_X6_findPair_51 (by decide) (fun c_14 => absurd c_14 (by decide +kernel)) (fun _ => ?_)
  refine lv_aload_n hx hb d_X6_findPair_54 rfl (lv_at hl 3 rfl) ?_
  refine va_get (D := D) (ci := 4) (v := .int 0) (C := RX6) (T := TX6) (N := 11) hx hb hg cu_iX6 hown hK.1 hP 0 rfl rfl 10 (by decide) (hg _ k_444) (fun _ h9 => h9) rfl d_X6_findPair_55 ?_
  refine lv_if_le (tgt := 95) hx hb d_X6_findPair_58 (by decide) (fun _ => ?_) (fun c_15 => absurd (by decide +kernel) c_15)
  exact hret _ _ _ _ [(h, .inr (4, [.ref w, .ref y, .ref a, .ref u, .ref v, .int 1, .int 0, .int 1, .int 1, .int 2, .int 0]))] _ _ (hP.sub (ws' := [(h, .inr (4, [.ref w, .ref y, .ref a, .ref u, .ref v, .int 1, .int 0, .int 1, .int 1, .int 2, .int 0]))]) [0] rfl) (hD.sub (ws' := [(h, .inr (4, [.ref w, .ref y, .ref a, .ref u, .ref v, .int 1, .int 0, .int 1, .int 1, .int 2, .int 0]))]) [0] (by decide) rfl) hS (Nat.le_of_ble_eq_true rfl) (Nat.le_of_ble_eq_true rfl) d_X6_findPair_95 rfl
def cu_spr (c1 : Int32) : Int32 := if c1 < 0 then (-2) else if 3 < c1 then (-2) else if c1 = 0 then 1 else if c1 = 1 then 2 else if c1 = 2 then 0 else 0
set_option maxHeartbeats 4000000 in
set_option maxRecDepth 100000 in
theorem c_X8_pair (l : Launch) (D : va_G) (cI cZ cQ : ClassId) (x tx nw sp ac cr sg sl fl : Nat) (w y a u : Nat) (c1 : Int32) : cu_W l D (cu_TY cI cZ cQ) yX8_pair cX8_pair 3 .int 4 86 6 14034 [.ref x, .int c1] [(x, .inr (6, [.ref tx, .ref nw, .ref sp, .ref ac, .ref cr, .ref sg, .ref sl, .ref fl, .null, .long 0])), (nw, .inr (2, [.ref w, .ref y, .ref a, .ref u, .int 0, .int 0, .int 1, .int 0]))] (fun r ww => (r = cu_spr c1) ∧ ww = []) := by
  refine cu_W.intro (by decide) (Nat.le_of_ble_eq_true rfl) ?_
  intro p e s m args below meth c Q ls A S hret hP hD hS hA hK hl
  obtain ⟨hx, hb, hml, hown, hg⟩ := S
  have hown : s.vm.findClass RX8 = some m.cls := hown
  have hl : lv_has ls 3 [(0, .ref x), (1, .int c1)] := hl
  refine lv_iload_n hx hb d_X8_pair_0 rfl (lv_at hl 1 rfl) ?_
  refine lv_if_lt (tgt := 9) hx hb d_X8_pair_1 (by decide) (fun c_1 => ?_) (fun c_1 => ?_)
  · skip
    refine lv_bipush (v := (-2)) hx hb d_X8_pair_9 (by decide) ?_
    exact hret _ _ _ _ [] _ _ _ (hP.sub (ws' := []) [] rfl) (hD.sub (ws' := []) [] (by decide) rfl) hS (Nat.le_of_ble_eq_true rfl) (Nat.le_of_ble_eq_true rfl) d_X8_pair_11 (rfl) ⟨by unfold cu_spr; rw [if_pos c_1], rfl⟩
  · skip
    refine lv_iload_n hx hb d_X8_pair_4 rfl (lv_at hl 1 rfl) ?_
    refine lv_iconst (v := 3) hx hb d_X8_pair_5 (by decide) ?_
    refine lv_icmp_le (tgt := 12) hx hb d_X8_pair_6 (by decide) (fun c_2 => ?_) (fun c_2 => ?_)
    · skip
      refine lv_aload_n hx hb d_X8_pair_12 rfl (lv_at hl 0 rfl) ?_
      refine cu_VQ (wc := [(x, .inr (6, [.ref tx, .ref nw, .ref sp, .ref ac, .ref cr, .ref sg, .ref sl, .ref fl, .null, .long 0])), (nw, .inr (2, [.ref w, .ref y, .ref a, .ref u, .int 0, .int 0, .int 1, .int 0]))]) (wr := []) (rest := []) [] ⟨hx, hb, hml, hown, hg⟩ (c_X8_surveyNow l D cI cZ cQ x tx nw sp ac cr sg sl fl w y a u) hd_X8_surveyNow k_424 k_421 k_423 k_7 k_43 ⟨Nat.le_of_ble_eq_true rfl, Nat.le_of_ble_eq_true rfl⟩ ⟨Nat.le_of_ble_eq_true rfl, Nat.le_of_ble_eq_true rfl⟩ hP hD hS hA hK [0, 1] [] rfl rfl (by decide) (by decide) (by decide) 0 rfl rfl rfl hl.1 rfl (Nat.le_of_ble_eq_true rfl) d_X8_pair_13 (fun r_3 w_5 H locs hw_4 hP hD hS => ?_)
      obtain ⟨q0_6, v1_7, v2_8, v3_9, v4_10, v5_11, hr_12⟩ := hw_4
      obtain ⟨hqa, hqb⟩ := Prod.mk.inj hr_12
      have hqa := hqa.symm
      subst hqa
      subst hqb
      have hP : va_P D vwCl [(x, .inr (6, [.ref tx, .ref nw, .ref sp, .ref ac, .ref cr, .ref sg, .ref sl, .ref fl, .ref q0_6, .long 0])), (nw, .inr (2, [.ref w, .ref y, .ref a, .ref u, .int 0, .int 0, .int 1, .int 0])), (q0_6, .inr (4, [.ref v1_7, .ref v2_8, .ref v3_9, .ref v4_10, .ref v5_11, .int 1, .int 0, .int 0, .int 0, .int 0, .int 0])), (v1_7, .inl (cI, 12, .inl (fun _ => 0))), (v2_8, .inl (cI, 12, .inl (fun _ => 0))), (v3_9, .inl (cI, 12000, .inl (fun _ => 0))), (v4_10, .inl (cI, 1000, .inl (fun _ => 0))), (v5_11, .inl (cI, 999, .inl (fun _ => 0)))] H := hP
      have hD : va_D A [(x, .inr (6, [.ref tx, .ref nw, .ref sp, .ref ac, .ref cr, .ref sg, .ref sl, .ref fl, .ref q0_6, .long 0])), (nw, .inr (2, [.ref w, .ref y, .ref a, .ref u, .int 0, .int 0, .int 1, .int 0])), (q0_6, .inr (4, [.ref v1_7, .ref v2_8, .ref v3_9, .ref v4_10, .ref v5_11, .int 1, .int 0, .int 0, .int 0, .int 0, .int 0])), (v1_7, .inl (cI, 12, .inl (fun _ => 0))), (v2_8, .inl (cI, 12, .inl (fun _ => 0))), (v3_9, .inl (cI, 12000, .inl (fun _ => 0))), (v4_10, .inl (cI, 1000, .inl (fun _ => 0))), (v5_11, .inl (cI, 999, .inl (fun _ => 0)))] := hD
      refine W.widen (k := 6) (n := 14034) (Nat.le_of_ble_eq_true rfl) (Nat.le_of_ble_eq_true rfl) ?_
      refine lv_astore_n (lv' := [(2, .ref q0_6), (0, .ref x), (1, .int c1)]) hx hb d_X8_pair_16 rfl hl (by decide) rfl (fun ls hl => ?_)
      refine lv_aload_n hx hb d_X8_pair_17 rfl (lv_at hl 0 rfl) ?_
      refine cu_VV (wc := [(q0_6, .inr (4, [.ref v1_7, .ref v2_8, .ref v3_9, .ref v4_10, .ref v5_11, .int 1, .int 0, .int 0, .int 0, .int 0, .int 0])), (v1_7, .inl (cI, 12, .inl (fun _ => 0))), (v4_10, .inl (cI, 1000, .inl (fun _ => 0)))]) (wr := [(x, .inr (6, [.ref tx, .ref nw, .ref sp, .ref ac, .ref cr, .ref sg, .ref sl, .ref fl, .ref q0_6, .long 0])), (nw, .inr (2, [.ref w, .ref y, .ref a, .ref u, .int 0, .int 0, .int 1, .int 0])), (v2_8, .inl (cI, 12, .inl (fun _ => 0))), (v3_9, .inl (cI, 12000, .inl (fun _ => 0))), (v5_11, .inl (cI, 999, .inl (fun _ => 0)))]) (rest := []) [] ⟨hx, hb, hml, hown, hg⟩ (c_X6_findPair l D cI cZ cQ q0_6 v1_7 v2_8 v3_9 v4_10 v5_11) hd_X6_findPair k_510 k_507 k_508 k_509 k_53 ⟨Nat.le_of_ble_eq_true rfl, Nat.le_of_ble_eq_true rfl⟩ ⟨Nat.le_of_ble_eq_true rfl, Nat.le_of_ble_eq_true rfl⟩ hP hD hS hA hK [2, 3, 6] [0, 1, 4, 5, 7] rfl rfl (by decide) (by decide) (by decide) 0 rfl rfl rfl hl.1 rfl (Nat.le_of_ble_eq_true rfl) d_X8_pair_18 (fun w_15 H locs hw_14 hP hD hS => ?_)
      subst hw_14
      have hP : va_P D vwCl [(x, .inr (6, [.ref tx, .ref nw, .ref sp, .ref ac, .ref cr, .ref sg, .ref sl, .ref fl, .ref q0_6, .long 0])), (nw, .inr (2, [.ref w, .ref y, .ref a, .ref u, .int 0, .int 0, .int 1, .int 0])), (v2_8, .inl (cI, 12, .inl (fun _ => 0))), (v3_9, .inl (cI, 12000, .inl (fun _ => 0))), (v5_11, .inl (cI, 999, .inl (fun _ => 0))), (q0_6, .inr (4, [.ref v1_7, .ref v2_8, .ref v3_9, .ref v4_10, .ref v5_11, .int 1, .int 0, .int 1, .int 1, .int 2, .int 0]))] H := hP
      have hD : va_D A [(x, .inr (6, [.ref tx, .ref nw, .ref sp, .ref ac, .ref cr, .ref sg, .ref sl, .ref fl, .ref q0_6, .long 0])), (nw, .inr (2, [.ref w, .ref y, .ref a, .ref u, .int 0, .int 0, .int 1, .int 0])), (v2_8, .inl (cI, 12, .inl (fun _ => 0))), (v3_9, .inl (cI, 12000, .inl (fun _ => 0))), (v5_11, .inl (cI, 999, .inl (fun _ => 0))), (q0_6, .inr (4, [.ref v1_7, .ref v2_8, .ref v3_9, .ref v4_10, .ref v5_11, .int 1, .int 0, .int 1, .int 1, .int 2, .int 0]))] := hD
      refine lv_iload_n hx hb d_X8_pair_21 rfl (lv_at hl 2 rfl) ?_
      by_cases hk_16 : c1 = 0
      · skip
        refine cu_topi (y := 0) hk_16 ?_
        refine lv_tableIn (off := 26) (tgt := 48) hx hb d_X8_pair_22 (by decide) (by decide) (by decide +kernel) (by decide) ?_
        refine lv_aload_n hx hb d_X8_pair_48 rfl (lv_at hl 0 rfl) ?_
        refine va_get (D := D) (ci := 4) (v := .int 1) (C := RX6) (T := TX6) (N := 11) hx hb hg cu_iX6 hown hK.1 hP 5 rfl rfl 8 (by decide) (hg _ k_441) (fun _ h9 => h9) rfl d_X8_pair_49 ?_
        exact hret _ _ _ _ [] _ _ _ (hP.sub (ws' := []) [] rfl) (hD.sub (ws' := []) [] (by decide) rfl) hS (Nat.le_of_ble_eq_true rfl) (Nat.le_of_ble_eq_true rfl) d_X8_pair_52 (rfl) ⟨by unfold cu_spr; rw [if_neg c_1, if_neg (Int32.not_lt.mpr c_2), if_pos hk_16], rfl⟩
      · skip
        by_cases hk_17 : c1 = 1
        · skip
          refine cu_topi (y := 1) hk_17 ?_
          refine lv_tableIn (off := 31) (tgt := 53) hx hb d_X8_pair_22 (by decide) (by decide) (by decide +kernel) (by decide) ?_
          refine lv_aload_n hx hb d_X8_pair_53 rfl (lv_at hl 0 rfl) ?_
          refine va_get (D := D) (ci := 4) (v := .int 2) (C := RX6) (T := TX6) (N := 11) hx hb hg cu_iX6 hown hK.1 hP 5 rfl rfl 9 (by decide) (hg _ k_443) (fun _ h9 => h9) rfl d_X8_pair_54 ?_
          exact hret _ _ _ _ [] _ _ _ (hP.sub (ws' := []) [] rfl) (hD.sub (ws' := []) [] (by decide) rfl) hS (Nat.le_of_ble_eq_true rfl) (Nat.le_of_ble_eq_true rfl) d_X8_pair_57 (rfl) ⟨by unfold cu_spr; rw [if_neg c_1, if_neg (Int32.not_lt.mpr c_2), if_neg hk_16, if_pos hk_17], rfl⟩
        · skip
          by_cases hk_18 : c1 = 2
          · skip
            refine cu_topi (y := 2) hk_18 ?_
            refine lv_tableIn (off := 36) (tgt := 58) hx hb d_X8_pair_22 (by decide) (by decide) (by decide +kernel) (by decide) ?_
            refine lv_aload_n hx hb d_X8_pair_58 rfl (lv_at hl 1 rfl) ?_
            refine va_get (D := D) (ci := 6) (v := .ref nw) (C := RX8) (T := TX8) (N := 10) hx hb hg cu_iX8 hown hK.1 hP 0 rfl rfl 1 (by decide) (hg _ k_180) (fun _ h9 => h9) rfl d_X8_pair_59 ?_
            refine lv_aload_n hx hb d_X8_pair_62 rfl (lv_at hl 0 rfl) ?_
            refine va_get (D := D) (ci := 4) (v := .int 1) (C := RX6) (T := TX6) (N := 11) hx hb hg cu_iX6 hown hK.1 hP 5 rfl rfl 8 (by decide) (hg _ k_441) (fun _ h9 => h9) rfl d_X8_pair_63 ?_
            refine cu_VR (wc := [(nw, .inr (2, [.ref w, .ref y, .ref a, .ref u, .int 0, .int 0, .int 1, .int 0]))]) (rest := []) [.int 1] ⟨hx, hb, hml, hown, hg⟩ (c_X3_explainedBy l D cI cZ cQ nw w y a u 1 0 1) hd_X3_explainedBy k_420 k_417 k_418 k_419 k_45 ⟨Nat.le_of_ble_eq_true rfl, Nat.le_of_ble_eq_true rfl⟩ ⟨Nat.le_of_ble_eq_true rfl, Nat.le_of_ble_eq_true rfl⟩ hP hK [1] rfl 0 rfl rfl rfl hl.1 rfl (Nat.le_of_ble_eq_true rfl) d_X8_pair_66 (fun r_19 hr_20 => ?_)
            subst hr_20
            refine lv_aload_n hx hb d_X8_pair_69 rfl (lv_at hl 1 rfl) ?_
            refine va_get (D := D) (ci := 6) (v := .ref nw) (C := RX8) (T := TX8) (N := 10) hx hb hg cu_iX8 hown hK.1 hP 0 rfl rfl 1 (by decide) (hg _ k_180) (fun _ h9 => h9) rfl d_X8_pair_70 ?_
            refine lv_aload_n hx hb d_X8_pair_73 rfl (lv_at hl 0 rfl) ?_
            refine va_get (D := D) (ci := 4) (v := .int 2) (C := RX6) (T := TX6) (N := 11) hx hb hg cu_iX6 hown hK.1 hP 5 rfl rfl 9 (by decide) (hg _ k_443) (fun _ h9 => h9) rfl d_X8_pair_74 ?_
            refine cu_VR (wc := [(nw, .inr (2, [.ref w, .ref y, .ref a, .ref u, .int 0, .int 0, .int 1, .int 0]))]) (rest := [.int 0]) [.int 2] ⟨hx, hb, hml, hown, hg⟩ (c_X3_explainedBy l D cI cZ cQ nw w y a u 1 0 2) hd_X3_explainedBy k_420 k_417 k_418 k_419 k_45 ⟨Nat.le_of_ble_eq_true rfl, Nat.le_of_ble_eq_true rfl⟩ ⟨Nat.le_of_ble_eq_true rfl, Nat.le_of_ble_eq_true rfl⟩ hP hK [1] rfl 0 rfl rfl rfl hl.1 rfl (Nat.le_of_ble_eq_true rfl) d_X8_pair_77 (fun r_21 hr_22 => ?_)
            subst hr_22
            refine lv_ior hx hb d_X8_pair_80 ?_
            refine cu_topi (y := 0) (by decide +kernel) ?_
            exact hret _ _ _ _ [] _ _ _ (hP.sub (ws' := []) [] rfl) (hD.sub (ws' := []) [] (by decide) rfl) hS (Nat.le_of_ble_eq_true rfl) (Nat.le_of_ble_eq_true rfl) d_X8_pair_81 (rfl) ⟨by unfold cu_spr; rw [if_neg c_1, if_neg (Int32.not_lt.mpr c_2), if_neg hk_16, if_neg hk_17, if_pos hk_18], rfl⟩
          · skip
            refine lv_tableOut (tgt := 82) hx hb d_X8_pair_22 (cu_out3 hk_16 hk_17 hk_18) (by decide) ?_
            refine lv_aload_n hx hb d_X8_pair_82 rfl (lv_at hl 0 rfl) ?_
            refine va_get (D := D) (ci := 4) (v := .int 0) (C := RX6) (T := TX6) (N := 11) hx hb hg cu_iX6 hown hK.1 hP 5 rfl rfl 10 (by decide) (hg _ k_445) (fun _ h9 => h9) rfl d_X8_pair_83 ?_
            refine lv_sipush (v := 4096) hx hb d_X8_pair_86 (by decide) ?_
            refine lv_irem hx hb d_X8_pair_89 (by decide) ?_
            refine cu_topi (y := 0) (by decide +kernel) ?_
            exact hret _ _ _ _ [] _ _ _ (hP.sub (ws' := []) [] rfl) (hD.sub (ws' := []) [] (by decide) rfl) hS (Nat.le_of_ble_eq_true rfl) (Nat.le_of_ble_eq_true rfl) d_X8_pair_90 (rfl) ⟨by unfold cu_spr; rw [if_neg c_1, if_neg (Int32.not_lt.mpr c_2), if_neg hk_16, if_neg hk_17, if_neg hk_18], rfl⟩
    · skip
      refine lv_bipush (v := (-2)) hx hb d_X8_pair_9 (by decide) ?_
      exact hret _ _ _ _ [] _ _ _ (hP.sub (ws' := []) [] rfl) (hD.sub (ws' := []) [] (by decide) rfl) hS (Nat.le_of_ble_eq_true rfl) (Nat.le_of_ble_eq_true rfl) d_X8_pair_11 (rfl) ⟨by unfold cu_spr; rw [if_neg c_1, if_pos (Int32.not_le.mp c_2)], rfl⟩
set_option maxHeartbeats 4000000 in
set_option maxRecDepth 100000 in
theorem c_X4_agreeWith (l : Launch) (D : va_G) (cI cZ cQ : ClassId) (h g1 g2 o : Nat) (c1 : Int32) : cu_R l D (cu_TY cI cZ cQ) yX4_agreeWith cX4_agreeWith 4 .boolean 0 0 [.ref h, .ref o, .int c1] [(h, .inr (3, [.ref g1, .ref g2, .int 0]))] (fun r => r = 1) := by
  refine cu_R.intro (by decide) (Nat.le_of_ble_eq_true rfl) ?_
  intro p e s m args below meth c Q ls S hret hP hK hl
  obtain ⟨hx, hb, hml, hown, hg⟩ := S
  have hown : s.vm.findClass RX4 = some m.cls := hown
  have hl : lv_has ls 4 [(0, .ref h), (1, .ref o), (2, .int c1)] := hl
  refine lv_iconst (v := 0) hx hb d_X4_agreeWith_0 (by decide) ?_
  refine lv_istore_n (lv' := [(3, .int 0), (0, .ref h), (1, .ref o), (2, .int c1)]) hx hb d_X4_agreeWith_1 rfl hl (by decide) rfl (fun ls hl => ?_)
  refine lv_iload_n hx hb d_X4_agreeWith_2 rfl (lv_at hl 0 rfl) ?_
  refine lv_aload_n hx hb d_X4_agreeWith_3 rfl (lv_at hl 1 rfl) ?_
  refine va_get (D := D) (ci := 3) (v := .int 0) (C := RX4) (T := TX4) (N := 3) hx hb hg cu_iX4 hown hK.1 hP 0 rfl rfl 2 (by decide) (hg _ k_168) (fun _ h9 => h9) rfl d_X4_agreeWith_4 ?_
  refine lv_icmp_ge (tgt := 48) hx hb d_X4_agreeWith_7 (by decide) (fun _ => ?_) (fun c_1 => absurd (by decide +kernel) c_1)
  refine lv_iconst (v := 1) hx hb d_X4_agreeWith_48 (by decide) ?_
  exact hret _ _ _ d_X4_agreeWith_49 (by decide +kernel) (rfl)
def cu_swh (c1 : Int32) : Int32 := if c1 < 0 then (-2) else if 2 < c1 then (-2) else if c1 = 0 then 999 else if c1 = 1 then 1 else 999
set_option maxHeartbeats 4000000 in
set_option maxRecDepth 100000 in
theorem c_X8_which (l : Launch) (D : va_G) (cI cZ cQ : ClassId) (x tx nw sp ac cr sg sl fl : Nat) (g1 g2 : Nat) (c1 : Int32) : cu_R l D (cu_TY cI cZ cQ) yX8_which cX8_which 6 .int 1 23 [.ref x, .int c1] [(x, .inr (6, [.ref tx, .ref nw, .ref sp, .ref ac, .ref cr, .ref sg, .ref sl, .ref fl, .null, .long 0])), (sg, .inr (3, [.ref g1, .ref g2, .int 0]))] (fun r => r = cu_swh c1) := by
  refine cu_R.intro (by decide) (Nat.le_of_ble_eq_true rfl) ?_
  intro p e s m args below meth c Q ls S hret hP hK hl
  obtain ⟨hx, hb, hml, hown, hg⟩ := S
  have hown : s.vm.findClass RX8 = some m.cls := hown
  have hl : lv_has ls 6 [(0, .ref x), (1, .int c1)] := hl
  refine lv_iload_n hx hb d_X8_which_0 rfl (lv_at hl 1 rfl) ?_
  refine lv_if_lt (tgt := 9) hx hb d_X8_which_1 (by decide) (fun c_1 => ?_) (fun c_1 => ?_)
  · skip
    refine lv_bipush (v := (-2)) hx hb d_X8_which_9 (by decide) ?_
    exact hret _ _ _ d_X8_which_11 (rfl) (by unfold cu_swh; rw [if_pos c_1])
  · skip
    refine lv_iload_n hx hb d_X8_which_4 rfl (lv_at hl 1 rfl) ?_
    refine lv_iconst (v := 2) hx hb d_X8_which_5 (by decide) ?_
    refine lv_icmp_le (tgt := 12) hx hb d_X8_which_6 (by decide) (fun c_2 => ?_) (fun c_2 => ?_)
    · skip
      refine lv_iconst (v := 0) hx hb d_X8_which_12 (by decide) ?_
      refine lv_istore_n (lv' := [(2, .int 0), (0, .ref x), (1, .int c1)]) hx hb d_X8_which_13 rfl hl (by decide) rfl (fun ls hl => ?_)
      refine lv_bipush (v := (-9)) hx hb d_X8_which_14 (by decide) ?_
      refine lv_istore_n (lv' := [(3, .int (-9)), (2, .int 0), (0, .ref x), (1, .int c1)]) hx hb d_X8_which_16 rfl hl (by decide) rfl (fun ls hl => ?_)
      refine lv_bipush (v := (-9)) hx hb d_X8_which_17 (by decide) ?_
      refine lv_istore (lv' := [(4, .int (-9)), (3, .int (-9)), (2, .int 0), (0, .ref x), (1, .int c1)]) hx hb d_X8_which_19 hl (by decide) rfl (fun ls hl => ?_)
      refine lv_iconst (v := 1) hx hb d_X8_which_21 (by decide) ?_
      refine lv_istore (lv' := [(5, .int 1), (4, .int (-9)), (3, .int (-9)), (2, .int 0), (0, .ref x), (1, .int c1)]) hx hb d_X8_which_22 hl (by decide) rfl (fun ls hl => ?_)
      refine lv_iload hx hb d_X8_which_24 (lv_at hl 0 rfl) ?_
      refine lv_sipush (v := 999) hx hb d_X8_which_26 (by decide) ?_
      refine lv_icmp_gt (tgt := 74) hx hb d_X8_which_29 (by decide) (fun c_3 => absurd c_3 (by decide +kernel)) (fun _ => ?_)
      refine lv_aload_n hx hb d_X8_which_32 rfl (lv_at hl 4 rfl) ?_
      refine va_get (D := D) (ci := 6) (v := .ref sg) (C := RX8) (T := TX8) (N := 10) hx hb hg cu_iX8 hown hK.1 hP 0 rfl rfl 5 (by decide) (hg _ k_184) (fun _ h9 => h9) rfl d_X8_which_33 ?_
      refine lv_aload_n hx hb d_X8_which_36 rfl (lv_at hl 4 rfl) ?_
      refine va_get (D := D) (ci := 6) (v := .ref nw) (C := RX8) (T := TX8) (N := 10) hx hb hg cu_iX8 hown hK.1 hP 0 rfl rfl 1 (by decide) (hg _ k_180) (fun _ h9 => h9) rfl d_X8_which_37 ?_
      refine lv_iload hx hb d_X8_which_40 (lv_at hl 0 rfl) ?_
      refine cu_VR (wc := [(sg, .inr (3, [.ref g1, .ref g2, .int 0]))]) (rest := []) [.ref nw, .int 1] ⟨hx, hb, hml, hown, hg⟩ (c_X4_agreeWith l D cI cZ cQ sg g1 g2 nw 1) hd_X4_agreeWith k_587 k_584 k_585 k_586 k_48 ⟨Nat.le_of_ble_eq_true rfl, Nat.le_of_ble_eq_true rfl⟩ ⟨Nat.le_of_ble_eq_true rfl, Nat.le_of_ble_eq_true rfl⟩ hP hK [1] rfl 0 rfl rfl rfl hl.1 rfl (Nat.le_of_ble_eq_true rfl) d_X8_which_42 (fun r_4 hr_5 => ?_)
      subst hr_5
      refine lv_if_eq (tgt := 68) hx hb d_X8_which_45 (by decide) (fun c_6 => absurd c_6 (by decide +kernel)) (fun _ => ?_)
      refine lv_iinc (v := 1) (lv' := [(2, .int 1), (5, .int 1), (4, .int (-9)), (3, .int (-9)), (0, .ref x), (1, .int c1)]) hx hb d_X8_which_48 hl (k := 3) rfl (by decide +kernel) (by decide) rfl (fun ls hl => ?_)
      refine lv_iload_n hx hb d_X8_which_51 rfl (lv_at hl 3 rfl) ?_
      refine lv_bipush (v := (-9)) hx hb d_X8_which_52 (by decide) ?_
      refine lv_icmp_ne (tgt := 62) hx hb d_X8_which_54 (by decide) (fun c_7 => absurd (by decide +kernel) c_7) (fun _ => ?_)
      refine lv_iload hx hb d_X8_which_57 (lv_at hl 1 rfl) ?_
      refine lv_goto (tgt := 63) hx hb d_X8_which_59 (by decide) ?_
      refine lv_istore_n (lv' := [(3, .int 1), (2, .int 1), (5, .int 1), (4, .int (-9)), (0, .ref x), (1, .int c1)]) hx hb d_X8_which_63 rfl hl (by decide) rfl (fun ls hl => ?_)
      refine lv_iload hx hb d_X8_which_64 (lv_at hl 2 rfl) ?_
      refine lv_istore (lv' := [(4, .int 1), (3, .int 1), (2, .int 1), (5, .int 1), (0, .ref x), (1, .int c1)]) hx hb d_X8_which_66 hl (by decide) rfl (fun ls hl => ?_)
      refine lv_iinc (v := 2) (lv' := [(5, .int 2), (4, .int 1), (3, .int 1), (2, .int 1), (0, .ref x), (1, .int c1)]) hx hb d_X8_which_68 hl (k := 3) rfl (by decide +kernel) (by decide) rfl (fun ls hl => ?_)
      refine lv_goto (tgt := 24) hx hb d_X8_which_71 (by decide) ?_
      have key_8 : ∀ (n_10 j_9 : Nat) (hj_12 : j_9 + n_10 = 1000)  (hi_13 : 2 ≤ j_9) (ls : Array Slot) (hl : lv_has ls 6 [(5, .int (nI j_9)), (4, .int (nI (j_9 - 1))), (3, .int 1), (2, .int (nI (j_9 - 1))), (0, .ref x), (1, .int c1)]), W p l e (cu_rm 1 23 0 0) s m args below meth c s.heap [] 0 0 Q (F0 m 24 ls []) := by
        intro n_10
        induction n_10 with
        | zero =>
          intro j_9 hj_12  hi_13 ls hl
          obtain rfl : 1000 = j_9 := by omega
          have hl : lv_has ls 6 [(5, .int 1000), (4, .int 999), (3, .int 1), (2, .int 999), (0, .ref x), (1, .int c1)] := hl
          refine lv_iload hx hb d_X8_which_24 (lv_at hl 0 rfl) ?_
          refine lv_sipush (v := 999) hx hb d_X8_which_26 (by decide) ?_
          refine lv_icmp_gt (tgt := 74) hx hb d_X8_which_29 (by decide) (fun _ => ?_) (fun c_14 => absurd (by decide +kernel) c_14)
          refine lv_iload_n hx hb d_X8_which_74 rfl (lv_at hl 5 rfl) ?_
          refine lv_if_ne (tgt := 82) hx hb d_X8_which_75 (by decide) (fun c_15 => ?_) (fun c_15 => ?_)
          · skip
            refine lv_iload_n hx hb d_X8_which_82 rfl (lv_at hl 5 rfl) ?_
            refine lv_iconst (v := 1) hx hb d_X8_which_83 (by decide) ?_
            refine lv_icmp_ne (tgt := 91) hx hb d_X8_which_84 (by decide) (fun c_16 => ?_) (fun c_16 => ?_)
            · skip
              refine lv_iload hx hb d_X8_which_91 (lv_at hl 1 rfl) ?_
              exact hret _ _ _ d_X8_which_93 (rfl) (by unfold cu_swh; rw [if_neg c_1, if_neg (Int32.not_lt.mpr c_2), if_neg c_15, if_neg c_16])
            · skip
              refine lv_iload_n hx hb d_X8_which_87 rfl (lv_at hl 2 rfl) ?_
              refine lv_goto (tgt := 93) hx hb d_X8_which_88 (by decide) ?_
              exact hret _ _ _ d_X8_which_93 (rfl) (by unfold cu_swh; rw [if_neg c_1, if_neg (Int32.not_lt.mpr c_2), if_neg c_15, if_pos c_16])
          · skip
            refine lv_iload_n hx hb d_X8_which_78 rfl (lv_at hl 3 rfl) ?_
            refine lv_goto (tgt := 93) hx hb d_X8_which_79 (by decide) ?_
            exact hret _ _ _ d_X8_which_93 (rfl) (by unfold cu_swh; rw [if_neg c_1, if_neg (Int32.not_lt.mpr c_2), if_pos c_15])
        | succ n_10 ih_11 =>
          intro j_9 hj_12  hi_13 ls hl
          refine lv_iload hx hb d_X8_which_24 (lv_at hl 0 rfl) ?_
          refine lv_sipush (v := 999) hx hb d_X8_which_26 (by decide) ?_
          refine lv_icmp_gt (tgt := 74) hx hb d_X8_which_29 (by decide) (fun c_17 => absurd c_17 (mt (nI_ltI (a := 999) (b := j_9) (by omega) (by omega)).mp (by omega))) (fun _ => ?_)
          refine lv_aload_n hx hb d_X8_which_32 rfl (lv_at hl 4 rfl) ?_
          refine va_get (D := D) (ci := 6) (v := .ref sg) (C := RX8) (T := TX8) (N := 10) hx hb hg cu_iX8 hown hK.1 hP 0 rfl rfl 5 (by decide) (hg _ k_184) (fun _ h9 => h9) rfl d_X8_which_33 ?_
          refine lv_aload_n hx hb d_X8_which_36 rfl (lv_at hl 4 rfl) ?_
          refine va_get (D := D) (ci := 6) (v := .ref nw) (C := RX8) (T := TX8) (N := 10) hx hb hg cu_iX8 hown hK.1 hP 0 rfl rfl 1 (by decide) (hg _ k_180) (fun _ h9 => h9) rfl d_X8_which_37 ?_
          refine lv_iload hx hb d_X8_which_40 (lv_at hl 0 rfl) ?_
          refine cu_VR (wc := [(sg, .inr (3, [.ref g1, .ref g2, .int 0]))]) (rest := []) [.ref nw, .int (nI j_9)] ⟨hx, hb, hml, hown, hg⟩ (c_X4_agreeWith l D cI cZ cQ sg g1 g2 nw (nI j_9)) hd_X4_agreeWith k_587 k_584 k_585 k_586 k_48 ⟨Nat.le_of_ble_eq_true rfl, Nat.le_of_ble_eq_true rfl⟩ ⟨Nat.le_of_ble_eq_true rfl, Nat.le_of_ble_eq_true rfl⟩ hP hK [1] rfl 0 rfl rfl rfl hl.1 rfl (Nat.le_of_ble_eq_true rfl) d_X8_which_42 (fun r_18 hr_19 => ?_)
          subst hr_19
          refine lv_if_eq (tgt := 68) hx hb d_X8_which_45 (by decide) (fun c_20 => absurd c_20 (by decide +kernel)) (fun _ => ?_)
          refine lv_iinc (v := nI ((j_9 - 1) + 1)) (lv' := [(2, .int (nI ((j_9 - 1) + 1))), (5, .int (nI j_9)), (4, .int (nI (j_9 - 1))), (3, .int 1), (0, .ref x), (1, .int c1)]) hx hb d_X8_which_48 hl (k := 3) rfl (nI_1 (j_9 - 1)) (by decide) rfl (fun ls hl => ?_)
          refine lv_iload_n hx hb d_X8_which_51 rfl (lv_at hl 3 rfl) ?_
          refine lv_bipush (v := (-9)) hx hb d_X8_which_52 (by decide) ?_
          refine lv_icmp_ne (tgt := 62) hx hb d_X8_which_54 (by decide) (fun _ => ?_) (fun c_21 => absurd c_21 (by decide +kernel))
          refine lv_iload_n hx hb d_X8_which_62 rfl (lv_at hl 3 rfl) ?_
          refine lv_istore_n (lv' := [(3, .int 1), (2, .int (nI ((j_9 - 1) + 1))), (5, .int (nI j_9)), (4, .int (nI (j_9 - 1))), (0, .ref x), (1, .int c1)]) hx hb d_X8_which_63 rfl hl (by decide) rfl (fun ls hl => ?_)
          refine lv_iload hx hb d_X8_which_64 (lv_at hl 2 rfl) ?_
          refine lv_istore (lv' := [(4, .int (nI j_9)), (3, .int 1), (2, .int (nI ((j_9 - 1) + 1))), (5, .int (nI j_9)), (0, .ref x), (1, .int c1)]) hx hb d_X8_which_66 hl (by decide) rfl (fun ls hl => ?_)
          refine lv_iinc (v := nI (j_9 + 1)) (lv' := [(5, .int (nI (j_9 + 1))), (4, .int (nI j_9)), (3, .int 1), (2, .int (nI ((j_9 - 1) + 1))), (0, .ref x), (1, .int c1)]) hx hb d_X8_which_68 hl (k := 3) rfl (nI_1 j_9) (by decide) rfl (fun ls hl => ?_)
          refine lv_goto (tgt := 24) hx hb d_X8_which_71 (by decide) ?_
          have he_22 : (nI j_9 : Int32) = nI ((j_9 + 1) - 1) := congrArg nI (by omega)
          rw [he_22] at hl
          have he_23 : (nI ((j_9 - 1) + 1) : Int32) = nI ((j_9 + 1) - 1) := congrArg nI (by omega)
          rw [he_23] at hl
          exact ih_11 (j_9 + 1) (by first | rfl | omega)  (by omega) _ (lv_sub hl [0, 1, 2, 3, 4, 5] rfl)
      exact key_8 998 2 (by first | rfl | omega)  (Nat.le_refl _) _ (lv_sub hl [0, 1, 2, 3, 4, 5] rfl)
    · skip
      refine lv_bipush (v := (-2)) hx hb d_X8_which_9 (by decide) ?_
      exact hret _ _ _ d_X8_which_11 (rfl) (by unfold cu_swh; rw [if_neg c_1, if_pos (Int32.not_le.mp c_2)])
set_option maxHeartbeats 4000000 in
set_option maxRecDepth 100000 in
theorem c_X6_placesBy (l : Launch) (D : va_G) (cI cZ cQ : ClassId) (h w y a u v : Nat) (k : Nat) (hy_0 : 1 ≤ k ∧ k ≤ 999) : cu_R l D (cu_TY cI cZ cQ) yX6_placesBy cX6_placesBy 5 .int 1 20 [.ref h, .int (nI k)] [(h, .inr (4, [.ref w, .ref y, .ref a, .ref u, .ref v, .int 1, .int 0, .int 0, .int 0, .int 0, .int 0])), (w, .inl (cI, 12, .inl (fun _ => 0)))] (fun r => r = 0) := by
  refine cu_R.intro (by decide) (Nat.le_of_ble_eq_true rfl) ?_
  intro p e s m args below meth c Q ls S hret hP hK hl
  obtain ⟨hx, hb, hml, hown, hg⟩ := S
  have hown : s.vm.findClass RX6 = some m.cls := hown
  have hl : lv_has ls 5 [(0, .ref h), (1, .int (nI k))] := hl
  refine lv_iload_n hx hb d_X6_placesBy_0 rfl (lv_at hl 1 rfl) ?_
  refine cu_SR (wc := []) (rest := []) [.int (nI k)] ⟨hx, hb, hml, hown, hg⟩ (c_X2_isUnitK l D cI cZ cQ k (⟨by omega, by omega⟩)) hd_X2_isUnit k_398 k_490 k_397 k_50 ⟨Nat.le_of_ble_eq_true rfl, Nat.le_of_ble_eq_true rfl⟩ ⟨Nat.le_of_ble_eq_true rfl, Nat.le_of_ble_eq_true rfl⟩ hP hK [] rfl rfl hl.1 rfl (Nat.le_of_ble_eq_true rfl) d_X6_placesBy_1 (fun r_1 hr_2 => ?_)
  subst hr_2
  refine lv_if_ne (tgt := 9) hx hb d_X6_placesBy_4 (by decide) (fun _ => ?_) (fun c_3 => absurd c_3 (by decide +kernel))
  refine lv_iconst (v := 0) hx hb d_X6_placesBy_9 (by decide) ?_
  refine lv_istore_n (lv' := [(2, .int 0), (0, .ref h), (1, .int (nI k))]) hx hb d_X6_placesBy_10 rfl hl (by decide) rfl (fun ls hl => ?_)
  refine lv_iconst (v := 0) hx hb d_X6_placesBy_11 (by decide) ?_
  refine lv_istore_n (lv' := [(3, .int 0), (2, .int 0), (0, .ref h), (1, .int (nI k))]) hx hb d_X6_placesBy_12 rfl hl (by decide) rfl (fun ls hl => ?_)
  refine lv_iconst (v := 0) hx hb d_X6_placesBy_13 (by decide) ?_
  refine lv_istore (lv' := [(4, .int 0), (3, .int 0), (2, .int 0), (0, .ref h), (1, .int (nI k))]) hx hb d_X6_placesBy_14 hl (by decide) rfl (fun ls hl => ?_)
  have key_4 : ∀ (n_6 j_5 : Nat) (hj_8 : j_5 + n_6 = 12)   (ls : Array Slot) (hl : lv_has ls 5 [(4, .int (nI j_5)), (3, .int 0), (2, .int 0), (0, .ref h), (1, .int (nI k))]), W p l e (cu_rm 1 20 0 0) s m args below meth c s.heap [] 0 0 Q (F0 m 16 ls []) := by
    intro n_6
    induction n_6 with
    | zero =>
      intro j_5 hj_8   ls hl
      obtain rfl : 12 = j_5 := by omega
      have hl : lv_has ls 5 [(4, .int 12), (3, .int 0), (2, .int 0), (0, .ref h), (1, .int (nI k))] := hl
      refine lv_iload hx hb d_X6_placesBy_16 (lv_at hl 0 rfl) ?_
      refine lv_bipush (v := 12) hx hb d_X6_placesBy_18 (by decide) ?_
      refine lv_icmp_ge (tgt := 66) hx hb d_X6_placesBy_20 (by decide) (fun _ => ?_) (fun c_9 => absurd (by decide +kernel) c_9)
      refine lv_iload_n hx hb d_X6_placesBy_66 rfl (lv_at hl 2 rfl) ?_
      exact hret _ _ _ d_X6_placesBy_67 (rfl) (rfl)
    | succ n_6 ih_7 =>
      intro j_5 hj_8   ls hl
      refine lv_iload hx hb d_X6_placesBy_16 (lv_at hl 0 rfl) ?_
      refine lv_bipush (v := 12) hx hb d_X6_placesBy_18 (by decide) ?_
      refine lv_icmp_ge (tgt := 66) hx hb d_X6_placesBy_20 (by decide) (fun c_10 => absurd c_10 (mt (nI_leI (a := 12) (b := j_5) (by omega) (by omega)).mp (by omega))) (fun _ => ?_)
      refine lv_aload_n hx hb d_X6_placesBy_23 rfl (lv_at hl 3 rfl) ?_
      refine va_get (D := D) (ci := 4) (v := .ref w) (C := RX6) (T := TX6) (N := 11) hx hb hg cu_iX6 hown hK.1 hP 0 rfl rfl 0 (by decide) (hg _ k_431) (fun _ h9 => h9) rfl d_X6_placesBy_24 ?_
      refine lv_iload hx hb d_X6_placesBy_27 (lv_at hl 0 rfl) ?_
      refine va_iald hx hb hK.1 hP 1 0 rfl rfl (vp_in_nI (by omega) (by decide)) d_X6_placesBy_29 ?_
      refine cu_topi (y := 0) rfl ?_
      refine lv_if_le (tgt := 60) hx hb d_X6_placesBy_30 (by decide) (fun _ => ?_) (fun c_11 => absurd (by decide +kernel) c_11)
      refine lv_iinc (v := nI (j_5 + 1)) (lv' := [(4, .int (nI (j_5 + 1))), (3, .int 0), (2, .int 0), (0, .ref h), (1, .int (nI k))]) hx hb d_X6_placesBy_60 hl (k := 0) rfl (nI_1 j_5) (by decide) rfl (fun ls hl => ?_)
      refine lv_goto (tgt := 16) hx hb d_X6_placesBy_63 (by decide) ?_
      exact ih_7 (j_5 + 1) (by first | rfl | omega)   _ (lv_sub hl [0, 1, 2, 3, 4] rfl)
  exact key_4 12 0 (by first | rfl | omega)   _ (lv_sub hl [0, 1, 2, 3, 4] rfl)
set_option maxHeartbeats 4000000 in
set_option maxRecDepth 100000 in
theorem c_X1_markSubsets (l : Launch) (D : va_G) (cI cZ cQ : ClassId) (c0 vs : Nat) (f : Nat → Int32) : cu_V l D (cu_TY cI cZ cQ) yX1_markSubsets cX1_markSubsets 3 0 0 0 0 [.ref c0] [(c0, .inr (1, [.ref vs, .int 1, .int 0])), (vs, .inl (cI, 256, .inl f))] (fun ww => ww = [(c0, .inr (1, [.ref vs, .int 1, .int 0])), (vs, .inl (cI, 256, .inl f))]) := by
  refine cu_V.intro (by decide) (Nat.le_of_ble_eq_true rfl) ?_
  intro p e s m args below meth c Q ls A S hin hret hP hD hS hA hK hl
  obtain ⟨hx, hb, hml, hown, hg⟩ := S
  have hown : s.vm.findClass RX1 = some m.cls := hown
  have hin : meth.name = "markSubsets" := hin
  have hl : lv_has ls 3 [(0, .ref c0)] := hl
  refine lv_iconst (v := 1) hx hb d_X1_markSubsets_0 (by decide) ?_
  refine lv_aload_n hx hb d_X1_markSubsets_1 rfl (lv_at hl 0 rfl) ?_
  refine va_get (D := D) (ci := 1) (v := .int 0) (C := RX1) (T := TX1) (N := 3) hx hb hg cu_iX1 hown hK.1 hP 0 rfl rfl 2 (by decide) (hg _ k_152) (fun _ h9 => h9) rfl d_X1_markSubsets_2 ?_
  refine lv_ishl hx hb d_X1_markSubsets_5 ?_
  refine cu_topi (y := 1) (by decide +kernel) ?_
  refine lv_iconst (v := 1) hx hb d_X1_markSubsets_6 (by decide) ?_
  refine lv_isub hx hb d_X1_markSubsets_7 ?_
  refine cu_topi (y := 0) (by decide +kernel) ?_
  refine lv_istore_n (lv' := [(1, .int 0), (0, .ref c0)]) hx hb d_X1_markSubsets_8 rfl hl (by decide) rfl (fun ls hl => ?_)
  refine lv_iload_n hx hb d_X1_markSubsets_9 rfl (lv_at hl 0 rfl) ?_
  refine lv_if_lt (tgt := 56) hx hb d_X1_markSubsets_10 (by decide) (fun c_1 => absurd c_1 (by decide +kernel)) (fun _ => ?_)
  refine lv_iconst (v := 0) hx hb d_X1_markSubsets_13 (by decide) ?_
  refine lv_istore_n (lv' := [(2, .int 0), (1, .int 0), (0, .ref c0)]) hx hb d_X1_markSubsets_14 rfl hl (by decide) rfl (fun ls hl => ?_)
  refine lv_iload_n hx hb d_X1_markSubsets_15 rfl (lv_at hl 0 rfl) ?_
  refine lv_aload_n hx hb d_X1_markSubsets_16 rfl (lv_at hl 2 rfl) ?_
  refine va_get (D := D) (ci := 1) (v := .int 0) (C := RX1) (T := TX1) (N := 3) hx hb hg cu_iX1 hown hK.1 hP 0 rfl rfl 2 (by decide) (hg _ k_152) (fun _ h9 => h9) rfl d_X1_markSubsets_17 ?_
  refine lv_icmp_ge (tgt := 50) hx hb d_X1_markSubsets_20 (by decide) (fun _ => ?_) (fun c_2 => absurd (by decide +kernel) c_2)
  refine lv_iinc (v := (-1)) (lv' := [(1, .int (-1)), (2, .int 0), (0, .ref c0)]) hx hb d_X1_markSubsets_50 hl (k := 1) rfl (by decide +kernel) (by decide) rfl (fun ls hl => ?_)
  refine lv_goto (tgt := 9) hx hb d_X1_markSubsets_53 (by decide) ?_
  refine lv_iload_n hx hb d_X1_markSubsets_9 rfl (lv_at hl 0 rfl) ?_
  refine lv_if_lt (tgt := 56) hx hb d_X1_markSubsets_10 (by decide) (fun _ => ?_) (fun c_3 => absurd (by decide +kernel) c_3)
  exact hret _ _ _ _ [(c0, .inr (1, [.ref vs, .int 1, .int 0])), (vs, .inl (cI, 256, .inl f))] _ _ (hP.sub (ws' := [(c0, .inr (1, [.ref vs, .int 1, .int 0])), (vs, .inl (cI, 256, .inl f))]) [0, 1] rfl) (hD.sub (ws' := [(c0, .inr (1, [.ref vs, .int 1, .int 0])), (vs, .inl (cI, 256, .inl f))]) [0, 1] (by decide) rfl) hS (Nat.le_of_ble_eq_true rfl) (Nat.le_of_ble_eq_true rfl) d_X1_markSubsets_56 rfl
set_option maxHeartbeats 4000000 in
set_option maxRecDepth 100000 in
theorem c_X1_fillValues (l : Launch) (D : va_G) (cI cZ cQ : ClassId) (c0 vs : Nat) (f : Nat → Int32) (hy_0 : f 0 = 1) : cu_V l D (cu_TY cI cZ cQ) yX1_fillValues cX1_fillValues 4 1 20 0 0 [.ref c0] [(c0, .inr (1, [.ref vs, .int 1, .int 0])), (vs, .inl (cI, 256, .inl f))] (fun ww => ∃ g : Nat → Int32, (g 0 = 0) ∧ ww = [(c0, .inr (1, [.ref vs, .int 1, .int 0])), (vs, .inl (cI, 256, .inl g))]) := by
  refine cu_V.intro (by decide) (Nat.le_of_ble_eq_true rfl) ?_
  intro p e s m args below meth c Q ls A S hin hret hP hD hS hA hK hl
  obtain ⟨hx, hb, hml, hown, hg⟩ := S
  have hown : s.vm.findClass RX1 = some m.cls := hown
  have hin : meth.name = "fillValues" := hin
  have hl : lv_has ls 4 [(0, .ref c0)] := hl
  refine lv_iconst (v := 0) hx hb d_X1_fillValues_0 (by decide) ?_
  refine lv_istore_n (lv' := [(1, .int 0), (0, .ref c0)]) hx hb d_X1_fillValues_1 rfl hl (by decide) rfl (fun ls hl => ?_)
  refine lv_iload_n hx hb d_X1_fillValues_2 rfl (lv_at hl 0 rfl) ?_
  refine lv_iconst (v := 1) hx hb d_X1_fillValues_3 (by decide) ?_
  refine lv_aload_n hx hb d_X1_fillValues_4 rfl (lv_at hl 1 rfl) ?_
  refine va_get (D := D) (ci := 1) (v := .int 0) (C := RX1) (T := TX1) (N := 3) hx hb hg cu_iX1 hown hK.1 hP 0 rfl rfl 2 (by decide) (hg _ k_152) (fun _ h9 => h9) rfl d_X1_fillValues_5 ?_
  refine lv_ishl hx hb d_X1_fillValues_8 ?_
  refine cu_topi (y := 1) (by decide +kernel) ?_
  refine lv_icmp_ge (tgt := 84) hx hb d_X1_fillValues_9 (by decide) (fun c_1 => absurd c_1 (by decide +kernel)) (fun _ => ?_)
  refine lv_aload_n hx hb d_X1_fillValues_12 rfl (lv_at hl 1 rfl) ?_
  refine va_get (D := D) (ci := 1) (v := .ref vs) (C := RX1) (T := TX1) (N := 3) hx hb hg cu_iX1 hown hK.1 hP 0 rfl rfl 0 (by decide) (hg _ k_150) (fun _ h9 => h9) rfl d_X1_fillValues_13 ?_
  refine lv_iload_n hx hb d_X1_fillValues_16 rfl (lv_at hl 0 rfl) ?_
  refine va_iald hx hb hK.1 hP 1 0 rfl rfl (vp_in_nI (n := 0) (N := 256) (Nat.le_of_ble_eq_true rfl) (by decide)) d_X1_fillValues_17 ?_
  refine cu_topi (y := 1) (hy_0) ?_
  refine lv_iconst (v := 1) hx hb d_X1_fillValues_18 (by decide) ?_
  refine lv_icmp_ne (tgt := 29) hx hb d_X1_fillValues_19 (by decide) (fun c_2 => absurd (by decide +kernel) c_2) (fun _ => ?_)
  refine lv_iload_n hx hb d_X1_fillValues_22 rfl (lv_at hl 0 rfl) ?_
  refine cu_SR (wc := []) (rest := []) [.int 0] ⟨hx, hb, hml, hown, hg⟩ (c_J6_bitCount l D cI cZ cQ ) hd_J6_bitCount_0f7a4 k_333 k_618 k_332 k_51 ⟨Nat.le_of_ble_eq_true rfl, Nat.le_of_ble_eq_true rfl⟩ ⟨Nat.le_of_ble_eq_true rfl, Nat.le_of_ble_eq_true rfl⟩ hP hK [] rfl rfl hl.1 rfl (Nat.le_of_ble_eq_true rfl) d_X1_fillValues_23 (fun r_3 hr_4 => ?_)
  subst hr_4
  refine lv_goto (tgt := 30) hx hb d_X1_fillValues_26 (by decide) ?_
  refine lv_istore_n (lv' := [(2, .int 0), (1, .int 0), (0, .ref c0)]) hx hb d_X1_fillValues_30 rfl hl (by decide) rfl (fun ls hl => ?_)
  refine lv_iconst (v := 0) hx hb d_X1_fillValues_31 (by decide) ?_
  refine lv_istore_n (lv' := [(3, .int 0), (2, .int 0), (1, .int 0), (0, .ref c0)]) hx hb d_X1_fillValues_32 rfl hl (by decide) rfl (fun ls hl => ?_)
  refine lv_iload_n hx hb d_X1_fillValues_33 rfl (lv_at hl 0 rfl) ?_
  refine lv_aload_n hx hb d_X1_fillValues_34 rfl (lv_at hl 3 rfl) ?_
  refine va_get (D := D) (ci := 1) (v := .int 0) (C := RX1) (T := TX1) (N := 3) hx hb hg cu_iX1 hown hK.1 hP 0 rfl rfl 2 (by decide) (hg _ k_152) (fun _ h9 => h9) rfl d_X1_fillValues_35 ?_
  refine lv_icmp_ge (tgt := 71) hx hb d_X1_fillValues_38 (by decide) (fun _ => ?_) (fun c_5 => absurd (by decide +kernel) c_5)
  refine lv_aload_n hx hb d_X1_fillValues_71 rfl (lv_at hl 3 rfl) ?_
  refine va_get (D := D) (ci := 1) (v := .ref vs) (C := RX1) (T := TX1) (N := 3) hx hb hg cu_iX1 hown hK.1 hP 0 rfl rfl 0 (by decide) (hg _ k_150) (fun _ h9 => h9) rfl d_X1_fillValues_72 ?_
  refine lv_iload_n hx hb d_X1_fillValues_75 rfl (lv_at hl 2 rfl) ?_
  refine lv_iload_n hx hb d_X1_fillValues_76 rfl (lv_at hl 1 rfl) ?_
  refine va_iast hx hb hK.1 hP hD hS 1 0 rfl rfl (vp_in_nI (n := 0) (N := 256) (Nat.le_of_ble_eq_true rfl) (by decide)) d_X1_fillValues_77 (fun H locs hP hD hS => ?_)
  have hP : va_P D vwCl [(c0, .inr (1, [.ref vs, .int 1, .int 0])), (vs, .inl (cI, 256, .inl (upd f 0 (0 : Int32))))] H := hP
  have hD : va_D A [(c0, .inr (1, [.ref vs, .int 1, .int 0])), (vs, .inl (cI, 256, .inl (upd f 0 (0 : Int32))))] := hD
  refine lv_iinc (v := 1) (lv' := [(1, .int 1), (3, .int 0), (2, .int 0), (0, .ref c0)]) hx hb d_X1_fillValues_78 hl (k := 2) rfl (by decide +kernel) (by decide) rfl (fun ls hl => ?_)
  refine lv_goto (tgt := 2) hx hb d_X1_fillValues_81 (by decide) ?_
  refine lv_iload_n hx hb d_X1_fillValues_2 rfl (lv_at hl 0 rfl) ?_
  refine lv_iconst (v := 1) hx hb d_X1_fillValues_3 (by decide) ?_
  refine lv_aload_n hx hb d_X1_fillValues_4 rfl (lv_at hl 3 rfl) ?_
  refine va_get (D := D) (ci := 1) (v := .int 0) (C := RX1) (T := TX1) (N := 3) hx hb hg cu_iX1 hown hK.1 hP 0 rfl rfl 2 (by decide) (hg _ k_152) (fun _ h9 => h9) rfl d_X1_fillValues_5 ?_
  refine lv_ishl hx hb d_X1_fillValues_8 ?_
  refine cu_topi (y := 1) (by decide +kernel) ?_
  refine lv_icmp_ge (tgt := 84) hx hb d_X1_fillValues_9 (by decide) (fun _ => ?_) (fun c_6 => absurd (by decide +kernel) c_6)
  exact hret _ _ _ _ [(c0, .inr (1, [.ref vs, .int 1, .int 0])), (vs, .inl (cI, 256, .inl (upd f 0 (0 : Int32))))] _ _ (hP.sub (ws' := [(c0, .inr (1, [.ref vs, .int 1, .int 0])), (vs, .inl (cI, 256, .inl (upd f 0 (0 : Int32))))]) [0, 1] rfl) (hD.sub (ws' := [(c0, .inr (1, [.ref vs, .int 1, .int 0])), (vs, .inl (cI, 256, .inl (upd f 0 (0 : Int32))))]) [0, 1] (by decide) rfl) hS (Nat.le_of_ble_eq_true rfl) (Nat.le_of_ble_eq_true rfl) d_X1_fillValues_84 ⟨(upd f 0 (0 : Int32)), rfl, rfl⟩
set_option maxHeartbeats 4000000 in
set_option maxRecDepth 100000 in
theorem c_X1_gather (l : Launch) (D : va_G) (cI cZ cQ : ClassId) (c0 vs : Nat) (h w y a u v : Nat) : cu_V l D (cu_TY cI cZ cQ) yX1_gather cX1_gather 4 2 44 0 0 [.ref c0, .ref h, .int 0] [(c0, .inr (1, [.ref vs, .int 0, .int 0])), (vs, .inl (cI, 256, .inl (fun _ => 0))), (h, .inr (4, [.ref w, .ref y, .ref a, .ref u, .ref v, .int 1, .int 0, .int 0, .int 0, .int 0, .int 0])), (w, .inl (cI, 12, .inl (fun _ => 0)))] (fun ww => ∃ g : Nat → Int32, (g 0 = 0) ∧ ww = [(c0, .inr (1, [.ref vs, .int 1, .int 0])), (vs, .inl (cI, 256, .inl g))]) := by
  refine cu_V.intro (by decide) (Nat.le_of_ble_eq_true rfl) ?_
  intro p e s m args below meth c Q ls A S hin hret hP hD hS hA hK hl
  obtain ⟨hx, hb, hml, hown, hg⟩ := S
  have hown : s.vm.findClass RX1 = some m.cls := hown
  have hin : meth.name = "gather" := hin
  have hl : lv_has ls 4 [(0, .ref c0), (1, .ref h), (2, .int 0)] := hl
  refine lv_aload_n hx hb d_X1_gather_0 rfl (lv_at hl 0 rfl) ?_
  refine va_get (D := D) (ci := 1) (v := .int 0) (C := RX1) (T := TX1) (N := 3) hx hb hg cu_iX1 hown hK.1 hP 0 rfl rfl 1 (by decide) (hg _ k_151) (fun _ h9 => h9) rfl d_X1_gather_1 ?_
  refine lv_aload_n hx hb d_X1_gather_4 rfl (lv_at hl 1 rfl) ?_
  refine va_get (D := D) (ci := 4) (v := .int 1) (C := RX6) (T := TX6) (N := 11) hx hb hg cu_iX6 hown hK.1 hP 2 rfl rfl 5 (by decide) (hg _ k_437) (fun _ h9 => h9) rfl d_X1_gather_5 ?_
  refine lv_icmp_eq (tgt := 17) hx hb d_X1_gather_8 (by decide) (fun c_1 => absurd c_1 (by decide +kernel)) (fun _ => ?_)
  refine lv_iload_n hx hb d_X1_gather_11 rfl (lv_at hl 2 rfl) ?_
  refine lv_bipush (v := 8) hx hb d_X1_gather_12 (by decide) ?_
  refine lv_icmp_le (tgt := 18) hx hb d_X1_gather_14 (by decide) (fun _ => ?_) (fun c_2 => absurd (by decide +kernel) c_2)
  refine lv_aload_n hx hb d_X1_gather_18 rfl (lv_at hl 0 rfl) ?_
  refine lv_aload_n hx hb d_X1_gather_19 rfl (lv_at hl 1 rfl) ?_
  refine va_get (D := D) (ci := 4) (v := .int 1) (C := RX6) (T := TX6) (N := 11) hx hb hg cu_iX6 hown hK.1 hP 2 rfl rfl 5 (by decide) (hg _ k_437) (fun _ h9 => h9) rfl d_X1_gather_20 ?_
  refine va_put (D := D) (ci := 1) (v := .int 1) (ty := .int) (C := RX1) (T := TX1) (N := 3) hx hb hg cu_iX1 tyX1 tyX1_ok nmX1 hown hK.1 hP hD hS 0 rfl rfl 1 (by decide) (hg _ k_151) (fun _ h9 => h9) rfl (by decide +kernel) rfl rfl (Nat.le_of_ble_eq_true rfl) d_X1_gather_23 (fun H locs hP hD hS => ?_)
  have hP : va_P D vwCl [(c0, .inr (1, [.ref vs, .int 1, .int 0])), (vs, .inl (cI, 256, .inl (fun _ => 0))), (h, .inr (4, [.ref w, .ref y, .ref a, .ref u, .ref v, .int 1, .int 0, .int 0, .int 0, .int 0, .int 0])), (w, .inl (cI, 12, .inl (fun _ => 0)))] H := hP
  have hD : va_D A [(c0, .inr (1, [.ref vs, .int 1, .int 0])), (vs, .inl (cI, 256, .inl (fun _ => 0))), (h, .inr (4, [.ref w, .ref y, .ref a, .ref u, .ref v, .int 1, .int 0, .int 0, .int 0, .int 0, .int 0])), (w, .inl (cI, 12, .inl (fun _ => 0)))] := hD
  refine lv_aload_n hx hb d_X1_gather_26 rfl (lv_at hl 0 rfl) ?_
  refine lv_iload_n hx hb d_X1_gather_27 rfl (lv_at hl 2 rfl) ?_
  refine va_put (D := D) (ci := 1) (v := .int 0) (ty := .int) (C := RX1) (T := TX1) (N := 3) hx hb hg cu_iX1 tyX1 tyX1_ok nmX1 hown hK.1 hP hD hS 0 rfl rfl 2 (by decide) (hg _ k_152) (fun _ h9 => h9) rfl (by decide +kernel) rfl rfl (Nat.le_of_ble_eq_true rfl) d_X1_gather_28 (fun H locs hP hD hS => ?_)
  have hP : va_P D vwCl [(c0, .inr (1, [.ref vs, .int 1, .int 0])), (vs, .inl (cI, 256, .inl (fun _ => 0))), (h, .inr (4, [.ref w, .ref y, .ref a, .ref u, .ref v, .int 1, .int 0, .int 0, .int 0, .int 0, .int 0])), (w, .inl (cI, 12, .inl (fun _ => 0)))] H := hP
  have hD : va_D A [(c0, .inr (1, [.ref vs, .int 1, .int 0])), (vs, .inl (cI, 256, .inl (fun _ => 0))), (h, .inr (4, [.ref w, .ref y, .ref a, .ref u, .ref v, .int 1, .int 0, .int 0, .int 0, .int 0, .int 0])), (w, .inl (cI, 12, .inl (fun _ => 0)))] := hD
  refine lv_iconst (v := 0) hx hb d_X1_gather_31 (by decide) ?_
  refine lv_istore_n (lv' := [(3, .int 0), (0, .ref c0), (1, .ref h), (2, .int 0)]) hx hb d_X1_gather_32 rfl hl (by decide) rfl (fun ls hl => ?_)
  have key_3 : ∀ (n_5 j_4 : Nat) (hj_7 : j_4 + n_5 = 256) (f : Nat → Int32)  (H : Heap) (locs : List Loc) (ls : Array Slot) (hP : va_P D vwCl [(c0, .inr (1, [.ref vs, .int 1, .int 0])), (vs, .inl (cI, 256, .inl f)), (h, .inr (4, [.ref w, .ref y, .ref a, .ref u, .ref v, .int 1, .int 0, .int 0, .int 0, .int 0, .int 0])), (w, .inl (cI, 12, .inl (fun _ => 0)))] H) (hD : va_D A [(c0, .inr (1, [.ref vs, .int 1, .int 0])), (vs, .inl (cI, 256, .inl f)), (h, .inr (4, [.ref w, .ref y, .ref a, .ref u, .ref v, .int 1, .int 0, .int 0, .int 0, .int 0, .int 0])), (w, .inl (cI, 12, .inl (fun _ => 0)))]) (hS : va_S A s.heap H locs) (hl : lv_has ls 4 [(3, .int (nI j_4)), (0, .ref c0), (1, .ref h), (2, .int 0)]), W p l e (cu_rm 2 44 0 0) s m args below meth c H locs 0 0 Q (F0 m 33 ls []) := by
    intro n_5
    induction n_5 with
    | zero =>
      intro j_4 hj_7 f  H locs ls hP hD hS hl
      obtain rfl : 256 = j_4 := by omega
      have hl : lv_has ls 4 [(3, .int 256), (0, .ref c0), (1, .ref h), (2, .int 0)] := hl
      have hP : va_P D vwCl [(c0, .inr (1, [.ref vs, .int 1, .int 0])), (vs, .inl (cI, 256, .inl f)), (h, .inr (4, [.ref w, .ref y, .ref a, .ref u, .ref v, .int 1, .int 0, .int 0, .int 0, .int 0, .int 0])), (w, .inl (cI, 12, .inl (fun _ => 0)))] H := hP
      have hD : va_D A [(c0, .inr (1, [.ref vs, .int 1, .int 0])), (vs, .inl (cI, 256, .inl f)), (h, .inr (4, [.ref w, .ref y, .ref a, .ref u, .ref v, .int 1, .int 0, .int 0, .int 0, .int 0, .int 0])), (w, .inl (cI, 12, .inl (fun _ => 0)))] := hD
      refine lv_iload_n hx hb d_X1_gather_33 rfl (lv_at hl 0 rfl) ?_
      refine lv_sipush (v := 256) hx hb d_X1_gather_34 (by decide) ?_
      refine lv_icmp_ge (tgt := 53) hx hb d_X1_gather_37 (by decide) (fun _ => ?_) (fun c_8 => absurd (by decide +kernel) c_8)
      refine lv_iconst (v := 1) hx hb d_X1_gather_53 (by decide) ?_
      refine lv_istore_n (lv' := [(3, .int 1), (0, .ref c0), (1, .ref h), (2, .int 0)]) hx hb d_X1_gather_54 rfl hl (by decide) rfl (fun ls hl => ?_)
      refine lv_iload_n hx hb d_X1_gather_55 rfl (lv_at hl 0 rfl) ?_
      refine lv_sipush (v := 999) hx hb d_X1_gather_56 (by decide) ?_
      refine lv_icmp_gt (tgt := 83) hx hb d_X1_gather_59 (by decide) (fun c_9 => absurd c_9 (by decide +kernel)) (fun _ => ?_)
      refine lv_aload_n hx hb d_X1_gather_62 rfl (lv_at hl 1 rfl) ?_
      refine va_get (D := D) (ci := 1) (v := .ref vs) (C := RX1) (T := TX1) (N := 3) hx hb hg cu_iX1 hown hK.1 hP 0 rfl rfl 0 (by decide) (hg _ k_150) (fun _ h9 => h9) rfl d_X1_gather_63 ?_
      refine lv_aload_n hx hb d_X1_gather_66 rfl (lv_at hl 2 rfl) ?_
      refine lv_iload_n hx hb d_X1_gather_67 rfl (lv_at hl 0 rfl) ?_
      refine cu_VR (wc := [(h, .inr (4, [.ref w, .ref y, .ref a, .ref u, .ref v, .int 1, .int 0, .int 0, .int 0, .int 0, .int 0])), (w, .inl (cI, 12, .inl (fun _ => 0)))]) (rest := [.ref vs]) [.int 1] ⟨hx, hb, hml, hown, hg⟩ (c_X6_placesBy l D cI cZ cQ h w y a u v 1 (⟨by omega, by omega⟩)) hd_X6_placesBy k_609 k_606 k_607 k_608 k_53 ⟨Nat.le_of_ble_eq_true rfl, Nat.le_of_ble_eq_true rfl⟩ ⟨Nat.le_of_ble_eq_true rfl, Nat.le_of_ble_eq_true rfl⟩ hP hK [2, 3] rfl 0 rfl rfl rfl hl.1 rfl (Nat.le_of_ble_eq_true rfl) d_X1_gather_68 (fun r_10 hr_11 => ?_)
      subst hr_11
      refine lv_sipush (v := 256) hx hb d_X1_gather_71 (by decide) ?_
      refine lv_irem hx hb d_X1_gather_74 (by decide) ?_
      refine cu_topi (y := 0) (by decide +kernel) ?_
      refine lv_iconst (v := 1) hx hb d_X1_gather_75 (by decide) ?_
      refine va_iast hx hb hK.1 hP hD hS 1 0 rfl rfl (vp_in_nI (n := 0) (N := 256) (Nat.le_of_ble_eq_true rfl) (by decide)) d_X1_gather_76 (fun H locs hP hD hS => ?_)
      have hP : va_P D vwCl [(c0, .inr (1, [.ref vs, .int 1, .int 0])), (vs, .inl (cI, 256, .inl (upd f 0 (1 : Int32)))), (h, .inr (4, [.ref w, .ref y, .ref a, .ref u, .ref v, .int 1, .int 0, .int 0, .int 0, .int 0, .int 0])), (w, .inl (cI, 12, .inl (fun _ => 0)))] H := hP
      have hD : va_D A [(c0, .inr (1, [.ref vs, .int 1, .int 0])), (vs, .inl (cI, 256, .inl (upd f 0 (1 : Int32)))), (h, .inr (4, [.ref w, .ref y, .ref a, .ref u, .ref v, .int 1, .int 0, .int 0, .int 0, .int 0, .int 0])), (w, .inl (cI, 12, .inl (fun _ => 0)))] := hD
      refine lv_iinc (v := 2) (lv' := [(3, .int 2), (0, .ref c0), (1, .ref h), (2, .int 0)]) hx hb d_X1_gather_77 hl (k := 0) rfl (by decide +kernel) (by decide) rfl (fun ls hl => ?_)
      refine lv_goto (tgt := 55) hx hb d_X1_gather_80 (by decide) ?_
      have key_12 : ∀ (n_14 j_13 : Nat) (hj_16 : j_13 + n_14 = 1000) (f2 : Nat → Int32) (hi_17 : 2 ≤ j_13) (hi_18 : f2 0 = 1) (H : Heap) (locs : List Loc) (ls : Array Slot) (hP : va_P D vwCl [(c0, .inr (1, [.ref vs, .int 1, .int 0])), (vs, .inl (cI, 256, .inl f2)), (h, .inr (4, [.ref w, .ref y, .ref a, .ref u, .ref v, .int 1, .int 0, .int 0, .int 0, .int 0, .int 0])), (w, .inl (cI, 12, .inl (fun _ => 0)))] H) (hD : va_D A [(c0, .inr (1, [.ref vs, .int 1, .int 0])), (vs, .inl (cI, 256, .inl f2)), (h, .inr (4, [.ref w, .ref y, .ref a, .ref u, .ref v, .int 1, .int 0, .int 0, .int 0, .int 0, .int 0])), (w, .inl (cI, 12, .inl (fun _ => 0)))]) (hS : va_S A s.heap H locs) (hl : lv_has ls 4 [(3, .int (nI j_13)), (0, .ref c0), (1, .ref h), (2, .int 0)]), W p l e (cu_rm 2 44 0 0) s m args below meth c H locs 0 0 Q (F0 m 55 ls []) := by
        intro n_14
        induction n_14 with
        | zero =>
          intro j_13 hj_16 f2 hi_17 hi_18 H locs ls hP hD hS hl
          obtain rfl : 1000 = j_13 := by omega
          have hl : lv_has ls 4 [(3, .int 1000), (0, .ref c0), (1, .ref h), (2, .int 0)] := hl
          have hP : va_P D vwCl [(c0, .inr (1, [.ref vs, .int 1, .int 0])), (vs, .inl (cI, 256, .inl f2)), (h, .inr (4, [.ref w, .ref y, .ref a, .ref u, .ref v, .int 1, .int 0, .int 0, .int 0, .int 0, .int 0])), (w, .inl (cI, 12, .inl (fun _ => 0)))] H := hP
          have hD : va_D A [(c0, .inr (1, [.ref vs, .int 1, .int 0])), (vs, .inl (cI, 256, .inl f2)), (h, .inr (4, [.ref w, .ref y, .ref a, .ref u, .ref v, .int 1, .int 0, .int 0, .int 0, .int 0, .int 0])), (w, .inl (cI, 12, .inl (fun _ => 0)))] := hD
          have hf9 := hi_18
          refine lv_iload_n hx hb d_X1_gather_55 rfl (lv_at hl 0 rfl) ?_
          refine lv_sipush (v := 999) hx hb d_X1_gather_56 (by decide) ?_
          refine lv_icmp_gt (tgt := 83) hx hb d_X1_gather_59 (by decide) (fun _ => ?_) (fun c_19 => absurd (by decide +kernel) c_19)
          refine lv_aload_n hx hb d_X1_gather_83 rfl (lv_at hl 1 rfl) ?_
          refine cu_VV (wc := [(c0, .inr (1, [.ref vs, .int 1, .int 0])), (vs, .inl (cI, 256, .inl f2))]) (wr := [(h, .inr (4, [.ref w, .ref y, .ref a, .ref u, .ref v, .int 1, .int 0, .int 0, .int 0, .int 0, .int 0])), (w, .inl (cI, 12, .inl (fun _ => 0)))]) (rest := []) [] ⟨hx, hb, hml, hown, hg⟩ (c_X1_markSubsets l D cI cZ cQ c0 vs f2) hd_X1_markSubsets k_613 k_610 k_612 k_18 k_47 ⟨Nat.le_of_ble_eq_true rfl, Nat.le_of_ble_eq_true rfl⟩ ⟨Nat.le_of_ble_eq_true rfl, Nat.le_of_ble_eq_true rfl⟩ hP hD hS hA hK [0, 1] [2, 3] rfl rfl (by decide) (by decide) (by decide) 0 rfl rfl rfl hl.1 rfl (Nat.le_of_ble_eq_true rfl) d_X1_gather_84 (fun w_22 H locs hw_21 hP hD hS => ?_)
          subst hw_21
          have hP : va_P D vwCl [(h, .inr (4, [.ref w, .ref y, .ref a, .ref u, .ref v, .int 1, .int 0, .int 0, .int 0, .int 0, .int 0])), (w, .inl (cI, 12, .inl (fun _ => 0))), (c0, .inr (1, [.ref vs, .int 1, .int 0])), (vs, .inl (cI, 256, .inl f2))] H := hP
          have hD : va_D A [(h, .inr (4, [.ref w, .ref y, .ref a, .ref u, .ref v, .int 1, .int 0, .int 0, .int 0, .int 0, .int 0])), (w, .inl (cI, 12, .inl (fun _ => 0))), (c0, .inr (1, [.ref vs, .int 1, .int 0])), (vs, .inl (cI, 256, .inl f2))] := hD
          refine lv_aload_n hx hb d_X1_gather_87 rfl (lv_at hl 1 rfl) ?_
          refine cu_VV (wc := [(c0, .inr (1, [.ref vs, .int 1, .int 0])), (vs, .inl (cI, 256, .inl f2))]) (wr := [(h, .inr (4, [.ref w, .ref y, .ref a, .ref u, .ref v, .int 1, .int 0, .int 0, .int 0, .int 0, .int 0])), (w, .inl (cI, 12, .inl (fun _ => 0)))]) (rest := []) [] ⟨hx, hb, hml, hown, hg⟩ (c_X1_fillValues l D cI cZ cQ c0 vs f2 (hf9)) hd_X1_fillValues k_617 k_614 k_616 k_19 k_47 ⟨Nat.le_of_ble_eq_true rfl, Nat.le_of_ble_eq_true rfl⟩ ⟨Nat.le_of_ble_eq_true rfl, Nat.le_of_ble_eq_true rfl⟩ hP hD hS hA hK [2, 3] [0, 1] rfl rfl (by decide) (by decide) (by decide) 0 rfl rfl rfl hl.1 rfl (Nat.le_of_ble_eq_true rfl) d_X1_gather_88 (fun w_25 H locs hw_24 hP hD hS => ?_)
          obtain ⟨g_26, hz_27, rfl⟩ := hw_24
          have hP : va_P D vwCl [(h, .inr (4, [.ref w, .ref y, .ref a, .ref u, .ref v, .int 1, .int 0, .int 0, .int 0, .int 0, .int 0])), (w, .inl (cI, 12, .inl (fun _ => 0))), (c0, .inr (1, [.ref vs, .int 1, .int 0])), (vs, .inl (cI, 256, .inl g_26))] H := hP
          have hD : va_D A [(h, .inr (4, [.ref w, .ref y, .ref a, .ref u, .ref v, .int 1, .int 0, .int 0, .int 0, .int 0, .int 0])), (w, .inl (cI, 12, .inl (fun _ => 0))), (c0, .inr (1, [.ref vs, .int 1, .int 0])), (vs, .inl (cI, 256, .inl g_26))] := hD
          exact hret _ _ _ _ [(c0, .inr (1, [.ref vs, .int 1, .int 0])), (vs, .inl (cI, 256, .inl g_26))] _ _ (hP.sub (ws' := [(c0, .inr (1, [.ref vs, .int 1, .int 0])), (vs, .inl (cI, 256, .inl g_26))]) [2, 3] rfl) (hD.sub (ws' := [(c0, .inr (1, [.ref vs, .int 1, .int 0])), (vs, .inl (cI, 256, .inl g_26))]) [2, 3] (by decide) rfl) hS (Nat.le_of_ble_eq_true rfl) (Nat.le_of_ble_eq_true rfl) d_X1_gather_91 ⟨g_26, hz_27, rfl⟩
        | succ n_14 ih_15 =>
          intro j_13 hj_16 f2 hi_17 hi_18 H locs ls hP hD hS hl
          refine lv_iload_n hx hb d_X1_gather_55 rfl (lv_at hl 0 rfl) ?_
          refine lv_sipush (v := 999) hx hb d_X1_gather_56 (by decide) ?_
          refine lv_icmp_gt (tgt := 83) hx hb d_X1_gather_59 (by decide) (fun c_28 => absurd c_28 (mt (nI_ltI (a := 999) (b := j_13) (by omega) (by omega)).mp (by omega))) (fun _ => ?_)
          refine lv_aload_n hx hb d_X1_gather_62 rfl (lv_at hl 1 rfl) ?_
          refine va_get (D := D) (ci := 1) (v := .ref vs) (C := RX1) (T := TX1) (N := 3) hx hb hg cu_iX1 hown hK.1 hP 0 rfl rfl 0 (by decide) (hg _ k_150) (fun _ h9 => h9) rfl d_X1_gather_63 ?_
          refine lv_aload_n hx hb d_X1_gather_66 rfl (lv_at hl 2 rfl) ?_
          refine lv_iload_n hx hb d_X1_gather_67 rfl (lv_at hl 0 rfl) ?_
          refine cu_VR (wc := [(h, .inr (4, [.ref w, .ref y, .ref a, .ref u, .ref v, .int 1, .int 0, .int 0, .int 0, .int 0, .int 0])), (w, .inl (cI, 12, .inl (fun _ => 0)))]) (rest := [.ref vs]) [.int (nI j_13)] ⟨hx, hb, hml, hown, hg⟩ (c_X6_placesBy l D cI cZ cQ h w y a u v j_13 (⟨by omega, by omega⟩)) hd_X6_placesBy k_609 k_606 k_607 k_608 k_53 ⟨Nat.le_of_ble_eq_true rfl, Nat.le_of_ble_eq_true rfl⟩ ⟨Nat.le_of_ble_eq_true rfl, Nat.le_of_ble_eq_true rfl⟩ hP hK [2, 3] rfl 0 rfl rfl rfl hl.1 rfl (Nat.le_of_ble_eq_true rfl) d_X1_gather_68 (fun r_29 hr_30 => ?_)
          subst hr_30
          refine lv_sipush (v := 256) hx hb d_X1_gather_71 (by decide) ?_
          refine lv_irem hx hb d_X1_gather_74 (by decide) ?_
          refine cu_topi (y := 0) (by decide +kernel) ?_
          refine lv_iconst (v := 1) hx hb d_X1_gather_75 (by decide) ?_
          refine va_iast hx hb hK.1 hP hD hS 1 0 rfl rfl (vp_in_nI (n := 0) (N := 256) (Nat.le_of_ble_eq_true rfl) (by decide)) d_X1_gather_76 (fun H locs hP hD hS => ?_)
          have hP : va_P D vwCl [(c0, .inr (1, [.ref vs, .int 1, .int 0])), (vs, .inl (cI, 256, .inl (upd f2 0 (1 : Int32)))), (h, .inr (4, [.ref w, .ref y, .ref a, .ref u, .ref v, .int 1, .int 0, .int 0, .int 0, .int 0, .int 0])), (w, .inl (cI, 12, .inl (fun _ => 0)))] H := hP
          have hD : va_D A [(c0, .inr (1, [.ref vs, .int 1, .int 0])), (vs, .inl (cI, 256, .inl (upd f2 0 (1 : Int32)))), (h, .inr (4, [.ref w, .ref y, .ref a, .ref u, .ref v, .int 1, .int 0, .int 0, .int 0, .int 0, .int 0])), (w, .inl (cI, 12, .inl (fun _ => 0)))] := hD
          refine lv_iinc (v := nI (j_13 + 1)) (lv' := [(3, .int (nI (j_13 + 1))), (0, .ref c0), (1, .ref h), (2, .int 0)]) hx hb d_X1_gather_77 hl (k := 0) rfl (nI_1 j_13) (by decide) rfl (fun ls hl => ?_)
          refine lv_goto (tgt := 55) hx hb d_X1_gather_80 (by decide) ?_
          exact ih_15 (j_13 + 1) (by first | rfl | omega) (upd f2 0 (1 : Int32)) (by omega) (rfl) _ _ _ hP hD hS (lv_sub hl [0, 1, 2, 3] rfl)
      exact key_12 998 2 (by first | rfl | omega) (upd f 0 (1 : Int32)) (Nat.le_refl _) (rfl) _ _ _ hP hD hS (lv_sub hl [0, 1, 2, 3] rfl)
    | succ n_5 ih_6 =>
      intro j_4 hj_7 f  H locs ls hP hD hS hl
      refine lv_iload_n hx hb d_X1_gather_33 rfl (lv_at hl 0 rfl) ?_
      refine lv_sipush (v := 256) hx hb d_X1_gather_34 (by decide) ?_
      refine lv_icmp_ge (tgt := 53) hx hb d_X1_gather_37 (by decide) (fun c_31 => absurd c_31 (mt (nI_leI (a := 256) (b := j_4) (by omega) (by omega)).mp (by omega))) (fun _ => ?_)
      refine lv_aload_n hx hb d_X1_gather_40 rfl (lv_at hl 1 rfl) ?_
      refine va_get (D := D) (ci := 1) (v := .ref vs) (C := RX1) (T := TX1) (N := 3) hx hb hg cu_iX1 hown hK.1 hP 0 rfl rfl 0 (by decide) (hg _ k_150) (fun _ h9 => h9) rfl d_X1_gather_41 ?_
      refine lv_iload_n hx hb d_X1_gather_44 rfl (lv_at hl 0 rfl) ?_
      refine lv_iconst (v := 0) hx hb d_X1_gather_45 (by decide) ?_
      refine va_iast hx hb hK.1 hP hD hS 1 0 rfl rfl (vp_in_nI (by omega) (by decide)) d_X1_gather_46 (fun H locs hP hD hS => ?_)
      have hP : va_P D vwCl [(c0, .inr (1, [.ref vs, .int 1, .int 0])), (vs, .inl (cI, 256, .inl (upd f (nI j_4 : Int32).toNatClampNeg (0 : Int32)))), (h, .inr (4, [.ref w, .ref y, .ref a, .ref u, .ref v, .int 1, .int 0, .int 0, .int 0, .int 0, .int 0])), (w, .inl (cI, 12, .inl (fun _ => 0)))] H := hP
      have hD : va_D A [(c0, .inr (1, [.ref vs, .int 1, .int 0])), (vs, .inl (cI, 256, .inl (upd f (nI j_4 : Int32).toNatClampNeg (0 : Int32)))), (h, .inr (4, [.ref w, .ref y, .ref a, .ref u, .ref v, .int 1, .int 0, .int 0, .int 0, .int 0, .int 0])), (w, .inl (cI, 12, .inl (fun _ => 0)))] := hD
      refine lv_iinc (v := nI (j_4 + 1)) (lv' := [(3, .int (nI (j_4 + 1))), (0, .ref c0), (1, .ref h), (2, .int 0)]) hx hb d_X1_gather_47 hl (k := 0) rfl (nI_1 j_4) (by decide) rfl (fun ls hl => ?_)
      refine lv_goto (tgt := 33) hx hb d_X1_gather_50 (by decide) ?_
      exact ih_6 (j_4 + 1) (by first | rfl | omega) (upd f (nI j_4 : Int32).toNatClampNeg (0 : Int32))  _ _ _ hP hD hS (lv_sub hl [0, 1, 2, 3] rfl)
  exact key_3 256 0 (by first | rfl | omega) (fun _ => 0)  _ _ _ hP hD hS (lv_sub hl [0, 1, 2, 3] rfl)
set_option maxHeartbeats 4000000 in
set_option maxRecDepth 100000 in
theorem c_X1_power (l : Launch) (D : va_G) (cI cZ cQ : ClassId) (c1 : Int32) : cu_R l D (cu_TY cI cZ cQ) yX1_power cX1_power 4 .int 0 0 [.int c1, .int 0] [] (fun r => r = 1) := by
  refine cu_R.intro (by decide) (Nat.le_of_ble_eq_true rfl) ?_
  intro p e s m args below meth c Q ls S hret hP hK hl
  obtain ⟨hx, hb, hml, hown, hg⟩ := S
  have hown : s.vm.findClass RX1 = some m.cls := hown
  have hl : lv_has ls 4 [(0, .int c1), (1, .int 0)] := hl
  refine lv_iconst (v := 1) hx hb d_X1_power_0 (by decide) ?_
  refine lv_istore_n (lv' := [(2, .int 1), (0, .int c1), (1, .int 0)]) hx hb d_X1_power_1 rfl hl (by decide) rfl (fun ls hl => ?_)
  refine lv_iconst (v := 0) hx hb d_X1_power_2 (by decide) ?_
  refine lv_istore_n (lv' := [(3, .int 0), (2, .int 1), (0, .int c1), (1, .int 0)]) hx hb d_X1_power_3 rfl hl (by decide) rfl (fun ls hl => ?_)
  refine lv_iload_n hx hb d_X1_power_4 rfl (lv_at hl 0 rfl) ?_
  refine lv_iload_n hx hb d_X1_power_5 rfl (lv_at hl 3 rfl) ?_
  refine lv_icmp_ge (tgt := 19) hx hb d_X1_power_6 (by decide) (fun _ => ?_) (fun c_1 => absurd (by decide +kernel) c_1)
  refine lv_iload_n hx hb d_X1_power_19 rfl (lv_at hl 1 rfl) ?_
  exact hret _ _ _ d_X1_power_20 (rfl) (rfl)
set_option maxHeartbeats 4000000 in
set_option maxRecDepth 100000 in
theorem c_X1_partOfFraction (l : Launch) (D : va_G) (cI cZ cQ : ClassId) (c1 : Int32) : cu_R l D (cu_TY cI cZ cQ) yX1_partOfFraction cX1_partOfFraction 7 .int 0 0 [.int 1, .int 1, .int c1] [] (fun r => r = 1) := by
  refine cu_R.intro (by decide) (Nat.le_of_ble_eq_true rfl) ?_
  intro p e s m args below meth c Q ls S hret hP hK hl
  obtain ⟨hx, hb, hml, hown, hg⟩ := S
  have hown : s.vm.findClass RX1 = some m.cls := hown
  have hl : lv_has ls 7 [(0, .int 1), (1, .int 1), (2, .int c1)] := hl
  refine lv_iload_n hx hb d_X1_partOfFraction_0 rfl (lv_at hl 1 rfl) ?_
  refine lv_istore_n (lv' := [(3, .int 1), (0, .int 1), (1, .int 1), (2, .int c1)]) hx hb d_X1_partOfFraction_1 rfl hl (by decide) rfl (fun ls hl => ?_)
  refine lv_iload_n hx hb d_X1_partOfFraction_2 rfl (lv_at hl 1 rfl) ?_
  refine lv_istore (lv' := [(4, .int 1), (3, .int 1), (0, .int 1), (1, .int 1), (2, .int c1)]) hx hb d_X1_partOfFraction_3 hl (by decide) rfl (fun ls hl => ?_)
  refine lv_iconst (v := 0) hx hb d_X1_partOfFraction_5 (by decide) ?_
  refine lv_istore (lv' := [(5, .int 0), (4, .int 1), (3, .int 1), (0, .int 1), (1, .int 1), (2, .int c1)]) hx hb d_X1_partOfFraction_6 hl (by decide) rfl (fun ls hl => ?_)
  refine lv_iload hx hb d_X1_partOfFraction_8 (lv_at hl 0 rfl) ?_
  refine lv_bipush (v := 64) hx hb d_X1_partOfFraction_10 (by decide) ?_
  refine lv_icmp_ge (tgt := 39) hx hb d_X1_partOfFraction_12 (by decide) (fun c_1 => absurd c_1 (by decide +kernel)) (fun _ => ?_)
  refine lv_iload hx hb d_X1_partOfFraction_15 (lv_at hl 1 rfl) ?_
  refine lv_if_eq (tgt := 39) hx hb d_X1_partOfFraction_17 (by decide) (fun c_2 => absurd c_2 (by decide +kernel)) (fun _ => ?_)
  refine lv_iload_n hx hb d_X1_partOfFraction_20 rfl (lv_at hl 2 rfl) ?_
  refine lv_iload hx hb d_X1_partOfFraction_21 (lv_at hl 1 rfl) ?_
  refine lv_irem hx hb d_X1_partOfFraction_23 (by decide) ?_
  refine cu_topi (y := 0) (by decide +kernel) ?_
  refine lv_istore (lv' := [(6, .int 0), (5, .int 0), (4, .int 1), (3, .int 1), (0, .int 1), (1, .int 1), (2, .int c1)]) hx hb d_X1_partOfFraction_24 hl (by decide) rfl (fun ls hl => ?_)
  refine lv_iload hx hb d_X1_partOfFraction_26 (lv_at hl 2 rfl) ?_
  refine lv_istore_n (lv' := [(3, .int 1), (6, .int 0), (5, .int 0), (4, .int 1), (0, .int 1), (1, .int 1), (2, .int c1)]) hx hb d_X1_partOfFraction_28 rfl hl (by decide) rfl (fun ls hl => ?_)
  refine lv_iload hx hb d_X1_partOfFraction_29 (lv_at hl 1 rfl) ?_
  refine lv_istore (lv' := [(4, .int 0), (3, .int 1), (6, .int 0), (5, .int 0), (0, .int 1), (1, .int 1), (2, .int c1)]) hx hb d_X1_partOfFraction_31 hl (by decide) rfl (fun ls hl => ?_)
  refine lv_iinc (v := 1) (lv' := [(5, .int 1), (4, .int 0), (3, .int 1), (6, .int 0), (0, .int 1), (1, .int 1), (2, .int c1)]) hx hb d_X1_partOfFraction_33 hl (k := 3) rfl (by decide +kernel) (by decide) rfl (fun ls hl => ?_)
  refine lv_goto (tgt := 8) hx hb d_X1_partOfFraction_36 (by decide) ?_
  refine lv_iload hx hb d_X1_partOfFraction_8 (lv_at hl 0 rfl) ?_
  refine lv_bipush (v := 64) hx hb d_X1_partOfFraction_10 (by decide) ?_
  refine lv_icmp_ge (tgt := 39) hx hb d_X1_partOfFraction_12 (by decide) (fun c_3 => absurd c_3 (by decide +kernel)) (fun _ => ?_)
  refine lv_iload hx hb d_X1_partOfFraction_15 (lv_at hl 1 rfl) ?_
  refine lv_if_eq (tgt := 39) hx hb d_X1_partOfFraction_17 (by decide) (fun _ => ?_) (fun c_4 => absurd (by decide +kernel) c_4)
  refine lv_iload_n hx hb d_X1_partOfFraction_39 rfl (lv_at hl 2 rfl) ?_
  refine lv_if_ne (tgt := 45) hx hb d_X1_partOfFraction_40 (by decide) (fun _ => ?_) (fun c_5 => absurd c_5 (by decide +kernel))
  refine lv_iload_n hx hb d_X1_partOfFraction_45 rfl (lv_at hl 6 rfl) ?_
  refine lv_if_eq (tgt := 55) hx hb d_X1_partOfFraction_46 (by decide) (fun c_6 => ?_) (fun c_6 => ?_)
  · skip
    refine lv_iload_n hx hb d_X1_partOfFraction_55 rfl (lv_at hl 5 rfl) ?_
    refine lv_iload_n hx hb d_X1_partOfFraction_56 rfl (lv_at hl 2 rfl) ?_
    refine lv_idiv hx hb d_X1_partOfFraction_57 (by decide) ?_
    refine cu_topi (y := 1) (by decide +kernel) ?_
    exact hret _ _ _ d_X1_partOfFraction_58 (rfl) (rfl)
  · skip
    refine lv_iload_n hx hb d_X1_partOfFraction_49 rfl (lv_at hl 4 rfl) ?_
    refine lv_iload_n hx hb d_X1_partOfFraction_50 rfl (lv_at hl 2 rfl) ?_
    refine lv_idiv hx hb d_X1_partOfFraction_51 (by decide) ?_
    refine cu_topi (y := 1) (by decide +kernel) ?_
    refine lv_goto (tgt := 58) hx hb d_X1_partOfFraction_52 (by decide) ?_
    exact hret _ _ _ d_X1_partOfFraction_58 (rfl) (rfl)
set_option maxHeartbeats 4000000 in
set_option maxRecDepth 100000 in
theorem c_X1_chanceOfUnit (l : Launch) (D : va_G) (cI cZ cQ : ClassId) (c0 vs : Nat) (f : Nat → Int32) (c1 c2 : Int32) (hy_0 : f 0 = 0) : cu_R l D (cu_TY cI cZ cQ) yX1_chanceOfUnit cX1_chanceOfUnit 6 .int 1 26 [.ref c0, .int c1, .int c2] [(c0, .inr (1, [.ref vs, .int 1, .int 0])), (vs, .inl (cI, 256, .inl f))] (fun r => r = 1) := by
  refine cu_R.intro (by decide) (Nat.le_of_ble_eq_true rfl) ?_
  intro p e s m args below meth c Q ls S hret hP hK hl
  obtain ⟨hx, hb, hml, hown, hg⟩ := S
  have hown : s.vm.findClass RX1 = some m.cls := hown
  have hl : lv_has ls 6 [(0, .ref c0), (1, .int c1), (2, .int c2)] := hl
  refine lv_iconst (v := 0) hx hb d_X1_chanceOfUnit_0 (by decide) ?_
  refine lv_istore_n (lv' := [(3, .int 0), (0, .ref c0), (1, .int c1), (2, .int c2)]) hx hb d_X1_chanceOfUnit_1 rfl hl (by decide) rfl (fun ls hl => ?_)
  refine lv_iconst (v := 0) hx hb d_X1_chanceOfUnit_2 (by decide) ?_
  refine lv_istore (lv' := [(4, .int 0), (3, .int 0), (0, .ref c0), (1, .int c1), (2, .int c2)]) hx hb d_X1_chanceOfUnit_3 hl (by decide) rfl (fun ls hl => ?_)
  refine lv_iload hx hb d_X1_chanceOfUnit_5 (lv_at hl 0 rfl) ?_
  refine lv_iconst (v := 1) hx hb d_X1_chanceOfUnit_7 (by decide) ?_
  refine lv_aload_n hx hb d_X1_chanceOfUnit_8 rfl (lv_at hl 2 rfl) ?_
  refine va_get (D := D) (ci := 1) (v := .int 0) (C := RX1) (T := TX1) (N := 3) hx hb hg cu_iX1 hown hK.1 hP 0 rfl rfl 2 (by decide) (hg _ k_152) (fun _ h9 => h9) rfl d_X1_chanceOfUnit_9 ?_
  refine lv_ishl hx hb d_X1_chanceOfUnit_12 ?_
  refine cu_topi (y := 1) (by decide +kernel) ?_
  refine lv_icmp_ge (tgt := 65) hx hb d_X1_chanceOfUnit_13 (by decide) (fun c_1 => absurd c_1 (by decide +kernel)) (fun _ => ?_)
  refine lv_iload hx hb d_X1_chanceOfUnit_16 (lv_at hl 0 rfl) ?_
  refine cu_SR (wc := []) (rest := []) [.int 0] ⟨hx, hb, hml, hown, hg⟩ (c_J6_bitCount l D cI cZ cQ ) hd_J6_bitCount_0f7a4 k_333 k_618 k_332 k_51 ⟨Nat.le_of_ble_eq_true rfl, Nat.le_of_ble_eq_true rfl⟩ ⟨Nat.le_of_ble_eq_true rfl, Nat.le_of_ble_eq_true rfl⟩ hP hK [] rfl rfl hl.1 rfl (Nat.le_of_ble_eq_true rfl) d_X1_chanceOfUnit_18 (fun r_2 hr_3 => ?_)
  subst hr_3
  refine lv_istore (lv' := [(5, .int 0), (4, .int 0), (3, .int 0), (0, .ref c0), (1, .int c1), (2, .int c2)]) hx hb d_X1_chanceOfUnit_21 hl (by decide) rfl (fun ls hl => ?_)
  refine lv_aload_n hx hb d_X1_chanceOfUnit_23 rfl (lv_at hl 3 rfl) ?_
  refine va_get (D := D) (ci := 1) (v := .ref vs) (C := RX1) (T := TX1) (N := 3) hx hb hg cu_iX1 hown hK.1 hP 0 rfl rfl 0 (by decide) (hg _ k_150) (fun _ h9 => h9) rfl d_X1_chanceOfUnit_24 ?_
  refine lv_iload hx hb d_X1_chanceOfUnit_27 (lv_at hl 1 rfl) ?_
  refine va_iald hx hb hK.1 hP 1 0 rfl rfl (vp_in_nI (n := 0) (N := 256) (Nat.le_of_ble_eq_true rfl) (by decide)) d_X1_chanceOfUnit_29 ?_
  refine cu_topi (y := 0) (hy_0) ?_
  refine lv_iload hx hb d_X1_chanceOfUnit_30 (lv_at hl 0 rfl) ?_
  refine lv_icmp_ne (tgt := 59) hx hb d_X1_chanceOfUnit_32 (by decide) (fun c_4 => absurd (by decide +kernel) c_4) (fun _ => ?_)
  refine lv_iload_n hx hb d_X1_chanceOfUnit_35 rfl (lv_at hl 2 rfl) ?_
  refine lv_iload_n hx hb d_X1_chanceOfUnit_36 rfl (lv_at hl 4 rfl) ?_
  refine lv_aload_n hx hb d_X1_chanceOfUnit_37 rfl (lv_at hl 3 rfl) ?_
  refine va_get (D := D) (ci := 1) (v := .int 0) (C := RX1) (T := TX1) (N := 3) hx hb hg cu_iX1 hown hK.1 hP 0 rfl rfl 2 (by decide) (hg _ k_152) (fun _ h9 => h9) rfl d_X1_chanceOfUnit_38 ?_
  refine lv_iload hx hb d_X1_chanceOfUnit_41 (lv_at hl 0 rfl) ?_
  refine lv_isub hx hb d_X1_chanceOfUnit_43 ?_
  refine cu_topi (y := 0) (by decide +kernel) ?_
  refine cu_SR (wc := []) (rest := [.int 0]) [.int c1, .int 0] ⟨hx, hb, hml, hown, hg⟩ (c_X1_power l D cI cZ cQ c1) hd_X1_power k_645 k_643 k_644 k_47 ⟨Nat.le_of_ble_eq_true rfl, Nat.le_of_ble_eq_true rfl⟩ ⟨Nat.le_of_ble_eq_true rfl, Nat.le_of_ble_eq_true rfl⟩ hP hK [] rfl rfl hl.1 rfl (Nat.le_of_ble_eq_true rfl) d_X1_chanceOfUnit_44 (fun r_5 hr_6 => ?_)
  subst hr_6
  refine lv_bipush (v := 10) hx hb d_X1_chanceOfUnit_47 (by decide) ?_
  refine lv_iload_n hx hb d_X1_chanceOfUnit_49 rfl (lv_at hl 4 rfl) ?_
  refine lv_isub hx hb d_X1_chanceOfUnit_50 ?_
  refine lv_iload hx hb d_X1_chanceOfUnit_51 (lv_at hl 0 rfl) ?_
  refine cu_SR (wc := []) (rest := [.int 1, .int 0]) [.int (10 - c1), .int 0] ⟨hx, hb, hml, hown, hg⟩ (c_X1_power l D cI cZ cQ (10 - c1)) hd_X1_power k_645 k_643 k_644 k_47 ⟨Nat.le_of_ble_eq_true rfl, Nat.le_of_ble_eq_true rfl⟩ ⟨Nat.le_of_ble_eq_true rfl, Nat.le_of_ble_eq_true rfl⟩ hP hK [] rfl rfl hl.1 rfl (Nat.le_of_ble_eq_true rfl) d_X1_chanceOfUnit_53 (fun r_7 hr_8 => ?_)
  subst hr_8
  refine lv_imul hx hb d_X1_chanceOfUnit_56 ?_
  refine cu_topi (y := 1) (by decide +kernel) ?_
  refine lv_iadd hx hb d_X1_chanceOfUnit_57 ?_
  refine cu_topi (y := 1) (by decide +kernel) ?_
  refine lv_istore_n (lv' := [(3, .int 1), (5, .int 0), (4, .int 0), (0, .ref c0), (1, .int c1), (2, .int c2)]) hx hb d_X1_chanceOfUnit_58 rfl hl (by decide) rfl (fun ls hl => ?_)
  refine lv_iinc (v := 1) (lv' := [(4, .int 1), (3, .int 1), (5, .int 0), (0, .ref c0), (1, .int c1), (2, .int c2)]) hx hb d_X1_chanceOfUnit_59 hl (k := 2) rfl (by decide +kernel) (by decide) rfl (fun ls hl => ?_)
  refine lv_goto (tgt := 5) hx hb d_X1_chanceOfUnit_62 (by decide) ?_
  refine lv_iload hx hb d_X1_chanceOfUnit_5 (lv_at hl 0 rfl) ?_
  refine lv_iconst (v := 1) hx hb d_X1_chanceOfUnit_7 (by decide) ?_
  refine lv_aload_n hx hb d_X1_chanceOfUnit_8 rfl (lv_at hl 3 rfl) ?_
  refine va_get (D := D) (ci := 1) (v := .int 0) (C := RX1) (T := TX1) (N := 3) hx hb hg cu_iX1 hown hK.1 hP 0 rfl rfl 2 (by decide) (hg _ k_152) (fun _ h9 => h9) rfl d_X1_chanceOfUnit_9 ?_
  refine lv_ishl hx hb d_X1_chanceOfUnit_12 ?_
  refine cu_topi (y := 1) (by decide +kernel) ?_
  refine lv_icmp_ge (tgt := 65) hx hb d_X1_chanceOfUnit_13 (by decide) (fun _ => ?_) (fun c_9 => absurd (by decide +kernel) c_9)
  refine lv_iload_n hx hb d_X1_chanceOfUnit_65 rfl (lv_at hl 1 rfl) ?_
  refine lv_bipush (v := 10) hx hb d_X1_chanceOfUnit_66 (by decide) ?_
  refine lv_aload_n hx hb d_X1_chanceOfUnit_68 rfl (lv_at hl 3 rfl) ?_
  refine va_get (D := D) (ci := 1) (v := .int 0) (C := RX1) (T := TX1) (N := 3) hx hb hg cu_iX1 hown hK.1 hP 0 rfl rfl 2 (by decide) (hg _ k_152) (fun _ h9 => h9) rfl d_X1_chanceOfUnit_69 ?_
  refine cu_SR (wc := []) (rest := [.int 1]) [.int 10, .int 0] ⟨hx, hb, hml, hown, hg⟩ (c_X1_power l D cI cZ cQ 10) hd_X1_power k_645 k_643 k_644 k_47 ⟨Nat.le_of_ble_eq_true rfl, Nat.le_of_ble_eq_true rfl⟩ ⟨Nat.le_of_ble_eq_true rfl, Nat.le_of_ble_eq_true rfl⟩ hP hK [] rfl rfl hl.1 rfl (Nat.le_of_ble_eq_true rfl) d_X1_chanceOfUnit_72 (fun r_10 hr_11 => ?_)
  subst hr_11
  refine lv_iload_n hx hb d_X1_chanceOfUnit_75 rfl (lv_at hl 5 rfl) ?_
  refine cu_SR (wc := []) (rest := []) [.int 1, .int 1, .int c2] ⟨hx, hb, hml, hown, hg⟩ (c_X1_partOfFraction l D cI cZ cQ c2) hd_X1_partOfFraction k_634 k_632 k_633 k_47 ⟨Nat.le_of_ble_eq_true rfl, Nat.le_of_ble_eq_true rfl⟩ ⟨Nat.le_of_ble_eq_true rfl, Nat.le_of_ble_eq_true rfl⟩ hP hK [] rfl rfl hl.1 rfl (Nat.le_of_ble_eq_true rfl) d_X1_chanceOfUnit_76 (fun r_12 hr_13 => ?_)
  subst hr_13
  exact hret _ _ _ d_X1_chanceOfUnit_79 (rfl) (rfl)
def cu_slo (c1 : Int32) : Int32 := if c1 < 0 then (-2) else if 10 < c1 then (-2) else 1
set_option maxHeartbeats 4000000 in
set_option maxRecDepth 100000 in
theorem c_X8_lost (l : Launch) (D : va_G) (cI cZ cQ : ClassId) (x tx nw sp ac cr sg sl fl : Nat) (w y a u : Nat) (vs : Nat) (c1 c2 : Int32) : cu_W l D (cu_TY cI cZ cQ) yX8_lost cX8_lost 3 .int 4 86 6 14034 [.ref x, .int c1, .int c2] [(x, .inr (6, [.ref tx, .ref nw, .ref sp, .ref ac, .ref cr, .ref sg, .ref sl, .ref fl, .null, .long 0])), (nw, .inr (2, [.ref w, .ref y, .ref a, .ref u, .int 0, .int 0, .int 1, .int 0])), (cr, .inr (1, [.ref vs, .int 0, .int 0])), (vs, .inl (cI, 256, .inl (fun _ => 0)))] (fun r ww => (r = cu_slo c1) ∧ ww = []) := by
  refine cu_W.intro (by decide) (Nat.le_of_ble_eq_true rfl) ?_
  intro p e s m args below meth c Q ls A S hret hP hD hS hA hK hl
  obtain ⟨hx, hb, hml, hown, hg⟩ := S
  have hown : s.vm.findClass RX8 = some m.cls := hown
  have hl : lv_has ls 3 [(0, .ref x), (1, .int c1), (2, .int c2)] := hl
  refine lv_iload_n hx hb d_X8_lost_0 rfl (lv_at hl 1 rfl) ?_
  refine lv_if_lt (tgt := 10) hx hb d_X8_lost_1 (by decide) (fun c_1 => ?_) (fun c_1 => ?_)
  · skip
    refine lv_bipush (v := (-2)) hx hb d_X8_lost_10 (by decide) ?_
    exact hret _ _ _ _ [] _ _ _ (hP.sub (ws' := []) [] rfl) (hD.sub (ws' := []) [] (by decide) rfl) hS (Nat.le_of_ble_eq_true rfl) (Nat.le_of_ble_eq_true rfl) d_X8_lost_12 (rfl) ⟨by unfold cu_slo; rw [if_pos c_1], rfl⟩
  · skip
    refine lv_iload_n hx hb d_X8_lost_4 rfl (lv_at hl 1 rfl) ?_
    refine lv_bipush (v := 10) hx hb d_X8_lost_5 (by decide) ?_
    refine lv_icmp_le (tgt := 13) hx hb d_X8_lost_7 (by decide) (fun c_2 => ?_) (fun c_2 => ?_)
    · skip
      refine lv_aload_n hx hb d_X8_lost_13 rfl (lv_at hl 0 rfl) ?_
      refine va_get (D := D) (ci := 6) (v := .ref nw) (C := RX8) (T := TX8) (N := 10) hx hb hg cu_iX8 hown hK.1 hP 0 rfl rfl 1 (by decide) (hg _ k_180) (fun _ h9 => h9) rfl d_X8_lost_14 ?_
      refine cu_VR (wc := [(nw, .inr (2, [.ref w, .ref y, .ref a, .ref u, .int 0, .int 0, .int 1, .int 0]))]) (rest := []) [] ⟨hx, hb, hml, hown, hg⟩ (c_X3_counted l D cI cZ cQ nw w y a u 1 0) hd_X3_counted k_597 k_594 k_595 k_596 k_45 ⟨Nat.le_of_ble_eq_true rfl, Nat.le_of_ble_eq_true rfl⟩ ⟨Nat.le_of_ble_eq_true rfl, Nat.le_of_ble_eq_true rfl⟩ hP hK [1] rfl 0 rfl rfl rfl hl.1 rfl (Nat.le_of_ble_eq_true rfl) d_X8_lost_17 (fun r_3 hr_4 => ?_)
      subst hr_4
      refine lv_bipush (v := 8) hx hb d_X8_lost_20 (by decide) ?_
      refine lv_icmp_le (tgt := 28) hx hb d_X8_lost_22 (by decide) (fun _ => ?_) (fun c_5 => absurd (by decide +kernel) c_5)
      refine lv_aload_n hx hb d_X8_lost_28 rfl (lv_at hl 0 rfl) ?_
      refine va_get (D := D) (ci := 6) (v := .ref cr) (C := RX8) (T := TX8) (N := 10) hx hb hg cu_iX8 hown hK.1 hP 0 rfl rfl 4 (by decide) (hg _ k_183) (fun _ h9 => h9) rfl d_X8_lost_29 ?_
      refine lv_aload_n hx hb d_X8_lost_32 rfl (lv_at hl 0 rfl) ?_
      refine cu_VQ (wc := [(x, .inr (6, [.ref tx, .ref nw, .ref sp, .ref ac, .ref cr, .ref sg, .ref sl, .ref fl, .null, .long 0])), (nw, .inr (2, [.ref w, .ref y, .ref a, .ref u, .int 0, .int 0, .int 1, .int 0]))]) (wr := [(cr, .inr (1, [.ref vs, .int 0, .int 0])), (vs, .inl (cI, 256, .inl (fun _ => 0)))]) (rest := [.ref cr]) [] ⟨hx, hb, hml, hown, hg⟩ (c_X8_surveyNow l D cI cZ cQ x tx nw sp ac cr sg sl fl w y a u) hd_X8_surveyNow k_424 k_421 k_423 k_7 k_43 ⟨Nat.le_of_ble_eq_true rfl, Nat.le_of_ble_eq_true rfl⟩ ⟨Nat.le_of_ble_eq_true rfl, Nat.le_of_ble_eq_true rfl⟩ hP hD hS hA hK [0, 1] [2, 3] rfl rfl (by decide) (by decide) (by decide) 0 rfl rfl rfl hl.1 rfl (Nat.le_of_ble_eq_true rfl) d_X8_lost_33 (fun r_6 w_8 H locs hw_7 hP hD hS => ?_)
      obtain ⟨q0_9, v1_10, v2_11, v3_12, v4_13, v5_14, hr_15⟩ := hw_7
      obtain ⟨hqa, hqb⟩ := Prod.mk.inj hr_15
      have hqa := hqa.symm
      subst hqa
      subst hqb
      have hP : va_P D vwCl [(cr, .inr (1, [.ref vs, .int 0, .int 0])), (vs, .inl (cI, 256, .inl (fun _ => 0))), (x, .inr (6, [.ref tx, .ref nw, .ref sp, .ref ac, .ref cr, .ref sg, .ref sl, .ref fl, .ref q0_9, .long 0])), (nw, .inr (2, [.ref w, .ref y, .ref a, .ref u, .int 0, .int 0, .int 1, .int 0])), (q0_9, .inr (4, [.ref v1_10, .ref v2_11, .ref v3_12, .ref v4_13, .ref v5_14, .int 1, .int 0, .int 0, .int 0, .int 0, .int 0])), (v1_10, .inl (cI, 12, .inl (fun _ => 0))), (v2_11, .inl (cI, 12, .inl (fun _ => 0))), (v3_12, .inl (cI, 12000, .inl (fun _ => 0))), (v4_13, .inl (cI, 1000, .inl (fun _ => 0))), (v5_14, .inl (cI, 999, .inl (fun _ => 0)))] H := hP
      have hD : va_D A [(cr, .inr (1, [.ref vs, .int 0, .int 0])), (vs, .inl (cI, 256, .inl (fun _ => 0))), (x, .inr (6, [.ref tx, .ref nw, .ref sp, .ref ac, .ref cr, .ref sg, .ref sl, .ref fl, .ref q0_9, .long 0])), (nw, .inr (2, [.ref w, .ref y, .ref a, .ref u, .int 0, .int 0, .int 1, .int 0])), (q0_9, .inr (4, [.ref v1_10, .ref v2_11, .ref v3_12, .ref v4_13, .ref v5_14, .int 1, .int 0, .int 0, .int 0, .int 0, .int 0])), (v1_10, .inl (cI, 12, .inl (fun _ => 0))), (v2_11, .inl (cI, 12, .inl (fun _ => 0))), (v3_12, .inl (cI, 12000, .inl (fun _ => 0))), (v4_13, .inl (cI, 1000, .inl (fun _ => 0))), (v5_14, .inl (cI, 999, .inl (fun _ => 0)))] := hD
      refine W.widen (k := 6) (n := 14034) (Nat.le_of_ble_eq_true rfl) (Nat.le_of_ble_eq_true rfl) ?_
      refine lv_aload_n hx hb d_X8_lost_36 rfl (lv_at hl 0 rfl) ?_
      refine va_get (D := D) (ci := 6) (v := .ref nw) (C := RX8) (T := TX8) (N := 10) hx hb hg cu_iX8 hown hK.1 hP 2 rfl rfl 1 (by decide) (hg _ k_180) (fun _ h9 => h9) rfl d_X8_lost_37 ?_
      refine cu_VR (wc := [(nw, .inr (2, [.ref w, .ref y, .ref a, .ref u, .int 0, .int 0, .int 1, .int 0]))]) (rest := [.ref q0_9, .ref cr]) [] ⟨hx, hb, hml, hown, hg⟩ (c_X3_counted l D cI cZ cQ nw w y a u 1 0) hd_X3_counted k_597 k_594 k_595 k_596 k_45 ⟨Nat.le_of_ble_eq_true rfl, Nat.le_of_ble_eq_true rfl⟩ ⟨Nat.le_of_ble_eq_true rfl, Nat.le_of_ble_eq_true rfl⟩ hP hK [3] rfl 0 rfl rfl rfl hl.1 rfl (Nat.le_of_ble_eq_true rfl) d_X8_lost_40 (fun r_16 hr_17 => ?_)
      subst hr_17
      refine cu_VV (wc := [(cr, .inr (1, [.ref vs, .int 0, .int 0])), (vs, .inl (cI, 256, .inl (fun _ => 0))), (q0_9, .inr (4, [.ref v1_10, .ref v2_11, .ref v3_12, .ref v4_13, .ref v5_14, .int 1, .int 0, .int 0, .int 0, .int 0, .int 0])), (v1_10, .inl (cI, 12, .inl (fun _ => 0)))]) (wr := [(x, .inr (6, [.ref tx, .ref nw, .ref sp, .ref ac, .ref cr, .ref sg, .ref sl, .ref fl, .ref q0_9, .long 0])), (nw, .inr (2, [.ref w, .ref y, .ref a, .ref u, .int 0, .int 0, .int 1, .int 0])), (v2_11, .inl (cI, 12, .inl (fun _ => 0))), (v3_12, .inl (cI, 12000, .inl (fun _ => 0))), (v4_13, .inl (cI, 1000, .inl (fun _ => 0))), (v5_14, .inl (cI, 999, .inl (fun _ => 0)))]) (rest := []) [.ref q0_9, .int 0] ⟨hx, hb, hml, hown, hg⟩ (c_X1_gather l D cI cZ cQ cr vs q0_9 v1_10 v2_11 v3_12 v4_13 v5_14) hd_X1_gather k_605 k_602 k_603 k_604 k_47 ⟨Nat.le_of_ble_eq_true rfl, Nat.le_of_ble_eq_true rfl⟩ ⟨Nat.le_of_ble_eq_true rfl, Nat.le_of_ble_eq_true rfl⟩ hP hD hS hA hK [0, 1, 4, 5] [2, 3, 6, 7, 8, 9] rfl rfl (by decide) (by decide) (by decide) 0 rfl rfl rfl hl.1 rfl (Nat.le_of_ble_eq_true rfl) d_X8_lost_43 (fun w_20 H locs hw_19 hP hD hS => ?_)
      obtain ⟨g_21, hz_22, rfl⟩ := hw_19
      have hP : va_P D vwCl [(x, .inr (6, [.ref tx, .ref nw, .ref sp, .ref ac, .ref cr, .ref sg, .ref sl, .ref fl, .ref q0_9, .long 0])), (nw, .inr (2, [.ref w, .ref y, .ref a, .ref u, .int 0, .int 0, .int 1, .int 0])), (v2_11, .inl (cI, 12, .inl (fun _ => 0))), (v3_12, .inl (cI, 12000, .inl (fun _ => 0))), (v4_13, .inl (cI, 1000, .inl (fun _ => 0))), (v5_14, .inl (cI, 999, .inl (fun _ => 0))), (cr, .inr (1, [.ref vs, .int 1, .int 0])), (vs, .inl (cI, 256, .inl g_21))] H := hP
      have hD : va_D A [(x, .inr (6, [.ref tx, .ref nw, .ref sp, .ref ac, .ref cr, .ref sg, .ref sl, .ref fl, .ref q0_9, .long 0])), (nw, .inr (2, [.ref w, .ref y, .ref a, .ref u, .int 0, .int 0, .int 1, .int 0])), (v2_11, .inl (cI, 12, .inl (fun _ => 0))), (v3_12, .inl (cI, 12000, .inl (fun _ => 0))), (v4_13, .inl (cI, 1000, .inl (fun _ => 0))), (v5_14, .inl (cI, 999, .inl (fun _ => 0))), (cr, .inr (1, [.ref vs, .int 1, .int 0])), (vs, .inl (cI, 256, .inl g_21))] := hD
      refine lv_aload_n hx hb d_X8_lost_46 rfl (lv_at hl 0 rfl) ?_
      refine va_get (D := D) (ci := 6) (v := .ref cr) (C := RX8) (T := TX8) (N := 10) hx hb hg cu_iX8 hown hK.1 hP 0 rfl rfl 4 (by decide) (hg _ k_183) (fun _ h9 => h9) rfl d_X8_lost_47 ?_
      refine lv_iload_n hx hb d_X8_lost_50 rfl (lv_at hl 1 rfl) ?_
      refine lv_iload_n hx hb d_X8_lost_51 rfl (lv_at hl 2 rfl) ?_
      refine cu_VR (wc := [(cr, .inr (1, [.ref vs, .int 1, .int 0])), (vs, .inl (cI, 256, .inl g_21))]) (rest := []) [.int c1, .int c2] ⟨hx, hb, hml, hown, hg⟩ (c_X1_chanceOfUnit l D cI cZ cQ cr vs g_21 c1 c2 (hz_22)) hd_X1_chanceOfUnit k_642 k_639 k_640 k_641 k_47 ⟨Nat.le_of_ble_eq_true rfl, Nat.le_of_ble_eq_true rfl⟩ ⟨Nat.le_of_ble_eq_true rfl, Nat.le_of_ble_eq_true rfl⟩ hP hK [6, 7] rfl 0 rfl rfl rfl hl.1 rfl (Nat.le_of_ble_eq_true rfl) d_X8_lost_52 (fun r_23 hr_24 => ?_)
      subst hr_24
      exact hret _ _ _ _ [] _ _ _ (hP.sub (ws' := []) [] rfl) (hD.sub (ws' := []) [] (by decide) rfl) hS (Nat.le_of_ble_eq_true rfl) (Nat.le_of_ble_eq_true rfl) d_X8_lost_55 (rfl) ⟨by unfold cu_slo; rw [if_neg c_1, if_neg (Int32.not_lt.mpr c_2)], rfl⟩
    · skip
      refine lv_bipush (v := (-2)) hx hb d_X8_lost_10 (by decide) ?_
      exact hret _ _ _ _ [] _ _ _ (hP.sub (ws' := []) [] rfl) (hD.sub (ws' := []) [] (by decide) rfl) hS (Nat.le_of_ble_eq_true rfl) (Nat.le_of_ble_eq_true rfl) d_X8_lost_12 (rfl) ⟨by unfold cu_slo; rw [if_neg c_1, if_pos (Int32.not_le.mp c_2)], rfl⟩
set_option maxHeartbeats 4000000 in
set_option maxRecDepth 100000 in
theorem c_X3_bestUnit (l : Launch) (D : va_G) (cI cZ cQ : ClassId) (h w y a u : Nat) (rt lw : Int32) : cu_R l D (cu_TY cI cZ cQ) yX3_bestUnit cX3_bestUnit 5 .int 1 24 [.ref h] [(h, .inr (2, [.ref w, .ref y, .ref a, .ref u, .int 0, .int 0, .int rt, .int lw]))] (fun r => r = 999) := by
  refine cu_R.intro (by decide) (Nat.le_of_ble_eq_true rfl) ?_
  intro p e s m args below meth c Q ls S hret hP hK hl
  obtain ⟨hx, hb, hml, hown, hg⟩ := S
  have hown : s.vm.findClass RX3 = some m.cls := hown
  have hl : lv_has ls 5 [(0, .ref h)] := hl
  refine lv_sipush (v := 999) hx hb d_X3_bestUnit_0 (by decide) ?_
  refine lv_istore_n (lv' := [(1, .int 999), (0, .ref h)]) hx hb d_X3_bestUnit_3 rfl hl (by decide) rfl (fun ls hl => ?_)
  refine lv_ldc (v := 53248) hx hb hown (hg _ k_562) d_X3_bestUnit_4 ?_
  refine lv_istore_n (lv' := [(2, .int 53248), (1, .int 999), (0, .ref h)]) hx hb d_X3_bestUnit_6 rfl hl (by decide) rfl (fun ls hl => ?_)
  refine lv_sipush (v := 999) hx hb d_X3_bestUnit_7 (by decide) ?_
  refine lv_istore_n (lv' := [(3, .int 999), (2, .int 53248), (1, .int 999), (0, .ref h)]) hx hb d_X3_bestUnit_10 rfl hl (by decide) rfl (fun ls hl => ?_)
  refine lv_iload_n hx hb d_X3_bestUnit_11 rfl (lv_at hl 0 rfl) ?_
  refine lv_iconst (v := 1) hx hb d_X3_bestUnit_12 (by decide) ?_
  refine lv_icmp_lt (tgt := 41) hx hb d_X3_bestUnit_13 (by decide) (fun c_1 => absurd c_1 (by decide +kernel)) (fun _ => ?_)
  refine lv_aload_n hx hb d_X3_bestUnit_16 rfl (lv_at hl 3 rfl) ?_
  refine lv_iload_n hx hb d_X3_bestUnit_17 rfl (lv_at hl 0 rfl) ?_
  refine lv_iload_n hx hb d_X3_bestUnit_18 rfl (lv_at hl 1 rfl) ?_
  refine cu_VR (wc := [(h, .inr (2, [.ref w, .ref y, .ref a, .ref u, .int 0, .int 0, .int rt, .int lw]))]) (rest := []) [.int 999, .int 53248] ⟨hx, hb, hml, hown, hg⟩ (c_X3_lackOf l D cI cZ cQ h w y a u rt lw 999 53248) hd_X3_lackOf k_566 k_563 k_565 k_17 k_45 ⟨Nat.le_of_ble_eq_true rfl, Nat.le_of_ble_eq_true rfl⟩ ⟨Nat.le_of_ble_eq_true rfl, Nat.le_of_ble_eq_true rfl⟩ hP hK [0] rfl 0 rfl rfl rfl hl.1 rfl (Nat.le_of_ble_eq_true rfl) d_X3_bestUnit_19 (fun r_2 hr_3 => ?_)
  subst hr_3
  refine lv_istore (lv' := [(4, .int 0), (3, .int 999), (2, .int 53248), (1, .int 999), (0, .ref h)]) hx hb d_X3_bestUnit_22 hl (by decide) rfl (fun ls hl => ?_)
  refine lv_iload hx hb d_X3_bestUnit_24 (lv_at hl 0 rfl) ?_
  refine lv_iload_n hx hb d_X3_bestUnit_26 rfl (lv_at hl 2 rfl) ?_
  refine lv_icmp_ge (tgt := 35) hx hb d_X3_bestUnit_27 (by decide) (fun c_4 => absurd c_4 (by decide +kernel)) (fun _ => ?_)
  refine lv_iload hx hb d_X3_bestUnit_30 (lv_at hl 0 rfl) ?_
  refine lv_istore_n (lv' := [(2, .int 0), (4, .int 0), (3, .int 999), (1, .int 999), (0, .ref h)]) hx hb d_X3_bestUnit_32 rfl hl (by decide) rfl (fun ls hl => ?_)
  refine lv_iload_n hx hb d_X3_bestUnit_33 rfl (lv_at hl 2 rfl) ?_
  refine lv_istore_n (lv' := [(1, .int 999), (2, .int 0), (4, .int 0), (3, .int 999), (0, .ref h)]) hx hb d_X3_bestUnit_34 rfl hl (by decide) rfl (fun ls hl => ?_)
  refine lv_iinc (v := 998) (lv' := [(3, .int 998), (1, .int 999), (2, .int 0), (4, .int 0), (0, .ref h)]) hx hb d_X3_bestUnit_35 hl (k := 3) rfl (by decide +kernel) (by decide) rfl (fun ls hl => ?_)
  refine lv_goto (tgt := 11) hx hb d_X3_bestUnit_38 (by decide) ?_
  have key_5 : ∀ (n_7 j_6 : Nat) (hj_9 : j_6 = n_7)  (hi_10 : j_6 ≤ 998) (ls : Array Slot) (hl : lv_has ls 5 [(3, .int (nI j_6)), (1, .int 999), (2, .int 0), (4, .int 0), (0, .ref h)]), W p l e (cu_rm 1 24 0 0) s m args below meth c s.heap [] 0 0 Q (F0 m 11 ls []) := by
    intro n_7
    induction n_7 with
    | zero =>
      intro j_6 hj_9  hi_10 ls hl
      obtain rfl : 0 = j_6 := by omega
      have hl : lv_has ls 5 [(3, .int 0), (1, .int 999), (2, .int 0), (4, .int 0), (0, .ref h)] := hl
      refine lv_iload_n hx hb d_X3_bestUnit_11 rfl (lv_at hl 0 rfl) ?_
      refine lv_iconst (v := 1) hx hb d_X3_bestUnit_12 (by decide) ?_
      refine lv_icmp_lt (tgt := 41) hx hb d_X3_bestUnit_13 (by decide) (fun _ => ?_) (fun c_11 => absurd (by decide +kernel) c_11)
      refine lv_iload_n hx hb d_X3_bestUnit_41 rfl (lv_at hl 1 rfl) ?_
      exact hret _ _ _ d_X3_bestUnit_42 (rfl) (rfl)
    | succ n_7 ih_8 =>
      intro j_6 hj_9  hi_10 ls hl
      subst hj_9
      refine lv_iload_n hx hb d_X3_bestUnit_11 rfl (lv_at hl 0 rfl) ?_
      refine lv_iconst (v := 1) hx hb d_X3_bestUnit_12 (by decide) ?_
      refine lv_icmp_lt (tgt := 41) hx hb d_X3_bestUnit_13 (by decide) (fun c_12 => absurd c_12 (mt (nI_ltI (a := (n_7 + 1)) (b := 1) (by omega) (by omega)).mp (by omega))) (fun _ => ?_)
      refine lv_aload_n hx hb d_X3_bestUnit_16 rfl (lv_at hl 4 rfl) ?_
      refine lv_iload_n hx hb d_X3_bestUnit_17 rfl (lv_at hl 0 rfl) ?_
      refine lv_iload_n hx hb d_X3_bestUnit_18 rfl (lv_at hl 2 rfl) ?_
      refine cu_VR (wc := [(h, .inr (2, [.ref w, .ref y, .ref a, .ref u, .int 0, .int 0, .int rt, .int lw]))]) (rest := []) [.int (nI (n_7 + 1)), .int 0] ⟨hx, hb, hml, hown, hg⟩ (c_X3_lackOf l D cI cZ cQ h w y a u rt lw (nI (n_7 + 1)) 0) hd_X3_lackOf k_566 k_563 k_565 k_17 k_45 ⟨Nat.le_of_ble_eq_true rfl, Nat.le_of_ble_eq_true rfl⟩ ⟨Nat.le_of_ble_eq_true rfl, Nat.le_of_ble_eq_true rfl⟩ hP hK [0] rfl 0 rfl rfl rfl hl.1 rfl (Nat.le_of_ble_eq_true rfl) d_X3_bestUnit_19 (fun r_13 hr_14 => ?_)
      subst hr_14
      refine lv_istore (lv' := [(4, .int 0), (3, .int (nI (n_7 + 1))), (1, .int 999), (2, .int 0), (0, .ref h)]) hx hb d_X3_bestUnit_22 hl (by decide) rfl (fun ls hl => ?_)
      refine lv_iload hx hb d_X3_bestUnit_24 (lv_at hl 0 rfl) ?_
      refine lv_iload_n hx hb d_X3_bestUnit_26 rfl (lv_at hl 3 rfl) ?_
      refine lv_icmp_ge (tgt := 35) hx hb d_X3_bestUnit_27 (by decide) (fun _ => ?_) (fun c_15 => absurd (by decide +kernel) c_15)
      refine lv_iinc (v := nI n_7) (lv' := [(3, .int (nI n_7)), (4, .int 0), (1, .int 999), (2, .int 0), (0, .ref h)]) hx hb d_X3_bestUnit_35 hl (k := 1) rfl (cu_dec n_7) (by decide) rfl (fun ls hl => ?_)
      refine lv_goto (tgt := 11) hx hb d_X3_bestUnit_38 (by decide) ?_
      exact ih_8 n_7 (by first | rfl | omega)  (by omega) _ (lv_sub hl [0, 2, 3, 1, 4] rfl)
  exact key_5 998 998 (by first | rfl | omega)  (Nat.le_refl _) _ (lv_sub hl [0, 1, 2, 3, 4] rfl)
