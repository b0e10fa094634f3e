theorem d_X9_in_0 : decode cX9_in 0 = .ok (.lload_n 0, 1) := by decide +kernel
theorem d_X9_in_1 : decode cX9_in 1 = .ok (.lload_n 2, 1) := by decide +kernel
theorem d_X9_in_2 : decode cX9_in 2 = .ok (.lcmp, 1) := by decide +kernel
theorem d_X9_in_3 : decode cX9_in 3 = .ok (.ifCond .lt 14, 3) := by decide +kernel
theorem d_X9_in_17 : decode cX9_in 17 = .ok (.iconst 0, 1) := by decide +kernel
theorem d_X9_in_18 : decode cX9_in 18 = .ok (.ireturn, 1) := by decide +kernel
theorem d_X9_in_6 : decode cX9_in 6 = .ok (.lload_n 0, 1) := by decide +kernel
theorem d_X9_in_7 : decode cX9_in 7 = .ok (.lload 4, 2) := by decide +kernel
theorem d_X9_in_9 : decode cX9_in 9 = .ok (.lcmp, 1) := by decide +kernel
theorem d_X9_in_10 : decode cX9_in 10 = .ok (.ifCond .gt 7, 3) := by decide +kernel
theorem d_X9_in_13 : decode cX9_in 13 = .ok (.iconst 1, 1) := by decide +kernel
theorem d_X9_in_14 : decode cX9_in 14 = .ok (.goto 4, 3) := by decide +kernel
theorem d_X9_noCoin_0 : decode cX9_noCoin 0 = .ok (.iload_n 1, 1) := by decide +kernel
theorem d_X9_noCoin_1 : decode cX9_noCoin 1 = .ok (.i2l, 1) := by decide +kernel
theorem d_X9_noCoin_2 : decode cX9_noCoin 2 = .ok (.lconst 0, 1) := by decide +kernel
theorem d_X9_noCoin_3 : decode cX9_noCoin 3 = .ok (.aload_n 0, 1) := by decide +kernel
theorem d_X9_noCoin_4 : decode cX9_noCoin 4 = .ok (.getfield 57, 3) := by decide +kernel
theorem k_687 : (.fieldLink RX9 57 "CommonUnitsModel" "coins" "I" : Cond) ∈ cu_G := cu_mem 687 (by decide +kernel) (by decide +kernel)
theorem d_X9_noCoin_7 : decode cX9_noCoin 7 = .ok (.iconst 1, 1) := by decide +kernel
theorem d_X9_noCoin_8 : decode cX9_noCoin 8 = .ok (.isub, 1) := by decide +kernel
theorem d_X9_noCoin_9 : decode cX9_noCoin 9 = .ok (.i2l, 1) := by decide +kernel
theorem d_X9_noCoin_10 : decode cX9_noCoin 10 = .ok (.invokestatic 60, 3) := by decide +kernel
theorem hd_X9_in : cu_hd yX9_in 3 := by decide +kernel
theorem k_776 : (.code yX9_in cX9_in 6 (some .boolean) : Cond) ∈ cu_G := cu_mem 776 (by decide +kernel) (by decide +kernel)
theorem k_49 : (.initialized RX9 : Cond) ∈ cu_G := cu_mem 49 (by decide +kernel) (by decide +kernel)
theorem k_774 : (.methodLink RX9 60 yX9_in : Cond) ∈ cu_G := cu_mem 774 (by decide +kernel) (by decide +kernel)
theorem k_775 : (.static yX9_in : Cond) ∈ cu_G := cu_mem 775 (by decide +kernel) (by decide +kernel)
theorem d_X9_noCoin_13 : decode cX9_noCoin 13 = .ok (.ifCond .ne 7, 3) := by decide +kernel
theorem d_X9_noCoin_16 : decode cX9_noCoin 16 = .ok (.iconst 1, 1) := by decide +kernel
theorem d_X9_noCoin_17 : decode cX9_noCoin 17 = .ok (.goto 4, 3) := by decide +kernel
theorem d_X9_noCoin_21 : decode cX9_noCoin 21 = .ok (.ireturn, 1) := by decide +kernel
theorem d_X9_noMint_0 : decode cX9_noMint 0 = .ok (.iload_n 1, 1) := by decide +kernel
theorem d_X9_noMint_1 : decode cX9_noMint 1 = .ok (.i2l, 1) := by decide +kernel
theorem d_X9_noMint_2 : decode cX9_noMint 2 = .ok (.lconst 0, 1) := by decide +kernel
theorem d_X9_noMint_3 : decode cX9_noMint 3 = .ok (.aload_n 0, 1) := by decide +kernel
theorem d_X9_noMint_4 : decode cX9_noMint 4 = .ok (.getfield 64, 3) := by decide +kernel
theorem k_688 : (.fieldLink RX9 64 "CommonUnitsModel" "mints" "I" : Cond) ∈ cu_G := cu_mem 688 (by decide +kernel) (by decide +kernel)
theorem d_X9_noMint_7 : decode cX9_noMint 7 = .ok (.iconst 1, 1) := by decide +kernel
theorem d_X9_noMint_8 : decode cX9_noMint 8 = .ok (.isub, 1) := by decide +kernel
theorem d_X9_noMint_9 : decode cX9_noMint 9 = .ok (.i2l, 1) := by decide +kernel
theorem d_X9_noMint_10 : decode cX9_noMint 10 = .ok (.invokestatic 60, 3) := by decide +kernel
theorem d_X9_noMint_13 : decode cX9_noMint 13 = .ok (.ifCond .ne 7, 3) := by decide +kernel
theorem d_X9_noMint_16 : decode cX9_noMint 16 = .ok (.iconst 1, 1) := by decide +kernel
theorem d_X9_noMint_17 : decode cX9_noMint 17 = .ok (.goto 4, 3) := by decide +kernel
theorem d_X9_noMint_21 : decode cX9_noMint 21 = .ok (.ireturn, 1) := by decide +kernel
theorem d_X9_write_0 : decode cX9_write 0 = .ok (.aload_n 0, 1) := by decide +kernel
theorem d_X9_write_1 : decode cX9_write 1 = .ok (.iconst 0, 1) := by decide +kernel
theorem d_X9_write_2 : decode cX9_write 2 = .ok (.putfield 53, 3) := by decide +kernel
theorem k_684 : (.fieldLink RX9 53 "CommonUnitsModel" "thrown" "I" : Cond) ∈ cu_G := cu_mem 684 (by decide +kernel) (by decide +kernel)
theorem d_X9_write_5 : decode cX9_write 5 = .ok (.iload_n 1, 1) := by decide +kernel
theorem d_X9_write_6 : decode cX9_write 6 = .ok (.i2l, 1) := by decide +kernel
theorem d_X9_write_7 : decode cX9_write 7 = .ok (.lconst 0, 1) := by decide +kernel
theorem d_X9_write_8 : decode cX9_write 8 = .ok (.ldc2_w 67, 3) := by decide +kernel
theorem k_773 : (.constantLong RX9 67 255 : Cond) ∈ cu_G := cu_mem 773 (by decide +kernel) (by decide +kernel)
theorem d_X9_write_11 : decode cX9_write 11 = .ok (.invokestatic 60, 3) := by decide +kernel
theorem d_X9_write_14 : decode cX9_write 14 = .ok (.ifCond .ne 6, 3) := by decide +kernel
theorem d_X9_write_17 : decode cX9_write 17 = .ok (.bipush (-2), 2) := by decide +kernel
theorem d_X9_write_19 : decode cX9_write 19 = .ok (.ireturn, 1) := by decide +kernel
theorem d_X9_write_20 : decode cX9_write 20 = .ok (.aload_n 0, 1) := by decide +kernel
theorem d_X9_write_21 : decode cX9_write 21 = .ok (.getfield 69, 3) := by decide +kernel
theorem k_686 : (.fieldLink RX9 69 "CommonUnitsModel" "textSize" "I" : Cond) ∈ cu_G := cu_mem 686 (by decide +kernel) (by decide +kernel)
theorem d_X9_write_24 : decode cX9_write 24 = .ok (.sipush 130, 3) := by decide +kernel
theorem d_X9_write_27 : decode cX9_write 27 = .ok (.if_icmp .ne 6, 3) := by decide +kernel
theorem d_X9_write_33 : decode cX9_write 33 = .ok (.aload_n 0, 1) := by decide +kernel
theorem d_X9_write_34 : decode cX9_write 34 = .ok (.getfield 7, 3) := by decide +kernel
theorem k_685 : (.fieldLink RX9 7 "CommonUnitsModel" "text" "[I" : Cond) ∈ cu_G := cu_mem 685 (by decide +kernel) (by decide +kernel)
theorem d_X9_write_37 : decode cX9_write 37 = .ok (.aload_n 0, 1) := by decide +kernel
theorem d_X9_write_38 : decode cX9_write 38 = .ok (.getfield 69, 3) := by decide +kernel
theorem d_X9_write_41 : decode cX9_write 41 = .ok (.iload_n 1, 1) := by decide +kernel
theorem d_X9_write_42 : decode cX9_write 42 = .ok (.iastore, 1) := by decide +kernel
theorem d_X9_write_43 : decode cX9_write 43 = .ok (.aload_n 0, 1) := by decide +kernel
theorem d_X9_write_44 : decode cX9_write 44 = .ok (.dup, 1) := by decide +kernel
theorem d_X9_write_45 : decode cX9_write 45 = .ok (.getfield 69, 3) := by decide +kernel
theorem d_X9_write_48 : decode cX9_write 48 = .ok (.iconst 1, 1) := by decide +kernel
theorem d_X9_write_49 : decode cX9_write 49 = .ok (.iadd, 1) := by decide +kernel
theorem d_X9_write_50 : decode cX9_write 50 = .ok (.putfield 69, 3) := by decide +kernel
theorem d_X9_write_53 : decode cX9_write 53 = .ok (.aload_n 0, 1) := by decide +kernel
theorem d_X9_write_54 : decode cX9_write 54 = .ok (.getfield 69, 3) := by decide +kernel
theorem d_X9_write_57 : decode cX9_write 57 = .ok (.ireturn, 1) := by decide +kernel
theorem d_X9_wipe_0 : decode cX9_wipe 0 = .ok (.aload_n 0, 1) := by decide +kernel
theorem d_X9_wipe_1 : decode cX9_wipe 1 = .ok (.iconst 0, 1) := by decide +kernel
theorem d_X9_wipe_2 : decode cX9_wipe 2 = .ok (.putfield 53, 3) := by decide +kernel
theorem d_X9_wipe_5 : decode cX9_wipe 5 = .ok (.aload_n 0, 1) := by decide +kernel
theorem d_X9_wipe_6 : decode cX9_wipe 6 = .ok (.getfield 69, 3) := by decide +kernel
theorem d_X9_wipe_9 : decode cX9_wipe 9 = .ok (.istore_n 1, 1) := by decide +kernel
theorem d_X9_wipe_10 : decode cX9_wipe 10 = .ok (.aload_n 0, 1) := by decide +kernel
theorem d_X9_wipe_11 : decode cX9_wipe 11 = .ok (.iconst 0, 1) := by decide +kernel
theorem d_X9_wipe_12 : decode cX9_wipe 12 = .ok (.putfield 69, 3) := by decide +kernel
theorem d_X9_wipe_15 : decode cX9_wipe 15 = .ok (.iload_n 1, 1) := by decide +kernel
theorem d_X9_wipe_16 : decode cX9_wipe 16 = .ok (.ireturn, 1) := by decide +kernel
theorem d_X9_readHoard_0 : decode cX9_readHoard 0 = .ok (.aload_n 0, 1) := by decide +kernel
theorem d_X9_readHoard_1 : decode cX9_readHoard 1 = .ok (.iconst 0, 1) := by decide +kernel
theorem d_X9_readHoard_2 : decode cX9_readHoard 2 = .ok (.putfield 72, 3) := by decide +kernel
theorem k_689 : (.fieldLink RX9 72 "CommonUnitsModel" "readCoins" "I" : Cond) ∈ cu_G := cu_mem 689 (by decide +kernel) (by decide +kernel)
theorem d_X9_readHoard_5 : decode cX9_readHoard 5 = .ok (.aload_n 0, 1) := by decide +kernel
theorem d_X9_readHoard_6 : decode cX9_readHoard 6 = .ok (.iconst 0, 1) := by decide +kernel
theorem d_X9_readHoard_7 : decode cX9_readHoard 7 = .ok (.putfield 75, 3) := by decide +kernel
theorem k_690 : (.fieldLink RX9 75 "CommonUnitsModel" "readMints" "I" : Cond) ∈ cu_G := cu_mem 690 (by decide +kernel) (by decide +kernel)
theorem d_X9_readHoard_10 : decode cX9_readHoard 10 = .ok (.iconst 0, 1) := by decide +kernel
theorem d_X9_readHoard_11 : decode cX9_readHoard 11 = .ok (.istore_n 1, 1) := by decide +kernel
theorem d_X9_readHoard_12 : decode cX9_readHoard 12 = .ok (.iload_n 1, 1) := by decide +kernel
theorem d_X9_readHoard_13 : decode cX9_readHoard 13 = .ok (.bipush 30, 2) := by decide +kernel
theorem d_X9_readHoard_15 : decode cX9_readHoard 15 = .ok (.if_icmp .ge 16, 3) := by decide +kernel
theorem d_X9_readHoard_31 : decode cX9_readHoard 31 = .ok (.aload_n 0, 1) := by decide +kernel
theorem d_X9_readHoard_32 : decode cX9_readHoard 32 = .ok (.getfield 69, 3) := by decide +kernel
theorem d_X9_readHoard_35 : decode cX9_readHoard 35 = .ok (.ifCond .eq 14, 3) := by decide +kernel
theorem d_X9_readHoard_49 : decode cX9_readHoard 49 = .ok (.iconst 0, 1) := by decide +kernel
theorem d_X9_readHoard_50 : decode cX9_readHoard 50 = .ok (.ireturn, 1) := by decide +kernel
theorem d_X9_readHoard_18 : decode cX9_readHoard 18 = .ok (.aload_n 0, 1) := by decide +kernel
theorem d_X9_readHoard_19 : decode cX9_readHoard 19 = .ok (.getfield 13, 3) := by decide +kernel
theorem k_691 : (.fieldLink RX9 13 "CommonUnitsModel" "readPage" "[I" : Cond) ∈ cu_G := cu_mem 691 (by decide +kernel) (by decide +kernel)
theorem d_X9_readHoard_22 : decode cX9_readHoard 22 = .ok (.iload_n 1, 1) := by decide +kernel
theorem d_X9_readHoard_23 : decode cX9_readHoard 23 = .ok (.iconst 0, 1) := by decide +kernel
theorem d_X9_readHoard_24 : decode cX9_readHoard 24 = .ok (.iastore, 1) := by decide +kernel
theorem d_X9_readHoard_25 : decode cX9_readHoard 25 = .ok (.iinc 1 1, 3) := by decide +kernel
theorem d_X9_readHoard_28 : decode cX9_readHoard 28 = .ok (.goto (-16), 3) := by decide +kernel
theorem d_X9_fault_0 : decode cX9_fault 0 = .ok (.aload_n 0, 1) := by decide +kernel
theorem d_X9_fault_1 : decode cX9_fault 1 = .ok (.iconst 0, 1) := by decide +kernel
theorem d_X9_fault_2 : decode cX9_fault 2 = .ok (.putfield 53, 3) := by decide +kernel
theorem d_X9_fault_5 : decode cX9_fault 5 = .ok (.aload_n 0, 1) := by decide +kernel
theorem d_X9_fault_6 : decode cX9_fault 6 = .ok (.invokevirtual 89, 3) := by decide +kernel
theorem hd_X9_readHoard : cu_hd yX9_readHoard 0 := by decide +kernel
theorem k_788 : (.code yX9_readHoard cX9_readHoard 5 (some .int) : Cond) ∈ cu_G := cu_mem 788 (by decide +kernel) (by decide +kernel)
theorem k_785 : (.methodLink RX9 89 yX9_readHoard : Cond) ∈ cu_G := cu_mem 785 (by decide +kernel) (by decide +kernel)
theorem k_787 : (.instanceMethod yX9_readHoard : Cond) ∈ cu_G := cu_mem 787 (by decide +kernel) (by decide +kernel)
theorem k_20 : (.selects RX9 yX9_readHoard yX9_readHoard : Cond) ∈ cu_G := cu_mem 20 (by decide +kernel) (by decide +kernel)
theorem d_X9_fault_9 : decode cX9_fault 9 = .ok (.ireturn, 1) := by decide +kernel
theorem d_X9_hoard_0 : decode cX9_hoard 0 = .ok (.aload_n 0, 1) := by decide +kernel
theorem d_X9_hoard_1 : decode cX9_hoard 1 = .ok (.iconst 0, 1) := by decide +kernel
theorem d_X9_hoard_2 : decode cX9_hoard 2 = .ok (.putfield 53, 3) := by decide +kernel
theorem d_X9_hoard_5 : decode cX9_hoard 5 = .ok (.aload_n 0, 1) := by decide +kernel
theorem d_X9_hoard_6 : decode cX9_hoard 6 = .ok (.invokevirtual 89, 3) := by decide +kernel
theorem d_X9_hoard_9 : decode cX9_hoard 9 = .ok (.bipush (-9), 2) := by decide +kernel
theorem d_X9_hoard_11 : decode cX9_hoard 11 = .ok (.if_icmp .eq 6, 3) := by decide +kernel
theorem d_X9_hoard_14 : decode cX9_hoard 14 = .ok (.bipush (-3), 2) := by decide +kernel
theorem d_X9_hoard_16 : decode cX9_hoard 16 = .ok (.ireturn, 1) := by decide +kernel
theorem d_X9_coin_0 : decode cX9_coin 0 = .ok (.aload_n 0, 1) := by decide +kernel
theorem d_X9_coin_1 : decode cX9_coin 1 = .ok (.iconst 0, 1) := by decide +kernel
theorem d_X9_coin_2 : decode cX9_coin 2 = .ok (.putfield 53, 3) := by decide +kernel
theorem d_X9_coin_5 : decode cX9_coin 5 = .ok (.aload_n 0, 1) := by decide +kernel
theorem d_X9_coin_6 : decode cX9_coin 6 = .ok (.iload_n 1, 1) := by decide +kernel
theorem d_X9_coin_7 : decode cX9_coin 7 = .ok (.invokevirtual 118, 3) := by decide +kernel
theorem hd_X9_noCoin : cu_hd yX9_noCoin 1 := by decide +kernel
theorem k_815 : (.code yX9_noCoin cX9_noCoin 2 (some .boolean) : Cond) ∈ cu_G := cu_mem 815 (by decide +kernel) (by decide +kernel)
theorem k_812 : (.methodLink RX9 118 yX9_noCoin : Cond) ∈ cu_G := cu_mem 812 (by decide +kernel) (by decide +kernel)
theorem k_814 : (.instanceMethod yX9_noCoin : Cond) ∈ cu_G := cu_mem 814 (by decide +kernel) (by decide +kernel)
theorem k_24 : (.selects RX9 yX9_noCoin yX9_noCoin : Cond) ∈ cu_G := cu_mem 24 (by decide +kernel) (by decide +kernel)
theorem d_X9_coin_10 : decode cX9_coin 10 = .ok (.ifCond .eq 5, 3) := by decide +kernel
theorem d_X9_coin_13 : decode cX9_coin 13 = .ok (.iconst (-1), 1) := by decide +kernel
theorem d_X9_coin_14 : decode cX9_coin 14 = .ok (.ireturn, 1) := by decide +kernel
theorem d_X9_mint_0 : decode cX9_mint 0 = .ok (.aload_n 0, 1) := by decide +kernel
theorem d_X9_mint_1 : decode cX9_mint 1 = .ok (.iconst 0, 1) := by decide +kernel
theorem d_X9_mint_2 : decode cX9_mint 2 = .ok (.putfield 53, 3) := by decide +kernel
theorem d_X9_mint_5 : decode cX9_mint 5 = .ok (.aload_n 0, 1) := by decide +kernel
theorem d_X9_mint_6 : decode cX9_mint 6 = .ok (.iload_n 1, 1) := by decide +kernel
theorem d_X9_mint_7 : decode cX9_mint 7 = .ok (.invokevirtual 128, 3) := by decide +kernel
theorem hd_X9_noMint : cu_hd yX9_noMint 1 := by decide +kernel
theorem k_844 : (.code yX9_noMint cX9_noMint 2 (some .boolean) : Cond) ∈ cu_G := cu_mem 844 (by decide +kernel) (by decide +kernel)
theorem k_841 : (.methodLink RX9 128 yX9_noMint : Cond) ∈ cu_G := cu_mem 841 (by decide +kernel) (by decide +kernel)
theorem k_843 : (.instanceMethod yX9_noMint : Cond) ∈ cu_G := cu_mem 843 (by decide +kernel) (by decide +kernel)
theorem k_28 : (.selects RX9 yX9_noMint yX9_noMint : Cond) ∈ cu_G := cu_mem 28 (by decide +kernel) (by decide +kernel)
theorem d_X9_mint_10 : decode cX9_mint 10 = .ok (.ifCond .eq 5, 3) := by decide +kernel
theorem d_X9_mint_13 : decode cX9_mint 13 = .ok (.iconst (-1), 1) := by decide +kernel
theorem d_X9_mint_14 : decode cX9_mint 14 = .ok (.ireturn, 1) := by decide +kernel
theorem d_X9_clean_0 : decode cX9_clean 0 = .ok (.aload_n 0, 1) := by decide +kernel
theorem d_X9_clean_1 : decode cX9_clean 1 = .ok (.iconst 0, 1) := by decide +kernel
theorem d_X9_clean_2 : decode cX9_clean 2 = .ok (.putfield 53, 3) := by decide +kernel
theorem d_X9_clean_5 : decode cX9_clean 5 = .ok (.aload_n 0, 1) := by decide +kernel
theorem d_X9_clean_6 : decode cX9_clean 6 = .ok (.iload_n 1, 1) := by decide +kernel
theorem d_X9_clean_7 : decode cX9_clean 7 = .ok (.invokevirtual 118, 3) := by decide +kernel
theorem d_X9_clean_10 : decode cX9_clean 10 = .ok (.ifCond .eq 5, 3) := by decide +kernel
theorem d_X9_clean_13 : decode cX9_clean 13 = .ok (.iconst (-1), 1) := by decide +kernel
theorem d_X9_clean_14 : decode cX9_clean 14 = .ok (.ireturn, 1) := by decide +kernel
theorem d_X9_date_0 : decode cX9_date 0 = .ok (.aload_n 0, 1) := by decide +kernel
theorem d_X9_date_1 : decode cX9_date 1 = .ok (.iconst 0, 1) := by decide +kernel
theorem d_X9_date_2 : decode cX9_date 2 = .ok (.putfield 53, 3) := by decide +kernel
theorem d_X9_date_5 : decode cX9_date 5 = .ok (.aload_n 0, 1) := by decide +kernel
theorem d_X9_date_6 : decode cX9_date 6 = .ok (.iload_n 1, 1) := by decide +kernel
theorem d_X9_date_7 : decode cX9_date 7 = .ok (.invokevirtual 118, 3) := by decide +kernel
theorem d_X9_date_10 : decode cX9_date 10 = .ok (.ifCond .eq 5, 3) := by decide +kernel
theorem d_X9_date_13 : decode cX9_date 13 = .ok (.iconst (-1), 1) := by decide +kernel
theorem d_X9_date_14 : decode cX9_date 14 = .ok (.ireturn, 1) := by decide +kernel
theorem d_X9_strike_0 : decode cX9_strike 0 = .ok (.aload_n 0, 1) := by decide +kernel
theorem d_X9_strike_1 : decode cX9_strike 1 = .ok (.iconst 0, 1) := by decide +kernel
theorem d_X9_strike_2 : decode cX9_strike 2 = .ok (.putfield 53, 3) := by decide +kernel
theorem d_X9_strike_5 : decode cX9_strike 5 = .ok (.aload_n 0, 1) := by decide +kernel
theorem d_X9_strike_6 : decode cX9_strike 6 = .ok (.iload_n 1, 1) := by decide +kernel
theorem d_X9_strike_7 : decode cX9_strike 7 = .ok (.invokevirtual 128, 3) := by decide +kernel
theorem d_X9_strike_10 : decode cX9_strike 10 = .ok (.ifCond .eq 5, 3) := by decide +kernel
theorem d_X9_strike_13 : decode cX9_strike 13 = .ok (.iconst (-1), 1) := by decide +kernel
theorem d_X9_strike_14 : decode cX9_strike 14 = .ok (.ireturn, 1) := by decide +kernel
theorem d_X9_chain_0 : decode cX9_chain 0 = .ok (.aload_n 0, 1) := by decide +kernel
theorem d_X9_chain_1 : decode cX9_chain 1 = .ok (.iconst 0, 1) := by decide +kernel
theorem d_X9_chain_2 : decode cX9_chain 2 = .ok (.putfield 53, 3) := by decide +kernel
theorem d_X9_chain_5 : decode cX9_chain 5 = .ok (.aload_n 0, 1) := by decide +kernel
theorem d_X9_chain_6 : decode cX9_chain 6 = .ok (.iload_n 1, 1) := by decide +kernel
theorem d_X9_chain_7 : decode cX9_chain 7 = .ok (.invokevirtual 118, 3) := by decide +kernel
theorem d_X9_chain_10 : decode cX9_chain 10 = .ok (.ifCond .eq 5, 3) := by decide +kernel
theorem d_X9_chain_13 : decode cX9_chain 13 = .ok (.iconst (-1), 1) := by decide +kernel
theorem d_X9_chain_14 : decode cX9_chain 14 = .ok (.ireturn, 1) := by decide +kernel
theorem d_X9_see_0 : decode cX9_see 0 = .ok (.aload_n 0, 1) := by decide +kernel
theorem d_X9_see_1 : decode cX9_see 1 = .ok (.iconst 0, 1) := by decide +kernel
theorem d_X9_see_2 : decode cX9_see 2 = .ok (.putfield 53, 3) := by decide +kernel
theorem d_X9_see_5 : decode cX9_see 5 = .ok (.aload_n 0, 1) := by decide +kernel
theorem d_X9_see_6 : decode cX9_see 6 = .ok (.iload_n 1, 1) := by decide +kernel
theorem d_X9_see_7 : decode cX9_see 7 = .ok (.invokevirtual 118, 3) := by decide +kernel
theorem d_X9_see_10 : decode cX9_see 10 = .ok (.ifCond .eq 5, 3) := by decide +kernel
theorem d_X9_see_13 : decode cX9_see 13 = .ok (.iconst (-1), 1) := by decide +kernel
theorem d_X9_see_14 : decode cX9_see 14 = .ok (.ireturn, 1) := by decide +kernel
theorem d_X9_share_0 : decode cX9_share 0 = .ok (.aload_n 0, 1) := by decide +kernel
theorem d_X9_share_1 : decode cX9_share 1 = .ok (.iconst 0, 1) := by decide +kernel
theorem d_X9_share_2 : decode cX9_share 2 = .ok (.putfield 53, 3) := by decide +kernel
theorem d_X9_share_5 : decode cX9_share 5 = .ok (.aload_n 0, 1) := by decide +kernel
theorem d_X9_share_6 : decode cX9_share 6 = .ok (.iload_n 1, 1) := by decide +kernel
theorem d_X9_share_7 : decode cX9_share 7 = .ok (.invokevirtual 118, 3) := by decide +kernel
theorem d_X9_share_10 : decode cX9_share 10 = .ok (.ifCond .eq 5, 3) := by decide +kernel
theorem d_X9_share_13 : decode cX9_share 13 = .ok (.iconst (-1), 1) := by decide +kernel
theorem d_X9_share_14 : decode cX9_share 14 = .ok (.ireturn, 1) := by decide +kernel
theorem d_X9_aside_0 : decode cX9_aside 0 = .ok (.aload_n 0, 1) := by decide +kernel
theorem d_X9_aside_1 : decode cX9_aside 1 = .ok (.iconst 0, 1) := by decide +kernel
theorem d_X9_aside_2 : decode cX9_aside 2 = .ok (.putfield 53, 3) := by decide +kernel
theorem d_X9_aside_5 : decode cX9_aside 5 = .ok (.aload_n 0, 1) := by decide +kernel
theorem d_X9_aside_6 : decode cX9_aside 6 = .ok (.iload_n 1, 1) := by decide +kernel
theorem d_X9_aside_7 : decode cX9_aside 7 = .ok (.invokevirtual 118, 3) := by decide +kernel
theorem d_X9_aside_10 : decode cX9_aside 10 = .ok (.ifCond .eq 5, 3) := by decide +kernel
theorem d_X9_aside_13 : decode cX9_aside 13 = .ok (.iconst (-1), 1) := by decide +kernel
theorem d_X9_aside_14 : decode cX9_aside 14 = .ok (.ireturn, 1) := by decide +kernel
theorem d_X9_fits_0 : decode cX9_fits 0 = .ok (.aload_n 0, 1) := by decide +kernel
theorem d_X9_fits_1 : decode cX9_fits 1 = .ok (.iconst 0, 1) := by decide +kernel
theorem d_X9_fits_2 : decode cX9_fits 2 = .ok (.putfield 53, 3) := by decide +kernel
theorem d_X9_fits_5 : decode cX9_fits 5 = .ok (.aload_n 0, 1) := by decide +kernel
theorem d_X9_fits_6 : decode cX9_fits 6 = .ok (.iload_n 1, 1) := by decide +kernel
theorem d_X9_fits_7 : decode cX9_fits 7 = .ok (.invokevirtual 118, 3) := by decide +kernel
theorem d_X9_fits_10 : decode cX9_fits 10 = .ok (.ifCond .eq 5, 3) := by decide +kernel
theorem d_X9_fits_13 : decode cX9_fits 13 = .ok (.iconst (-1), 1) := by decide +kernel
theorem d_X9_fits_14 : decode cX9_fits 14 = .ok (.ireturn, 1) := by decide +kernel
theorem d_X9_note_0 : decode cX9_note 0 = .ok (.aload_n 0, 1) := by decide +kernel
theorem d_X9_note_1 : decode cX9_note 1 = .ok (.getfield 97, 3) := by decide +kernel
theorem k_695 : (.fieldLink RX9 97 "CommonUnitsModel" "doings" "I" : Cond) ∈ cu_G := cu_mem 695 (by decide +kernel) (by decide +kernel)
theorem d_X9_note_4 : decode cX9_note 4 = .ok (.bipush 14, 2) := by decide +kernel
theorem d_X9_note_6 : decode cX9_note 6 = .ok (.if_icmp .ne 43, 3) := by decide +kernel
theorem d_X9_note_49 : decode cX9_note 49 = .ok (.iconst 0, 1) := by decide +kernel
theorem d_X9_note_50 : decode cX9_note 50 = .ok (.istore_n 1, 1) := by decide +kernel
theorem d_X9_note_51 : decode cX9_note 51 = .ok (.iload_n 1, 1) := by decide +kernel
theorem d_X9_note_52 : decode cX9_note 52 = .ok (.bipush 30, 2) := by decide +kernel
theorem d_X9_note_54 : decode cX9_note 54 = .ok (.if_icmp .ge 29, 3) := by decide +kernel
theorem d_X9_note_83 : decode cX9_note 83 = .ok (.aload_n 0, 1) := by decide +kernel
theorem d_X9_note_84 : decode cX9_note 84 = .ok (.dup, 1) := by decide +kernel
theorem d_X9_note_85 : decode cX9_note 85 = .ok (.getfield 97, 3) := by decide +kernel
theorem d_X9_note_88 : decode cX9_note 88 = .ok (.iconst 1, 1) := by decide +kernel
theorem d_X9_note_89 : decode cX9_note 89 = .ok (.iadd, 1) := by decide +kernel
theorem d_X9_note_90 : decode cX9_note 90 = .ok (.putfield 97, 3) := by decide +kernel
theorem d_X9_note_93 : decode cX9_note 93 = .ok (.return_, 1) := by decide +kernel
theorem d_X9_note_57 : decode cX9_note 57 = .ok (.aload_n 0, 1) := by decide +kernel
theorem d_X9_note_58 : decode cX9_note 58 = .ok (.getfield 22, 3) := by decide +kernel
theorem k_694 : (.fieldLink RX9 22 "CommonUnitsModel" "book" "[I" : Cond) ∈ cu_G := cu_mem 694 (by decide +kernel) (by decide +kernel)
theorem d_X9_note_61 : decode cX9_note 61 = .ok (.bipush 30, 2) := by decide +kernel
theorem d_X9_note_63 : decode cX9_note 63 = .ok (.aload_n 0, 1) := by decide +kernel
theorem d_X9_note_64 : decode cX9_note 64 = .ok (.getfield 97, 3) := by decide +kernel
theorem d_X9_note_67 : decode cX9_note 67 = .ok (.imul, 1) := by decide +kernel
theorem d_X9_note_68 : decode cX9_note 68 = .ok (.iload_n 1, 1) := by decide +kernel
theorem d_X9_note_69 : decode cX9_note 69 = .ok (.iadd, 1) := by decide +kernel
theorem d_X9_note_70 : decode cX9_note 70 = .ok (.aload_n 0, 1) := by decide +kernel
theorem d_X9_note_71 : decode cX9_note 71 = .ok (.getfield 16, 3) := by decide +kernel
theorem k_692 : (.fieldLink RX9 16 "CommonUnitsModel" "page" "[I" : Cond) ∈ cu_G := cu_mem 692 (by decide +kernel) (by decide +kernel)
theorem d_X9_note_74 : decode cX9_note 74 = .ok (.iload_n 1, 1) := by decide +kernel
theorem d_X9_note_75 : decode cX9_note 75 = .ok (.iaload, 1) := by decide +kernel
theorem d_X9_note_76 : decode cX9_note 76 = .ok (.iastore, 1) := by decide +kernel
theorem d_X9_note_77 : decode cX9_note 77 = .ok (.iinc 1 1, 3) := by decide +kernel
theorem d_X9_note_80 : decode cX9_note 80 = .ok (.goto (-29), 3) := by decide +kernel
theorem d_X9_change_0 : decode cX9_change 0 = .ok (.aload_n 0, 1) := by decide +kernel
theorem d_X9_change_1 : decode cX9_change 1 = .ok (.invokevirtual 140, 3) := by decide +kernel
theorem hd_X9_note : cu_hd yX9_note 0 := by decide +kernel
theorem k_864 : (.code yX9_note cX9_note 2 none : Cond) ∈ cu_G := cu_mem 864 (by decide +kernel) (by decide +kernel)
theorem k_861 : (.methodLink RX9 140 yX9_note : Cond) ∈ cu_G := cu_mem 861 (by decide +kernel) (by decide +kernel)
theorem k_863 : (.instanceMethod yX9_note : Cond) ∈ cu_G := cu_mem 863 (by decide +kernel) (by decide +kernel)
theorem k_30 : (.selects RX9 yX9_note yX9_note : Cond) ∈ cu_G := cu_mem 30 (by decide +kernel) (by decide +kernel)
theorem d_X9_change_4 : decode cX9_change 4 = .ok (.aload_n 0, 1) := by decide +kernel
theorem d_X9_change_5 : decode cX9_change 5 = .ok (.getfield 16, 3) := by decide +kernel
theorem d_X9_change_8 : decode cX9_change 8 = .ok (.iload_n 1, 1) := by decide +kernel
theorem d_X9_change_9 : decode cX9_change 9 = .ok (.iaload, 1) := by decide +kernel
theorem d_X9_change_10 : decode cX9_change 10 = .ok (.istore_n 3, 1) := by decide +kernel
theorem d_X9_change_11 : decode cX9_change 11 = .ok (.aload_n 0, 1) := by decide +kernel
theorem d_X9_change_12 : decode cX9_change 12 = .ok (.getfield 16, 3) := by decide +kernel
theorem d_X9_change_15 : decode cX9_change 15 = .ok (.iload_n 1, 1) := by decide +kernel
theorem d_X9_change_16 : decode cX9_change 16 = .ok (.iload_n 2, 1) := by decide +kernel
theorem d_X9_change_17 : decode cX9_change 17 = .ok (.iastore, 1) := by decide +kernel
theorem d_X9_change_18 : decode cX9_change 18 = .ok (.iload_n 3, 1) := by decide +kernel
theorem d_X9_change_19 : decode cX9_change 19 = .ok (.ireturn, 1) := by decide +kernel
theorem d_X9_setRate_0 : decode cX9_setRate 0 = .ok (.aload_n 0, 1) := by decide +kernel
theorem d_X9_setRate_1 : decode cX9_setRate 1 = .ok (.iconst 0, 1) := by decide +kernel
theorem d_X9_setRate_2 : decode cX9_setRate 2 = .ok (.putfield 53, 3) := by decide +kernel
theorem d_X9_setRate_5 : decode cX9_setRate 5 = .ok (.iload_n 1, 1) := by decide +kernel
theorem d_X9_setRate_6 : decode cX9_setRate 6 = .ok (.i2l, 1) := by decide +kernel
theorem d_X9_setRate_7 : decode cX9_setRate 7 = .ok (.lconst 0, 1) := by decide +kernel
theorem d_X9_setRate_8 : decode cX9_setRate 8 = .ok (.ldc2_w 149, 3) := by decide +kernel
theorem k_869 : (.constantLong RX9 149 9 : Cond) ∈ cu_G := cu_mem 869 (by decide +kernel) (by decide +kernel)
theorem d_X9_setRate_11 : decode cX9_setRate 11 = .ok (.invokestatic 60, 3) := by decide +kernel
theorem d_X9_setRate_14 : decode cX9_setRate 14 = .ok (.ifCond .eq 13, 3) := by decide +kernel
theorem d_X9_setRate_27 : decode cX9_setRate 27 = .ok (.bipush (-2), 2) := by decide +kernel
theorem d_X9_setRate_29 : decode cX9_setRate 29 = .ok (.ireturn, 1) := by decide +kernel
theorem d_X9_setRate_17 : decode cX9_setRate 17 = .ok (.aload_n 0, 1) := by decide +kernel
theorem d_X9_setRate_18 : decode cX9_setRate 18 = .ok (.bipush 28, 2) := by decide +kernel
theorem d_X9_setRate_20 : decode cX9_setRate 20 = .ok (.iload_n 1, 1) := by decide +kernel
theorem d_X9_setRate_21 : decode cX9_setRate 21 = .ok (.invokevirtual 145, 3) := by decide +kernel
theorem hd_X9_change : cu_hd yX9_change 2 := by decide +kernel
theorem k_860 : (.code yX9_change cX9_change 4 (some .int) : Cond) ∈ cu_G := cu_mem 860 (by decide +kernel) (by decide +kernel)
theorem k_857 : (.methodLink RX9 145 yX9_change : Cond) ∈ cu_G := cu_mem 857 (by decide +kernel) (by decide +kernel)
theorem k_859 : (.instanceMethod yX9_change : Cond) ∈ cu_G := cu_mem 859 (by decide +kernel) (by decide +kernel)
theorem k_29 : (.selects RX9 yX9_change yX9_change : Cond) ∈ cu_G := cu_mem 29 (by decide +kernel) (by decide +kernel)
theorem d_X9_setRate_24 : decode cX9_setRate 24 = .ok (.goto 5, 3) := by decide +kernel
theorem d_X9_setLaw_0 : decode cX9_setLaw 0 = .ok (.aload_n 0, 1) := by decide +kernel
theorem d_X9_setLaw_1 : decode cX9_setLaw 1 = .ok (.iconst 0, 1) := by decide +kernel
theorem d_X9_setLaw_2 : decode cX9_setLaw 2 = .ok (.putfield 53, 3) := by decide +kernel
theorem d_X9_setLaw_5 : decode cX9_setLaw 5 = .ok (.iload_n 1, 1) := by decide +kernel
theorem d_X9_setLaw_6 : decode cX9_setLaw 6 = .ok (.i2l, 1) := by decide +kernel
theorem d_X9_setLaw_7 : decode cX9_setLaw 7 = .ok (.lconst 0, 1) := by decide +kernel
theorem d_X9_setLaw_8 : decode cX9_setLaw 8 = .ok (.ldc2_w 151, 3) := by decide +kernel
theorem k_886 : (.constantLong RX9 151 2 : Cond) ∈ cu_G := cu_mem 886 (by decide +kernel) (by decide +kernel)
theorem d_X9_setLaw_11 : decode cX9_setLaw 11 = .ok (.invokestatic 60, 3) := by decide +kernel
theorem d_X9_setLaw_14 : decode cX9_setLaw 14 = .ok (.ifCond .eq 13, 3) := by decide +kernel
theorem d_X9_setLaw_27 : decode cX9_setLaw 27 = .ok (.bipush (-2), 2) := by decide +kernel
theorem d_X9_setLaw_29 : decode cX9_setLaw 29 = .ok (.ireturn, 1) := by decide +kernel
theorem d_X9_setLaw_17 : decode cX9_setLaw 17 = .ok (.aload_n 0, 1) := by decide +kernel
theorem d_X9_setLaw_18 : decode cX9_setLaw 18 = .ok (.bipush 29, 2) := by decide +kernel
theorem d_X9_setLaw_20 : decode cX9_setLaw 20 = .ok (.iload_n 1, 1) := by decide +kernel
theorem d_X9_setLaw_21 : decode cX9_setLaw 21 = .ok (.invokevirtual 145, 3) := by decide +kernel
theorem d_X9_setLaw_24 : decode cX9_setLaw 24 = .ok (.goto 5, 3) := by decide +kernel
theorem d_X9_undo_0 : decode cX9_undo 0 = .ok (.aload_n 0, 1) := by decide +kernel
theorem d_X9_undo_1 : decode cX9_undo 1 = .ok (.iconst 0, 1) := by decide +kernel
theorem d_X9_undo_2 : decode cX9_undo 2 = .ok (.putfield 53, 3) := by decide +kernel
theorem d_X9_undo_5 : decode cX9_undo 5 = .ok (.aload_n 0, 1) := by decide +kernel
theorem d_X9_undo_6 : decode cX9_undo 6 = .ok (.getfield 97, 3) := by decide +kernel
theorem d_X9_undo_9 : decode cX9_undo 9 = .ok (.ifCond .ne 6, 3) := by decide +kernel
theorem d_X9_undo_12 : decode cX9_undo 12 = .ok (.bipush (-3), 2) := by decide +kernel
theorem d_X9_undo_14 : decode cX9_undo 14 = .ok (.ireturn, 1) := by decide +kernel
theorem d_X9_unsee_0 : decode cX9_unsee 0 = .ok (.aload_n 0, 1) := by decide +kernel
theorem d_X9_unsee_1 : decode cX9_unsee 1 = .ok (.iconst 0, 1) := by decide +kernel
theorem d_X9_unsee_2 : decode cX9_unsee 2 = .ok (.putfield 53, 3) := by decide +kernel
theorem d_X9_unsee_5 : decode cX9_unsee 5 = .ok (.aload_n 0, 1) := by decide +kernel
theorem d_X9_unsee_6 : decode cX9_unsee 6 = .ok (.getfield 207, 3) := by decide +kernel
theorem k_698 : (.fieldLink RX9 207 "CommonUnitsModel" "seen" "I" : Cond) ∈ cu_G := cu_mem 698 (by decide +kernel) (by decide +kernel)
theorem d_X9_unsee_9 : decode cX9_unsee 9 = .ok (.istore_n 1, 1) := by decide +kernel
theorem d_X9_unsee_10 : decode cX9_unsee 10 = .ok (.aload_n 0, 1) := by decide +kernel
theorem d_X9_unsee_11 : decode cX9_unsee 11 = .ok (.iconst 0, 1) := by decide +kernel
theorem d_X9_unsee_12 : decode cX9_unsee 12 = .ok (.putfield 207, 3) := by decide +kernel
theorem d_X9_unsee_15 : decode cX9_unsee 15 = .ok (.iload_n 1, 1) := by decide +kernel
theorem d_X9_unsee_16 : decode cX9_unsee 16 = .ok (.ireturn, 1) := by decide +kernel
theorem d_X9_seed_0 : decode cX9_seed 0 = .ok (.aload_n 0, 1) := by decide +kernel
theorem d_X9_seed_1 : decode cX9_seed 1 = .ok (.iconst 0, 1) := by decide +kernel
theorem d_X9_seed_2 : decode cX9_seed 2 = .ok (.putfield 53, 3) := by decide +kernel
theorem d_X9_seed_5 : decode cX9_seed 5 = .ok (.aload_n 0, 1) := by decide +kernel
theorem d_X9_seed_6 : decode cX9_seed 6 = .ok (.getfield 231, 3) := by decide +kernel
theorem k_701 : (.fieldLink RX9 231 "CommonUnitsModel" "seed" "J" : Cond) ∈ cu_G := cu_mem 701 (by decide +kernel) (by decide +kernel)
theorem d_X9_seed_9 : decode cX9_seed 9 = .ok (.lstore_n 3, 1) := by decide +kernel
theorem d_X9_seed_10 : decode cX9_seed 10 = .ok (.aload_n 0, 1) := by decide +kernel
theorem d_X9_seed_11 : decode cX9_seed 11 = .ok (.lload_n 1, 1) := by decide +kernel
theorem d_X9_seed_12 : decode cX9_seed 12 = .ok (.putfield 231, 3) := by decide +kernel
theorem d_X9_seed_15 : decode cX9_seed 15 = .ok (.lload_n 3, 1) := by decide +kernel
theorem d_X9_seed_16 : decode cX9_seed 16 = .ok (.lreturn, 1) := by decide +kernel
theorem d_X9_falseOnes_0 : decode cX9_falseOnes 0 = .ok (.iconst 0, 1) := by decide +kernel
theorem d_X9_falseOnes_1 : decode cX9_falseOnes 1 = .ok (.istore_n 1, 1) := by decide +kernel
theorem d_X9_falseOnes_2 : decode cX9_falseOnes 2 = .ok (.iconst 0, 1) := by decide +kernel
theorem d_X9_falseOnes_3 : decode cX9_falseOnes 3 = .ok (.istore_n 2, 1) := by decide +kernel
theorem d_X9_falseOnes_4 : decode cX9_falseOnes 4 = .ok (.iload_n 2, 1) := by decide +kernel
theorem d_X9_falseOnes_5 : decode cX9_falseOnes 5 = .ok (.aload_n 0, 1) := by decide +kernel
theorem d_X9_falseOnes_6 : decode cX9_falseOnes 6 = .ok (.getfield 57, 3) := by decide +kernel
theorem d_X9_falseOnes_9 : decode cX9_falseOnes 9 = .ok (.if_icmp .ge 47, 3) := by decide +kernel
theorem d_X9_falseOnes_56 : decode cX9_falseOnes 56 = .ok (.iload_n 1, 1) := by decide +kernel
theorem d_X9_falseOnes_57 : decode cX9_falseOnes 57 = .ok (.ireturn, 1) := by decide +kernel
theorem d_X9_count_0 : decode cX9_count 0 = .ok (.aload_n 0, 1) := by decide +kernel
theorem d_X9_count_1 : decode cX9_count 1 = .ok (.iconst 0, 1) := by decide +kernel
theorem d_X9_count_2 : decode cX9_count 2 = .ok (.putfield 53, 3) := by decide +kernel
theorem d_X9_count_5 : decode cX9_count 5 = .ok (.iload_n 1, 1) := by decide +kernel
theorem d_X9_count_6 : decode cX9_count 6 = .ok (.tableswitch 104 0 8 #[50, 55, 60, 65, 73, 81, 89, 94, 99], 50) := by decide +kernel
theorem d_X9_count_56 : decode cX9_count 56 = .ok (.aload_n 0, 1) := by decide +kernel
theorem d_X9_count_57 : decode cX9_count 57 = .ok (.getfield 69, 3) := by decide +kernel
theorem d_X9_count_60 : decode cX9_count 60 = .ok (.ireturn, 1) := by decide +kernel
theorem d_X9_count_61 : decode cX9_count 61 = .ok (.aload_n 0, 1) := by decide +kernel
theorem d_X9_count_62 : decode cX9_count 62 = .ok (.getfield 57, 3) := by decide +kernel
theorem d_X9_count_65 : decode cX9_count 65 = .ok (.ireturn, 1) := by decide +kernel
theorem d_X9_count_66 : decode cX9_count 66 = .ok (.aload_n 0, 1) := by decide +kernel
theorem d_X9_count_67 : decode cX9_count 67 = .ok (.getfield 64, 3) := by decide +kernel
theorem d_X9_count_70 : decode cX9_count 70 = .ok (.ireturn, 1) := by decide +kernel
theorem d_X9_count_71 : decode cX9_count 71 = .ok (.aload_n 0, 1) := by decide +kernel
theorem d_X9_count_72 : decode cX9_count 72 = .ok (.getfield 16, 3) := by decide +kernel
theorem d_X9_count_75 : decode cX9_count 75 = .ok (.bipush 28, 2) := by decide +kernel
theorem d_X9_count_77 : decode cX9_count 77 = .ok (.iaload, 1) := by decide +kernel
theorem d_X9_count_78 : decode cX9_count 78 = .ok (.ireturn, 1) := by decide +kernel
theorem d_X9_count_79 : decode cX9_count 79 = .ok (.aload_n 0, 1) := by decide +kernel
theorem d_X9_count_80 : decode cX9_count 80 = .ok (.getfield 16, 3) := by decide +kernel
theorem d_X9_count_83 : decode cX9_count 83 = .ok (.bipush 29, 2) := by decide +kernel
theorem d_X9_count_85 : decode cX9_count 85 = .ok (.iaload, 1) := by decide +kernel
theorem d_X9_count_86 : decode cX9_count 86 = .ok (.ireturn, 1) := by decide +kernel
theorem d_X9_count_87 : decode cX9_count 87 = .ok (.aload_n 0, 1) := by decide +kernel
theorem d_X9_count_88 : decode cX9_count 88 = .ok (.getfield 16, 3) := by decide +kernel
theorem d_X9_count_91 : decode cX9_count 91 = .ok (.bipush 24, 2) := by decide +kernel
theorem d_X9_count_93 : decode cX9_count 93 = .ok (.iaload, 1) := by decide +kernel
theorem d_X9_count_94 : decode cX9_count 94 = .ok (.ireturn, 1) := by decide +kernel
theorem d_X9_count_95 : decode cX9_count 95 = .ok (.aload_n 0, 1) := by decide +kernel
theorem d_X9_count_96 : decode cX9_count 96 = .ok (.invokevirtual 241, 3) := by decide +kernel
theorem hd_X9_falseOnes : cu_hd yX9_falseOnes 0 := by decide +kernel
theorem k_1027 : (.code yX9_falseOnes cX9_falseOnes 3 (some .int) : Cond) ∈ cu_G := cu_mem 1027 (by decide +kernel) (by decide +kernel)
theorem k_1024 : (.methodLink RX9 241 yX9_falseOnes : Cond) ∈ cu_G := cu_mem 1024 (by decide +kernel) (by decide +kernel)
theorem k_1026 : (.instanceMethod yX9_falseOnes : Cond) ∈ cu_G := cu_mem 1026 (by decide +kernel) (by decide +kernel)
theorem k_41 : (.selects RX9 yX9_falseOnes yX9_falseOnes : Cond) ∈ cu_G := cu_mem 41 (by decide +kernel) (by decide +kernel)
theorem d_X9_count_99 : decode cX9_count 99 = .ok (.ireturn, 1) := by decide +kernel
theorem d_X9_count_100 : decode cX9_count 100 = .ok (.aload_n 0, 1) := by decide +kernel
theorem d_X9_count_101 : decode cX9_count 101 = .ok (.getfield 97, 3) := by decide +kernel
theorem d_X9_count_104 : decode cX9_count 104 = .ok (.ireturn, 1) := by decide +kernel
theorem d_X9_count_105 : decode cX9_count 105 = .ok (.aload_n 0, 1) := by decide +kernel
theorem d_X9_count_106 : decode cX9_count 106 = .ok (.getfield 207, 3) := by decide +kernel
theorem d_X9_count_109 : decode cX9_count 109 = .ok (.ireturn, 1) := by decide +kernel
theorem d_X9_count_110 : decode cX9_count 110 = .ok (.bipush (-2), 2) := by decide +kernel
theorem d_X9_count_112 : decode cX9_count 112 = .ok (.ireturn, 1) := by decide +kernel
theorem d_X9_again_0 : decode cX9_again 0 = .ok (.aload_n 0, 1) := by decide +kernel
theorem d_X9_again_1 : decode cX9_again 1 = .ok (.iconst 0, 1) := by decide +kernel
theorem d_X9_again_2 : decode cX9_again 2 = .ok (.putfield 53, 3) := by decide +kernel
theorem d_X9_again_5 : decode cX9_again 5 = .ok (.iload_n 1, 1) := by decide +kernel
theorem d_X9_again_6 : decode cX9_again 6 = .ok (.i2l, 1) := by decide +kernel
theorem d_X9_again_7 : decode cX9_again 7 = .ok (.lconst 0, 1) := by decide +kernel
theorem d_X9_again_8 : decode cX9_again 8 = .ok (.lconst 1, 1) := by decide +kernel
theorem d_X9_again_9 : decode cX9_again 9 = .ok (.invokestatic 60, 3) := by decide +kernel
theorem d_X9_again_12 : decode cX9_again 12 = .ok (.ifCond .ne 5, 3) := by decide +kernel
theorem d_X9_again_15 : decode cX9_again 15 = .ok (.iconst (-1), 1) := by decide +kernel
theorem d_X9_again_16 : decode cX9_again 16 = .ok (.ireturn, 1) := by decide +kernel
theorem d_X9_again_17 : decode cX9_again 17 = .ok (.aload_n 0, 1) := by decide +kernel
theorem d_X9_again_18 : decode cX9_again 18 = .ok (.getfield 28, 3) := by decide +kernel
theorem k_697 : (.fieldLink RX9 28 "CommonUnitsModel" "isKept" "[Z" : Cond) ∈ cu_G := cu_mem 697 (by decide +kernel) (by decide +kernel)
theorem d_X9_again_21 : decode cX9_again 21 = .ok (.iload_n 1, 1) := by decide +kernel
theorem d_X9_again_22 : decode cX9_again 22 = .ok (.baload, 1) := by decide +kernel
theorem d_X9_again_23 : decode cX9_again 23 = .ok (.ifCond .ne 6, 3) := by decide +kernel
theorem d_X9_again_26 : decode cX9_again 26 = .ok (.bipush (-3), 2) := by decide +kernel
theorem d_X9_again_28 : decode cX9_again 28 = .ok (.ireturn, 1) := by decide +kernel
theorem d_X9_keep_0 : decode cX9_keep 0 = .ok (.aload_n 0, 1) := by decide +kernel
theorem d_X9_keep_1 : decode cX9_keep 1 = .ok (.iconst 0, 1) := by decide +kernel
theorem d_X9_keep_2 : decode cX9_keep 2 = .ok (.putfield 53, 3) := by decide +kernel
theorem d_X9_keep_5 : decode cX9_keep 5 = .ok (.iload_n 1, 1) := by decide +kernel
theorem d_X9_keep_6 : decode cX9_keep 6 = .ok (.i2l, 1) := by decide +kernel
theorem d_X9_keep_7 : decode cX9_keep 7 = .ok (.lconst 0, 1) := by decide +kernel
theorem d_X9_keep_8 : decode cX9_keep 8 = .ok (.lconst 1, 1) := by decide +kernel
theorem d_X9_keep_9 : decode cX9_keep 9 = .ok (.invokestatic 60, 3) := by decide +kernel
theorem d_X9_keep_12 : decode cX9_keep 12 = .ok (.ifCond .ne 5, 3) := by decide +kernel
theorem d_X9_keep_15 : decode cX9_keep 15 = .ok (.iconst (-1), 1) := by decide +kernel
theorem d_X9_keep_16 : decode cX9_keep 16 = .ok (.ireturn, 1) := by decide +kernel
theorem d_X9_keep_17 : decode cX9_keep 17 = .ok (.aload_n 0, 1) := by decide +kernel
theorem d_X9_keep_18 : decode cX9_keep 18 = .ok (.getfield 28, 3) := by decide +kernel
theorem d_X9_keep_21 : decode cX9_keep 21 = .ok (.iload_n 1, 1) := by decide +kernel
theorem d_X9_keep_22 : decode cX9_keep 22 = .ok (.iconst 1, 1) := by decide +kernel
theorem d_X9_keep_23 : decode cX9_keep 23 = .ok (.bastore, 1) := by decide +kernel
theorem d_X9_keep_24 : decode cX9_keep 24 = .ok (.iconst 0, 1) := by decide +kernel
theorem d_X9_keep_25 : decode cX9_keep 25 = .ok (.istore_n 2, 1) := by decide +kernel
theorem d_X9_keep_26 : decode cX9_keep 26 = .ok (.iload_n 2, 1) := by decide +kernel
theorem d_X9_keep_27 : decode cX9_keep 27 = .ok (.bipush 30, 2) := by decide +kernel
theorem d_X9_keep_29 : decode cX9_keep 29 = .ok (.if_icmp .ge 26, 3) := by decide +kernel
theorem d_X9_keep_55 : decode cX9_keep 55 = .ok (.aload_n 0, 1) := by decide +kernel
theorem d_X9_keep_56 : decode cX9_keep 56 = .ok (.getfield 57, 3) := by decide +kernel
theorem d_X9_keep_59 : decode cX9_keep 59 = .ok (.ireturn, 1) := by decide +kernel
theorem d_X9_keep_32 : decode cX9_keep 32 = .ok (.aload_n 0, 1) := by decide +kernel
theorem d_X9_keep_33 : decode cX9_keep 33 = .ok (.getfield 25, 3) := by decide +kernel
theorem k_696 : (.fieldLink RX9 25 "CommonUnitsModel" "kept" "[I" : Cond) ∈ cu_G := cu_mem 696 (by decide +kernel) (by decide +kernel)
theorem d_X9_keep_36 : decode cX9_keep 36 = .ok (.bipush 30, 2) := by decide +kernel
theorem d_X9_keep_38 : decode cX9_keep 38 = .ok (.iload_n 1, 1) := by decide +kernel
theorem d_X9_keep_39 : decode cX9_keep 39 = .ok (.imul, 1) := by decide +kernel
theorem d_X9_keep_40 : decode cX9_keep 40 = .ok (.iload_n 2, 1) := by decide +kernel
theorem d_X9_keep_41 : decode cX9_keep 41 = .ok (.iadd, 1) := by decide +kernel
theorem d_X9_keep_42 : decode cX9_keep 42 = .ok (.aload_n 0, 1) := by decide +kernel
theorem d_X9_keep_43 : decode cX9_keep 43 = .ok (.getfield 16, 3) := by decide +kernel
theorem d_X9_keep_46 : decode cX9_keep 46 = .ok (.iload_n 2, 1) := by decide +kernel
theorem d_X9_keep_47 : decode cX9_keep 47 = .ok (.iaload, 1) := by decide +kernel
theorem d_X9_keep_48 : decode cX9_keep 48 = .ok (.iastore, 1) := by decide +kernel
theorem d_X9_keep_49 : decode cX9_keep 49 = .ok (.iinc 2 1, 3) := by decide +kernel
theorem d_X9_keep_52 : decode cX9_keep 52 = .ok (.goto (-26), 3) := by decide +kernel
theorem d_X9_drawn_0 : decode cX9_drawn 0 = .ok (.aload_n 0, 1) := by decide +kernel
theorem d_X9_drawn_1 : decode cX9_drawn 1 = .ok (.iconst 0, 1) := by decide +kernel
theorem d_X9_drawn_2 : decode cX9_drawn 2 = .ok (.putfield 53, 3) := by decide +kernel
theorem d_X9_drawn_5 : decode cX9_drawn 5 = .ok (.iload_n 1, 1) := by decide +kernel
theorem d_X9_drawn_6 : decode cX9_drawn 6 = .ok (.i2l, 1) := by decide +kernel
theorem d_X9_drawn_7 : decode cX9_drawn 7 = .ok (.lconst 1, 1) := by decide +kernel
theorem d_X9_drawn_8 : decode cX9_drawn 8 = .ok (.ldc2_w 235, 3) := by decide +kernel
theorem k_1009 : (.constantLong RX9 235 20 : Cond) ∈ cu_G := cu_mem 1009 (by decide +kernel) (by decide +kernel)
theorem d_X9_drawn_11 : decode cX9_drawn 11 = .ok (.invokestatic 60, 3) := by decide +kernel
theorem d_X9_drawn_14 : decode cX9_drawn 14 = .ok (.ifCond .ne 6, 3) := by decide +kernel
theorem d_X9_drawn_17 : decode cX9_drawn 17 = .ok (.bipush (-2), 2) := by decide +kernel
theorem d_X9_drawn_19 : decode cX9_drawn 19 = .ok (.ireturn, 1) := by decide +kernel
theorem d_X9_drawn_20 : decode cX9_drawn 20 = .ok (.iconst 0, 1) := by decide +kernel
theorem d_X9_drawn_21 : decode cX9_drawn 21 = .ok (.istore_n 2, 1) := by decide +kernel
theorem d_X9_drawn_22 : decode cX9_drawn 22 = .ok (.iconst 0, 1) := by decide +kernel
theorem d_X9_drawn_23 : decode cX9_drawn 23 = .ok (.istore_n 3, 1) := by decide +kernel
theorem d_X9_drawn_24 : decode cX9_drawn 24 = .ok (.iload_n 3, 1) := by decide +kernel
theorem d_X9_drawn_25 : decode cX9_drawn 25 = .ok (.iload_n 1, 1) := by decide +kernel
theorem d_X9_drawn_26 : decode cX9_drawn 26 = .ok (.if_icmp .ge 136, 3) := by decide +kernel
theorem d_X9_drawn_162 : decode cX9_drawn 162 = .ok (.iload_n 2, 1) := by decide +kernel
theorem d_X9_drawn_163 : decode cX9_drawn 163 = .ok (.ireturn, 1) := by decide +kernel
theorem d_X9_drawn_29 : decode cX9_drawn 29 = .ok (.aload_n 0, 1) := by decide +kernel
theorem d_X9_drawn_30 : decode cX9_drawn 30 = .ok (.aload_n 0, 1) := by decide +kernel
theorem d_X9_drawn_31 : decode cX9_drawn 31 = .ok (.getfield 231, 3) := by decide +kernel
theorem d_X9_drawn_34 : decode cX9_drawn 34 = .ok (.ldc2_w 237, 3) := by decide +kernel
theorem k_1010 : (.constantLong RX9 237 6364136223846793005 : Cond) ∈ cu_G := cu_mem 1010 (by decide +kernel) (by decide +kernel)
theorem d_X9_drawn_37 : decode cX9_drawn 37 = .ok (.lmul, 1) := by decide +kernel
theorem d_X9_drawn_38 : decode cX9_drawn 38 = .ok (.ldc2_w 239, 3) := by decide +kernel
theorem k_1011 : (.constantLong RX9 239 1442695040888963407 : Cond) ∈ cu_G := cu_mem 1011 (by decide +kernel) (by decide +kernel)
theorem d_X9_drawn_41 : decode cX9_drawn 41 = .ok (.ladd, 1) := by decide +kernel
theorem d_X9_drawn_42 : decode cX9_drawn 42 = .ok (.putfield 231, 3) := by decide +kernel
theorem d_X9_drawn_45 : decode cX9_drawn 45 = .ok (.aload_n 0, 1) := by decide +kernel
theorem d_X9_drawn_46 : decode cX9_drawn 46 = .ok (.getfield 231, 3) := by decide +kernel
theorem d_X9_drawn_49 : decode cX9_drawn 49 = .ok (.bipush 33, 2) := by decide +kernel
theorem d_X9_drawn_51 : decode cX9_drawn 51 = .ok (.lushr, 1) := by decide +kernel
theorem d_X9_drawn_52 : decode cX9_drawn 52 = .ok (.l2i, 1) := by decide +kernel
theorem d_X9_drawn_53 : decode cX9_drawn 53 = .ok (.istore 4, 2) := by decide +kernel
theorem d_X9_drawn_55 : decode cX9_drawn 55 = .ok (.aload_n 0, 1) := by decide +kernel
theorem d_X9_drawn_56 : decode cX9_drawn 56 = .ok (.getfield 64, 3) := by decide +kernel
theorem d_X9_drawn_59 : decode cX9_drawn 59 = .ok (.ifCond .le 97, 3) := by decide +kernel
theorem d_X9_drawn_156 : decode cX9_drawn 156 = .ok (.iinc 3 1, 3) := by decide +kernel
theorem d_X9_drawn_159 : decode cX9_drawn 159 = .ok (.goto (-135), 3) := by decide +kernel
theorem d_X9_layFitting_0 : decode cX9_layFitting 0 = .ok (.iconst 1, 1) := by decide +kernel
theorem d_X9_layFitting_1 : decode cX9_layFitting 1 = .ok (.istore_n 2, 1) := by decide +kernel
theorem d_X9_layFitting_2 : decode cX9_layFitting 2 = .ok (.iload_n 2, 1) := by decide +kernel
theorem d_X9_layFitting_3 : decode cX9_layFitting 3 = .ok (.sipush 999, 3) := by decide +kernel
theorem d_X9_layFitting_6 : decode cX9_layFitting 6 = .ok (.if_icmp .gt 93, 3) := by decide +kernel
theorem d_X9_layFitting_99 : decode cX9_layFitting 99 = .ok (.return_, 1) := by decide +kernel
theorem d_X9_layFitting_9 : decode cX9_layFitting 9 = .ok (.aload_n 0, 1) := by decide +kernel
theorem d_X9_layFitting_10 : decode cX9_layFitting 10 = .ok (.getfield 38, 3) := by decide +kernel
theorem k_702 : (.fieldLink RX9 38 "CommonUnitsModel" "fitting" "[I" : Cond) ∈ cu_G := cu_mem 702 (by decide +kernel) (by decide +kernel)
theorem d_X9_layFitting_13 : decode cX9_layFitting 13 = .ok (.iload_n 2, 1) := by decide +kernel
theorem d_X9_layFitting_14 : decode cX9_layFitting 14 = .ok (.iconst 0, 1) := by decide +kernel
theorem d_X9_layFitting_15 : decode cX9_layFitting 15 = .ok (.iastore, 1) := by decide +kernel
theorem d_X9_layFitting_16 : decode cX9_layFitting 16 = .ok (.iconst 0, 1) := by decide +kernel
theorem d_X9_layFitting_17 : decode cX9_layFitting 17 = .ok (.istore_n 3, 1) := by decide +kernel
theorem d_X9_layFitting_18 : decode cX9_layFitting 18 = .ok (.iload_n 3, 1) := by decide +kernel
theorem d_X9_layFitting_19 : decode cX9_layFitting 19 = .ok (.aload_n 0, 1) := by decide +kernel
theorem d_X9_layFitting_20 : decode cX9_layFitting 20 = .ok (.getfield 57, 3) := by decide +kernel
theorem d_X9_layFitting_23 : decode cX9_layFitting 23 = .ok (.if_icmp .ge 70, 3) := by decide +kernel
theorem d_X9_layFitting_93 : decode cX9_layFitting 93 = .ok (.iinc 2 1, 3) := by decide +kernel
theorem d_X9_layFitting_96 : decode cX9_layFitting 96 = .ok (.goto (-94), 3) := by decide +kernel
theorem d_X9_open_0 : decode cX9_open 0 = .ok (.iconst 1, 1) := by decide +kernel
theorem d_X9_open_1 : decode cX9_open 1 = .ok (.aload_n 0, 1) := by decide +kernel
theorem d_X9_open_2 : decode cX9_open 2 = .ok (.getfield 57, 3) := by decide +kernel
theorem d_X9_open_5 : decode cX9_open 5 = .ok (.ishl, 1) := by decide +kernel
theorem d_X9_open_6 : decode cX9_open 6 = .ok (.iconst 1, 1) := by decide +kernel
theorem d_X9_open_7 : decode cX9_open 7 = .ok (.isub, 1) := by decide +kernel
theorem d_X9_open_8 : decode cX9_open 8 = .ok (.aload_n 1, 1) := by decide +kernel
theorem d_X9_open_9 : decode cX9_open 9 = .ok (.bipush 24, 2) := by decide +kernel
theorem d_X9_open_11 : decode cX9_open 11 = .ok (.iaload, 1) := by decide +kernel
theorem d_X9_open_12 : decode cX9_open 12 = .ok (.iconst (-1), 1) := by decide +kernel
theorem d_X9_open_13 : decode cX9_open 13 = .ok (.ixor, 1) := by decide +kernel
theorem d_X9_open_14 : decode cX9_open 14 = .ok (.iand, 1) := by decide +kernel
theorem d_X9_open_15 : decode cX9_open 15 = .ok (.ireturn, 1) := by decide +kernel
theorem d_X9_ones_0 : decode cX9_ones 0 = .ok (.iconst 0, 1) := by decide +kernel
theorem d_X9_ones_1 : decode cX9_ones 1 = .ok (.istore_n 1, 1) := by decide +kernel
theorem d_X9_ones_2 : decode cX9_ones 2 = .ok (.iconst 0, 1) := by decide +kernel
theorem d_X9_ones_3 : decode cX9_ones 3 = .ok (.istore_n 2, 1) := by decide +kernel
theorem d_X9_ones_4 : decode cX9_ones 4 = .ok (.iload_n 2, 1) := by decide +kernel
theorem d_X9_ones_5 : decode cX9_ones 5 = .ok (.bipush 12, 2) := by decide +kernel
theorem d_X9_ones_7 : decode cX9_ones 7 = .ok (.if_icmp .ge 17, 3) := by decide +kernel
theorem d_X9_ones_10 : decode cX9_ones 10 = .ok (.iload_n 1, 1) := by decide +kernel
theorem d_X9_ones_11 : decode cX9_ones 11 = .ok (.iload_n 0, 1) := by decide +kernel
theorem d_X9_ones_12 : decode cX9_ones 12 = .ok (.iload_n 2, 1) := by decide +kernel
theorem d_X9_ones_13 : decode cX9_ones 13 = .ok (.ishr, 1) := by decide +kernel
theorem d_X9_ones_14 : decode cX9_ones 14 = .ok (.iconst 1, 1) := by decide +kernel
theorem d_X9_ones_15 : decode cX9_ones 15 = .ok (.iand, 1) := by decide +kernel
theorem d_X9_ones_16 : decode cX9_ones 16 = .ok (.iadd, 1) := by decide +kernel
theorem d_X9_ones_17 : decode cX9_ones 17 = .ok (.istore_n 1, 1) := by decide +kernel
theorem d_X9_ones_18 : decode cX9_ones 18 = .ok (.iinc 2 1, 3) := by decide +kernel
theorem d_X9_ones_21 : decode cX9_ones 21 = .ok (.goto (-17), 3) := by decide +kernel
theorem d_X9_ones_24 : decode cX9_ones 24 = .ok (.iload_n 1, 1) := by decide +kernel
theorem d_X9_ones_25 : decode cX9_ones 25 = .ok (.ireturn, 1) := by decide +kernel
theorem d_X9_lossOf_0 : decode cX9_lossOf 0 = .ok (.iconst 0, 1) := by decide +kernel
theorem d_X9_lossOf_1 : decode cX9_lossOf 1 = .ok (.istore_n 3, 1) := by decide +kernel
theorem d_X9_lossOf_2 : decode cX9_lossOf 2 = .ok (.iconst 0, 1) := by decide +kernel
theorem d_X9_lossOf_3 : decode cX9_lossOf 3 = .ok (.istore 4, 2) := by decide +kernel
theorem d_X9_lossOf_5 : decode cX9_lossOf 5 = .ok (.iload 4, 2) := by decide +kernel
theorem d_X9_lossOf_7 : decode cX9_lossOf 7 = .ok (.aload_n 0, 1) := by decide +kernel
theorem d_X9_lossOf_8 : decode cX9_lossOf 8 = .ok (.getfield 57, 3) := by decide +kernel
theorem d_X9_lossOf_11 : decode cX9_lossOf 11 = .ok (.if_icmp .ge 37, 3) := by decide +kernel
theorem d_X9_lossOf_48 : decode cX9_lossOf 48 = .ok (.iload_n 3, 1) := by decide +kernel
theorem d_X9_lossOf_49 : decode cX9_lossOf 49 = .ok (.ireturn, 1) := by decide +kernel
theorem d_X9_keyOf_0 : decode cX9_keyOf 0 = .ok (.aload_n 0, 1) := by decide +kernel
theorem d_X9_keyOf_1 : decode cX9_keyOf 1 = .ok (.getfield 38, 3) := by decide +kernel
theorem d_X9_keyOf_4 : decode cX9_keyOf 4 = .ok (.iload_n 2, 1) := by decide +kernel
theorem d_X9_keyOf_5 : decode cX9_keyOf 5 = .ok (.iaload, 1) := by decide +kernel
theorem d_X9_keyOf_6 : decode cX9_keyOf 6 = .ok (.aload_n 0, 1) := by decide +kernel
theorem d_X9_keyOf_7 : decode cX9_keyOf 7 = .ok (.aload_n 1, 1) := by decide +kernel
theorem d_X9_keyOf_8 : decode cX9_keyOf 8 = .ok (.invokevirtual 156, 3) := by decide +kernel
theorem hd_X9_open : cu_hd yX9_open 1 := by decide +kernel
theorem k_916 : (.code yX9_open cX9_open 2 (some .int) : Cond) ∈ cu_G := cu_mem 916 (by decide +kernel) (by decide +kernel)
theorem k_913 : (.methodLink RX9 156 yX9_open : Cond) ∈ cu_G := cu_mem 913 (by decide +kernel) (by decide +kernel)
theorem k_915 : (.instanceMethod yX9_open : Cond) ∈ cu_G := cu_mem 915 (by decide +kernel) (by decide +kernel)
theorem k_32 : (.selects RX9 yX9_open yX9_open : Cond) ∈ cu_G := cu_mem 32 (by decide +kernel) (by decide +kernel)
theorem d_X9_keyOf_11 : decode cX9_keyOf 11 = .ok (.iand, 1) := by decide +kernel
theorem d_X9_keyOf_12 : decode cX9_keyOf 12 = .ok (.istore_n 3, 1) := by decide +kernel
theorem d_X9_keyOf_13 : decode cX9_keyOf 13 = .ok (.bipush 12, 2) := by decide +kernel
theorem d_X9_keyOf_15 : decode cX9_keyOf 15 = .ok (.iload_n 3, 1) := by decide +kernel
theorem d_X9_keyOf_16 : decode cX9_keyOf 16 = .ok (.invokestatic 137, 3) := by decide +kernel
theorem hd_X9_ones : cu_hd yX9_ones 1 := by decide +kernel
theorem k_851 : (.code yX9_ones cX9_ones 3 (some .int) : Cond) ∈ cu_G := cu_mem 851 (by decide +kernel) (by decide +kernel)
theorem k_849 : (.methodLink RX9 137 yX9_ones : Cond) ∈ cu_G := cu_mem 849 (by decide +kernel) (by decide +kernel)
theorem k_850 : (.static yX9_ones : Cond) ∈ cu_G := cu_mem 850 (by decide +kernel) (by decide +kernel)
theorem d_X9_keyOf_19 : decode cX9_keyOf 19 = .ok (.isub, 1) := by decide +kernel
theorem d_X9_keyOf_20 : decode cX9_keyOf 20 = .ok (.ldc 160, 2) := by decide +kernel
theorem k_929 : (.constant RX9 160 4000000 : Cond) ∈ cu_G := cu_mem 929 (by decide +kernel) (by decide +kernel)
theorem d_X9_keyOf_22 : decode cX9_keyOf 22 = .ok (.imul, 1) := by decide +kernel
theorem d_X9_keyOf_23 : decode cX9_keyOf 23 = .ok (.aload_n 0, 1) := by decide +kernel
theorem d_X9_keyOf_24 : decode cX9_keyOf 24 = .ok (.iload_n 3, 1) := by decide +kernel
theorem d_X9_keyOf_25 : decode cX9_keyOf 25 = .ok (.iload_n 2, 1) := by decide +kernel
theorem d_X9_keyOf_26 : decode cX9_keyOf 26 = .ok (.invokevirtual 161, 3) := by decide +kernel
theorem hd_X9_lossOf : cu_hd yX9_lossOf 2 := by decide +kernel
theorem k_920 : (.code yX9_lossOf cX9_lossOf 5 (some .int) : Cond) ∈ cu_G := cu_mem 920 (by decide +kernel) (by decide +kernel)
theorem k_917 : (.methodLink RX9 161 yX9_lossOf : Cond) ∈ cu_G := cu_mem 917 (by decide +kernel) (by decide +kernel)
theorem k_919 : (.instanceMethod yX9_lossOf : Cond) ∈ cu_G := cu_mem 919 (by decide +kernel) (by decide +kernel)
theorem k_33 : (.selects RX9 yX9_lossOf yX9_lossOf : Cond) ∈ cu_G := cu_mem 33 (by decide +kernel) (by decide +kernel)
theorem d_X9_keyOf_29 : decode cX9_keyOf 29 = .ok (.sipush 1000, 3) := by decide +kernel
theorem d_X9_keyOf_32 : decode cX9_keyOf 32 = .ok (.imul, 1) := by decide +kernel
theorem d_X9_keyOf_33 : decode cX9_keyOf 33 = .ok (.iadd, 1) := by decide +kernel
theorem d_X9_keyOf_34 : decode cX9_keyOf 34 = .ok (.sipush 999, 3) := by decide +kernel
theorem d_X9_keyOf_37 : decode cX9_keyOf 37 = .ok (.iadd, 1) := by decide +kernel
theorem d_X9_keyOf_38 : decode cX9_keyOf 38 = .ok (.iload_n 2, 1) := by decide +kernel
theorem d_X9_keyOf_39 : decode cX9_keyOf 39 = .ok (.isub, 1) := by decide +kernel
theorem d_X9_keyOf_40 : decode cX9_keyOf 40 = .ok (.ireturn, 1) := by decide +kernel
theorem d_X9_rankOf_0 : decode cX9_rankOf 0 = .ok (.aload_n 0, 1) := by decide +kernel
theorem d_X9_rankOf_1 : decode cX9_rankOf 1 = .ok (.aload_n 1, 1) := by decide +kernel
theorem d_X9_rankOf_2 : decode cX9_rankOf 2 = .ok (.iload_n 2, 1) := by decide +kernel
theorem d_X9_rankOf_3 : decode cX9_rankOf 3 = .ok (.invokevirtual 164, 3) := by decide +kernel
theorem hd_X9_keyOf : cu_hd yX9_keyOf 2 := by decide +kernel
theorem k_928 : (.code yX9_keyOf cX9_keyOf 4 (some .int) : Cond) ∈ cu_G := cu_mem 928 (by decide +kernel) (by decide +kernel)
theorem k_925 : (.methodLink RX9 164 yX9_keyOf : Cond) ∈ cu_G := cu_mem 925 (by decide +kernel) (by decide +kernel)
theorem k_927 : (.instanceMethod yX9_keyOf : Cond) ∈ cu_G := cu_mem 927 (by decide +kernel) (by decide +kernel)
theorem k_35 : (.selects RX9 yX9_keyOf yX9_keyOf : Cond) ∈ cu_G := cu_mem 35 (by decide +kernel) (by decide +kernel)
theorem d_X9_rankOf_6 : decode cX9_rankOf 6 = .ok (.istore_n 3, 1) := by decide +kernel
theorem d_X9_rankOf_7 : decode cX9_rankOf 7 = .ok (.iconst 0, 1) := by decide +kernel
theorem d_X9_rankOf_8 : decode cX9_rankOf 8 = .ok (.istore 4, 2) := by decide +kernel
theorem d_X9_rankOf_10 : decode cX9_rankOf 10 = .ok (.iconst 1, 1) := by decide +kernel
theorem d_X9_rankOf_11 : decode cX9_rankOf 11 = .ok (.istore 5, 2) := by decide +kernel
theorem d_X9_rankOf_13 : decode cX9_rankOf 13 = .ok (.iload 5, 2) := by decide +kernel
theorem d_X9_rankOf_15 : decode cX9_rankOf 15 = .ok (.sipush 999, 3) := by decide +kernel
theorem d_X9_rankOf_18 : decode cX9_rankOf 18 = .ok (.if_icmp .gt 30, 3) := by decide +kernel
theorem d_X9_rankOf_48 : decode cX9_rankOf 48 = .ok (.iload 4, 2) := by decide +kernel
theorem d_X9_rankOf_50 : decode cX9_rankOf 50 = .ok (.ireturn, 1) := by decide +kernel
theorem d_X9_rankOf_21 : decode cX9_rankOf 21 = .ok (.iload 4, 2) := by decide +kernel
theorem d_X9_rankOf_23 : decode cX9_rankOf 23 = .ok (.aload_n 0, 1) := by decide +kernel
theorem d_X9_rankOf_24 : decode cX9_rankOf 24 = .ok (.aload_n 1, 1) := by decide +kernel
theorem d_X9_rankOf_25 : decode cX9_rankOf 25 = .ok (.iload 5, 2) := by decide +kernel
theorem d_X9_rankOf_27 : decode cX9_rankOf 27 = .ok (.invokevirtual 164, 3) := by decide +kernel
theorem d_X9_rankOf_30 : decode cX9_rankOf 30 = .ok (.iload_n 3, 1) := by decide +kernel
theorem d_X9_rankOf_31 : decode cX9_rankOf 31 = .ok (.if_icmp .ge 7, 3) := by decide +kernel
theorem d_X9_rankOf_38 : decode cX9_rankOf 38 = .ok (.iconst 0, 1) := by decide +kernel
theorem d_X9_rankOf_39 : decode cX9_rankOf 39 = .ok (.iadd, 1) := by decide +kernel
theorem d_X9_rankOf_40 : decode cX9_rankOf 40 = .ok (.istore 4, 2) := by decide +kernel
theorem d_X9_rankOf_42 : decode cX9_rankOf 42 = .ok (.iinc 5 1, 3) := by decide +kernel
theorem d_X9_rankOf_45 : decode cX9_rankOf 45 = .ok (.goto (-32), 3) := by decide +kernel
theorem d_X9_rankOf_34 : decode cX9_rankOf 34 = .ok (.iconst 1, 1) := by decide +kernel
theorem d_X9_rankOf_35 : decode cX9_rankOf 35 = .ok (.goto 4, 3) := by decide +kernel
theorem d_X9_firstUnit_0 : decode cX9_firstUnit 0 = .ok (.iconst 1, 1) := by decide +kernel
theorem d_X9_firstUnit_1 : decode cX9_firstUnit 1 = .ok (.istore_n 2, 1) := by decide +kernel
theorem d_X9_firstUnit_2 : decode cX9_firstUnit 2 = .ok (.aload_n 0, 1) := by decide +kernel
theorem d_X9_firstUnit_3 : decode cX9_firstUnit 3 = .ok (.aload_n 1, 1) := by decide +kernel
theorem d_X9_firstUnit_4 : decode cX9_firstUnit 4 = .ok (.iconst 1, 1) := by decide +kernel
theorem d_X9_firstUnit_5 : decode cX9_firstUnit 5 = .ok (.invokevirtual 164, 3) := by decide +kernel
theorem d_X9_firstUnit_8 : decode cX9_firstUnit 8 = .ok (.istore_n 3, 1) := by decide +kernel
theorem d_X9_firstUnit_9 : decode cX9_firstUnit 9 = .ok (.iconst 2, 1) := by decide +kernel
theorem d_X9_firstUnit_10 : decode cX9_firstUnit 10 = .ok (.istore 4, 2) := by decide +kernel
theorem d_X9_firstUnit_12 : decode cX9_firstUnit 12 = .ok (.iload 4, 2) := by decide +kernel
theorem d_X9_firstUnit_14 : decode cX9_firstUnit 14 = .ok (.sipush 999, 3) := by decide +kernel
theorem d_X9_firstUnit_17 : decode cX9_firstUnit 17 = .ok (.if_icmp .gt 44, 3) := by decide +kernel
theorem d_X9_firstUnit_61 : decode cX9_firstUnit 61 = .ok (.iload_n 2, 1) := by decide +kernel
theorem d_X9_firstUnit_62 : decode cX9_firstUnit 62 = .ok (.ireturn, 1) := by decide +kernel
theorem d_X9_firstUnit_20 : decode cX9_firstUnit 20 = .ok (.aload_n 0, 1) := by decide +kernel
theorem d_X9_firstUnit_21 : decode cX9_firstUnit 21 = .ok (.aload_n 1, 1) := by decide +kernel
theorem d_X9_firstUnit_22 : decode cX9_firstUnit 22 = .ok (.iload 4, 2) := by decide +kernel
theorem d_X9_firstUnit_24 : decode cX9_firstUnit 24 = .ok (.invokevirtual 164, 3) := by decide +kernel
theorem d_X9_firstUnit_27 : decode cX9_firstUnit 27 = .ok (.istore 5, 2) := by decide +kernel
theorem d_X9_firstUnit_29 : decode cX9_firstUnit 29 = .ok (.iload 5, 2) := by decide +kernel
theorem d_X9_firstUnit_31 : decode cX9_firstUnit 31 = .ok (.iload_n 3, 1) := by decide +kernel
theorem d_X9_firstUnit_32 : decode cX9_firstUnit 32 = .ok (.if_icmp .ge 8, 3) := by decide +kernel
theorem d_X9_firstUnit_35 : decode cX9_firstUnit 35 = .ok (.iload 4, 2) := by decide +kernel
theorem d_X9_firstUnit_37 : decode cX9_firstUnit 37 = .ok (.goto 4, 3) := by decide +kernel
theorem d_X9_firstUnit_41 : decode cX9_firstUnit 41 = .ok (.istore_n 2, 1) := by decide +kernel
theorem d_X9_firstUnit_42 : decode cX9_firstUnit 42 = .ok (.iload 5, 2) := by decide +kernel
theorem d_X9_firstUnit_44 : decode cX9_firstUnit 44 = .ok (.iload_n 3, 1) := by decide +kernel
theorem d_X9_firstUnit_45 : decode cX9_firstUnit 45 = .ok (.if_icmp .ge 8, 3) := by decide +kernel
theorem d_X9_firstUnit_48 : decode cX9_firstUnit 48 = .ok (.iload 5, 2) := by decide +kernel
theorem d_X9_firstUnit_50 : decode cX9_firstUnit 50 = .ok (.goto 4, 3) := by decide +kernel
theorem d_X9_firstUnit_54 : decode cX9_firstUnit 54 = .ok (.istore_n 3, 1) := by decide +kernel
theorem d_X9_firstUnit_55 : decode cX9_firstUnit 55 = .ok (.iinc 4 1, 3) := by decide +kernel
theorem d_X9_firstUnit_58 : decode cX9_firstUnit 58 = .ok (.goto (-46), 3) := by decide +kernel
theorem d_X9_unit_0 : decode cX9_unit 0 = .ok (.aload_n 0, 1) := by decide +kernel
theorem d_X9_unit_1 : decode cX9_unit 1 = .ok (.iconst 0, 1) := by decide +kernel
theorem d_X9_unit_2 : decode cX9_unit 2 = .ok (.putfield 53, 3) := by decide +kernel
theorem d_X9_unit_5 : decode cX9_unit 5 = .ok (.iload_n 1, 1) := by decide +kernel
theorem d_X9_unit_6 : decode cX9_unit 6 = .ok (.i2l, 1) := by decide +kernel
theorem d_X9_unit_7 : decode cX9_unit 7 = .ok (.lconst 1, 1) := by decide +kernel
theorem d_X9_unit_8 : decode cX9_unit 8 = .ok (.ldc2_w 143, 3) := by decide +kernel
theorem k_856 : (.constantLong RX9 143 999 : Cond) ∈ cu_G := cu_mem 856 (by decide +kernel) (by decide +kernel)
theorem d_X9_unit_11 : decode cX9_unit 11 = .ok (.invokestatic 60, 3) := by decide +kernel
theorem d_X9_unit_14 : decode cX9_unit 14 = .ok (.ifCond .eq 15, 3) := by decide +kernel
theorem d_X9_unit_29 : decode cX9_unit 29 = .ok (.bipush (-2), 2) := by decide +kernel
theorem d_X9_unit_31 : decode cX9_unit 31 = .ok (.ireturn, 1) := by decide +kernel
theorem d_X9_unit_17 : decode cX9_unit 17 = .ok (.iload_n 2, 1) := by decide +kernel
theorem d_X9_unit_18 : decode cX9_unit 18 = .ok (.i2l, 1) := by decide +kernel
theorem d_X9_unit_19 : decode cX9_unit 19 = .ok (.lconst 0, 1) := by decide +kernel
theorem d_X9_unit_20 : decode cX9_unit 20 = .ok (.ldc2_w 131, 3) := by decide +kernel
theorem k_845 : (.constantLong RX9 131 3 : Cond) ∈ cu_G := cu_mem 845 (by decide +kernel) (by decide +kernel)
theorem d_X9_unit_23 : decode cX9_unit 23 = .ok (.invokestatic 60, 3) := by decide +kernel
theorem d_X9_unit_26 : decode cX9_unit 26 = .ok (.ifCond .ne 6, 3) := by decide +kernel
theorem d_X9_unit_32 : decode cX9_unit 32 = .ok (.aload_n 0, 1) := by decide +kernel
theorem d_X9_unit_33 : decode cX9_unit 33 = .ok (.aload_n 0, 1) := by decide +kernel
theorem d_X9_unit_34 : decode cX9_unit 34 = .ok (.getfield 16, 3) := by decide +kernel
theorem d_X9_unit_37 : decode cX9_unit 37 = .ok (.invokevirtual 167, 3) := by decide +kernel
theorem hd_X9_layFitting : cu_hd yX9_layFitting 1 := by decide +kernel
theorem k_912 : (.code yX9_layFitting cX9_layFitting 5 none : Cond) ∈ cu_G := cu_mem 912 (by decide +kernel) (by decide +kernel)
theorem k_909 : (.methodLink RX9 167 yX9_layFitting : Cond) ∈ cu_G := cu_mem 909 (by decide +kernel) (by decide +kernel)
theorem k_911 : (.instanceMethod yX9_layFitting : Cond) ∈ cu_G := cu_mem 911 (by decide +kernel) (by decide +kernel)
theorem k_31 : (.selects RX9 yX9_layFitting yX9_layFitting : Cond) ∈ cu_G := cu_mem 31 (by decide +kernel) (by decide +kernel)
theorem d_X9_unit_40 : decode cX9_unit 40 = .ok (.aload_n 0, 1) := by decide +kernel
theorem d_X9_unit_41 : decode cX9_unit 41 = .ok (.getfield 38, 3) := by decide +kernel
theorem d_X9_unit_44 : decode cX9_unit 44 = .ok (.iload_n 1, 1) := by decide +kernel
theorem d_X9_unit_45 : decode cX9_unit 45 = .ok (.iaload, 1) := by decide +kernel
theorem d_X9_unit_46 : decode cX9_unit 46 = .ok (.aload_n 0, 1) := by decide +kernel
theorem d_X9_unit_47 : decode cX9_unit 47 = .ok (.aload_n 0, 1) := by decide +kernel
theorem d_X9_unit_48 : decode cX9_unit 48 = .ok (.getfield 16, 3) := by decide +kernel
theorem d_X9_unit_51 : decode cX9_unit 51 = .ok (.invokevirtual 156, 3) := by decide +kernel
theorem d_X9_unit_54 : decode cX9_unit 54 = .ok (.iand, 1) := by decide +kernel
theorem d_X9_unit_55 : decode cX9_unit 55 = .ok (.istore_n 3, 1) := by decide +kernel
theorem d_X9_unit_56 : decode cX9_unit 56 = .ok (.iload_n 2, 1) := by decide +kernel
theorem d_X9_unit_57 : decode cX9_unit 57 = .ok (.ifCond .ne 10, 3) := by decide +kernel
theorem d_X9_unit_67 : decode cX9_unit 67 = .ok (.iload_n 2, 1) := by decide +kernel
theorem d_X9_unit_68 : decode cX9_unit 68 = .ok (.iconst 1, 1) := by decide +kernel
theorem d_X9_unit_69 : decode cX9_unit 69 = .ok (.if_icmp .ne 7, 3) := by decide +kernel
theorem d_X9_unit_76 : decode cX9_unit 76 = .ok (.iload_n 2, 1) := by decide +kernel
theorem d_X9_unit_77 : decode cX9_unit 77 = .ok (.iconst 2, 1) := by decide +kernel
theorem d_X9_unit_78 : decode cX9_unit 78 = .ok (.if_icmp .ne 12, 3) := by decide +kernel
theorem d_X9_unit_90 : decode cX9_unit 90 = .ok (.aload_n 0, 1) := by decide +kernel
theorem d_X9_unit_91 : decode cX9_unit 91 = .ok (.aload_n 0, 1) := by decide +kernel
theorem d_X9_unit_92 : decode cX9_unit 92 = .ok (.getfield 16, 3) := by decide +kernel
theorem d_X9_unit_95 : decode cX9_unit 95 = .ok (.iload_n 1, 1) := by decide +kernel
theorem d_X9_unit_96 : decode cX9_unit 96 = .ok (.invokevirtual 171, 3) := by decide +kernel
theorem hd_X9_rankOf : cu_hd yX9_rankOf 2 := by decide +kernel
theorem k_924 : (.code yX9_rankOf cX9_rankOf 6 (some .int) : Cond) ∈ cu_G := cu_mem 924 (by decide +kernel) (by decide +kernel)
theorem k_921 : (.methodLink RX9 171 yX9_rankOf : Cond) ∈ cu_G := cu_mem 921 (by decide +kernel) (by decide +kernel)
theorem k_923 : (.instanceMethod yX9_rankOf : Cond) ∈ cu_G := cu_mem 923 (by decide +kernel) (by decide +kernel)
theorem k_34 : (.selects RX9 yX9_rankOf yX9_rankOf : Cond) ∈ cu_G := cu_mem 34 (by decide +kernel) (by decide +kernel)
theorem d_X9_unit_99 : decode cX9_unit 99 = .ok (.ireturn, 1) := by decide +kernel
theorem d_X9_unit_81 : decode cX9_unit 81 = .ok (.aload_n 0, 1) := by decide +kernel
theorem d_X9_unit_82 : decode cX9_unit 82 = .ok (.iload_n 3, 1) := by decide +kernel
theorem d_X9_unit_83 : decode cX9_unit 83 = .ok (.iload_n 1, 1) := by decide +kernel
theorem d_X9_unit_84 : decode cX9_unit 84 = .ok (.invokevirtual 161, 3) := by decide +kernel
theorem d_X9_unit_87 : decode cX9_unit 87 = .ok (.goto 12, 3) := by decide +kernel
theorem d_X9_unit_72 : decode cX9_unit 72 = .ok (.iload_n 3, 1) := by decide +kernel
theorem d_X9_unit_73 : decode cX9_unit 73 = .ok (.goto 26, 3) := by decide +kernel
theorem d_X9_unit_60 : decode cX9_unit 60 = .ok (.iload_n 3, 1) := by decide +kernel
theorem d_X9_unit_61 : decode cX9_unit 61 = .ok (.invokestatic 137, 3) := by decide +kernel
theorem d_X9_unit_64 : decode cX9_unit 64 = .ok (.goto 35, 3) := by decide +kernel
theorem d_X9_lossOfPair_0 : decode cX9_lossOfPair 0 = .ok (.iconst 0, 1) := by decide +kernel
theorem d_X9_lossOfPair_1 : decode cX9_lossOfPair 1 = .ok (.istore 4, 2) := by decide +kernel
theorem d_X9_lossOfPair_3 : decode cX9_lossOfPair 3 = .ok (.iconst 0, 1) := by decide +kernel
theorem d_X9_lossOfPair_4 : decode cX9_lossOfPair 4 = .ok (.istore 5, 2) := by decide +kernel
theorem d_X9_lossOfPair_6 : decode cX9_lossOfPair 6 = .ok (.iload 5, 2) := by decide +kernel
theorem d_X9_lossOfPair_8 : decode cX9_lossOfPair 8 = .ok (.aload_n 0, 1) := by decide +kernel
theorem d_X9_lossOfPair_9 : decode cX9_lossOfPair 9 = .ok (.getfield 57, 3) := by decide +kernel
theorem d_X9_lossOfPair_12 : decode cX9_lossOfPair 12 = .ok (.if_icmp .ge 142, 3) := by decide +kernel
theorem d_X9_lossOfPair_154 : decode cX9_lossOfPair 154 = .ok (.iload 4, 2) := by decide +kernel
theorem d_X9_lossOfPair_156 : decode cX9_lossOfPair 156 = .ok (.ireturn, 1) := by decide +kernel
theorem d_X9_layPair_0 : decode cX9_layPair 0 = .ok (.aload_n 0, 1) := by decide +kernel
theorem d_X9_layPair_1 : decode cX9_layPair 1 = .ok (.aload_n 1, 1) := by decide +kernel
theorem d_X9_layPair_2 : decode cX9_layPair 2 = .ok (.invokevirtual 167, 3) := by decide +kernel
theorem d_X9_layPair_5 : decode cX9_layPair 5 = .ok (.aload_n 0, 1) := by decide +kernel
theorem d_X9_layPair_6 : decode cX9_layPair 6 = .ok (.aload_n 1, 1) := by decide +kernel
theorem d_X9_layPair_7 : decode cX9_layPair 7 = .ok (.invokevirtual 156, 3) := by decide +kernel
theorem d_X9_layPair_10 : decode cX9_layPair 10 = .ok (.istore_n 2, 1) := by decide +kernel
theorem d_X9_layPair_11 : decode cX9_layPair 11 = .ok (.aload_n 0, 1) := by decide +kernel
theorem d_X9_layPair_12 : decode cX9_layPair 12 = .ok (.bipush (-9), 2) := by decide +kernel
theorem d_X9_layPair_14 : decode cX9_layPair 14 = .ok (.putfield 176, 3) := by decide +kernel
theorem k_707 : (.fieldLink RX9 176 "CommonUnitsModel" "pairMany" "I" : Cond) ∈ cu_G := cu_mem 707 (by decide +kernel) (by decide +kernel)
theorem d_X9_layPair_17 : decode cX9_layPair 17 = .ok (.aload_n 0, 1) := by decide +kernel
theorem d_X9_layPair_18 : decode cX9_layPair 18 = .ok (.iconst 0, 1) := by decide +kernel
theorem d_X9_layPair_19 : decode cX9_layPair 19 = .ok (.putfield 179, 3) := by decide +kernel
theorem k_708 : (.fieldLink RX9 179 "CommonUnitsModel" "pairLoss" "I" : Cond) ∈ cu_G := cu_mem 708 (by decide +kernel) (by decide +kernel)
theorem d_X9_layPair_22 : decode cX9_layPair 22 = .ok (.iconst 1, 1) := by decide +kernel
theorem d_X9_layPair_23 : decode cX9_layPair 23 = .ok (.istore_n 3, 1) := by decide +kernel
theorem d_X9_layPair_24 : decode cX9_layPair 24 = .ok (.iload_n 3, 1) := by decide +kernel
theorem d_X9_layPair_25 : decode cX9_layPair 25 = .ok (.sipush 999, 3) := by decide +kernel
theorem d_X9_layPair_28 : decode cX9_layPair 28 = .ok (.if_icmp .ge 114, 3) := by decide +kernel
theorem d_X9_layPair_31 : decode cX9_layPair 31 = .ok (.iload_n 3, 1) := by decide +kernel
theorem d_X9_layPair_32 : decode cX9_layPair 32 = .ok (.iconst 1, 1) := by decide +kernel
theorem d_X9_layPair_33 : decode cX9_layPair 33 = .ok (.iadd, 1) := by decide +kernel
theorem d_X9_layPair_34 : decode cX9_layPair 34 = .ok (.istore 4, 2) := by decide +kernel
theorem d_X9_layPair_36 : decode cX9_layPair 36 = .ok (.iload 4, 2) := by decide +kernel
theorem d_X9_layPair_38 : decode cX9_layPair 38 = .ok (.sipush 999, 3) := by decide +kernel
theorem d_X9_layPair_41 : decode cX9_layPair 41 = .ok (.if_icmp .gt 95, 3) := by decide +kernel
theorem d_X9_layPair_44 : decode cX9_layPair 44 = .ok (.aload_n 0, 1) := by decide +kernel
theorem d_X9_layPair_45 : decode cX9_layPair 45 = .ok (.getfield 38, 3) := by decide +kernel
theorem d_X9_layPair_48 : decode cX9_layPair 48 = .ok (.iload_n 3, 1) := by decide +kernel
theorem d_X9_layPair_49 : decode cX9_layPair 49 = .ok (.iaload, 1) := by decide +kernel
theorem d_X9_layPair_50 : decode cX9_layPair 50 = .ok (.aload_n 0, 1) := by decide +kernel
theorem d_X9_layPair_51 : decode cX9_layPair 51 = .ok (.getfield 38, 3) := by decide +kernel
theorem d_X9_layPair_54 : decode cX9_layPair 54 = .ok (.iload 4, 2) := by decide +kernel
theorem d_X9_layPair_56 : decode cX9_layPair 56 = .ok (.iaload, 1) := by decide +kernel
theorem d_X9_layPair_57 : decode cX9_layPair 57 = .ok (.ior, 1) := by decide +kernel
theorem d_X9_layPair_58 : decode cX9_layPair 58 = .ok (.iload_n 2, 1) := by decide +kernel
theorem d_X9_layPair_59 : decode cX9_layPair 59 = .ok (.iand, 1) := by decide +kernel
theorem d_X9_layPair_60 : decode cX9_layPair 60 = .ok (.istore 5, 2) := by decide +kernel
theorem d_X9_layPair_62 : decode cX9_layPair 62 = .ok (.iload 5, 2) := by decide +kernel
theorem d_X9_layPair_64 : decode cX9_layPair 64 = .ok (.invokestatic 137, 3) := by decide +kernel
theorem d_X9_layPair_67 : decode cX9_layPair 67 = .ok (.istore 6, 2) := by decide +kernel
theorem d_X9_layPair_69 : decode cX9_layPair 69 = .ok (.iload 6, 2) := by decide +kernel
theorem d_X9_layPair_71 : decode cX9_layPair 71 = .ok (.aload_n 0, 1) := by decide +kernel
theorem d_X9_layPair_72 : decode cX9_layPair 72 = .ok (.getfield 176, 3) := by decide +kernel
theorem d_X9_layPair_75 : decode cX9_layPair 75 = .ok (.if_icmp .lt 55, 3) := by decide +kernel
theorem d_X9_layPair_78 : decode cX9_layPair 78 = .ok (.aload_n 0, 1) := by decide +kernel
theorem d_X9_layPair_79 : decode cX9_layPair 79 = .ok (.iload 5, 2) := by decide +kernel
theorem d_X9_layPair_81 : decode cX9_layPair 81 = .ok (.iload_n 3, 1) := by decide +kernel
theorem d_X9_layPair_82 : decode cX9_layPair 82 = .ok (.iload 4, 2) := by decide +kernel
theorem d_X9_layPair_84 : decode cX9_layPair 84 = .ok (.invokevirtual 182, 3) := by decide +kernel
theorem hd_X9_lossOfPair : cu_hd yX9_lossOfPair 3 := by decide +kernel
theorem k_946 : (.code yX9_lossOfPair cX9_lossOfPair 11 (some .int) : Cond) ∈ cu_G := cu_mem 946 (by decide +kernel) (by decide +kernel)
theorem k_943 : (.methodLink RX9 182 yX9_lossOfPair : Cond) ∈ cu_G := cu_mem 943 (by decide +kernel) (by decide +kernel)
theorem k_945 : (.instanceMethod yX9_lossOfPair : Cond) ∈ cu_G := cu_mem 945 (by decide +kernel) (by decide +kernel)
theorem k_37 : (.selects RX9 yX9_lossOfPair yX9_lossOfPair : Cond) ∈ cu_G := cu_mem 37 (by decide +kernel) (by decide +kernel)
theorem d_X9_layPair_87 : decode cX9_layPair 87 = .ok (.istore 7, 2) := by decide +kernel
theorem d_X9_layPair_89 : decode cX9_layPair 89 = .ok (.iload 6, 2) := by decide +kernel
theorem d_X9_layPair_91 : decode cX9_layPair 91 = .ok (.aload_n 0, 1) := by decide +kernel
theorem d_X9_layPair_92 : decode cX9_layPair 92 = .ok (.getfield 176, 3) := by decide +kernel
theorem d_X9_layPair_95 : decode cX9_layPair 95 = .ok (.if_icmp .gt 12, 3) := by decide +kernel
theorem d_X9_layPair_107 : decode cX9_layPair 107 = .ok (.aload_n 0, 1) := by decide +kernel
theorem d_X9_layPair_108 : decode cX9_layPair 108 = .ok (.iload 6, 2) := by decide +kernel
theorem d_X9_layPair_110 : decode cX9_layPair 110 = .ok (.putfield 176, 3) := by decide +kernel
theorem d_X9_layPair_113 : decode cX9_layPair 113 = .ok (.aload_n 0, 1) := by decide +kernel
theorem d_X9_layPair_114 : decode cX9_layPair 114 = .ok (.iload 7, 2) := by decide +kernel
theorem d_X9_layPair_116 : decode cX9_layPair 116 = .ok (.putfield 179, 3) := by decide +kernel
theorem d_X9_layPair_119 : decode cX9_layPair 119 = .ok (.aload_n 0, 1) := by decide +kernel
theorem d_X9_layPair_120 : decode cX9_layPair 120 = .ok (.iload_n 3, 1) := by decide +kernel
theorem d_X9_layPair_121 : decode cX9_layPair 121 = .ok (.putfield 185, 3) := by decide +kernel
theorem k_705 : (.fieldLink RX9 185 "CommonUnitsModel" "pairU" "I" : Cond) ∈ cu_G := cu_mem 705 (by decide +kernel) (by decide +kernel)
theorem d_X9_layPair_124 : decode cX9_layPair 124 = .ok (.aload_n 0, 1) := by decide +kernel
theorem d_X9_layPair_125 : decode cX9_layPair 125 = .ok (.iload 4, 2) := by decide +kernel
theorem d_X9_layPair_127 : decode cX9_layPair 127 = .ok (.putfield 188, 3) := by decide +kernel
theorem k_706 : (.fieldLink RX9 188 "CommonUnitsModel" "pairV" "I" : Cond) ∈ cu_G := cu_mem 706 (by decide +kernel) (by decide +kernel)
theorem d_X9_layPair_130 : decode cX9_layPair 130 = .ok (.iinc 4 1, 3) := by decide +kernel
theorem d_X9_layPair_133 : decode cX9_layPair 133 = .ok (.goto (-97), 3) := by decide +kernel
theorem d_X9_layPair_136 : decode cX9_layPair 136 = .ok (.iinc 3 1, 3) := by decide +kernel
theorem d_X9_layPair_139 : decode cX9_layPair 139 = .ok (.goto (-115), 3) := by decide +kernel
theorem d_X9_layPair_142 : decode cX9_layPair 142 = .ok (.return_, 1) := by decide +kernel
theorem d_X9_layPair_98 : decode cX9_layPair 98 = .ok (.iload 7, 2) := by decide +kernel
theorem d_X9_layPair_100 : decode cX9_layPair 100 = .ok (.aload_n 0, 1) := by decide +kernel
theorem d_X9_layPair_101 : decode cX9_layPair 101 = .ok (.getfield 179, 3) := by decide +kernel
theorem d_X9_layPair_104 : decode cX9_layPair 104 = .ok (.if_icmp .ge 26, 3) := by decide +kernel
theorem d_X9_pair_0 : decode cX9_pair 0 = .ok (.aload_n 0, 1) := by decide +kernel
theorem d_X9_pair_1 : decode cX9_pair 1 = .ok (.iconst 0, 1) := by decide +kernel
theorem d_X9_pair_2 : decode cX9_pair 2 = .ok (.putfield 53, 3) := by decide +kernel
theorem d_X9_pair_5 : decode cX9_pair 5 = .ok (.iload_n 1, 1) := by decide +kernel
theorem d_X9_pair_6 : decode cX9_pair 6 = .ok (.i2l, 1) := by decide +kernel
theorem d_X9_pair_7 : decode cX9_pair 7 = .ok (.lconst 0, 1) := by decide +kernel
theorem d_X9_pair_8 : decode cX9_pair 8 = .ok (.ldc2_w 131, 3) := by decide +kernel
theorem d_X9_pair_11 : decode cX9_pair 11 = .ok (.invokestatic 60, 3) := by decide +kernel
theorem d_X9_pair_14 : decode cX9_pair 14 = .ok (.ifCond .ne 6, 3) := by decide +kernel
theorem d_X9_pair_17 : decode cX9_pair 17 = .ok (.bipush (-2), 2) := by decide +kernel
theorem d_X9_pair_19 : decode cX9_pair 19 = .ok (.ireturn, 1) := by decide +kernel
theorem d_X9_pair_20 : decode cX9_pair 20 = .ok (.aload_n 0, 1) := by decide +kernel
theorem d_X9_pair_21 : decode cX9_pair 21 = .ok (.aload_n 0, 1) := by decide +kernel
theorem d_X9_pair_22 : decode cX9_pair 22 = .ok (.getfield 16, 3) := by decide +kernel
theorem d_X9_pair_25 : decode cX9_pair 25 = .ok (.invokevirtual 191, 3) := by decide +kernel
theorem hd_X9_layPair : cu_hd yX9_layPair 1 := by decide +kernel
theorem k_942 : (.code yX9_layPair cX9_layPair 8 none : Cond) ∈ cu_G := cu_mem 942 (by decide +kernel) (by decide +kernel)
theorem k_939 : (.methodLink RX9 191 yX9_layPair : Cond) ∈ cu_G := cu_mem 939 (by decide +kernel) (by decide +kernel)
theorem k_941 : (.instanceMethod yX9_layPair : Cond) ∈ cu_G := cu_mem 941 (by decide +kernel) (by decide +kernel)
theorem k_36 : (.selects RX9 yX9_layPair yX9_layPair : Cond) ∈ cu_G := cu_mem 36 (by decide +kernel) (by decide +kernel)
theorem d_X9_pair_28 : decode cX9_pair 28 = .ok (.iload_n 1, 1) := by decide +kernel
theorem d_X9_pair_29 : decode cX9_pair 29 = .ok (.ifCond .ne 10, 3) := by decide +kernel
theorem d_X9_pair_39 : decode cX9_pair 39 = .ok (.iload_n 1, 1) := by decide +kernel
theorem d_X9_pair_40 : decode cX9_pair 40 = .ok (.iconst 1, 1) := by decide +kernel
theorem d_X9_pair_41 : decode cX9_pair 41 = .ok (.if_icmp .ne 10, 3) := by decide +kernel
theorem d_X9_pair_51 : decode cX9_pair 51 = .ok (.iload_n 1, 1) := by decide +kernel
theorem d_X9_pair_52 : decode cX9_pair 52 = .ok (.iconst 2, 1) := by decide +kernel
theorem d_X9_pair_53 : decode cX9_pair 53 = .ok (.if_icmp .ne 34, 3) := by decide +kernel
theorem d_X9_pair_87 : decode cX9_pair 87 = .ok (.aload_n 0, 1) := by decide +kernel
theorem d_X9_pair_88 : decode cX9_pair 88 = .ok (.getfield 179, 3) := by decide +kernel
theorem d_X9_pair_91 : decode cX9_pair 91 = .ok (.ireturn, 1) := by decide +kernel
theorem d_X9_pair_56 : decode cX9_pair 56 = .ok (.aload_n 0, 1) := by decide +kernel
theorem d_X9_pair_57 : decode cX9_pair 57 = .ok (.getfield 38, 3) := by decide +kernel
theorem d_X9_pair_60 : decode cX9_pair 60 = .ok (.aload_n 0, 1) := by decide +kernel
theorem d_X9_pair_61 : decode cX9_pair 61 = .ok (.getfield 185, 3) := by decide +kernel
theorem d_X9_pair_64 : decode cX9_pair 64 = .ok (.iaload, 1) := by decide +kernel
theorem d_X9_pair_65 : decode cX9_pair 65 = .ok (.aload_n 0, 1) := by decide +kernel
theorem d_X9_pair_66 : decode cX9_pair 66 = .ok (.getfield 38, 3) := by decide +kernel
theorem d_X9_pair_69 : decode cX9_pair 69 = .ok (.aload_n 0, 1) := by decide +kernel
theorem d_X9_pair_70 : decode cX9_pair 70 = .ok (.getfield 188, 3) := by decide +kernel
theorem d_X9_pair_73 : decode cX9_pair 73 = .ok (.iaload, 1) := by decide +kernel
theorem d_X9_pair_74 : decode cX9_pair 74 = .ok (.ior, 1) := by decide +kernel
theorem d_X9_pair_75 : decode cX9_pair 75 = .ok (.aload_n 0, 1) := by decide +kernel
theorem d_X9_pair_76 : decode cX9_pair 76 = .ok (.aload_n 0, 1) := by decide +kernel
theorem d_X9_pair_77 : decode cX9_pair 77 = .ok (.getfield 16, 3) := by decide +kernel
theorem d_X9_pair_80 : decode cX9_pair 80 = .ok (.invokevirtual 156, 3) := by decide +kernel
theorem d_X9_pair_83 : decode cX9_pair 83 = .ok (.iand, 1) := by decide +kernel
theorem d_X9_pair_84 : decode cX9_pair 84 = .ok (.goto 7, 3) := by decide +kernel
theorem d_X9_pair_44 : decode cX9_pair 44 = .ok (.aload_n 0, 1) := by decide +kernel
theorem d_X9_pair_45 : decode cX9_pair 45 = .ok (.getfield 188, 3) := by decide +kernel
theorem d_X9_pair_48 : decode cX9_pair 48 = .ok (.goto 43, 3) := by decide +kernel
theorem d_X9_pair_32 : decode cX9_pair 32 = .ok (.aload_n 0, 1) := by decide +kernel
theorem d_X9_pair_33 : decode cX9_pair 33 = .ok (.getfield 185, 3) := by decide +kernel
theorem d_X9_pair_36 : decode cX9_pair 36 = .ok (.goto 55, 3) := by decide +kernel
theorem d_X9_which_0 : decode cX9_which 0 = .ok (.aload_n 0, 1) := by decide +kernel
theorem d_X9_which_1 : decode cX9_which 1 = .ok (.iconst 0, 1) := by decide +kernel
theorem d_X9_which_2 : decode cX9_which 2 = .ok (.putfield 53, 3) := by decide +kernel
theorem d_X9_which_5 : decode cX9_which 5 = .ok (.iload_n 1, 1) := by decide +kernel
theorem d_X9_which_6 : decode cX9_which 6 = .ok (.i2l, 1) := by decide +kernel
theorem d_X9_which_7 : decode cX9_which 7 = .ok (.lconst 0, 1) := by decide +kernel
theorem d_X9_which_8 : decode cX9_which 8 = .ok (.ldc2_w 151, 3) := by decide +kernel
theorem d_X9_which_11 : decode cX9_which 11 = .ok (.invokestatic 60, 3) := by decide +kernel
theorem d_X9_which_14 : decode cX9_which 14 = .ok (.ifCond .ne 6, 3) := by decide +kernel
theorem d_X9_which_17 : decode cX9_which 17 = .ok (.bipush (-2), 2) := by decide +kernel
theorem d_X9_which_19 : decode cX9_which 19 = .ok (.ireturn, 1) := by decide +kernel
theorem d_X9_which_20 : decode cX9_which 20 = .ok (.iconst 0, 1) := by decide +kernel
theorem d_X9_which_21 : decode cX9_which 21 = .ok (.istore_n 2, 1) := by decide +kernel
theorem d_X9_which_22 : decode cX9_which 22 = .ok (.bipush (-9), 2) := by decide +kernel
theorem d_X9_which_24 : decode cX9_which 24 = .ok (.istore_n 3, 1) := by decide +kernel
theorem d_X9_which_25 : decode cX9_which 25 = .ok (.bipush (-9), 2) := by decide +kernel
theorem d_X9_which_27 : decode cX9_which 27 = .ok (.istore 4, 2) := by decide +kernel
theorem d_X9_which_29 : decode cX9_which 29 = .ok (.iconst 1, 1) := by decide +kernel
theorem d_X9_which_30 : decode cX9_which 30 = .ok (.istore 5, 2) := by decide +kernel
theorem d_X9_which_32 : decode cX9_which 32 = .ok (.iload 5, 2) := by decide +kernel
theorem d_X9_which_34 : decode cX9_which 34 = .ok (.sipush 999, 3) := by decide +kernel
theorem d_X9_which_37 : decode cX9_which 37 = .ok (.if_icmp .gt 149, 3) := by decide +kernel
theorem d_X9_which_40 : decode cX9_which 40 = .ok (.iconst 1, 1) := by decide +kernel
theorem d_X9_which_41 : decode cX9_which 41 = .ok (.istore 6, 2) := by decide +kernel
theorem d_X9_which_43 : decode cX9_which 43 = .ok (.iconst 0, 1) := by decide +kernel
theorem d_X9_which_44 : decode cX9_which 44 = .ok (.istore 7, 2) := by decide +kernel
theorem d_X9_which_46 : decode cX9_which 46 = .ok (.iload 7, 2) := by decide +kernel
theorem d_X9_which_48 : decode cX9_which 48 = .ok (.aload_n 0, 1) := by decide +kernel
theorem d_X9_which_49 : decode cX9_which 49 = .ok (.getfield 207, 3) := by decide +kernel
theorem d_X9_which_52 : decode cX9_which 52 = .ok (.if_icmp .ge 84, 3) := by decide +kernel
theorem d_X9_which_136 : decode cX9_which 136 = .ok (.iload_n 2, 1) := by decide +kernel
theorem d_X9_which_137 : decode cX9_which 137 = .ok (.iload 6, 2) := by decide +kernel
theorem d_X9_which_139 : decode cX9_which 139 = .ok (.ifCond .eq 7, 3) := by decide +kernel
theorem d_X9_which_142 : decode cX9_which 142 = .ok (.iconst 1, 1) := by decide +kernel
theorem d_X9_which_143 : decode cX9_which 143 = .ok (.goto 4, 3) := by decide +kernel
theorem d_X9_which_147 : decode cX9_which 147 = .ok (.iadd, 1) := by decide +kernel
theorem d_X9_which_148 : decode cX9_which 148 = .ok (.istore_n 2, 1) := by decide +kernel
theorem d_X9_which_149 : decode cX9_which 149 = .ok (.iload 6, 2) := by decide +kernel
theorem d_X9_which_151 : decode cX9_which 151 = .ok (.ifCond .eq 13, 3) := by decide +kernel
theorem d_X9_which_154 : decode cX9_which 154 = .ok (.iload_n 2, 1) := by decide +kernel
theorem d_X9_which_155 : decode cX9_which 155 = .ok (.iconst 1, 1) := by decide +kernel
theorem d_X9_which_156 : decode cX9_which 156 = .ok (.if_icmp .ne 8, 3) := by decide +kernel
theorem d_X9_which_159 : decode cX9_which 159 = .ok (.iload 5, 2) := by decide +kernel
theorem d_X9_which_161 : decode cX9_which 161 = .ok (.goto 4, 3) := by decide +kernel
theorem d_X9_which_165 : decode cX9_which 165 = .ok (.istore_n 3, 1) := by decide +kernel
theorem d_X9_which_166 : decode cX9_which 166 = .ok (.iload 6, 2) := by decide +kernel
theorem d_X9_which_168 : decode cX9_which 168 = .ok (.ifCond .eq 8, 3) := by decide +kernel
theorem d_X9_which_171 : decode cX9_which 171 = .ok (.iload 5, 2) := by decide +kernel
theorem d_X9_which_173 : decode cX9_which 173 = .ok (.goto 5, 3) := by decide +kernel
theorem d_X9_which_178 : decode cX9_which 178 = .ok (.istore 4, 2) := by decide +kernel
theorem d_X9_which_180 : decode cX9_which 180 = .ok (.iinc 5 1, 3) := by decide +kernel
theorem d_X9_which_183 : decode cX9_which 183 = .ok (.goto (-151), 3) := by decide +kernel
theorem d_X9_which_186 : decode cX9_which 186 = .ok (.iload_n 1, 1) := by decide +kernel
theorem d_X9_which_187 : decode cX9_which 187 = .ok (.ifCond .ne 7, 3) := by decide +kernel
theorem d_X9_which_194 : decode cX9_which 194 = .ok (.iload_n 1, 1) := by decide +kernel
theorem d_X9_which_195 : decode cX9_which 195 = .ok (.iconst 1, 1) := by decide +kernel
theorem d_X9_which_196 : decode cX9_which 196 = .ok (.if_icmp .ne 7, 3) := by decide +kernel
theorem d_X9_which_203 : decode cX9_which 203 = .ok (.iload 4, 2) := by decide +kernel
theorem d_X9_which_205 : decode cX9_which 205 = .ok (.ireturn, 1) := by decide +kernel
theorem d_X9_which_199 : decode cX9_which 199 = .ok (.iload_n 3, 1) := by decide +kernel
theorem d_X9_which_200 : decode cX9_which 200 = .ok (.goto 5, 3) := by decide +kernel
theorem d_X9_which_190 : decode cX9_which 190 = .ok (.iload_n 2, 1) := by decide +kernel
theorem d_X9_which_191 : decode cX9_which 191 = .ok (.goto 14, 3) := by decide +kernel
theorem d_X9_which_164 : decode cX9_which 164 = .ok (.iload_n 3, 1) := by decide +kernel
theorem d_X9_weigh_0 : decode cX9_weigh 0 = .ok (.aload_n 0, 1) := by decide +kernel
theorem d_X9_weigh_1 : decode cX9_weigh 1 = .ok (.aload_n 0, 1) := by decide +kernel
theorem d_X9_weigh_2 : decode cX9_weigh 2 = .ok (.getfield 16, 3) := by decide +kernel
theorem d_X9_weigh_5 : decode cX9_weigh 5 = .ok (.invokevirtual 167, 3) := by decide +kernel
theorem d_X9_weigh_8 : decode cX9_weigh 8 = .ok (.aload_n 0, 1) := by decide +kernel
theorem d_X9_weigh_9 : decode cX9_weigh 9 = .ok (.iconst 0, 1) := by decide +kernel
theorem d_X9_weigh_10 : decode cX9_weigh 10 = .ok (.putfield 213, 3) := by decide +kernel
theorem k_710 : (.fieldLink RX9 213 "CommonUnitsModel" "freeMany" "I" : Cond) ∈ cu_G := cu_mem 710 (by decide +kernel) (by decide +kernel)
theorem d_X9_weigh_13 : decode cX9_weigh 13 = .ok (.iconst 0, 1) := by decide +kernel
theorem d_X9_weigh_14 : decode cX9_weigh 14 = .ok (.istore_n 1, 1) := by decide +kernel
theorem d_X9_weigh_15 : decode cX9_weigh 15 = .ok (.iload_n 1, 1) := by decide +kernel
theorem d_X9_weigh_16 : decode cX9_weigh 16 = .ok (.aload_n 0, 1) := by decide +kernel
theorem d_X9_weigh_17 : decode cX9_weigh 17 = .ok (.getfield 57, 3) := by decide +kernel
theorem d_X9_weigh_20 : decode cX9_weigh 20 = .ok (.if_icmp .ge 43, 3) := by decide +kernel
theorem d_X9_weigh_63 : decode cX9_weigh 63 = .ok (.iconst 0, 1) := by decide +kernel
theorem d_X9_weigh_64 : decode cX9_weigh 64 = .ok (.istore_n 1, 1) := by decide +kernel
theorem d_X9_weigh_65 : decode cX9_weigh 65 = .ok (.iload_n 1, 1) := by decide +kernel
theorem d_X9_weigh_66 : decode cX9_weigh 66 = .ok (.iconst 1, 1) := by decide +kernel
theorem d_X9_weigh_67 : decode cX9_weigh 67 = .ok (.aload_n 0, 1) := by decide +kernel
theorem d_X9_weigh_68 : decode cX9_weigh 68 = .ok (.getfield 213, 3) := by decide +kernel
theorem d_X9_weigh_71 : decode cX9_weigh 71 = .ok (.ishl, 1) := by decide +kernel
theorem d_X9_weigh_72 : decode cX9_weigh 72 = .ok (.if_icmp .ge 103, 3) := by decide +kernel
theorem d_X9_weigh_75 : decode cX9_weigh 75 = .ok (.iconst 0, 1) := by decide +kernel
theorem d_X9_weigh_76 : decode cX9_weigh 76 = .ok (.istore_n 2, 1) := by decide +kernel
theorem d_X9_weigh_77 : decode cX9_weigh 77 = .ok (.iconst 0, 1) := by decide +kernel
theorem d_X9_weigh_78 : decode cX9_weigh 78 = .ok (.istore_n 3, 1) := by decide +kernel
theorem d_X9_weigh_79 : decode cX9_weigh 79 = .ok (.iload_n 3, 1) := by decide +kernel
theorem d_X9_weigh_80 : decode cX9_weigh 80 = .ok (.aload_n 0, 1) := by decide +kernel
theorem d_X9_weigh_81 : decode cX9_weigh 81 = .ok (.getfield 213, 3) := by decide +kernel
theorem d_X9_weigh_84 : decode cX9_weigh 84 = .ok (.if_icmp .ge 32, 3) := by decide +kernel
theorem d_X9_weigh_116 : decode cX9_weigh 116 = .ok (.iconst 0, 1) := by decide +kernel
theorem d_X9_weigh_117 : decode cX9_weigh 117 = .ok (.istore_n 3, 1) := by decide +kernel
theorem d_X9_weigh_118 : decode cX9_weigh 118 = .ok (.iconst 1, 1) := by decide +kernel
theorem d_X9_weigh_119 : decode cX9_weigh 119 = .ok (.istore 4, 2) := by decide +kernel
theorem d_X9_weigh_121 : decode cX9_weigh 121 = .ok (.iload 4, 2) := by decide +kernel
theorem d_X9_weigh_123 : decode cX9_weigh 123 = .ok (.sipush 999, 3) := by decide +kernel
theorem d_X9_weigh_126 : decode cX9_weigh 126 = .ok (.if_icmp .gt 36, 3) := by decide +kernel
theorem d_X9_weigh_162 : decode cX9_weigh 162 = .ok (.aload_n 0, 1) := by decide +kernel
theorem d_X9_weigh_163 : decode cX9_weigh 163 = .ok (.getfield 50, 3) := by decide +kernel
theorem k_711 : (.fieldLink RX9 50 "CommonUnitsModel" "worth" "[I" : Cond) ∈ cu_G := cu_mem 711 (by decide +kernel) (by decide +kernel)
theorem d_X9_weigh_166 : decode cX9_weigh 166 = .ok (.iload_n 1, 1) := by decide +kernel
theorem d_X9_weigh_167 : decode cX9_weigh 167 = .ok (.iload_n 3, 1) := by decide +kernel
theorem d_X9_weigh_168 : decode cX9_weigh 168 = .ok (.iastore, 1) := by decide +kernel
theorem d_X9_weigh_169 : decode cX9_weigh 169 = .ok (.iinc 1 1, 3) := by decide +kernel
theorem d_X9_weigh_172 : decode cX9_weigh 172 = .ok (.goto (-107), 3) := by decide +kernel
theorem d_X9_weigh_175 : decode cX9_weigh 175 = .ok (.return_, 1) := by decide +kernel
theorem d_X9_weigh_129 : decode cX9_weigh 129 = .ok (.aload_n 0, 1) := by decide +kernel
theorem d_X9_weigh_130 : decode cX9_weigh 130 = .ok (.getfield 38, 3) := by decide +kernel
theorem d_X9_weigh_133 : decode cX9_weigh 133 = .ok (.iload 4, 2) := by decide +kernel
theorem d_X9_weigh_135 : decode cX9_weigh 135 = .ok (.iaload, 1) := by decide +kernel
theorem d_X9_weigh_136 : decode cX9_weigh 136 = .ok (.iload_n 2, 1) := by decide +kernel
theorem d_X9_weigh_137 : decode cX9_weigh 137 = .ok (.iand, 1) := by decide +kernel
theorem d_X9_weigh_138 : decode cX9_weigh 138 = .ok (.invokestatic 137, 3) := by decide +kernel
theorem d_X9_weigh_141 : decode cX9_weigh 141 = .ok (.istore 5, 2) := by decide +kernel
theorem d_X9_weigh_143 : decode cX9_weigh 143 = .ok (.iload 5, 2) := by decide +kernel
theorem d_X9_weigh_145 : decode cX9_weigh 145 = .ok (.iload_n 3, 1) := by decide +kernel
theorem d_X9_weigh_146 : decode cX9_weigh 146 = .ok (.if_icmp .le 8, 3) := by decide +kernel
theorem d_X9_weigh_154 : decode cX9_weigh 154 = .ok (.iload_n 3, 1) := by decide +kernel
theorem d_X9_weigh_155 : decode cX9_weigh 155 = .ok (.istore_n 3, 1) := by decide +kernel
theorem d_X9_weigh_156 : decode cX9_weigh 156 = .ok (.iinc 4 1, 3) := by decide +kernel
theorem d_X9_weigh_159 : decode cX9_weigh 159 = .ok (.goto (-38), 3) := by decide +kernel
theorem d_X9_power_0 : decode cX9_power 0 = .ok (.iconst 1, 1) := by decide +kernel
theorem d_X9_power_1 : decode cX9_power 1 = .ok (.istore_n 2, 1) := by decide +kernel
theorem d_X9_power_2 : decode cX9_power 2 = .ok (.iconst 0, 1) := by decide +kernel
theorem d_X9_power_3 : decode cX9_power 3 = .ok (.istore_n 3, 1) := by decide +kernel
theorem d_X9_power_4 : decode cX9_power 4 = .ok (.iload_n 3, 1) := by decide +kernel
theorem d_X9_power_5 : decode cX9_power 5 = .ok (.iload_n 1, 1) := by decide +kernel
theorem d_X9_power_6 : decode cX9_power 6 = .ok (.if_icmp .ge 13, 3) := by decide +kernel
theorem d_X9_power_19 : decode cX9_power 19 = .ok (.iload_n 2, 1) := by decide +kernel
theorem d_X9_power_20 : decode cX9_power 20 = .ok (.ireturn, 1) := by decide +kernel
theorem d_X9_divisor_0 : decode cX9_divisor 0 = .ok (.iload_n 0, 1) := by decide +kernel
theorem d_X9_divisor_1 : decode cX9_divisor 1 = .ok (.ifCond .ge 8, 3) := by decide +kernel
theorem d_X9_divisor_9 : decode cX9_divisor 9 = .ok (.iload_n 0, 1) := by decide +kernel
theorem d_X9_divisor_10 : decode cX9_divisor 10 = .ok (.istore_n 2, 1) := by decide +kernel
theorem d_X9_divisor_11 : decode cX9_divisor 11 = .ok (.iload_n 1, 1) := by decide +kernel
theorem d_X9_divisor_12 : decode cX9_divisor 12 = .ok (.istore_n 3, 1) := by decide +kernel
theorem d_X9_divisor_13 : decode cX9_divisor 13 = .ok (.iload_n 3, 1) := by decide +kernel
theorem d_X9_divisor_14 : decode cX9_divisor 14 = .ok (.ifCond .eq 16, 3) := by decide +kernel
theorem d_X9_divisor_17 : decode cX9_divisor 17 = .ok (.iload_n 2, 1) := by decide +kernel
theorem d_X9_divisor_18 : decode cX9_divisor 18 = .ok (.iload_n 3, 1) := by decide +kernel
theorem d_X9_divisor_19 : decode cX9_divisor 19 = .ok (.irem, 1) := by decide +kernel
theorem d_X9_divisor_20 : decode cX9_divisor 20 = .ok (.istore 4, 2) := by decide +kernel
theorem d_X9_divisor_22 : decode cX9_divisor 22 = .ok (.iload_n 3, 1) := by decide +kernel
theorem d_X9_divisor_23 : decode cX9_divisor 23 = .ok (.istore_n 2, 1) := by decide +kernel
theorem d_X9_divisor_24 : decode cX9_divisor 24 = .ok (.iload 4, 2) := by decide +kernel
theorem d_X9_divisor_26 : decode cX9_divisor 26 = .ok (.istore_n 3, 1) := by decide +kernel
theorem d_X9_divisor_27 : decode cX9_divisor 27 = .ok (.goto (-14), 3) := by decide +kernel
theorem d_X9_divisor_30 : decode cX9_divisor 30 = .ok (.iload_n 2, 1) := by decide +kernel
theorem d_X9_divisor_31 : decode cX9_divisor 31 = .ok (.ireturn, 1) := by decide +kernel
theorem d_X9_fraction_0 : decode cX9_fraction 0 = .ok (.iload_n 0, 1) := by decide +kernel
theorem d_X9_fraction_1 : decode cX9_fraction 1 = .ok (.iload_n 1, 1) := by decide +kernel
theorem d_X9_fraction_2 : decode cX9_fraction 2 = .ok (.invokestatic 210, 3) := by decide +kernel
theorem hd_X9_divisor : cu_hd yX9_divisor 2 := by decide +kernel
theorem k_992 : (.code yX9_divisor cX9_divisor 5 (some .int) : Cond) ∈ cu_G := cu_mem 992 (by decide +kernel) (by decide +kernel)
theorem k_990 : (.methodLink RX9 210 yX9_divisor : Cond) ∈ cu_G := cu_mem 990 (by decide +kernel) (by decide +kernel)
theorem k_991 : (.static yX9_divisor : Cond) ∈ cu_G := cu_mem 991 (by decide +kernel) (by decide +kernel)
theorem d_X9_fraction_5 : decode cX9_fraction 5 = .ok (.istore_n 3, 1) := by decide +kernel
theorem d_X9_fraction_6 : decode cX9_fraction 6 = .ok (.iload_n 2, 1) := by decide +kernel
theorem d_X9_fraction_7 : decode cX9_fraction 7 = .ok (.ifCond .eq 9, 3) := by decide +kernel
theorem d_X9_fraction_16 : decode cX9_fraction 16 = .ok (.iload_n 1, 1) := by decide +kernel
theorem d_X9_fraction_17 : decode cX9_fraction 17 = .ok (.iload_n 3, 1) := by decide +kernel
theorem d_X9_fraction_18 : decode cX9_fraction 18 = .ok (.idiv, 1) := by decide +kernel
theorem d_X9_fraction_19 : decode cX9_fraction 19 = .ok (.ireturn, 1) := by decide +kernel
theorem d_X9_fraction_10 : decode cX9_fraction 10 = .ok (.iload_n 0, 1) := by decide +kernel
theorem d_X9_fraction_11 : decode cX9_fraction 11 = .ok (.iload_n 3, 1) := by decide +kernel
theorem d_X9_fraction_12 : decode cX9_fraction 12 = .ok (.idiv, 1) := by decide +kernel
theorem d_X9_fraction_13 : decode cX9_fraction 13 = .ok (.goto 6, 3) := by decide +kernel
theorem d_X9_lost_0 : decode cX9_lost 0 = .ok (.aload_n 0, 1) := by decide +kernel
theorem d_X9_lost_1 : decode cX9_lost 1 = .ok (.iconst 0, 1) := by decide +kernel
theorem d_X9_lost_2 : decode cX9_lost 2 = .ok (.putfield 53, 3) := by decide +kernel
theorem d_X9_lost_5 : decode cX9_lost 5 = .ok (.iload_n 1, 1) := by decide +kernel
theorem d_X9_lost_6 : decode cX9_lost 6 = .ok (.i2l, 1) := by decide +kernel
theorem d_X9_lost_7 : decode cX9_lost 7 = .ok (.lconst 0, 1) := by decide +kernel
theorem d_X9_lost_8 : decode cX9_lost 8 = .ok (.ldc2_w 226, 3) := by decide +kernel
theorem k_997 : (.constantLong RX9 226 10 : Cond) ∈ cu_G := cu_mem 997 (by decide +kernel) (by decide +kernel)
theorem d_X9_lost_11 : decode cX9_lost 11 = .ok (.invokestatic 60, 3) := by decide +kernel
theorem d_X9_lost_14 : decode cX9_lost 14 = .ok (.ifCond .ne 6, 3) := by decide +kernel
theorem d_X9_lost_17 : decode cX9_lost 17 = .ok (.bipush (-2), 2) := by decide +kernel
theorem d_X9_lost_19 : decode cX9_lost 19 = .ok (.ireturn, 1) := by decide +kernel
theorem d_X9_lost_20 : decode cX9_lost 20 = .ok (.aload_n 0, 1) := by decide +kernel
theorem d_X9_lost_21 : decode cX9_lost 21 = .ok (.aload_n 0, 1) := by decide +kernel
theorem d_X9_lost_22 : decode cX9_lost 22 = .ok (.getfield 16, 3) := by decide +kernel
theorem d_X9_lost_25 : decode cX9_lost 25 = .ok (.invokevirtual 156, 3) := by decide +kernel
theorem d_X9_lost_28 : decode cX9_lost 28 = .ok (.invokestatic 137, 3) := by decide +kernel
theorem d_X9_lost_31 : decode cX9_lost 31 = .ok (.bipush 8, 2) := by decide +kernel
theorem d_X9_lost_33 : decode cX9_lost 33 = .ok (.if_icmp .le 6, 3) := by decide +kernel
theorem d_X9_lost_39 : decode cX9_lost 39 = .ok (.aload_n 0, 1) := by decide +kernel
theorem d_X9_lost_40 : decode cX9_lost 40 = .ok (.invokevirtual 216, 3) := by decide +kernel
theorem hd_X9_weigh : cu_hd yX9_weigh 0 := by decide +kernel
theorem k_983 : (.code yX9_weigh cX9_weigh 6 none : Cond) ∈ cu_G := cu_mem 983 (by decide +kernel) (by decide +kernel)
theorem k_980 : (.methodLink RX9 216 yX9_weigh : Cond) ∈ cu_G := cu_mem 980 (by decide +kernel) (by decide +kernel)
theorem k_982 : (.instanceMethod yX9_weigh : Cond) ∈ cu_G := cu_mem 982 (by decide +kernel) (by decide +kernel)
theorem k_40 : (.selects RX9 yX9_weigh yX9_weigh : Cond) ∈ cu_G := cu_mem 40 (by decide +kernel) (by decide +kernel)
theorem d_X9_lost_43 : decode cX9_lost 43 = .ok (.iconst 0, 1) := by decide +kernel
theorem d_X9_lost_44 : decode cX9_lost 44 = .ok (.istore_n 3, 1) := by decide +kernel
theorem d_X9_lost_45 : decode cX9_lost 45 = .ok (.iconst 0, 1) := by decide +kernel
theorem d_X9_lost_46 : decode cX9_lost 46 = .ok (.istore 4, 2) := by decide +kernel
theorem d_X9_lost_48 : decode cX9_lost 48 = .ok (.iload 4, 2) := by decide +kernel
theorem d_X9_lost_50 : decode cX9_lost 50 = .ok (.iconst 1, 1) := by decide +kernel
theorem d_X9_lost_51 : decode cX9_lost 51 = .ok (.aload_n 0, 1) := by decide +kernel
theorem d_X9_lost_52 : decode cX9_lost 52 = .ok (.getfield 213, 3) := by decide +kernel
theorem d_X9_lost_55 : decode cX9_lost 55 = .ok (.ishl, 1) := by decide +kernel
theorem d_X9_lost_56 : decode cX9_lost 56 = .ok (.if_icmp .ge 56, 3) := by decide +kernel
theorem d_X9_lost_59 : decode cX9_lost 59 = .ok (.iload 4, 2) := by decide +kernel
theorem d_X9_lost_61 : decode cX9_lost 61 = .ok (.invokestatic 137, 3) := by decide +kernel
theorem d_X9_lost_64 : decode cX9_lost 64 = .ok (.istore 5, 2) := by decide +kernel
theorem d_X9_lost_66 : decode cX9_lost 66 = .ok (.iload_n 3, 1) := by decide +kernel
theorem d_X9_lost_67 : decode cX9_lost 67 = .ok (.aload_n 0, 1) := by decide +kernel
theorem d_X9_lost_68 : decode cX9_lost 68 = .ok (.getfield 50, 3) := by decide +kernel
theorem d_X9_lost_71 : decode cX9_lost 71 = .ok (.iload 4, 2) := by decide +kernel
theorem d_X9_lost_73 : decode cX9_lost 73 = .ok (.iaload, 1) := by decide +kernel
theorem d_X9_lost_74 : decode cX9_lost 74 = .ok (.iload 5, 2) := by decide +kernel
theorem d_X9_lost_76 : decode cX9_lost 76 = .ok (.if_icmp .ne 27, 3) := by decide +kernel
theorem d_X9_lost_79 : decode cX9_lost 79 = .ok (.bipush 10, 2) := by decide +kernel
theorem d_X9_lost_81 : decode cX9_lost 81 = .ok (.iload_n 1, 1) := by decide +kernel
theorem d_X9_lost_82 : decode cX9_lost 82 = .ok (.isub, 1) := by decide +kernel
theorem d_X9_lost_83 : decode cX9_lost 83 = .ok (.iload 5, 2) := by decide +kernel
theorem d_X9_lost_85 : decode cX9_lost 85 = .ok (.invokestatic 228, 3) := by decide +kernel
theorem hd_X9_power : cu_hd yX9_power 2 := by decide +kernel
theorem k_1000 : (.code yX9_power cX9_power 4 (some .int) : Cond) ∈ cu_G := cu_mem 1000 (by decide +kernel) (by decide +kernel)
theorem k_998 : (.methodLink RX9 228 yX9_power : Cond) ∈ cu_G := cu_mem 998 (by decide +kernel) (by decide +kernel)
theorem k_999 : (.static yX9_power : Cond) ∈ cu_G := cu_mem 999 (by decide +kernel) (by decide +kernel)
theorem d_X9_lost_88 : decode cX9_lost 88 = .ok (.iload_n 1, 1) := by decide +kernel
theorem d_X9_lost_89 : decode cX9_lost 89 = .ok (.aload_n 0, 1) := by decide +kernel
theorem d_X9_lost_90 : decode cX9_lost 90 = .ok (.getfield 213, 3) := by decide +kernel
theorem d_X9_lost_93 : decode cX9_lost 93 = .ok (.iload 5, 2) := by decide +kernel
theorem d_X9_lost_95 : decode cX9_lost 95 = .ok (.isub, 1) := by decide +kernel
theorem d_X9_lost_96 : decode cX9_lost 96 = .ok (.invokestatic 228, 3) := by decide +kernel
theorem d_X9_lost_99 : decode cX9_lost 99 = .ok (.imul, 1) := by decide +kernel
theorem d_X9_lost_100 : decode cX9_lost 100 = .ok (.goto 4, 3) := by decide +kernel
theorem d_X9_lost_104 : decode cX9_lost 104 = .ok (.iadd, 1) := by decide +kernel
theorem d_X9_lost_105 : decode cX9_lost 105 = .ok (.istore_n 3, 1) := by decide +kernel
theorem d_X9_lost_106 : decode cX9_lost 106 = .ok (.iinc 4 1, 3) := by decide +kernel
theorem d_X9_lost_109 : decode cX9_lost 109 = .ok (.goto (-61), 3) := by decide +kernel
theorem d_X9_lost_112 : decode cX9_lost 112 = .ok (.iload_n 3, 1) := by decide +kernel
theorem d_X9_lost_113 : decode cX9_lost 113 = .ok (.bipush 10, 2) := by decide +kernel
theorem d_X9_lost_115 : decode cX9_lost 115 = .ok (.aload_n 0, 1) := by decide +kernel
theorem d_X9_lost_116 : decode cX9_lost 116 = .ok (.getfield 213, 3) := by decide +kernel
theorem d_X9_lost_119 : decode cX9_lost 119 = .ok (.invokestatic 228, 3) := by decide +kernel
theorem d_X9_lost_122 : decode cX9_lost 122 = .ok (.iload_n 2, 1) := by decide +kernel
theorem d_X9_lost_123 : decode cX9_lost 123 = .ok (.invokestatic 222, 3) := by decide +kernel
theorem hd_X9_fraction : cu_hd yX9_fraction 3 := by decide +kernel
theorem k_989 : (.code yX9_fraction cX9_fraction 4 (some .int) : Cond) ∈ cu_G := cu_mem 989 (by decide +kernel) (by decide +kernel)
theorem k_987 : (.methodLink RX9 222 yX9_fraction : Cond) ∈ cu_G := cu_mem 987 (by decide +kernel) (by decide +kernel)
theorem k_988 : (.static yX9_fraction : Cond) ∈ cu_G := cu_mem 988 (by decide +kernel) (by decide +kernel)
theorem d_X9_lost_126 : decode cX9_lost 126 = .ok (.ireturn, 1) := by decide +kernel
theorem d_X9_init_0 : decode cX9_init 0 = .ok (.aload_n 0, 1) := by decide +kernel
theorem d_X9_init_1 : decode cX9_init 1 = .ok (.invokespecial 1, 3) := by decide +kernel
theorem k_683 : (.methodLink RX9 1 objectInit : Cond) ∈ cu_G := cu_mem 683 (by decide +kernel) (by decide +kernel)
theorem d_X9_init_4 : decode cX9_init 4 = .ok (.aload_n 0, 1) := by decide +kernel
theorem d_X9_init_5 : decode cX9_init 5 = .ok (.sipush 130, 3) := by decide +kernel
theorem d_X9_init_8 : decode cX9_init 8 = .ok (.newarray .int, 2) := by decide +kernel
theorem d_X9_init_10 : decode cX9_init 10 = .ok (.putfield 7, 3) := by decide +kernel
theorem d_X9_init_13 : decode cX9_init 13 = .ok (.aload_n 0, 1) := by decide +kernel
theorem d_X9_init_14 : decode cX9_init 14 = .ok (.bipush 30, 2) := by decide +kernel
theorem d_X9_init_16 : decode cX9_init 16 = .ok (.newarray .int, 2) := by decide +kernel
theorem d_X9_init_18 : decode cX9_init 18 = .ok (.putfield 13, 3) := by decide +kernel
theorem d_X9_init_21 : decode cX9_init 21 = .ok (.aload_n 0, 1) := by decide +kernel
theorem d_X9_init_22 : decode cX9_init 22 = .ok (.bipush 30, 2) := by decide +kernel
theorem d_X9_init_24 : decode cX9_init 24 = .ok (.newarray .int, 2) := by decide +kernel
theorem d_X9_init_26 : decode cX9_init 26 = .ok (.putfield 16, 3) := by decide +kernel
theorem d_X9_init_29 : decode cX9_init 29 = .ok (.aload_n 0, 1) := by decide +kernel
theorem d_X9_init_30 : decode cX9_init 30 = .ok (.bipush 30, 2) := by decide +kernel
theorem d_X9_init_32 : decode cX9_init 32 = .ok (.newarray .int, 2) := by decide +kernel
theorem d_X9_init_34 : decode cX9_init 34 = .ok (.putfield 19, 3) := by decide +kernel
theorem k_693 : (.fieldLink RX9 19 "CommonUnitsModel" "trial" "[I" : Cond) ∈ cu_G := cu_mem 693 (by decide +kernel) (by decide +kernel)
theorem d_X9_init_37 : decode cX9_init 37 = .ok (.aload_n 0, 1) := by decide +kernel
theorem d_X9_init_38 : decode cX9_init 38 = .ok (.sipush 420, 3) := by decide +kernel
theorem d_X9_init_41 : decode cX9_init 41 = .ok (.newarray .int, 2) := by decide +kernel
theorem d_X9_init_43 : decode cX9_init 43 = .ok (.putfield 22, 3) := by decide +kernel
theorem d_X9_init_46 : decode cX9_init 46 = .ok (.aload_n 0, 1) := by decide +kernel
theorem d_X9_init_47 : decode cX9_init 47 = .ok (.bipush 60, 2) := by decide +kernel
theorem d_X9_init_49 : decode cX9_init 49 = .ok (.newarray .int, 2) := by decide +kernel
theorem d_X9_init_51 : decode cX9_init 51 = .ok (.putfield 25, 3) := by decide +kernel
theorem d_X9_init_54 : decode cX9_init 54 = .ok (.aload_n 0, 1) := by decide +kernel
theorem d_X9_init_55 : decode cX9_init 55 = .ok (.iconst 2, 1) := by decide +kernel
theorem d_X9_init_56 : decode cX9_init 56 = .ok (.newarray .boolean, 2) := by decide +kernel
theorem d_X9_init_58 : decode cX9_init 58 = .ok (.putfield 28, 3) := by decide +kernel
theorem d_X9_init_61 : decode cX9_init 61 = .ok (.aload_n 0, 1) := by decide +kernel
theorem d_X9_init_62 : decode cX9_init 62 = .ok (.bipush 6, 2) := by decide +kernel
theorem d_X9_init_64 : decode cX9_init 64 = .ok (.newarray .int, 2) := by decide +kernel
theorem d_X9_init_66 : decode cX9_init 66 = .ok (.putfield 32, 3) := by decide +kernel
theorem k_699 : (.fieldLink RX9 32 "CommonUnitsModel" "seenCoin" "[I" : Cond) ∈ cu_G := cu_mem 699 (by decide +kernel) (by decide +kernel)
theorem d_X9_init_69 : decode cX9_init 69 = .ok (.aload_n 0, 1) := by decide +kernel
theorem d_X9_init_70 : decode cX9_init 70 = .ok (.bipush 6, 2) := by decide +kernel
theorem d_X9_init_72 : decode cX9_init 72 = .ok (.newarray .int, 2) := by decide +kernel
theorem d_X9_init_74 : decode cX9_init 74 = .ok (.putfield 35, 3) := by decide +kernel
theorem k_700 : (.fieldLink RX9 35 "CommonUnitsModel" "seenIs" "[I" : Cond) ∈ cu_G := cu_mem 700 (by decide +kernel) (by decide +kernel)
theorem d_X9_init_77 : decode cX9_init 77 = .ok (.aload_n 0, 1) := by decide +kernel
theorem d_X9_init_78 : decode cX9_init 78 = .ok (.sipush 1000, 3) := by decide +kernel
theorem d_X9_init_81 : decode cX9_init 81 = .ok (.newarray .int, 2) := by decide +kernel
theorem d_X9_init_83 : decode cX9_init 83 = .ok (.putfield 38, 3) := by decide +kernel
theorem d_X9_init_86 : decode cX9_init 86 = .ok (.aload_n 0, 1) := by decide +kernel
theorem d_X9_init_87 : decode cX9_init 87 = .ok (.sipush 12000, 3) := by decide +kernel
theorem d_X9_init_90 : decode cX9_init 90 = .ok (.newarray .int, 2) := by decide +kernel
theorem d_X9_init_92 : decode cX9_init 92 = .ok (.putfield 41, 3) := by decide +kernel
theorem k_703 : (.fieldLink RX9 41 "CommonUnitsModel" "losing" "[I" : Cond) ∈ cu_G := cu_mem 703 (by decide +kernel) (by decide +kernel)
theorem d_X9_init_95 : decode cX9_init 95 = .ok (.aload_n 0, 1) := by decide +kernel
theorem d_X9_init_96 : decode cX9_init 96 = .ok (.sipush 999, 3) := by decide +kernel
theorem d_X9_init_99 : decode cX9_init 99 = .ok (.newarray .int, 2) := by decide +kernel
theorem d_X9_init_101 : decode cX9_init 101 = .ok (.putfield 44, 3) := by decide +kernel
theorem k_704 : (.fieldLink RX9 44 "CommonUnitsModel" "order" "[I" : Cond) ∈ cu_G := cu_mem 704 (by decide +kernel) (by decide +kernel)
theorem d_X9_init_104 : decode cX9_init 104 = .ok (.aload_n 0, 1) := by decide +kernel
theorem d_X9_init_105 : decode cX9_init 105 = .ok (.bipush 8, 2) := by decide +kernel
theorem d_X9_init_107 : decode cX9_init 107 = .ok (.newarray .int, 2) := by decide +kernel
theorem d_X9_init_109 : decode cX9_init 109 = .ok (.putfield 47, 3) := by decide +kernel
theorem k_709 : (.fieldLink RX9 47 "CommonUnitsModel" "free" "[I" : Cond) ∈ cu_G := cu_mem 709 (by decide +kernel) (by decide +kernel)
theorem d_X9_init_112 : decode cX9_init 112 = .ok (.aload_n 0, 1) := by decide +kernel
theorem d_X9_init_113 : decode cX9_init 113 = .ok (.sipush 256, 3) := by decide +kernel
theorem d_X9_init_116 : decode cX9_init 116 = .ok (.newarray .int, 2) := by decide +kernel
theorem d_X9_init_118 : decode cX9_init 118 = .ok (.putfield 50, 3) := by decide +kernel
theorem d_X9_init_121 : decode cX9_init 121 = .ok (.aload_n 0, 1) := by decide +kernel
theorem d_X9_init_122 : decode cX9_init 122 = .ok (.getfield 16, 3) := by decide +kernel
theorem d_X9_init_125 : decode cX9_init 125 = .ok (.bipush 28, 2) := by decide +kernel
theorem d_X9_init_127 : decode cX9_init 127 = .ok (.iconst 1, 1) := by decide +kernel
theorem d_X9_init_128 : decode cX9_init 128 = .ok (.iastore, 1) := by decide +kernel
theorem d_X9_init_129 : decode cX9_init 129 = .ok (.return_, 1) := by decide +kernel
theorem cu_updZ (k : Nat) : upd (fun _ => (0 : Int32)) k 0 = fun _ => 0 := by
  funext j; unfold upd; split <;> rfl
theorem cu_zand (x : Int32) : (0 : Int32) &&& x = 0 := by
  first | exact Int32.zero_and | simp
theorem cu_andz (x : Int32) : x &&& (0 : Int32) = 0 := by
  first | exact Int32.and_zero | simp
def cu_inl (v a b : Int64) : Int32 := if v < a then 0 else if b < v then 0 else 1
def cu_i32 (v a b : Int32) : Int32 := if v < a then 0 else if b < v then 0 else 1
theorem cu_c1 {x y : Int64} (h : lg_cmp x y < 0) : x < y := by
  unfold lg_cmp at h
  by_cases h1 : y < x
  · rw [if_pos h1] at h; exact absurd h (by decide)
  · rw [if_neg h1] at h
    by_cases h2 : x = y
    · rw [if_pos h2] at h; exact absurd h (by decide)
    · rw [Int64.lt_iff_toInt_lt] at h1 ⊢
      have h3 : ¬ x.toInt = y.toInt := fun q => h2 (Int64.toInt_inj.mp q)
      omega
theorem cu_c2 {x y : Int64} (h : ¬ lg_cmp x y < 0) : ¬ x < y := fun q => by
  apply h
  unfold lg_cmp
  rw [if_neg (show ¬ y < x by rw [Int64.lt_iff_toInt_lt] at q ⊢; omega), if_neg (fun z => by rw [z] at q; rw [Int64.lt_iff_toInt_lt] at q; omega)]
  decide
theorem cu_c3 {x y : Int64} (h : 0 < lg_cmp x y) : y < x := by
  unfold lg_cmp at h
  by_cases h1 : y < x
  · exact h1
  · rw [if_neg h1] at h
    by_cases h2 : x = y
    · rw [if_pos h2] at h; exact absurd h (by decide)
    · rw [if_neg h2] at h; exact absurd h (by decide)
theorem cu_c4 {x y : Int64} (h : ¬ 0 < lg_cmp x y) : ¬ y < x := fun q => by
  apply h
  unfold lg_cmp
  rw [if_pos q]
  decide
theorem cu_inI {x lo hi : Int32} {a b : Int64} (ha : a = lo.toInt64) (hb : b = hi.toInt64) : cu_inl x.toInt64 a b = cu_i32 x lo hi := by
  subst ha; subst hb
  unfold cu_inl cu_i32
  simp only [Int64.lt_iff_toInt_lt, Int32.lt_iff_toInt_lt, Int32.toInt_toInt64]
theorem cu_inNo (x : Int64) : cu_inl x 0 (-1) = 0 := by
  unfold cu_inl
  by_cases h : x < 0
  · rw [if_pos h]
  · rw [if_neg h, if_pos]
    rw [Int64.lt_iff_toInt_lt] at h ⊢
    have e0 : (0 : Int64).toInt = 0 := by decide
    have e1 : (-1 : Int64).toInt = -1 := by decide
    omega
theorem cu_eq3 {x : Int32} (h0 : ¬ x = 0) (h1 : ¬ x = 1) (h2 : ¬ x = 2) (hl : ¬ x < 0) (hh : ¬ 3 < x) : x = 3 := by
  have a0 := lv_neT (a := 0) h0 (by decide); have a1 := lv_neT (a := 1) h1 (by decide); have a2 := lv_neT (a := 2) h2 (by decide)
  have b := mt cu_lt.mpr hl; have c := mt cu_lt.mpr hh
  have e0 : (0 : Int32).toInt = 0 := by decide
  have e3 : (3 : Int32).toInt = 3 := by decide
  exact Int32.toInt_inj.mp (by rw [e3]; omega)
theorem cu_ne1 {x k m : Int32} (h : x < m) (hk : ¬ k < m) : ¬ x = k := fun e => hk (e ▸ h)
theorem cu_ne2 {x k m : Int32} (h : m < x) (hk : ¬ m < k) : ¬ x = k := fun e => hk (e ▸ h)
theorem cu_ne3 {x k m : Int32} (h : ¬ x < m) (hk : k < m) : ¬ x = k := fun e => h (e ▸ hk)
theorem cu_ne4 {x k m : Int32} (h : ¬ m < x) (hk : m < k) : ¬ x = k := fun e => h (e ▸ hk)
theorem cu_lt2n {x : Int32} (h : 1 < x) : ¬ x < 2 := fun q => by
  have a := cu_lt.mp h; have b := cu_lt.mp q
  have e1 : (1 : Int32).toInt = 1 := by decide
  have e2 : (2 : Int32).toInt = 2 := by decide
  omega
theorem cu_lt2p {x : Int32} (h : ¬ 1 < x) : x < 2 := cu_lt.mpr (by
  have a := mt cu_lt.mpr h
  have e1 : (1 : Int32).toInt = 1 := by decide
  have e2 : (2 : Int32).toInt = 2 := by decide
  omega)
set_option maxHeartbeats 4000000 in
set_option maxRecDepth 100000 in
theorem c_X9_in (l : Launch) (D : va_G) (cI cZ cQ : ClassId) (c1 c2 c3 : Int64) : cu_R l D (cu_TY cI cZ cQ) yX9_in cX9_in 6 .boolean 0 0 [.long c1, .long c2, .long c3] [] (fun r => r = cu_inl c1 c2 c3) := by
  refine cu_R.intro (by decide) (Nat.le_of_ble_eq_true rfl) ?_
  intro p e s m args below meth c Q ls S hret hP hK hl
  obtain ⟨hx, hb, hml, hown, hg⟩ := S
  have hown : s.vm.findClass RX9 = some m.cls := hown
  have hl : lv_has ls 6 [(0, .long c1), (2, .long c2), (4, .long c3)] := hl
  refine lv_lload_n hx hb d_X9_in_0 rfl (lv_at hl 0 rfl) ?_
  refine lv_lload_n hx hb d_X9_in_1 rfl (lv_at hl 1 rfl) ?_
  refine W.lcmp hx hb d_X9_in_2 ?_
  refine lv_if_lt (tgt := 17) hx hb d_X9_in_3 (by decide) (fun c_1 => ?_) (fun c_1 => ?_)
  · skip
    refine lv_iconst (v := 0) hx hb d_X9_in_17 (by decide) ?_
    exact hret _ _ _ d_X9_in_18 (by decide +kernel) (by unfold cu_inl; rw [if_pos (cu_c1 c_1)])
  · skip
    refine lv_lload_n hx hb d_X9_in_6 rfl (lv_at hl 0 rfl) ?_
    refine lv_lload hx hb d_X9_in_7 (lv_at hl 2 rfl) ?_
    refine W.lcmp hx hb d_X9_in_9 ?_
    refine lv_if_gt (tgt := 17) hx hb d_X9_in_10 (by decide) (fun c_2 => ?_) (fun c_2 => ?_)
    · skip
      refine lv_iconst (v := 0) hx hb d_X9_in_17 (by decide) ?_
      exact hret _ _ _ d_X9_in_18 (by decide +kernel) (by unfold cu_inl; rw [if_neg (cu_c2 c_1), if_pos (cu_c3 c_2)])
    · skip
      refine lv_iconst (v := 1) hx hb d_X9_in_13 (by decide) ?_
      refine lv_goto (tgt := 18) hx hb d_X9_in_14 (by decide) ?_
      exact hret _ _ _ d_X9_in_18 (by decide +kernel) (by unfold cu_inl; rw [if_neg (cu_c2 c_1), if_neg (cu_c4 c_2)])
set_option maxHeartbeats 4000000 in
set_option maxRecDepth 100000 in
theorem c_X9_noCoin (l : Launch) (D : va_G) (cI cZ cQ : ClassId) (o m1 m2 m3 m4 m5 m6 m7 m8 m9 m10 m11 m12 m13 m14 : Nat) (c1 : Int32) : cu_R l D (cu_TY cI cZ cQ) yX9_noCoin cX9_noCoin 2 .boolean 1 25 [.ref o, .int c1] [(o, .inr (7, [.int 0, .ref m1, .int 0, .int 0, .int 0, .int 0, .int 0, .ref m2, .ref m3, .ref m4, .ref m5, .int 0, .ref m6, .ref m7, .int 0, .ref m8, .ref m9, .long 0, .ref m10, .ref m11, .ref m12, .int 0, .int 0, .int 0, .int 0, .ref m13, .int 0, .ref m14]))] (fun r => r = 1) := by
  refine cu_R.intro (by decide) (Nat.le_of_ble_eq_true rfl) ?_
  intro p e s m args below meth c Q ls S hret hP hK hl
  obtain ⟨hx, hb, hml, hown, hg⟩ := S
  have hown : s.vm.findClass RX9 = some m.cls := hown
  have hl : lv_has ls 2 [(0, .ref o), (1, .int c1)] := hl
  refine lv_iload_n hx hb d_X9_noCoin_0 rfl (lv_at hl 1 rfl) ?_
  refine lv_i2l (v := c1.toInt64) hx hb d_X9_noCoin_1 rfl ?_
  refine lv_lconst (v := 0) hx hb d_X9_noCoin_2 (by decide) ?_
  refine lv_aload_n hx hb d_X9_noCoin_3 rfl (lv_at hl 0 rfl) ?_
  refine va_get (D := D) (ci := 7) (v := .int 0) (C := RX9) (T := TX9) (N := 28) hx hb hg cu_iX9 hown hK.1 hP 0 rfl rfl 3 (by decide) (hg _ k_687) (fun _ h9 => h9) rfl d_X9_noCoin_4 ?_
  refine lv_iconst (v := 1) hx hb d_X9_noCoin_7 (by decide) ?_
  refine lv_isub hx hb d_X9_noCoin_8 ?_
  refine cu_topi (y := (-1)) (by decide +kernel) ?_
  refine lv_i2l (v := (-1)) hx hb d_X9_noCoin_9 (by decide +kernel) ?_
  refine cu_SR (wc := []) (rest := []) [.long c1.toInt64, .long 0, .long (-1)] ⟨hx, hb, hml, hown, hg⟩ (c_X9_in l D cI cZ cQ c1.toInt64 0 (-1)) hd_X9_in k_776 k_774 k_775 k_49 ⟨Nat.le_of_ble_eq_true rfl, Nat.le_of_ble_eq_true rfl⟩ ⟨Nat.le_of_ble_eq_true rfl, Nat.le_of_ble_eq_true rfl⟩ hP hK [] rfl rfl hl.1 rfl (Nat.le_of_ble_eq_true rfl) d_X9_noCoin_10 (fun r_1 hr_2 => ?_)
  replace hr_2 : r_1 = 0 := by rw [hr_2]; exact cu_inNo _
  subst hr_2
  refine lv_if_ne (tgt := 20) hx hb d_X9_noCoin_13 (by decide) (fun c_3 => absurd (by decide +kernel) c_3) (fun _ => ?_)
  refine lv_iconst (v := 1) hx hb d_X9_noCoin_16 (by decide) ?_
  refine lv_goto (tgt := 21) hx hb d_X9_noCoin_17 (by decide) ?_
  exact hret _ _ _ d_X9_noCoin_21 (by decide +kernel) (rfl)
set_option maxHeartbeats 4000000 in
set_option maxRecDepth 100000 in
theorem c_X9_noMint (l : Launch) (D : va_G) (cI cZ cQ : ClassId) (o m1 m2 m3 m4 m5 m6 m7 m8 m9 m10 m11 m12 m13 m14 : Nat) (c1 : Int32) : cu_R l D (cu_TY cI cZ cQ) yX9_noMint cX9_noMint 2 .boolean 1 25 [.ref o, .int c1] [(o, .inr (7, [.int 0, .ref m1, .int 0, .int 0, .int 0, .int 0, .int 0, .ref m2, .ref m3, .ref m4, .ref m5, .int 0, .ref m6, .ref m7, .int 0, .ref m8, .ref m9, .long 0, .ref m10, .ref m11, .ref m12, .int 0, .int 0, .int 0, .int 0, .ref m13, .int 0, .ref m14]))] (fun r => r = 1) := by
  refine cu_R.intro (by decide) (Nat.le_of_ble_eq_true rfl) ?_
  intro p e s m args below meth c Q ls S hret hP hK hl
  obtain ⟨hx, hb, hml, hown, hg⟩ := S
  have hown : s.vm.findClass RX9 = some m.cls := hown
  have hl : lv_has ls 2 [(0, .ref o), (1, .int c1)] := hl
  refine lv_iload_n hx hb d_X9_noMint_0 rfl (lv_at hl 1 rfl) ?_
  refine lv_i2l (v := c1.toInt64) hx hb d_X9_noMint_1 rfl ?_
  refine lv_lconst (v := 0) hx hb d_X9_noMint_2 (by decide) ?_
  refine lv_aload_n hx hb d_X9_noMint_3 rfl (lv_at hl 0 rfl) ?_
  refine va_get (D := D) (ci := 7) (v := .int 0) (C := RX9) (T := TX9) (N := 28) hx hb hg cu_iX9 hown hK.1 hP 0 rfl rfl 4 (by decide) (hg _ k_688) (fun _ h9 => h9) rfl d_X9_noMint_4 ?_
  refine lv_iconst (v := 1) hx hb d_X9_noMint_7 (by decide) ?_
  refine lv_isub hx hb d_X9_noMint_8 ?_
  refine cu_topi (y := (-1)) (by decide +kernel) ?_
  refine lv_i2l (v := (-1)) hx hb d_X9_noMint_9 (by decide +kernel) ?_
  refine cu_SR (wc := []) (rest := []) [.long c1.toInt64, .long 0, .long (-1)] ⟨hx, hb, hml, hown, hg⟩ (c_X9_in l D cI cZ cQ c1.toInt64 0 (-1)) hd_X9_in k_776 k_774 k_775 k_49 ⟨Nat.le_of_ble_eq_true rfl, Nat.le_of_ble_eq_true rfl⟩ ⟨Nat.le_of_ble_eq_true rfl, Nat.le_of_ble_eq_true rfl⟩ hP hK [] rfl rfl hl.1 rfl (Nat.le_of_ble_eq_true rfl) d_X9_noMint_10 (fun r_1 hr_2 => ?_)
  replace hr_2 : r_1 = 0 := by rw [hr_2]; exact cu_inNo _
  subst hr_2
  refine lv_if_ne (tgt := 20) hx hb d_X9_noMint_13 (by decide) (fun c_3 => absurd (by decide +kernel) c_3) (fun _ => ?_)
  refine lv_iconst (v := 1) hx hb d_X9_noMint_16 (by decide) ?_
  refine lv_goto (tgt := 21) hx hb d_X9_noMint_17 (by decide) ?_
  exact hret _ _ _ d_X9_noMint_21 (by decide +kernel) (rfl)
set_option maxHeartbeats 4000000 in
set_option maxRecDepth 100000 in
theorem c_X9_write (l : Launch) (D : va_G) (cI cZ cQ : ClassId) (o m1 m2 m3 m4 m5 m6 m7 m8 m9 m10 m11 m12 m13 m14 : Nat) (c1 : Int32) : cu_W l D (cu_TY cI cZ cQ) yX9_write cX9_write 2 .int 1 25 0 0 [.ref o, .int c1] [(o, .inr (7, [.int 0, .ref m1, .int 0, .int 0, .int 0, .int 0, .int 0, .ref m2, .ref m3, .ref m4, .ref m5, .int 0, .ref m6, .ref m7, .int 0, .ref m8, .ref m9, .long 0, .ref m10, .ref m11, .ref m12, .int 0, .int 0, .int 0, .int 0, .ref m13, .int 0, .ref m14])), (m1, .inl (cI, 130, .inl (fun _ => 0)))] (fun r ww => (r = cu_swr c1) ∧ ww = []) := by
  refine cu_W.intro (by decide) (Nat.le_of_ble_eq_true rfl) ?_
  intro p e s m args below meth c Q ls A S hret hP hD hS hA hK hl
  obtain ⟨hx, hb, hml, hown, hg⟩ := S
  have hown : s.vm.findClass RX9 = some m.cls := hown
  have hl : lv_has ls 2 [(0, .ref o), (1, .int c1)] := hl
  refine lv_aload_n hx hb d_X9_write_0 rfl (lv_at hl 0 rfl) ?_
  refine lv_iconst (v := 0) hx hb d_X9_write_1 (by decide) ?_
  refine va_put (D := D) (ci := 7) (v := .int 0) (ty := .int) (C := RX9) (T := TX9) (N := 28) hx hb hg cu_iX9 tyX9 tyX9_ok nmX9 hown hK.1 hP hD hS 0 rfl rfl 0 (by decide) (hg _ k_684) (fun _ h9 => h9) rfl (by decide +kernel) rfl rfl (Nat.le_of_ble_eq_true rfl) d_X9_write_2 (fun H locs hP hD hS => ?_)
  have hP : va_P D vwCl [(o, .inr (7, [.int 0, .ref m1, .int 0, .int 0, .int 0, .int 0, .int 0, .ref m2, .ref m3, .ref m4, .ref m5, .int 0, .ref m6, .ref m7, .int 0, .ref m8, .ref m9, .long 0, .ref m10, .ref m11, .ref m12, .int 0, .int 0, .int 0, .int 0, .ref m13, .int 0, .ref m14])), (m1, .inl (cI, 130, .inl (fun _ => 0)))] H := hP
  have hD : va_D A [(o, .inr (7, [.int 0, .ref m1, .int 0, .int 0, .int 0, .int 0, .int 0, .ref m2, .ref m3, .ref m4, .ref m5, .int 0, .ref m6, .ref m7, .int 0, .ref m8, .ref m9, .long 0, .ref m10, .ref m11, .ref m12, .int 0, .int 0, .int 0, .int 0, .ref m13, .int 0, .ref m14])), (m1, .inl (cI, 130, .inl (fun _ => 0)))] := hD
  refine lv_iload_n hx hb d_X9_write_5 rfl (lv_at hl 1 rfl) ?_
  refine lv_i2l (v := c1.toInt64) hx hb d_X9_write_6 rfl ?_
  refine lv_lconst (v := 0) hx hb d_X9_write_7 (by decide) ?_
  refine lv_ldc2 (v := 255) hx hb hown (hg _ k_773) d_X9_write_8 ?_
  refine cu_SR (wc := []) (rest := []) [.long c1.toInt64, .long 0, .long 255] ⟨hx, hb, hml, hown, hg⟩ (c_X9_in l D cI cZ cQ c1.toInt64 0 255) hd_X9_in k_776 k_774 k_775 k_49 ⟨Nat.le_of_ble_eq_true rfl, Nat.le_of_ble_eq_true rfl⟩ ⟨Nat.le_of_ble_eq_true rfl, Nat.le_of_ble_eq_true rfl⟩ hP hK [] rfl rfl hl.1 rfl (Nat.le_of_ble_eq_true rfl) d_X9_write_11 (fun r_1 hr_2 => ?_)
  replace hr_2 : r_1 = cu_i32 c1 0 255 := by rw [hr_2]; exact cu_inI (by decide) (by decide)
  subst hr_2
  by_cases hc_3 : c1 < 0
  · skip
    refine cu_topi (y := 0) (by unfold cu_i32; rw [if_pos hc_3]) ?_
    refine lv_if_ne (tgt := 20) hx hb d_X9_write_14 (by decide) (fun c_4 => absurd (by decide +kernel) c_4) (fun _ => ?_)
    refine lv_bipush (v := (-2)) hx hb d_X9_write_17 (by decide) ?_
    exact hret _ _ _ _ [] _ _ _ (hP.sub (ws' := []) [] rfl) (hD.sub (ws' := []) [] (by decide) rfl) hS (Nat.le_of_ble_eq_true rfl) (Nat.le_of_ble_eq_true rfl) d_X9_write_19 (rfl) ⟨by unfold cu_swr; rw [if_pos hc_3], rfl⟩
  · skip
    by_cases hc_5 : 255 < c1
    · skip
      refine cu_topi (y := 0) (by unfold cu_i32; rw [if_neg hc_3, if_pos hc_5]) ?_
      refine lv_if_ne (tgt := 20) hx hb d_X9_write_14 (by decide) (fun c_6 => absurd (by decide +kernel) c_6) (fun _ => ?_)
      refine lv_bipush (v := (-2)) hx hb d_X9_write_17 (by decide) ?_
      exact hret _ _ _ _ [] _ _ _ (hP.sub (ws' := []) [] rfl) (hD.sub (ws' := []) [] (by decide) rfl) hS (Nat.le_of_ble_eq_true rfl) (Nat.le_of_ble_eq_true rfl) d_X9_write_19 (rfl) ⟨by unfold cu_swr; rw [if_neg hc_3, if_pos hc_5], rfl⟩
    · skip
      refine cu_topi (y := 1) (by unfold cu_i32; rw [if_neg hc_3, if_neg hc_5]) ?_
      refine lv_if_ne (tgt := 20) hx hb d_X9_write_14 (by decide) (fun _ => ?_) (fun c_7 => absurd c_7 (by decide +kernel))
      refine lv_aload_n hx hb d_X9_write_20 rfl (lv_at hl 0 rfl) ?_
      refine va_get (D := D) (ci := 7) (v := .int 0) (C := RX9) (T := TX9) (N := 28) hx hb hg cu_iX9 hown hK.1 hP 0 rfl rfl 2 (by decide) (hg _ k_686) (fun _ h9 => h9) rfl d_X9_write_21 ?_
      refine lv_sipush (v := 130) hx hb d_X9_write_24 (by decide) ?_
      refine lv_icmp_ne (tgt := 33) hx hb d_X9_write_27 (by decide) (fun _ => ?_) (fun c_8 => absurd c_8 (by decide +kernel))
      refine lv_aload_n hx hb d_X9_write_33 rfl (lv_at hl 0 rfl) ?_
      refine va_get (D := D) (ci := 7) (v := .ref m1) (C := RX9) (T := TX9) (N := 28) hx hb hg cu_iX9 hown hK.1 hP 0 rfl rfl 1 (by decide) (hg _ k_685) (fun _ h9 => h9) rfl d_X9_write_34 ?_
      refine lv_aload_n hx hb d_X9_write_37 rfl (lv_at hl 0 rfl) ?_
      refine va_get (D := D) (ci := 7) (v := .int 0) (C := RX9) (T := TX9) (N := 28) hx hb hg cu_iX9 hown hK.1 hP 0 rfl rfl 2 (by decide) (hg _ k_686) (fun _ h9 => h9) rfl d_X9_write_38 ?_
      refine lv_iload_n hx hb d_X9_write_41 rfl (lv_at hl 1 rfl) ?_
      refine va_iast hx hb hK.1 hP hD hS 1 0 rfl rfl (vp_in_nI (n := 0) (N := 130) (Nat.le_of_ble_eq_true rfl) (by decide)) d_X9_write_42 (fun H locs hP hD hS => ?_)
      have hP : va_P D vwCl [(o, .inr (7, [.int 0, .ref m1, .int 0, .int 0, .int 0, .int 0, .int 0, .ref m2, .ref m3, .ref m4, .ref m5, .int 0, .ref m6, .ref m7, .int 0, .ref m8, .ref m9, .long 0, .ref m10, .ref m11, .ref m12, .int 0, .int 0, .int 0, .int 0, .ref m13, .int 0, .ref m14])), (m1, .inl (cI, 130, .inl (upd (fun _ => 0) 0 (c1 : Int32))))] H := hP
      have hD : va_D A [(o, .inr (7, [.int 0, .ref m1, .int 0, .int 0, .int 0, .int 0, .int 0, .ref m2, .ref m3, .ref m4, .ref m5, .int 0, .ref m6, .ref m7, .int 0, .ref m8, .ref m9, .long 0, .ref m10, .ref m11, .ref m12, .int 0, .int 0, .int 0, .int 0, .ref m13, .int 0, .ref m14])), (m1, .inl (cI, 130, .inl (upd (fun _ => 0) 0 (c1 : Int32))))] := hD
      refine lv_aload_n hx hb d_X9_write_43 rfl (lv_at hl 0 rfl) ?_
      refine lv_dup hx hb d_X9_write_44 rfl ?_
      refine va_get (D := D) (ci := 7) (v := .int 0) (C := RX9) (T := TX9) (N := 28) hx hb hg cu_iX9 hown hK.1 hP 0 rfl rfl 2 (by decide) (hg _ k_686) (fun _ h9 => h9) rfl d_X9_write_45 ?_
      refine lv_iconst (v := 1) hx hb d_X9_write_48 (by decide) ?_
      refine lv_iadd hx hb d_X9_write_49 ?_
      refine cu_topi (y := 1) (by decide +kernel) ?_
      refine va_put (D := D) (ci := 7) (v := .int 1) (ty := .int) (C := RX9) (T := TX9) (N := 28) hx hb hg cu_iX9 tyX9 tyX9_ok nmX9 hown hK.1 hP hD hS 0 rfl rfl 2 (by decide) (hg _ k_686) (fun _ h9 => h9) rfl (by decide +kernel) rfl rfl (Nat.le_of_ble_eq_true rfl) d_X9_write_50 (fun H locs hP hD hS => ?_)
      have hP : va_P D vwCl [(o, .inr (7, [.int 0, .ref m1, .int 1, .int 0, .int 0, .int 0, .int 0, .ref m2, .ref m3, .ref m4, .ref m5, .int 0, .ref m6, .ref m7, .int 0, .ref m8, .ref m9, .long 0, .ref m10, .ref m11, .ref m12, .int 0, .int 0, .int 0, .int 0, .ref m13, .int 0, .ref m14])), (m1, .inl (cI, 130, .inl (upd (fun _ => 0) 0 (c1 : Int32))))] H := hP
      have hD : va_D A [(o, .inr (7, [.int 0, .ref m1, .int 1, .int 0, .int 0, .int 0, .int 0, .ref m2, .ref m3, .ref m4, .ref m5, .int 0, .ref m6, .ref m7, .int 0, .ref m8, .ref m9, .long 0, .ref m10, .ref m11, .ref m12, .int 0, .int 0, .int 0, .int 0, .ref m13, .int 0, .ref m14])), (m1, .inl (cI, 130, .inl (upd (fun _ => 0) 0 (c1 : Int32))))] := hD
      refine lv_aload_n hx hb d_X9_write_53 rfl (lv_at hl 0 rfl) ?_
      refine va_get (D := D) (ci := 7) (v := .int 1) (C := RX9) (T := TX9) (N := 28) hx hb hg cu_iX9 hown hK.1 hP 0 rfl rfl 2 (by decide) (hg _ k_686) (fun _ h9 => h9) rfl d_X9_write_54 ?_
      exact hret _ _ _ _ [] _ _ _ (hP.sub (ws' := []) [] rfl) (hD.sub (ws' := []) [] (by decide) rfl) hS (Nat.le_of_ble_eq_true rfl) (Nat.le_of_ble_eq_true rfl) d_X9_write_57 (rfl) ⟨by unfold cu_swr; rw [if_neg hc_3, if_neg hc_5], rfl⟩
set_option maxHeartbeats 4000000 in
set_option maxRecDepth 100000 in
theorem c_X9_wipe (l : Launch) (D : va_G) (cI cZ cQ : ClassId) (o m1 m2 m3 m4 m5 m6 m7 m8 m9 m10 m11 m12 m13 m14 : Nat) : cu_W l D (cu_TY cI cZ cQ) yX9_wipe cX9_wipe 2 .int 0 0 0 0 [.ref o] [(o, .inr (7, [.int 0, .ref m1, .int 0, .int 0, .int 0, .int 0, .int 0, .ref m2, .ref m3, .ref m4, .ref m5, .int 0, .ref m6, .ref m7, .int 0, .ref m8, .ref m9, .long 0, .ref m10, .ref m11, .ref m12, .int 0, .int 0, .int 0, .int 0, .ref m13, .int 0, .ref m14]))] (fun r ww => (r = 0) ∧ ww = []) := by
  refine cu_W.intro (by decide) (Nat.le_of_ble_eq_true rfl) ?_
  intro p e s m args below meth c Q ls A S hret hP hD hS hA hK hl
  obtain ⟨hx, hb, hml, hown, hg⟩ := S
  have hown : s.vm.findClass RX9 = some m.cls := hown
  have hl : lv_has ls 2 [(0, .ref o)] := hl
  refine lv_aload_n hx hb d_X9_wipe_0 rfl (lv_at hl 0 rfl) ?_
  refine lv_iconst (v := 0) hx hb d_X9_wipe_1 (by decide) ?_
  refine va_put (D := D) (ci := 7) (v := .int 0) (ty := .int) (C := RX9) (T := TX9) (N := 28) hx hb hg cu_iX9 tyX9 tyX9_ok nmX9 hown hK.1 hP hD hS 0 rfl rfl 0 (by decide) (hg _ k_684) (fun _ h9 => h9) rfl (by decide +kernel) rfl rfl (Nat.le_of_ble_eq_true rfl) d_X9_wipe_2 (fun H locs hP hD hS => ?_)
  have hP : va_P D vwCl [(o, .inr (7, [.int 0, .ref m1, .int 0, .int 0, .int 0, .int 0, .int 0, .ref m2, .ref m3, .ref m4, .ref m5, .int 0, .ref m6, .ref m7, .int 0, .ref m8, .ref m9, .long 0, .ref m10, .ref m11, .ref m12, .int 0, .int 0, .int 0, .int 0, .ref m13, .int 0, .ref m14]))] H := hP
  have hD : va_D A [(o, .inr (7, [.int 0, .ref m1, .int 0, .int 0, .int 0, .int 0, .int 0, .ref m2, .ref m3, .ref m4, .ref m5, .int 0, .ref m6, .ref m7, .int 0, .ref m8, .ref m9, .long 0, .ref m10, .ref m11, .ref m12, .int 0, .int 0, .int 0, .int 0, .ref m13, .int 0, .ref m14]))] := hD
  refine lv_aload_n hx hb d_X9_wipe_5 rfl (lv_at hl 0 rfl) ?_
  refine va_get (D := D) (ci := 7) (v := .int 0) (C := RX9) (T := TX9) (N := 28) hx hb hg cu_iX9 hown hK.1 hP 0 rfl rfl 2 (by decide) (hg _ k_686) (fun _ h9 => h9) rfl d_X9_wipe_6 ?_
  refine lv_istore_n (lv' := [(1, .int 0), (0, .ref o)]) hx hb d_X9_wipe_9 rfl hl (by decide) rfl (fun ls hl => ?_)
  refine lv_aload_n hx hb d_X9_wipe_10 rfl (lv_at hl 1 rfl) ?_
  refine lv_iconst (v := 0) hx hb d_X9_wipe_11 (by decide) ?_
  refine va_put (D := D) (ci := 7) (v := .int 0) (ty := .int) (C := RX9) (T := TX9) (N := 28) hx hb hg cu_iX9 tyX9 tyX9_ok nmX9 hown hK.1 hP hD hS 0 rfl rfl 2 (by decide) (hg _ k_686) (fun _ h9 => h9) rfl (by decide +kernel) rfl rfl (Nat.le_of_ble_eq_true rfl) d_X9_wipe_12 (fun H locs hP hD hS => ?_)
  have hP : va_P D vwCl [(o, .inr (7, [.int 0, .ref m1, .int 0, .int 0, .int 0, .int 0, .int 0, .ref m2, .ref m3, .ref m4, .ref m5, .int 0, .ref m6, .ref m7, .int 0, .ref m8, .ref m9, .long 0, .ref m10, .ref m11, .ref m12, .int 0, .int 0, .int 0, .int 0, .ref m13, .int 0, .ref m14]))] H := hP
  have hD : va_D A [(o, .inr (7, [.int 0, .ref m1, .int 0, .int 0, .int 0, .int 0, .int 0, .ref m2, .ref m3, .ref m4, .ref m5, .int 0, .ref m6, .ref m7, .int 0, .ref m8, .ref m9, .long 0, .ref m10, .ref m11, .ref m12, .int 0, .int 0, .int 0, .int 0, .ref m13, .int 0, .ref m14]))] := hD
  refine lv_iload_n hx hb d_X9_wipe_15 rfl (lv_at hl 0 rfl) ?_
  exact hret _ _ _ _ [] _ _ _ (hP.sub (ws' := []) [] rfl) (hD.sub (ws' := []) [] (by decide) rfl) hS (Nat.le_of_ble_eq_true rfl) (Nat.le_of_ble_eq_true rfl) d_X9_wipe_16 (rfl) ⟨rfl, rfl⟩
set_option maxHeartbeats 4000000 in
set_option maxRecDepth 100000 in
theorem c_X9_readHoard (l : Launch) (D : va_G) (cI cZ cQ : ClassId) (o m1 m2 m3 m4 m5 m6 m7 m8 m9 m10 m11 m12 m13 m14 : Nat) : cu_W l D (cu_TY cI cZ cQ) yX9_readHoard cX9_readHoard 5 .int 0 0 0 0 [.ref o] [(o, .inr (7, [.int 0, .ref m1, .int 0, .int 0, .int 0, .int 0, .int 0, .ref m2, .ref m3, .ref m4, .ref m5, .int 0, .ref m6, .ref m7, .int 0, .ref m8, .ref m9, .long 0, .ref m10, .ref m11, .ref m12, .int 0, .int 0, .int 0, .int 0, .ref m13, .int 0, .ref m14])), (m2, .inl (cI, 30, .inl (fun _ => 0)))] (fun r ww => (r = 0) ∧ ww = []) := by
  refine cu_W.intro (by decide) (Nat.le_of_ble_eq_true rfl) ?_
  intro p e s m args below meth c Q ls A S hret hP hD hS hA hK hl
  obtain ⟨hx, hb, hml, hown, hg⟩ := S
  have hown : s.vm.findClass RX9 = some m.cls := hown
  have hl : lv_has ls 5 [(0, .ref o)] := hl
  refine lv_aload_n hx hb d_X9_readHoard_0 rfl (lv_at hl 0 rfl) ?_
  refine lv_iconst (v := 0) hx hb d_X9_readHoard_1 (by decide) ?_
  refine va_put (D := D) (ci := 7) (v := .int 0) (ty := .int) (C := RX9) (T := TX9) (N := 28) hx hb hg cu_iX9 tyX9 tyX9_ok nmX9 hown hK.1 hP hD hS 0 rfl rfl 5 (by decide) (hg _ k_689) (fun _ h9 => h9) rfl (by decide +kernel) rfl rfl (Nat.le_of_ble_eq_true rfl) d_X9_readHoard_2 (fun H locs hP hD hS => ?_)
  have hP : va_P D vwCl [(o, .inr (7, [.int 0, .ref m1, .int 0, .int 0, .int 0, .int 0, .int 0, .ref m2, .ref m3, .ref m4, .ref m5, .int 0, .ref m6, .ref m7, .int 0, .ref m8, .ref m9, .long 0, .ref m10, .ref m11, .ref m12, .int 0, .int 0, .int 0, .int 0, .ref m13, .int 0, .ref m14])), (m2, .inl (cI, 30, .inl (fun _ => 0)))] H := hP
  have hD : va_D A [(o, .inr (7, [.int 0, .ref m1, .int 0, .int 0, .int 0, .int 0, .int 0, .ref m2, .ref m3, .ref m4, .ref m5, .int 0, .ref m6, .ref m7, .int 0, .ref m8, .ref m9, .long 0, .ref m10, .ref m11, .ref m12, .int 0, .int 0, .int 0, .int 0, .ref m13, .int 0, .ref m14])), (m2, .inl (cI, 30, .inl (fun _ => 0)))] := hD
  refine lv_aload_n hx hb d_X9_readHoard_5 rfl (lv_at hl 0 rfl) ?_
  refine lv_iconst (v := 0) hx hb d_X9_readHoard_6 (by decide) ?_
  refine va_put (D := D) (ci := 7) (v := .int 0) (ty := .int) (C := RX9) (T := TX9) (N := 28) hx hb hg cu_iX9 tyX9 tyX9_ok nmX9 hown hK.1 hP hD hS 0 rfl rfl 6 (by decide) (hg _ k_690) (fun _ h9 => h9) rfl (by decide +kernel) rfl rfl (Nat.le_of_ble_eq_true rfl) d_X9_readHoard_7 (fun H locs hP hD hS => ?_)
  have hP : va_P D vwCl [(o, .inr (7, [.int 0, .ref m1, .int 0, .int 0, .int 0, .int 0, .int 0, .ref m2, .ref m3, .ref m4, .ref m5, .int 0, .ref m6, .ref m7, .int 0, .ref m8, .ref m9, .long 0, .ref m10, .ref m11, .ref m12, .int 0, .int 0, .int 0, .int 0, .ref m13, .int 0, .ref m14])), (m2, .inl (cI, 30, .inl (fun _ => 0)))] H := hP
  have hD : va_D A [(o, .inr (7, [.int 0, .ref m1, .int 0, .int 0, .int 0, .int 0, .int 0, .ref m2, .ref m3, .ref m4, .ref m5, .int 0, .ref m6, .ref m7, .int 0, .ref m8, .ref m9, .long 0, .ref m10, .ref m11, .ref m12, .int 0, .int 0, .int 0, .int 0, .ref m13, .int 0, .ref m14])), (m2, .inl (cI, 30, .inl (fun _ => 0)))] := hD
  refine lv_iconst (v := 0) hx hb d_X9_readHoard_10 (by decide) ?_
  refine lv_istore_n (lv' := [(1, .int 0), (0, .ref o)]) hx hb d_X9_readHoard_11 rfl hl (by decide) rfl (fun ls hl => ?_)
  have key_1 : ∀ (n_3 j_2 : Nat) (hj_5 : j_2 + n_3 = 30)   (H : Heap) (locs : List Loc) (ls : Array Slot) (hP : va_P D vwCl [(o, .inr (7, [.int 0, .ref m1, .int 0, .int 0, .int 0, .int 0, .int 0, .ref m2, .ref m3, .ref m4, .ref m5, .int 0, .ref m6, .ref m7, .int 0, .ref m8, .ref m9, .long 0, .ref m10, .ref m11, .ref m12, .int 0, .int 0, .int 0, .int 0, .ref m13, .int 0, .ref m14])), (m2, .inl (cI, 30, .inl (fun _ => 0)))] H) (hD : va_D A [(o, .inr (7, [.int 0, .ref m1, .int 0, .int 0, .int 0, .int 0, .int 0, .ref m2, .ref m3, .ref m4, .ref m5, .int 0, .ref m6, .ref m7, .int 0, .ref m8, .ref m9, .long 0, .ref m10, .ref m11, .ref m12, .int 0, .int 0, .int 0, .int 0, .ref m13, .int 0, .ref m14])), (m2, .inl (cI, 30, .inl (fun _ => 0)))]) (hS : va_S A s.heap H locs) (hl : lv_has ls 5 [(1, .int (nI j_2)), (0, .ref o)]), W p l e (cu_rm 0 0 0 0) s m args below meth c H locs 0 0 Q (F0 m 12 ls []) := by
    intro n_3
    induction n_3 with
    | zero =>
      intro j_2 hj_5   H locs ls hP hD hS hl
      obtain rfl : 30 = j_2 := by omega
      have hl : lv_has ls 5 [(1, .int 30), (0, .ref o)] := hl
      have hP : va_P D vwCl [(o, .inr (7, [.int 0, .ref m1, .int 0, .int 0, .int 0, .int 0, .int 0, .ref m2, .ref m3, .ref m4, .ref m5, .int 0, .ref m6, .ref m7, .int 0, .ref m8, .ref m9, .long 0, .ref m10, .ref m11, .ref m12, .int 0, .int 0, .int 0, .int 0, .ref m13, .int 0, .ref m14])), (m2, .inl (cI, 30, .inl (fun _ => 0)))] H := hP
      have hD : va_D A [(o, .inr (7, [.int 0, .ref m1, .int 0, .int 0, .int 0, .int 0, .int 0, .ref m2, .ref m3, .ref m4, .ref m5, .int 0, .ref m6, .ref m7, .int 0, .ref m8, .ref m9, .long 0, .ref m10, .ref m11, .ref m12, .int 0, .int 0, .int 0, .int 0, .ref m13, .int 0, .ref m14])), (m2, .inl (cI, 30, .inl (fun _ => 0)))] := hD
      refine lv_iload_n hx hb d_X9_readHoard_12 rfl (lv_at hl 0 rfl) ?_
      refine lv_bipush (v := 30) hx hb d_X9_readHoard_13 (by decide) ?_
      refine lv_icmp_ge (tgt := 31) hx hb d_X9_readHoard_15 (by decide) (fun _ => ?_) (fun c_6 => absurd (by decide +kernel) c_6)
      refine lv_aload_n hx hb d_X9_readHoard_31 rfl (lv_at hl 1 rfl) ?_
      refine va_get (D := D) (ci := 7) (v := .int 0) (C := RX9) (T := TX9) (N := 28) hx hb hg cu_iX9 hown hK.1 hP 0 rfl rfl 2 (by decide) (hg _ k_686) (fun _ h9 => h9) rfl d_X9_readHoard_32 ?_
      refine lv_if_eq (tgt := 49) hx hb d_X9_readHoard_35 (by decide) (fun _ => ?_) (fun c_7 => absurd (by decide +kernel) c_7)
      refine lv_iconst (v := 0) hx hb d_X9_readHoard_49 (by decide) ?_
      exact hret _ _ _ _ [] _ _ _ (hP.sub (ws' := []) [] rfl) (hD.sub (ws' := []) [] (by decide) rfl) hS (Nat.le_of_ble_eq_true rfl) (Nat.le_of_ble_eq_true rfl) d_X9_readHoard_50 (rfl) ⟨rfl, rfl⟩
    | succ n_3 ih_4 =>
      intro j_2 hj_5   H locs ls hP hD hS hl
      refine lv_iload_n hx hb d_X9_readHoard_12 rfl (lv_at hl 0 rfl) ?_
      refine lv_bipush (v := 30) hx hb d_X9_readHoard_13 (by decide) ?_
      refine lv_icmp_ge (tgt := 31) hx hb d_X9_readHoard_15 (by decide) (fun c_8 => absurd c_8 (mt (nI_leI (a := 30) (b := j_2) (by omega) (by omega)).mp (by omega))) (fun _ => ?_)
      refine lv_aload_n hx hb d_X9_readHoard_18 rfl (lv_at hl 1 rfl) ?_
      refine va_get (D := D) (ci := 7) (v := .ref m2) (C := RX9) (T := TX9) (N := 28) hx hb hg cu_iX9 hown hK.1 hP 0 rfl rfl 7 (by decide) (hg _ k_691) (fun _ h9 => h9) rfl d_X9_readHoard_19 ?_
      refine lv_iload_n hx hb d_X9_readHoard_22 rfl (lv_at hl 0 rfl) ?_
      refine lv_iconst (v := 0) hx hb d_X9_readHoard_23 (by decide) ?_
      refine va_iast hx hb hK.1 hP hD hS 1 0 rfl rfl (vp_in_nI (by omega) (by decide)) d_X9_readHoard_24 (fun H locs hP hD hS => ?_)
      have hP : va_P D vwCl [(o, .inr (7, [.int 0, .ref m1, .int 0, .int 0, .int 0, .int 0, .int 0, .ref m2, .ref m3, .ref m4, .ref m5, .int 0, .ref m6, .ref m7, .int 0, .ref m8, .ref m9, .long 0, .ref m10, .ref m11, .ref m12, .int 0, .int 0, .int 0, .int 0, .ref m13, .int 0, .ref m14])), (m2, .inl (cI, 30, .inl (fun _ => 0)))] H := by rw [cu_updZ] at hP; exact hP
      have hD : va_D A [(o, .inr (7, [.int 0, .ref m1, .int 0, .int 0, .int 0, .int 0, .int 0, .ref m2, .ref m3, .ref m4, .ref m5, .int 0, .ref m6, .ref m7, .int 0, .ref m8, .ref m9, .long 0, .ref m10, .ref m11, .ref m12, .int 0, .int 0, .int 0, .int 0, .ref m13, .int 0, .ref m14])), (m2, .inl (cI, 30, .inl (fun _ => 0)))] := by rw [cu_updZ] at hD; exact hD
      refine lv_iinc (v := nI (j_2 + 1)) (lv' := [(1, .int (nI (j_2 + 1))), (0, .ref o)]) hx hb d_X9_readHoard_25 hl (k := 0) rfl (nI_1 j_2) (by decide) rfl (fun ls hl => ?_)
      refine lv_goto (tgt := 12) hx hb d_X9_readHoard_28 (by decide) ?_
      exact ih_4 (j_2 + 1) (by first | rfl | omega)   _ _ _ hP hD hS (lv_sub hl [0, 1] rfl)
  exact key_1 30 0 (by first | rfl | omega)   _ _ _ hP hD hS (lv_sub hl [0, 1] rfl)
set_option maxHeartbeats 4000000 in
set_option maxRecDepth 100000 in
theorem c_X9_fault (l : Launch) (D : va_G) (cI cZ cQ : ClassId) (o m1 m2 m3 m4 m5 m6 m7 m8 m9 m10 m11 m12 m13 m14 : Nat) : cu_W l D (cu_TY cI cZ cQ) yX9_fault cX9_fault 1 .int 1 24 0 0 [.ref o] [(o, .inr (7, [.int 0, .ref m1, .int 0, .int 0, .int 0, .int 0, .int 0, .ref m2, .ref m3, .ref m4, .ref m5, .int 0, .ref m6, .ref m7, .int 0, .ref m8, .ref m9, .long 0, .ref m10, .ref m11, .ref m12, .int 0, .int 0, .int 0, .int 0, .ref m13, .int 0, .ref m14])), (m2, .inl (cI, 30, .inl (fun _ => 0)))] (fun r ww => (r = 0) ∧ ww = []) := by
  refine cu_W.intro (by decide) (Nat.le_of_ble_eq_true rfl) ?_
  intro p e s m args below meth c Q ls A S hret hP hD hS hA hK hl
  obtain ⟨hx, hb, hml, hown, hg⟩ := S
  have hown : s.vm.findClass RX9 = some m.cls := hown
  have hl : lv_has ls 1 [(0, .ref o)] := hl
  refine lv_aload_n hx hb d_X9_fault_0 rfl (lv_at hl 0 rfl) ?_
  refine lv_iconst (v := 0) hx hb d_X9_fault_1 (by decide) ?_
  refine va_put (D := D) (ci := 7) (v := .int 0) (ty := .int) (C := RX9) (T := TX9) (N := 28) hx hb hg cu_iX9 tyX9 tyX9_ok nmX9 hown hK.1 hP hD hS 0 rfl rfl 0 (by decide) (hg _ k_684) (fun _ h9 => h9) rfl (by decide +kernel) rfl rfl (Nat.le_of_ble_eq_true rfl) d_X9_fault_2 (fun H locs hP hD hS => ?_)
  have hP : va_P D vwCl [(o, .inr (7, [.int 0, .ref m1, .int 0, .int 0, .int 0, .int 0, .int 0, .ref m2, .ref m3, .ref m4, .ref m5, .int 0, .ref m6, .ref m7, .int 0, .ref m8, .ref m9, .long 0, .ref m10, .ref m11, .ref m12, .int 0, .int 0, .int 0, .int 0, .ref m13, .int 0, .ref m14])), (m2, .inl (cI, 30, .inl (fun _ => 0)))] H := hP
  have hD : va_D A [(o, .inr (7, [.int 0, .ref m1, .int 0, .int 0, .int 0, .int 0, .int 0, .ref m2, .ref m3, .ref m4, .ref m5, .int 0, .ref m6, .ref m7, .int 0, .ref m8, .ref m9, .long 0, .ref m10, .ref m11, .ref m12, .int 0, .int 0, .int 0, .int 0, .ref m13, .int 0, .ref m14])), (m2, .inl (cI, 30, .inl (fun _ => 0)))] := hD
  refine lv_aload_n hx hb d_X9_fault_5 rfl (lv_at hl 0 rfl) ?_
  refine cu_VW (wc := [(o, .inr (7, [.int 0, .ref m1, .int 0, .int 0, .int 0, .int 0, .int 0, .ref m2, .ref m3, .ref m4, .ref m5, .int 0, .ref m6, .ref m7, .int 0, .ref m8, .ref m9, .long 0, .ref m10, .ref m11, .ref m12, .int 0, .int 0, .int 0, .int 0, .ref m13, .int 0, .ref m14])), (m2, .inl (cI, 30, .inl (fun _ => 0)))]) (wr := []) (rest := []) [] ⟨hx, hb, hml, hown, hg⟩ (c_X9_readHoard l D cI cZ cQ o m1 m2 m3 m4 m5 m6 m7 m8 m9 m10 m11 m12 m13 m14) hd_X9_readHoard k_788 k_785 k_787 k_20 k_49 ⟨Nat.le_of_ble_eq_true rfl, Nat.le_of_ble_eq_true rfl⟩ ⟨Nat.le_of_ble_eq_true rfl, Nat.le_of_ble_eq_true rfl⟩ hP hD hS hA hK [0, 1] [] rfl rfl (by decide) (by decide) (by decide) 0 rfl rfl rfl hl.1 rfl (Nat.le_of_ble_eq_true rfl) d_X9_fault_6 (fun r_1 w_3 H locs hw_2 hP hD hS => ?_)
  obtain ⟨hr_4, rfl⟩ := hw_2
  subst hr_4
  have hP : va_P D vwCl [] H := hP
  have hD : va_D A [] := hD
  exact hret _ _ _ _ [] _ _ _ (hP.sub (ws' := []) [] rfl) (hD.sub (ws' := []) [] (by decide) rfl) hS (Nat.le_of_ble_eq_true rfl) (Nat.le_of_ble_eq_true rfl) d_X9_fault_9 (rfl) ⟨rfl, rfl⟩
set_option maxHeartbeats 4000000 in
set_option maxRecDepth 100000 in
theorem c_X9_hoard (l : Launch) (D : va_G) (cI cZ cQ : ClassId) (o m1 m2 m3 m4 m5 m6 m7 m8 m9 m10 m11 m12 m13 m14 : Nat) : cu_W l D (cu_TY cI cZ cQ) yX9_hoard cX9_hoard 1 .int 1 24 0 0 [.ref o] [(o, .inr (7, [.int 0, .ref m1, .int 0, .int 0, .int 0, .int 0, .int 0, .ref m2, .ref m3, .ref m4, .ref m5, .int 0, .ref m6, .ref m7, .int 0, .ref m8, .ref m9, .long 0, .ref m10, .ref m11, .ref m12, .int 0, .int 0, .int 0, .int 0, .ref m13, .int 0, .ref m14])), (m2, .inl (cI, 30, .inl (fun _ => 0)))] (fun r ww => (r = (-3)) ∧ ww = []) := by
  refine cu_W.intro (by decide) (Nat.le_of_ble_eq_true rfl) ?_
  intro p e s m args below meth c Q ls A S hret hP hD hS hA hK hl
  obtain ⟨hx, hb, hml, hown, hg⟩ := S
  have hown : s.vm.findClass RX9 = some m.cls := hown
  have hl : lv_has ls 1 [(0, .ref o)] := hl
  refine lv_aload_n hx hb d_X9_hoard_0 rfl (lv_at hl 0 rfl) ?_
  refine lv_iconst (v := 0) hx hb d_X9_hoard_1 (by decide) ?_
  refine va_put (D := D) (ci := 7) (v := .int 0) (ty := .int) (C := RX9) (T := TX9) (N := 28) hx hb hg cu_iX9 tyX9 tyX9_ok nmX9 hown hK.1 hP hD hS 0 rfl rfl 0 (by decide) (hg _ k_684) (fun _ h9 => h9) rfl (by decide +kernel) rfl rfl (Nat.le_of_ble_eq_true rfl) d_X9_hoard_2 (fun H locs hP hD hS => ?_)
  have hP : va_P D vwCl [(o, .inr (7, [.int 0, .ref m1, .int 0, .int 0, .int 0, .int 0, .int 0, .ref m2, .ref m3, .ref m4, .ref m5, .int 0, .ref m6, .ref m7, .int 0, .ref m8, .ref m9, .long 0, .ref m10, .ref m11, .ref m12, .int 0, .int 0, .int 0, .int 0, .ref m13, .int 0, .ref m14])), (m2, .inl (cI, 30, .inl (fun _ => 0)))] H := hP
  have hD : va_D A [(o, .inr (7, [.int 0, .ref m1, .int 0, .int 0, .int 0, .int 0, .int 0, .ref m2, .ref m3, .ref m4, .ref m5, .int 0, .ref m6, .ref m7, .int 0, .ref m8, .ref m9, .long 0, .ref m10, .ref m11, .ref m12, .int 0, .int 0, .int 0, .int 0, .ref m13, .int 0, .ref m14])), (m2, .inl (cI, 30, .inl (fun _ => 0)))] := hD
  refine lv_aload_n hx hb d_X9_hoard_5 rfl (lv_at hl 0 rfl) ?_
  refine cu_VW (wc := [(o, .inr (7, [.int 0, .ref m1, .int 0, .int 0, .int 0, .int 0, .int 0, .ref m2, .ref m3, .ref m4, .ref m5, .int 0, .ref m6, .ref m7, .int 0, .ref m8, .ref m9, .long 0, .ref m10, .ref m11, .ref m12, .int 0, .int 0, .int 0, .int 0, .ref m13, .int 0, .ref m14])), (m2, .inl (cI, 30, .inl (fun _ => 0)))]) (wr := []) (rest := []) [] ⟨hx, hb, hml, hown, hg⟩ (c_X9_readHoard l D cI cZ cQ o m1 m2 m3 m4 m5 m6 m7 m8 m9 m10 m11 m12 m13 m14) hd_X9_readHoard k_788 k_785 k_787 k_20 k_49 ⟨Nat.le_of_ble_eq_true rfl, Nat.le_of_ble_eq_true rfl⟩ ⟨Nat.le_of_ble_eq_true rfl, Nat.le_of_ble_eq_true rfl⟩ hP hD hS hA hK [0, 1] [] rfl rfl (by decide) (by decide) (by decide) 0 rfl rfl rfl hl.1 rfl (Nat.le_of_ble_eq_true rfl) d_X9_hoard_6 (fun r_1 w_3 H locs hw_2 hP hD hS => ?_)
  obtain ⟨hr_4, rfl⟩ := hw_2
  subst hr_4
  have hP : va_P D vwCl [] H := hP
  have hD : va_D A [] := hD
  refine lv_bipush (v := (-9)) hx hb d_X9_hoard_9 (by decide) ?_
  refine lv_icmp_eq (tgt := 17) hx hb d_X9_hoard_11 (by decide) (fun c_5 => absurd c_5 (by decide +kernel)) (fun _ => ?_)
  refine lv_bipush (v := (-3)) hx hb d_X9_hoard_14 (by decide) ?_
  exact hret _ _ _ _ [] _ _ _ (hP.sub (ws' := []) [] rfl) (hD.sub (ws' := []) [] (by decide) rfl) hS (Nat.le_of_ble_eq_true rfl) (Nat.le_of_ble_eq_true rfl) d_X9_hoard_16 (rfl) ⟨rfl, rfl⟩
set_option maxHeartbeats 4000000 in
set_option maxRecDepth 100000 in
theorem c_X9_coin (l : Launch) (D : va_G) (cI cZ cQ : ClassId) (o m1 m2 m3 m4 m5 m6 m7 m8 m9 m10 m11 m12 m13 m14 : Nat) (c1 c2 : Int32) : cu_W l D (cu_TY cI cZ cQ) yX9_coin cX9_coin 3 .int 2 46 0 0 [.ref o, .int c1, .int c2] [(o, .inr (7, [.int 0, .ref m1, .int 0, .int 0, .int 0, .int 0, .int 0, .ref m2, .ref m3, .ref m4, .ref m5, .int 0, .ref m6, .ref m7, .int 0, .ref m8, .ref m9, .long 0, .ref m10, .ref m11, .ref m12, .int 0, .int 0, .int 0, .int 0, .ref m13, .int 0, .ref m14]))] (fun r ww => (r = (-1)) ∧ ww = []) := by
  refine cu_W.intro (by decide) (Nat.le_of_ble_eq_true rfl) ?_
  intro p e s m args below meth c Q ls A S hret hP hD hS hA hK hl
  obtain ⟨hx, hb, hml, hown, hg⟩ := S
  have hown : s.vm.findClass RX9 = some m.cls := hown
  have hl : lv_has ls 3 [(0, .ref o), (1, .int c1), (2, .int c2)] := hl
  refine lv_aload_n hx hb d_X9_coin_0 rfl (lv_at hl 0 rfl) ?_
  refine lv_iconst (v := 0) hx hb d_X9_coin_1 (by decide) ?_
  refine va_put (D := D) (ci := 7) (v := .int 0) (ty := .int) (C := RX9) (T := TX9) (N := 28) hx hb hg cu_iX9 tyX9 tyX9_ok nmX9 hown hK.1 hP hD hS 0 rfl rfl 0 (by decide) (hg _ k_684) (fun _ h9 => h9) rfl (by decide +kernel) rfl rfl (Nat.le_of_ble_eq_true rfl) d_X9_coin_2 (fun H locs hP hD hS => ?_)
  have hP : va_P D vwCl [(o, .inr (7, [.int 0, .ref m1, .int 0, .int 0, .int 0, .int 0, .int 0, .ref m2, .ref m3, .ref m4, .ref m5, .int 0, .ref m6, .ref m7, .int 0, .ref m8, .ref m9, .long 0, .ref m10, .ref m11, .ref m12, .int 0, .int 0, .int 0, .int 0, .ref m13, .int 0, .ref m14]))] H := hP
  have hD : va_D A [(o, .inr (7, [.int 0, .ref m1, .int 0, .int 0, .int 0, .int 0, .int 0, .ref m2, .ref m3, .ref m4, .ref m5, .int 0, .ref m6, .ref m7, .int 0, .ref m8, .ref m9, .long 0, .ref m10, .ref m11, .ref m12, .int 0, .int 0, .int 0, .int 0, .ref m13, .int 0, .ref m14]))] := hD
  refine lv_aload_n hx hb d_X9_coin_5 rfl (lv_at hl 0 rfl) ?_
  refine lv_iload_n hx hb d_X9_coin_6 rfl (lv_at hl 1 rfl) ?_
  refine cu_VR (wc := [(o, .inr (7, [.int 0, .ref m1, .int 0, .int 0, .int 0, .int 0, .int 0, .ref m2, .ref m3, .ref m4, .ref m5, .int 0, .ref m6, .ref m7, .int 0, .ref m8, .ref m9, .long 0, .ref m10, .ref m11, .ref m12, .int 0, .int 0, .int 0, .int 0, .ref m13, .int 0, .ref m14]))]) (rest := []) [.int c1] ⟨hx, hb, hml, hown, hg⟩ (c_X9_noCoin l D cI cZ cQ o m1 m2 m3 m4 m5 m6 m7 m8 m9 m10 m11 m12 m13 m14 c1) hd_X9_noCoin k_815 k_812 k_814 k_24 k_49 ⟨Nat.le_of_ble_eq_true rfl, Nat.le_of_ble_eq_true rfl⟩ ⟨Nat.le_of_ble_eq_true rfl, Nat.le_of_ble_eq_true rfl⟩ hP hK [0] rfl 0 rfl rfl rfl hl.1 rfl (Nat.le_of_ble_eq_true rfl) d_X9_coin_7 (fun r_1 hr_2 => ?_)
  subst hr_2
  refine lv_if_eq (tgt := 15) hx hb d_X9_coin_10 (by decide) (fun c_3 => absurd c_3 (by decide +kernel)) (fun _ => ?_)
  refine lv_iconst (v := (-1)) hx hb d_X9_coin_13 (by decide) ?_
  exact hret _ _ _ _ [] _ _ _ (hP.sub (ws' := []) [] rfl) (hD.sub (ws' := []) [] (by decide) rfl) hS (Nat.le_of_ble_eq_true rfl) (Nat.le_of_ble_eq_true rfl) d_X9_coin_14 (rfl) ⟨rfl, rfl⟩
set_option maxHeartbeats 4000000 in
set_option maxRecDepth 100000 in
theorem c_X9_mint (l : Launch) (D : va_G) (cI cZ cQ : ClassId) (o m1 m2 m3 m4 m5 m6 m7 m8 m9 m10 m11 m12 m13 m14 : Nat) (c1 c2 : Int32) : cu_W l D (cu_TY cI cZ cQ) yX9_mint cX9_mint 7 .int 2 46 0 0 [.ref o, .int c1, .int c2] [(o, .inr (7, [.int 0, .ref m1, .int 0, .int 0, .int 0, .int 0, .int 0, .ref m2, .ref m3, .ref m4, .ref m5, .int 0, .ref m6, .ref m7, .int 0, .ref m8, .ref m9, .long 0, .ref m10, .ref m11, .ref m12, .int 0, .int 0, .int 0, .int 0, .ref m13, .int 0, .ref m14]))] (fun r ww => (r = (-1)) ∧ ww = []) := by
  refine cu_W.intro (by decide) (Nat.le_of_ble_eq_true rfl) ?_
  intro p e s m args below meth c Q ls A S hret hP hD hS hA hK hl
  obtain ⟨hx, hb, hml, hown, hg⟩ := S
  have hown : s.vm.findClass RX9 = some m.cls := hown
  have hl : lv_has ls 7 [(0, .ref o), (1, .int c1), (2, .int c2)] := hl
  refine lv_aload_n hx hb d_X9_mint_0 rfl (lv_at hl 0 rfl) ?_
  refine lv_iconst (v := 0) hx hb d_X9_mint_1 (by decide) ?_
  refine va_put (D := D) (ci := 7) (v := .int 0) (ty := .int) (C := RX9) (T := TX9) (N := 28) hx hb hg cu_iX9 tyX9 tyX9_ok nmX9 hown hK.1 hP hD hS 0 rfl rfl 0 (by decide) (hg _ k_684) (fun _ h9 => h9) rfl (by decide +kernel) rfl rfl (Nat.le_of_ble_eq_true rfl) d_X9_mint_2 (fun H locs hP hD hS => ?_)
  have hP : va_P D vwCl [(o, .inr (7, [.int 0, .ref m1, .int 0, .int 0, .int 0, .int 0, .int 0, .ref m2, .ref m3, .ref m4, .ref m5, .int 0, .ref m6, .ref m7, .int 0, .ref m8, .ref m9, .long 0, .ref m10, .ref m11, .ref m12, .int 0, .int 0, .int 0, .int 0, .ref m13, .int 0, .ref m14]))] H := hP
  have hD : va_D A [(o, .inr (7, [.int 0, .ref m1, .int 0, .int 0, .int 0, .int 0, .int 0, .ref m2, .ref m3, .ref m4, .ref m5, .int 0, .ref m6, .ref m7, .int 0, .ref m8, .ref m9, .long 0, .ref m10, .ref m11, .ref m12, .int 0, .int 0, .int 0, .int 0, .ref m13, .int 0, .ref m14]))] := hD
  refine lv_aload_n hx hb d_X9_mint_5 rfl (lv_at hl 0 rfl) ?_
  refine lv_iload_n hx hb d_X9_mint_6 rfl (lv_at hl 1 rfl) ?_
  refine cu_VR (wc := [(o, .inr (7, [.int 0, .ref m1, .int 0, .int 0, .int 0, .int 0, .int 0, .ref m2, .ref m3, .ref m4, .ref m5, .int 0, .ref m6, .ref m7, .int 0, .ref m8, .ref m9, .long 0, .ref m10, .ref m11, .ref m12, .int 0, .int 0, .int 0, .int 0, .ref m13, .int 0, .ref m14]))]) (rest := []) [.int c1] ⟨hx, hb, hml, hown, hg⟩ (c_X9_noMint l D cI cZ cQ o m1 m2 m3 m4 m5 m6 m7 m8 m9 m10 m11 m12 m13 m14 c1) hd_X9_noMint k_844 k_841 k_843 k_28 k_49 ⟨Nat.le_of_ble_eq_true rfl, Nat.le_of_ble_eq_true rfl⟩ ⟨Nat.le_of_ble_eq_true rfl, Nat.le_of_ble_eq_true rfl⟩ hP hK [0] rfl 0 rfl rfl rfl hl.1 rfl (Nat.le_of_ble_eq_true rfl) d_X9_mint_7 (fun r_1 hr_2 => ?_)
  subst hr_2
  refine lv_if_eq (tgt := 15) hx hb d_X9_mint_10 (by decide) (fun c_3 => absurd c_3 (by decide +kernel)) (fun _ => ?_)
  refine lv_iconst (v := (-1)) hx hb d_X9_mint_13 (by decide) ?_
  exact hret _ _ _ _ [] _ _ _ (hP.sub (ws' := []) [] rfl) (hD.sub (ws' := []) [] (by decide) rfl) hS (Nat.le_of_ble_eq_true rfl) (Nat.le_of_ble_eq_true rfl) d_X9_mint_14 (rfl) ⟨rfl, rfl⟩
set_option maxHeartbeats 4000000 in
set_option maxRecDepth 100000 in
theorem c_X9_clean (l : Launch) (D : va_G) (cI cZ cQ : ClassId) (o m1 m2 m3 m4 m5 m6 m7 m8 m9 m10 m11 m12 m13 m14 : Nat) (c1 c2 : Int32) : cu_W l D (cu_TY cI cZ cQ) yX9_clean cX9_clean 3 .int 2 46 0 0 [.ref o, .int c1, .int c2] [(o, .inr (7, [.int 0, .ref m1, .int 0, .int 0, .int 0, .int 0, .int 0, .ref m2, .ref m3, .ref m4, .ref m5, .int 0, .ref m6, .ref m7, .int 0, .ref m8, .ref m9, .long 0, .ref m10, .ref m11, .ref m12, .int 0, .int 0, .int 0, .int 0, .ref m13, .int 0, .ref m14]))] (fun r ww => (r = (-1)) ∧ ww = []) := by
  refine cu_W.intro (by decide) (Nat.le_of_ble_eq_true rfl) ?_
  intro p e s m args below meth c Q ls A S hret hP hD hS hA hK hl
  obtain ⟨hx, hb, hml, hown, hg⟩ := S
  have hown : s.vm.findClass RX9 = some m.cls := hown
  have hl : lv_has ls 3 [(0, .ref o), (1, .int c1), (2, .int c2)] := hl
  refine lv_aload_n hx hb d_X9_clean_0 rfl (lv_at hl 0 rfl) ?_
  refine lv_iconst (v := 0) hx hb d_X9_clean_1 (by decide) ?_
  refine va_put (D := D) (ci := 7) (v := .int 0) (ty := .int) (C := RX9) (T := TX9) (N := 28) hx hb hg cu_iX9 tyX9 tyX9_ok nmX9 hown hK.1 hP hD hS 0 rfl rfl 0 (by decide) (hg _ k_684) (fun _ h9 => h9) rfl (by decide +kernel) rfl rfl (Nat.le_of_ble_eq_true rfl) d_X9_clean_2 (fun H locs hP hD hS => ?_)
  have hP : va_P D vwCl [(o, .inr (7, [.int 0, .ref m1, .int 0, .int 0, .int 0, .int 0, .int 0, .ref m2, .ref m3, .ref m4, .ref m5, .int 0, .ref m6, .ref m7, .int 0, .ref m8, .ref m9, .long 0, .ref m10, .ref m11, .ref m12, .int 0, .int 0, .int 0, .int 0, .ref m13, .int 0, .ref m14]))] H := hP
  have hD : va_D A [(o, .inr (7, [.int 0, .ref m1, .int 0, .int 0, .int 0, .int 0, .int 0, .ref m2, .ref m3, .ref m4, .ref m5, .int 0, .ref m6, .ref m7, .int 0, .ref m8, .ref m9, .long 0, .ref m10, .ref m11, .ref m12, .int 0, .int 0, .int 0, .int 0, .ref m13, .int 0, .ref m14]))] := hD
  refine lv_aload_n hx hb d_X9_clean_5 rfl (lv_at hl 0 rfl) ?_
  refine lv_iload_n hx hb d_X9_clean_6 rfl (lv_at hl 1 rfl) ?_
  refine cu_VR (wc := [(o, .inr (7, [.int 0, .ref m1, .int 0, .int 0, .int 0, .int 0, .int 0, .ref m2, .ref m3, .ref m4, .ref m5, .int 0, .ref m6, .ref m7, .int 0, .ref m8, .ref m9, .long 0, .ref m10, .ref m11, .ref m12, .int 0, .int 0, .int 0, .int 0, .ref m13, .int 0, .ref m14]))]) (rest := []) [.int c1] ⟨hx, hb, hml, hown, hg⟩ (c_X9_noCoin l D cI cZ cQ o m1 m2 m3 m4 m5 m6 m7 m8 m9 m10 m11 m12 m13 m14 c1) hd_X9_noCoin k_815 k_812 k_814 k_24 k_49 ⟨Nat.le_of_ble_eq_true rfl, Nat.le_of_ble_eq_true rfl⟩ ⟨Nat.le_of_ble_eq_true rfl, Nat.le_of_ble_eq_true rfl⟩ hP hK [0] rfl 0 rfl rfl rfl hl.1 rfl (Nat.le_of_ble_eq_true rfl) d_X9_clean_7 (fun r_1 hr_2 => ?_)
  subst hr_2
  refine lv_if_eq (tgt := 15) hx hb d_X9_clean_10 (by decide) (fun c_3 => absurd c_3 (by decide +kernel)) (fun _ => ?_)
  refine lv_iconst (v := (-1)) hx hb d_X9_clean_13 (by decide) ?_
  exact hret _ _ _ _ [] _ _ _ (hP.sub (ws' := []) [] rfl) (hD.sub (ws' := []) [] (by decide) rfl) hS (Nat.le_of_ble_eq_true rfl) (Nat.le_of_ble_eq_true rfl) d_X9_clean_14 (rfl) ⟨rfl, rfl⟩
set_option maxHeartbeats 4000000 in
set_option maxRecDepth 100000 in
theorem c_X9_date (l : Launch) (D : va_G) (cI cZ cQ : ClassId) (o m1 m2 m3 m4 m5 m6 m7 m8 m9 m10 m11 m12 m13 m14 : Nat) (c1 c2 : Int32) : cu_W l D (cu_TY cI cZ cQ) yX9_date cX9_date 3 .int 2 46 0 0 [.ref o, .int c1, .int c2] [(o, .inr (7, [.int 0, .ref m1, .int 0, .int 0, .int 0, .int 0, .int 0, .ref m2, .ref m3, .ref m4, .ref m5, .int 0, .ref m6, .ref m7, .int 0, .ref m8, .ref m9, .long 0, .ref m10, .ref m11, .ref m12, .int 0, .int 0, .int 0, .int 0, .ref m13, .int 0, .ref m14]))] (fun r ww => (r = (-1)) ∧ ww = []) := by
  refine cu_W.intro (by decide) (Nat.le_of_ble_eq_true rfl) ?_
  intro p e s m args below meth c Q ls A S hret hP hD hS hA hK hl
  obtain ⟨hx, hb, hml, hown, hg⟩ := S
  have hown : s.vm.findClass RX9 = some m.cls := hown
  have hl : lv_has ls 3 [(0, .ref o), (1, .int c1), (2, .int c2)] := hl
  refine lv_aload_n hx hb d_X9_date_0 rfl (lv_at hl 0 rfl) ?_
  refine lv_iconst (v := 0) hx hb d_X9_date_1 (by decide) ?_
  refine va_put (D := D) (ci := 7) (v := .int 0) (ty := .int) (C := RX9) (T := TX9) (N := 28) hx hb hg cu_iX9 tyX9 tyX9_ok nmX9 hown hK.1 hP hD hS 0 rfl rfl 0 (by decide) (hg _ k_684) (fun _ h9 => h9) rfl (by decide +kernel) rfl rfl (Nat.le_of_ble_eq_true rfl) d_X9_date_2 (fun H locs hP hD hS => ?_)
  have hP : va_P D vwCl [(o, .inr (7, [.int 0, .ref m1, .int 0, .int 0, .int 0, .int 0, .int 0, .ref m2, .ref m3, .ref m4, .ref m5, .int 0, .ref m6, .ref m7, .int 0, .ref m8, .ref m9, .long 0, .ref m10, .ref m11, .ref m12, .int 0, .int 0, .int 0, .int 0, .ref m13, .int 0, .ref m14]))] H := hP
  have hD : va_D A [(o, .inr (7, [.int 0, .ref m1, .int 0, .int 0, .int 0, .int 0, .int 0, .ref m2, .ref m3, .ref m4, .ref m5, .int 0, .ref m6, .ref m7, .int 0, .ref m8, .ref m9, .long 0, .ref m10, .ref m11, .ref m12, .int 0, .int 0, .int 0, .int 0, .ref m13, .int 0, .ref m14]))] := hD
  refine lv_aload_n hx hb d_X9_date_5 rfl (lv_at hl 0 rfl) ?_
  refine lv_iload_n hx hb d_X9_date_6 rfl (lv_at hl 1 rfl) ?_
  refine cu_VR (wc := [(o, .inr (7, [.int 0, .ref m1, .int 0, .int 0, .int 0, .int 0, .int 0, .ref m2, .ref m3, .ref m4, .ref m5, .int 0, .ref m6, .ref m7, .int 0, .ref m8, .ref m9, .long 0, .ref m10, .ref m11, .ref m12, .int 0, .int 0, .int 0, .int 0, .ref m13, .int 0, .ref m14]))]) (rest := []) [.int c1] ⟨hx, hb, hml, hown, hg⟩ (c_X9_noCoin l D cI cZ cQ o m1 m2 m3 m4 m5 m6 m7 m8 m9 m10 m11 m12 m13 m14 c1) hd_X9_noCoin k_815 k_812 k_814 k_24 k_49 ⟨Nat.le_of_ble_eq_true rfl, Nat.le_of_ble_eq_true rfl⟩ ⟨Nat.le_of_ble_eq_true rfl, Nat.le_of_ble_eq_true rfl⟩ hP hK [0] rfl 0 rfl rfl rfl hl.1 rfl (Nat.le_of_ble_eq_true rfl) d_X9_date_7 (fun r_1 hr_2 => ?_)
  subst hr_2
  refine lv_if_eq (tgt := 15) hx hb d_X9_date_10 (by decide) (fun c_3 => absurd c_3 (by decide +kernel)) (fun _ => ?_)
  refine lv_iconst (v := (-1)) hx hb d_X9_date_13 (by decide) ?_
  exact hret _ _ _ _ [] _ _ _ (hP.sub (ws' := []) [] rfl) (hD.sub (ws' := []) [] (by decide) rfl) hS (Nat.le_of_ble_eq_true rfl) (Nat.le_of_ble_eq_true rfl) d_X9_date_14 (rfl) ⟨rfl, rfl⟩
set_option maxHeartbeats 4000000 in
set_option maxRecDepth 100000 in
theorem c_X9_strike (l : Launch) (D : va_G) (cI cZ cQ : ClassId) (o m1 m2 m3 m4 m5 m6 m7 m8 m9 m10 m11 m12 m13 m14 : Nat) (c1 c2 : Int32) : cu_W l D (cu_TY cI cZ cQ) yX9_strike cX9_strike 3 .int 2 46 0 0 [.ref o, .int c1, .int c2] [(o, .inr (7, [.int 0, .ref m1, .int 0, .int 0, .int 0, .int 0, .int 0, .ref m2, .ref m3, .ref m4, .ref m5, .int 0, .ref m6, .ref m7, .int 0, .ref m8, .ref m9, .long 0, .ref m10, .ref m11, .ref m12, .int 0, .int 0, .int 0, .int 0, .ref m13, .int 0, .ref m14]))] (fun r ww => (r = (-1)) ∧ ww = []) := by
  refine cu_W.intro (by decide) (Nat.le_of_ble_eq_true rfl) ?_
  intro p e s m args below meth c Q ls A S hret hP hD hS hA hK hl
  obtain ⟨hx, hb, hml, hown, hg⟩ := S
  have hown : s.vm.findClass RX9 = some m.cls := hown
  have hl : lv_has ls 3 [(0, .ref o), (1, .int c1), (2, .int c2)] := hl
  refine lv_aload_n hx hb d_X9_strike_0 rfl (lv_at hl 0 rfl) ?_
  refine lv_iconst (v := 0) hx hb d_X9_strike_1 (by decide) ?_
  refine va_put (D := D) (ci := 7) (v := .int 0) (ty := .int) (C := RX9) (T := TX9) (N := 28) hx hb hg cu_iX9 tyX9 tyX9_ok nmX9 hown hK.1 hP hD hS 0 rfl rfl 0 (by decide) (hg _ k_684) (fun _ h9 => h9) rfl (by decide +kernel) rfl rfl (Nat.le_of_ble_eq_true rfl) d_X9_strike_2 (fun H locs hP hD hS => ?_)
  have hP : va_P D vwCl [(o, .inr (7, [.int 0, .ref m1, .int 0, .int 0, .int 0, .int 0, .int 0, .ref m2, .ref m3, .ref m4, .ref m5, .int 0, .ref m6, .ref m7, .int 0, .ref m8, .ref m9, .long 0, .ref m10, .ref m11, .ref m12, .int 0, .int 0, .int 0, .int 0, .ref m13, .int 0, .ref m14]))] H := hP
  have hD : va_D A [(o, .inr (7, [.int 0, .ref m1, .int 0, .int 0, .int 0, .int 0, .int 0, .ref m2, .ref m3, .ref m4, .ref m5, .int 0, .ref m6, .ref m7, .int 0, .ref m8, .ref m9, .long 0, .ref m10, .ref m11, .ref m12, .int 0, .int 0, .int 0, .int 0, .ref m13, .int 0, .ref m14]))] := hD
  refine lv_aload_n hx hb d_X9_strike_5 rfl (lv_at hl 0 rfl) ?_
  refine lv_iload_n hx hb d_X9_strike_6 rfl (lv_at hl 1 rfl) ?_
  refine cu_VR (wc := [(o, .inr (7, [.int 0, .ref m1, .int 0, .int 0, .int 0, .int 0, .int 0, .ref m2, .ref m3, .ref m4, .ref m5, .int 0, .ref m6, .ref m7, .int 0, .ref m8, .ref m9, .long 0, .ref m10, .ref m11, .ref m12, .int 0, .int 0, .int 0, .int 0, .ref m13, .int 0, .ref m14]))]) (rest := []) [.int c1] ⟨hx, hb, hml, hown, hg⟩ (c_X9_noMint l D cI cZ cQ o m1 m2 m3 m4 m5 m6 m7 m8 m9 m10 m11 m12 m13 m14 c1) hd_X9_noMint k_844 k_841 k_843 k_28 k_49 ⟨Nat.le_of_ble_eq_true rfl, Nat.le_of_ble_eq_true rfl⟩ ⟨Nat.le_of_ble_eq_true rfl, Nat.le_of_ble_eq_true rfl⟩ hP hK [0] rfl 0 rfl rfl rfl hl.1 rfl (Nat.le_of_ble_eq_true rfl) d_X9_strike_7 (fun r_1 hr_2 => ?_)
  subst hr_2
  refine lv_if_eq (tgt := 15) hx hb d_X9_strike_10 (by decide) (fun c_3 => absurd c_3 (by decide +kernel)) (fun _ => ?_)
  refine lv_iconst (v := (-1)) hx hb d_X9_strike_13 (by decide) ?_
  exact hret _ _ _ _ [] _ _ _ (hP.sub (ws' := []) [] rfl) (hD.sub (ws' := []) [] (by decide) rfl) hS (Nat.le_of_ble_eq_true rfl) (Nat.le_of_ble_eq_true rfl) d_X9_strike_14 (rfl) ⟨rfl, rfl⟩
set_option maxHeartbeats 4000000 in
set_option maxRecDepth 100000 in
theorem c_X9_chain (l : Launch) (D : va_G) (cI cZ cQ : ClassId) (o m1 m2 m3 m4 m5 m6 m7 m8 m9 m10 m11 m12 m13 m14 : Nat) (c1 c2 : Int32) : cu_W l D (cu_TY cI cZ cQ) yX9_chain cX9_chain 3 .int 2 46 0 0 [.ref o, .int c1, .int c2] [(o, .inr (7, [.int 0, .ref m1, .int 0, .int 0, .int 0, .int 0, .int 0, .ref m2, .ref m3, .ref m4, .ref m5, .int 0, .ref m6, .ref m7, .int 0, .ref m8, .ref m9, .long 0, .ref m10, .ref m11, .ref m12, .int 0, .int 0, .int 0, .int 0, .ref m13, .int 0, .ref m14]))] (fun r ww => (r = (-1)) ∧ ww = []) := by
  refine cu_W.intro (by decide) (Nat.le_of_ble_eq_true rfl) ?_
  intro p e s m args below meth c Q ls A S hret hP hD hS hA hK hl
  obtain ⟨hx, hb, hml, hown, hg⟩ := S
  have hown : s.vm.findClass RX9 = some m.cls := hown
  have hl : lv_has ls 3 [(0, .ref o), (1, .int c1), (2, .int c2)] := hl
  refine lv_aload_n hx hb d_X9_chain_0 rfl (lv_at hl 0 rfl) ?_
  refine lv_iconst (v := 0) hx hb d_X9_chain_1 (by decide) ?_
  refine va_put (D := D) (ci := 7) (v := .int 0) (ty := .int) (C := RX9) (T := TX9) (N := 28) hx hb hg cu_iX9 tyX9 tyX9_ok nmX9 hown hK.1 hP hD hS 0 rfl rfl 0 (by decide) (hg _ k_684) (fun _ h9 => h9) rfl (by decide +kernel) rfl rfl (Nat.le_of_ble_eq_true rfl) d_X9_chain_2 (fun H locs hP hD hS => ?_)
  have hP : va_P D vwCl [(o, .inr (7, [.int 0, .ref m1, .int 0, .int 0, .int 0, .int 0, .int 0, .ref m2, .ref m3, .ref m4, .ref m5, .int 0, .ref m6, .ref m7, .int 0, .ref m8, .ref m9, .long 0, .ref m10, .ref m11, .ref m12, .int 0, .int 0, .int 0, .int 0, .ref m13, .int 0, .ref m14]))] H := hP
  have hD : va_D A [(o, .inr (7, [.int 0, .ref m1, .int 0, .int 0, .int 0, .int 0, .int 0, .ref m2, .ref m3, .ref m4, .ref m5, .int 0, .ref m6, .ref m7, .int 0, .ref m8, .ref m9, .long 0, .ref m10, .ref m11, .ref m12, .int 0, .int 0, .int 0, .int 0, .ref m13, .int 0, .ref m14]))] := hD
  refine lv_aload_n hx hb d_X9_chain_5 rfl (lv_at hl 0 rfl) ?_
  refine lv_iload_n hx hb d_X9_chain_6 rfl (lv_at hl 1 rfl) ?_
  refine cu_VR (wc := [(o, .inr (7, [.int 0, .ref m1, .int 0, .int 0, .int 0, .int 0, .int 0, .ref m2, .ref m3, .ref m4, .ref m5, .int 0, .ref m6, .ref m7, .int 0, .ref m8, .ref m9, .long 0, .ref m10, .ref m11, .ref m12, .int 0, .int 0, .int 0, .int 0, .ref m13, .int 0, .ref m14]))]) (rest := []) [.int c1] ⟨hx, hb, hml, hown, hg⟩ (c_X9_noCoin l D cI cZ cQ o m1 m2 m3 m4 m5 m6 m7 m8 m9 m10 m11 m12 m13 m14 c1) hd_X9_noCoin k_815 k_812 k_814 k_24 k_49 ⟨Nat.le_of_ble_eq_true rfl, Nat.le_of_ble_eq_true rfl⟩ ⟨Nat.le_of_ble_eq_true rfl, Nat.le_of_ble_eq_true rfl⟩ hP hK [0] rfl 0 rfl rfl rfl hl.1 rfl (Nat.le_of_ble_eq_true rfl) d_X9_chain_7 (fun r_1 hr_2 => ?_)
  subst hr_2
  refine lv_if_eq (tgt := 15) hx hb d_X9_chain_10 (by decide) (fun c_3 => absurd c_3 (by decide +kernel)) (fun _ => ?_)
  refine lv_iconst (v := (-1)) hx hb d_X9_chain_13 (by decide) ?_
  exact hret _ _ _ _ [] _ _ _ (hP.sub (ws' := []) [] rfl) (hD.sub (ws' := []) [] (by decide) rfl) hS (Nat.le_of_ble_eq_true rfl) (Nat.le_of_ble_eq_true rfl) d_X9_chain_14 (rfl) ⟨rfl, rfl⟩
set_option maxHeartbeats 4000000 in
set_option maxRecDepth 100000 in
theorem c_X9_see (l : Launch) (D : va_G) (cI cZ cQ : ClassId) (o m1 m2 m3 m4 m5 m6 m7 m8 m9 m10 m11 m12 m13 m14 : Nat) (c1 c2 : Int32) : cu_W l D (cu_TY cI cZ cQ) yX9_see cX9_see 3 .int 2 46 0 0 [.ref o, .int c1, .int c2] [(o, .inr (7, [.int 0, .ref m1, .int 0, .int 0, .int 0, .int 0, .int 0, .ref m2, .ref m3, .ref m4, .ref m5, .int 0, .ref m6, .ref m7, .int 0, .ref m8, .ref m9, .long 0, .ref m10, .ref m11, .ref m12, .int 0, .int 0, .int 0, .int 0, .ref m13, .int 0, .ref m14]))] (fun r ww => (r = (-1)) ∧ ww = []) := by
  refine cu_W.intro (by decide) (Nat.le_of_ble_eq_true rfl) ?_
  intro p e s m args below meth c Q ls A S hret hP hD hS hA hK hl
  obtain ⟨hx, hb, hml, hown, hg⟩ := S
  have hown : s.vm.findClass RX9 = some m.cls := hown
  have hl : lv_has ls 3 [(0, .ref o), (1, .int c1), (2, .int c2)] := hl
  refine lv_aload_n hx hb d_X9_see_0 rfl (lv_at hl 0 rfl) ?_
  refine lv_iconst (v := 0) hx hb d_X9_see_1 (by decide) ?_
  refine va_put (D := D) (ci := 7) (v := .int 0) (ty := .int) (C := RX9) (T := TX9) (N := 28) hx hb hg cu_iX9 tyX9 tyX9_ok nmX9 hown hK.1 hP hD hS 0 rfl rfl 0 (by decide) (hg _ k_684) (fun _ h9 => h9) rfl (by decide +kernel) rfl rfl (Nat.le_of_ble_eq_true rfl) d_X9_see_2 (fun H locs hP hD hS => ?_)
  have hP : va_P D vwCl [(o, .inr (7, [.int 0, .ref m1, .int 0, .int 0, .int 0, .int 0, .int 0, .ref m2, .ref m3, .ref m4, .ref m5, .int 0, .ref m6, .ref m7, .int 0, .ref m8, .ref m9, .long 0, .ref m10, .ref m11, .ref m12, .int 0, .int 0, .int 0, .int 0, .ref m13, .int 0, .ref m14]))] H := hP
  have hD : va_D A [(o, .inr (7, [.int 0, .ref m1, .int 0, .int 0, .int 0, .int 0, .int 0, .ref m2, .ref m3, .ref m4, .ref m5, .int 0, .ref m6, .ref m7, .int 0, .ref m8, .ref m9, .long 0, .ref m10, .ref m11, .ref m12, .int 0, .int 0, .int 0, .int 0, .ref m13, .int 0, .ref m14]))] := hD
  refine lv_aload_n hx hb d_X9_see_5 rfl (lv_at hl 0 rfl) ?_
  refine lv_iload_n hx hb d_X9_see_6 rfl (lv_at hl 1 rfl) ?_
  refine cu_VR (wc := [(o, .inr (7, [.int 0, .ref m1, .int 0, .int 0, .int 0, .int 0, .int 0, .ref m2, .ref m3, .ref m4, .ref m5, .int 0, .ref m6, .ref m7, .int 0, .ref m8, .ref m9, .long 0, .ref m10, .ref m11, .ref m12, .int 0, .int 0, .int 0, .int 0, .ref m13, .int 0, .ref m14]))]) (rest := []) [.int c1] ⟨hx, hb, hml, hown, hg⟩ (c_X9_noCoin l D cI cZ cQ o m1 m2 m3 m4 m5 m6 m7 m8 m9 m10 m11 m12 m13 m14 c1) hd_X9_noCoin k_815 k_812 k_814 k_24 k_49 ⟨Nat.le_of_ble_eq_true rfl, Nat.le_of_ble_eq_true rfl⟩ ⟨Nat.le_of_ble_eq_true rfl, Nat.le_of_ble_eq_true rfl⟩ hP hK [0] rfl 0 rfl rfl rfl hl.1 rfl (Nat.le_of_ble_eq_true rfl) d_X9_see_7 (fun r_1 hr_2 => ?_)
  subst hr_2
  refine lv_if_eq (tgt := 15) hx hb d_X9_see_10 (by decide) (fun c_3 => absurd c_3 (by decide +kernel)) (fun _ => ?_)
  refine lv_iconst (v := (-1)) hx hb d_X9_see_13 (by decide) ?_
  exact hret _ _ _ _ [] _ _ _ (hP.sub (ws' := []) [] rfl) (hD.sub (ws' := []) [] (by decide) rfl) hS (Nat.le_of_ble_eq_true rfl) (Nat.le_of_ble_eq_true rfl) d_X9_see_14 (rfl) ⟨rfl, rfl⟩
set_option maxHeartbeats 4000000 in
set_option maxRecDepth 100000 in
theorem c_X9_share (l : Launch) (D : va_G) (cI cZ cQ : ClassId) (o m1 m2 m3 m4 m5 m6 m7 m8 m9 m10 m11 m12 m13 m14 : Nat) (c1 c2 : Int32) : cu_W l D (cu_TY cI cZ cQ) yX9_share cX9_share 8 .int 2 46 0 0 [.ref o, .int c1, .int c2] [(o, .inr (7, [.int 0, .ref m1, .int 0, .int 0, .int 0, .int 0, .int 0, .ref m2, .ref m3, .ref m4, .ref m5, .int 0, .ref m6, .ref m7, .int 0, .ref m8, .ref m9, .long 0, .ref m10, .ref m11, .ref m12, .int 0, .int 0, .int 0, .int 0, .ref m13, .int 0, .ref m14]))] (fun r ww => (r = (-1)) ∧ ww = []) := by
  refine cu_W.intro (by decide) (Nat.le_of_ble_eq_true rfl) ?_
  intro p e s m args below meth c Q ls A S hret hP hD hS hA hK hl
  obtain ⟨hx, hb, hml, hown, hg⟩ := S
  have hown : s.vm.findClass RX9 = some m.cls := hown
  have hl : lv_has ls 8 [(0, .ref o), (1, .int c1), (2, .int c2)] := hl
  refine lv_aload_n hx hb d_X9_share_0 rfl (lv_at hl 0 rfl) ?_
  refine lv_iconst (v := 0) hx hb d_X9_share_1 (by decide) ?_
  refine va_put (D := D) (ci := 7) (v := .int 0) (ty := .int) (C := RX9) (T := TX9) (N := 28) hx hb hg cu_iX9 tyX9 tyX9_ok nmX9 hown hK.1 hP hD hS 0 rfl rfl 0 (by decide) (hg _ k_684) (fun _ h9 => h9) rfl (by decide +kernel) rfl rfl (Nat.le_of_ble_eq_true rfl) d_X9_share_2 (fun H locs hP hD hS => ?_)
  have hP : va_P D vwCl [(o, .inr (7, [.int 0, .ref m1, .int 0, .int 0, .int 0, .int 0, .int 0, .ref m2, .ref m3, .ref m4, .ref m5, .int 0, .ref m6, .ref m7, .int 0, .ref m8, .ref m9, .long 0, .ref m10, .ref m11, .ref m12, .int 0, .int 0, .int 0, .int 0, .ref m13, .int 0, .ref m14]))] H := hP
  have hD : va_D A [(o, .inr (7, [.int 0, .ref m1, .int 0, .int 0, .int 0, .int 0, .int 0, .ref m2, .ref m3, .ref m4, .ref m5, .int 0, .ref m6, .ref m7, .int 0, .ref m8, .ref m9, .long 0, .ref m10, .ref m11, .ref m12, .int 0, .int 0, .int 0, .int 0, .ref m13, .int 0, .ref m14]))] := hD
  refine lv_aload_n hx hb d_X9_share_5 rfl (lv_at hl 0 rfl) ?_
  refine lv_iload_n hx hb d_X9_share_6 rfl (lv_at hl 1 rfl) ?_
  refine cu_VR (wc := [(o, .inr (7, [.int 0, .ref m1, .int 0, .int 0, .int 0, .int 0, .int 0, .ref m2, .ref m3, .ref m4, .ref m5, .int 0, .ref m6, .ref m7, .int 0, .ref m8, .ref m9, .long 0, .ref m10, .ref m11, .ref m12, .int 0, .int 0, .int 0, .int 0, .ref m13, .int 0, .ref m14]))]) (rest := []) [.int c1] ⟨hx, hb, hml, hown, hg⟩ (c_X9_noCoin l D cI cZ cQ o m1 m2 m3 m4 m5 m6 m7 m8 m9 m10 m11 m12 m13 m14 c1) hd_X9_noCoin k_815 k_812 k_814 k_24 k_49 ⟨Nat.le_of_ble_eq_true rfl, Nat.le_of_ble_eq_true rfl⟩ ⟨Nat.le_of_ble_eq_true rfl, Nat.le_of_ble_eq_true rfl⟩ hP hK [0] rfl 0 rfl rfl rfl hl.1 rfl (Nat.le_of_ble_eq_true rfl) d_X9_share_7 (fun r_1 hr_2 => ?_)
  subst hr_2
  refine lv_if_eq (tgt := 15) hx hb d_X9_share_10 (by decide) (fun c_3 => absurd c_3 (by decide +kernel)) (fun _ => ?_)
  refine lv_iconst (v := (-1)) hx hb d_X9_share_13 (by decide) ?_
  exact hret _ _ _ _ [] _ _ _ (hP.sub (ws' := []) [] rfl) (hD.sub (ws' := []) [] (by decide) rfl) hS (Nat.le_of_ble_eq_true rfl) (Nat.le_of_ble_eq_true rfl) d_X9_share_14 (rfl) ⟨rfl, rfl⟩
set_option maxHeartbeats 4000000 in
set_option maxRecDepth 100000 in
theorem c_X9_aside (l : Launch) (D : va_G) (cI cZ cQ : ClassId) (o m1 m2 m3 m4 m5 m6 m7 m8 m9 m10 m11 m12 m13 m14 : Nat) (c1 : Int32) : cu_W l D (cu_TY cI cZ cQ) yX9_aside cX9_aside 2 .int 2 46 0 0 [.ref o, .int c1] [(o, .inr (7, [.int 0, .ref m1, .int 0, .int 0, .int 0, .int 0, .int 0, .ref m2, .ref m3, .ref m4, .ref m5, .int 0, .ref m6, .ref m7, .int 0, .ref m8, .ref m9, .long 0, .ref m10, .ref m11, .ref m12, .int 0, .int 0, .int 0, .int 0, .ref m13, .int 0, .ref m14]))] (fun r ww => (r = (-1)) ∧ ww = []) := by
  refine cu_W.intro (by decide) (Nat.le_of_ble_eq_true rfl) ?_
  intro p e s m args below meth c Q ls A S hret hP hD hS hA hK hl
  obtain ⟨hx, hb, hml, hown, hg⟩ := S
  have hown : s.vm.findClass RX9 = some m.cls := hown
  have hl : lv_has ls 2 [(0, .ref o), (1, .int c1)] := hl
  refine lv_aload_n hx hb d_X9_aside_0 rfl (lv_at hl 0 rfl) ?_
  refine lv_iconst (v := 0) hx hb d_X9_aside_1 (by decide) ?_
  refine va_put (D := D) (ci := 7) (v := .int 0) (ty := .int) (C := RX9) (T := TX9) (N := 28) hx hb hg cu_iX9 tyX9 tyX9_ok nmX9 hown hK.1 hP hD hS 0 rfl rfl 0 (by decide) (hg _ k_684) (fun _ h9 => h9) rfl (by decide +kernel) rfl rfl (Nat.le_of_ble_eq_true rfl) d_X9_aside_2 (fun H locs hP hD hS => ?_)
  have hP : va_P D vwCl [(o, .inr (7, [.int 0, .ref m1, .int 0, .int 0, .int 0, .int 0, .int 0, .ref m2, .ref m3, .ref m4, .ref m5, .int 0, .ref m6, .ref m7, .int 0, .ref m8, .ref m9, .long 0, .ref m10, .ref m11, .ref m12, .int 0, .int 0, .int 0, .int 0, .ref m13, .int 0, .ref m14]))] H := hP
  have hD : va_D A [(o, .inr (7, [.int 0, .ref m1, .int 0, .int 0, .int 0, .int 0, .int 0, .ref m2, .ref m3, .ref m4, .ref m5, .int 0, .ref m6, .ref m7, .int 0, .ref m8, .ref m9, .long 0, .ref m10, .ref m11, .ref m12, .int 0, .int 0, .int 0, .int 0, .ref m13, .int 0, .ref m14]))] := hD
  refine lv_aload_n hx hb d_X9_aside_5 rfl (lv_at hl 0 rfl) ?_
  refine lv_iload_n hx hb d_X9_aside_6 rfl (lv_at hl 1 rfl) ?_
  refine cu_VR (wc := [(o, .inr (7, [.int 0, .ref m1, .int 0, .int 0, .int 0, .int 0, .int 0, .ref m2, .ref m3, .ref m4, .ref m5, .int 0, .ref m6, .ref m7, .int 0, .ref m8, .ref m9, .long 0, .ref m10, .ref m11, .ref m12, .int 0, .int 0, .int 0, .int 0, .ref m13, .int 0, .ref m14]))]) (rest := []) [.int c1] ⟨hx, hb, hml, hown, hg⟩ (c_X9_noCoin l D cI cZ cQ o m1 m2 m3 m4 m5 m6 m7 m8 m9 m10 m11 m12 m13 m14 c1) hd_X9_noCoin k_815 k_812 k_814 k_24 k_49 ⟨Nat.le_of_ble_eq_true rfl, Nat.le_of_ble_eq_true rfl⟩ ⟨Nat.le_of_ble_eq_true rfl, Nat.le_of_ble_eq_true rfl⟩ hP hK [0] rfl 0 rfl rfl rfl hl.1 rfl (Nat.le_of_ble_eq_true rfl) d_X9_aside_7 (fun r_1 hr_2 => ?_)
  subst hr_2
  refine lv_if_eq (tgt := 15) hx hb d_X9_aside_10 (by decide) (fun c_3 => absurd c_3 (by decide +kernel)) (fun _ => ?_)
  refine lv_iconst (v := (-1)) hx hb d_X9_aside_13 (by decide) ?_
  exact hret _ _ _ _ [] _ _ _ (hP.sub (ws' := []) [] rfl) (hD.sub (ws' := []) [] (by decide) rfl) hS (Nat.le_of_ble_eq_true rfl) (Nat.le_of_ble_eq_true rfl) d_X9_aside_14 (rfl) ⟨rfl, rfl⟩
set_option maxHeartbeats 4000000 in
set_option maxRecDepth 100000 in
theorem c_X9_fits (l : Launch) (D : va_G) (cI cZ cQ : ClassId) (o m1 m2 m3 m4 m5 m6 m7 m8 m9 m10 m11 m12 m13 m14 : Nat) (c1 c2 c3 : Int32) : cu_W l D (cu_TY cI cZ cQ) yX9_fits cX9_fits 5 .int 2 46 0 0 [.ref o, .int c1, .int c2, .int c3] [(o, .inr (7, [.int 0, .ref m1, .int 0, .int 0, .int 0, .int 0, .int 0, .ref m2, .ref m3, .ref m4, .ref m5, .int 0, .ref m6, .ref m7, .int 0, .ref m8, .ref m9, .long 0, .ref m10, .ref m11, .ref m12, .int 0, .int 0, .int 0, .int 0, .ref m13, .int 0, .ref m14]))] (fun r ww => (r = (-1)) ∧ ww = []) := by
  refine cu_W.intro (by decide) (Nat.le_of_ble_eq_true rfl) ?_
  intro p e s m args below meth c Q ls A S hret hP hD hS hA hK hl
  obtain ⟨hx, hb, hml, hown, hg⟩ := S
  have hown : s.vm.findClass RX9 = some m.cls := hown
  have hl : lv_has ls 5 [(0, .ref o), (1, .int c1), (2, .int c2), (3, .int c3)] := hl
  refine lv_aload_n hx hb d_X9_fits_0 rfl (lv_at hl 0 rfl) ?_
  refine lv_iconst (v := 0) hx hb d_X9_fits_1 (by decide) ?_
  refine va_put (D := D) (ci := 7) (v := .int 0) (ty := .int) (C := RX9) (T := TX9) (N := 28) hx hb hg cu_iX9 tyX9 tyX9_ok nmX9 hown hK.1 hP hD hS 0 rfl rfl 0 (by decide) (hg _ k_684) (fun _ h9 => h9) rfl (by decide +kernel) rfl rfl (Nat.le_of_ble_eq_true rfl) d_X9_fits_2 (fun H locs hP hD hS => ?_)
  have hP : va_P D vwCl [(o, .inr (7, [.int 0, .ref m1, .int 0, .int 0, .int 0, .int 0, .int 0, .ref m2, .ref m3, .ref m4, .ref m5, .int 0, .ref m6, .ref m7, .int 0, .ref m8, .ref m9, .long 0, .ref m10, .ref m11, .ref m12, .int 0, .int 0, .int 0, .int 0, .ref m13, .int 0, .ref m14]))] H := hP
  have hD : va_D A [(o, .inr (7, [.int 0, .ref m1, .int 0, .int 0, .int 0, .int 0, .int 0, .ref m2, .ref m3, .ref m4, .ref m5, .int 0, .ref m6, .ref m7, .int 0, .ref m8, .ref m9, .long 0, .ref m10, .ref m11, .ref m12, .int 0, .int 0, .int 0, .int 0, .ref m13, .int 0, .ref m14]))] := hD
  refine lv_aload_n hx hb d_X9_fits_5 rfl (lv_at hl 0 rfl) ?_
  refine lv_iload_n hx hb d_X9_fits_6 rfl (lv_at hl 1 rfl) ?_
  refine cu_VR (wc := [(o, .inr (7, [.int 0, .ref m1, .int 0, .int 0, .int 0, .int 0, .int 0, .ref m2, .ref m3, .ref m4, .ref m5, .int 0, .ref m6, .ref m7, .int 0, .ref m8, .ref m9, .long 0, .ref m10, .ref m11, .ref m12, .int 0, .int 0, .int 0, .int 0, .ref m13, .int 0, .ref m14]))]) (rest := []) [.int c1] ⟨hx, hb, hml, hown, hg⟩ (c_X9_noCoin l D cI cZ cQ o m1 m2 m3 m4 m5 m6 m7 m8 m9 m10 m11 m12 m13 m14 c1) hd_X9_noCoin k_815 k_812 k_814 k_24 k_49 ⟨Nat.le_of_ble_eq_true rfl, Nat.le_of_ble_eq_true rfl⟩ ⟨Nat.le_of_ble_eq_true rfl, Nat.le_of_ble_eq_true rfl⟩ hP hK [0] rfl 0 rfl rfl rfl hl.1 rfl (Nat.le_of_ble_eq_true rfl) d_X9_fits_7 (fun r_1 hr_2 => ?_)
  subst hr_2
  refine lv_if_eq (tgt := 15) hx hb d_X9_fits_10 (by decide) (fun c_3 => absurd c_3 (by decide +kernel)) (fun _ => ?_)
  refine lv_iconst (v := (-1)) hx hb d_X9_fits_13 (by decide) ?_
  exact hret _ _ _ _ [] _ _ _ (hP.sub (ws' := []) [] rfl) (hD.sub (ws' := []) [] (by decide) rfl) hS (Nat.le_of_ble_eq_true rfl) (Nat.le_of_ble_eq_true rfl) d_X9_fits_14 (rfl) ⟨rfl, rfl⟩
set_option maxHeartbeats 4000000 in
set_option maxRecDepth 100000 in
theorem c_X9_note (l : Launch) (D : va_G) (cI cZ cQ : ClassId) (o m1 m2 m3 m4 m5 m6 m7 m8 m9 m10 m11 m12 m13 m14 : Nat) : cu_V l D (cu_TY cI cZ cQ) yX9_note cX9_note 2 0 0 0 0 [.ref o] [(o, .inr (7, [.int 0, .ref m1, .int 0, .int 0, .int 0, .int 0, .int 0, .ref m2, .ref m3, .ref m4, .ref m5, .int 0, .ref m6, .ref m7, .int 0, .ref m8, .ref m9, .long 0, .ref m10, .ref m11, .ref m12, .int 0, .int 0, .int 0, .int 0, .ref m13, .int 0, .ref m14])), (m3, .inl (cI, 30, .inl (upd (fun _ => 0) 28 (1 : Int32)))), (m5, .inl (cI, 420, .inl (fun _ => 0)))] (fun ww => ww = [(o, .inr (7, [.int 0, .ref m1, .int 0, .int 0, .int 0, .int 0, .int 0, .ref m2, .ref m3, .ref m4, .ref m5, .int 1, .ref m6, .ref m7, .int 0, .ref m8, .ref m9, .long 0, .ref m10, .ref m11, .ref m12, .int 0, .int 0, .int 0, .int 0, .ref m13, .int 0, .ref m14])), (m3, .inl (cI, 30, .inl (upd (fun _ => 0) 28 (1 : Int32))))]) := by
  refine cu_V.intro (by decide) (Nat.le_of_ble_eq_true rfl) ?_
  intro p e s m args below meth c Q ls A S hin hret hP hD hS hA hK hl
  obtain ⟨hx, hb, hml, hown, hg⟩ := S
  have hown : s.vm.findClass RX9 = some m.cls := hown
  have hin : meth.name = "note" := hin
  have hl : lv_has ls 2 [(0, .ref o)] := hl
  refine lv_aload_n hx hb d_X9_note_0 rfl (lv_at hl 0 rfl) ?_
  refine va_get (D := D) (ci := 7) (v := .int 0) (C := RX9) (T := TX9) (N := 28) hx hb hg cu_iX9 hown hK.1 hP 0 rfl rfl 11 (by decide) (hg _ k_695) (fun _ h9 => h9) rfl d_X9_note_1 ?_
  refine lv_bipush (v := 14) hx hb d_X9_note_4 (by decide) ?_
  refine lv_icmp_ne (tgt := 49) hx hb d_X9_note_6 (by decide) (fun _ => ?_) (fun c_1 => absurd c_1 (by decide +kernel))
  refine lv_iconst (v := 0) hx hb d_X9_note_49 (by decide) ?_
  refine lv_istore_n (lv' := [(1, .int 0), (0, .ref o)]) hx hb d_X9_note_50 rfl hl (by decide) rfl (fun ls hl => ?_)
  have key_2 : ∀ (n_4 j_3 : Nat) (hj_6 : j_3 + n_4 = 30) (f : Nat → Int32)  (H : Heap) (locs : List Loc) (ls : Array Slot) (hP : va_P D vwCl [(o, .inr (7, [.int 0, .ref m1, .int 0, .int 0, .int 0, .int 0, .int 0, .ref m2, .ref m3, .ref m4, .ref m5, .int 0, .ref m6, .ref m7, .int 0, .ref m8, .ref m9, .long 0, .ref m10, .ref m11, .ref m12, .int 0, .int 0, .int 0, .int 0, .ref m13, .int 0, .ref m14])), (m3, .inl (cI, 30, .inl (upd (fun _ => 0) 28 (1 : Int32)))), (m5, .inl (cI, 420, .inl f))] H) (hD : va_D A [(o, .inr (7, [.int 0, .ref m1, .int 0, .int 0, .int 0, .int 0, .int 0, .ref m2, .ref m3, .ref m4, .ref m5, .int 0, .ref m6, .ref m7, .int 0, .ref m8, .ref m9, .long 0, .ref m10, .ref m11, .ref m12, .int 0, .int 0, .int 0, .int 0, .ref m13, .int 0, .ref m14])), (m3, .inl (cI, 30, .inl (upd (fun _ => 0) 28 (1 : Int32)))), (m5, .inl (cI, 420, .inl f))]) (hS : va_S A s.heap H locs) (hl : lv_has ls 2 [(1, .int (nI j_3)), (0, .ref o)]), W p l e (cu_rm 0 0 0 0) s m args below meth c H locs 0 0 Q (F0 m 51 ls []) := by
    intro n_4
    induction n_4 with
    | zero =>
      intro j_3 hj_6 f  H locs ls hP hD hS hl
      obtain rfl : 30 = j_3 := by omega
      have hl : lv_has ls 2 [(1, .int 30), (0, .ref o)] := hl
      have hP : va_P D vwCl [(o, .inr (7, [.int 0, .ref m1, .int 0, .int 0, .int 0, .int 0, .int 0, .ref m2, .ref m3, .ref m4, .ref m5, .int 0, .ref m6, .ref m7, .int 0, .ref m8, .ref m9, .long 0, .ref m10, .ref m11, .ref m12, .int 0, .int 0, .int 0, .int 0, .ref m13, .int 0, .ref m14])), (m3, .inl (cI, 30, .inl (upd (fun _ => 0) 28 (1 : Int32)))), (m5, .inl (cI, 420, .inl f))] H := hP
      have hD : va_D A [(o, .inr (7, [.int 0, .ref m1, .int 0, .int 0, .int 0, .int 0, .int 0, .ref m2, .ref m3, .ref m4, .ref m5, .int 0, .ref m6, .ref m7, .int 0, .ref m8, .ref m9, .long 0, .ref m10, .ref m11, .ref m12, .int 0, .int 0, .int 0, .int 0, .ref m13, .int 0, .ref m14])), (m3, .inl (cI, 30, .inl (upd (fun _ => 0) 28 (1 : Int32)))), (m5, .inl (cI, 420, .inl f))] := hD
      refine lv_iload_n hx hb d_X9_note_51 rfl (lv_at hl 0 rfl) ?_
      refine lv_bipush (v := 30) hx hb d_X9_note_52 (by decide) ?_
      refine lv_icmp_ge (tgt := 83) hx hb d_X9_note_54 (by decide) (fun _ => ?_) (fun c_7 => absurd (by decide +kernel) c_7)
      refine lv_aload_n hx hb d_X9_note_83 rfl (lv_at hl 1 rfl) ?_
      refine lv_dup hx hb d_X9_note_84 rfl ?_
      refine va_get (D := D) (ci := 7) (v := .int 0) (C := RX9) (T := TX9) (N := 28) hx hb hg cu_iX9 hown hK.1 hP 0 rfl rfl 11 (by decide) (hg _ k_695) (fun _ h9 => h9) rfl d_X9_note_85 ?_
      refine lv_iconst (v := 1) hx hb d_X9_note_88 (by decide) ?_
      refine lv_iadd hx hb d_X9_note_89 ?_
      refine cu_topi (y := 1) (by decide +kernel) ?_
      refine va_put (D := D) (ci := 7) (v := .int 1) (ty := .int) (C := RX9) (T := TX9) (N := 28) hx hb hg cu_iX9 tyX9 tyX9_ok nmX9 hown hK.1 hP hD hS 0 rfl rfl 11 (by decide) (hg _ k_695) (fun _ h9 => h9) rfl (by decide +kernel) rfl rfl (Nat.le_of_ble_eq_true rfl) d_X9_note_90 (fun H locs hP hD hS => ?_)
      have hP : va_P D vwCl [(o, .inr (7, [.int 0, .ref m1, .int 0, .int 0, .int 0, .int 0, .int 0, .ref m2, .ref m3, .ref m4, .ref m5, .int 1, .ref m6, .ref m7, .int 0, .ref m8, .ref m9, .long 0, .ref m10, .ref m11, .ref m12, .int 0, .int 0, .int 0, .int 0, .ref m13, .int 0, .ref m14])), (m3, .inl (cI, 30, .inl (upd (fun _ => 0) 28 (1 : Int32)))), (m5, .inl (cI, 420, .inl f))] H := hP
      have hD : va_D A [(o, .inr (7, [.int 0, .ref m1, .int 0, .int 0, .int 0, .int 0, .int 0, .ref m2, .ref m3, .ref m4, .ref m5, .int 1, .ref m6, .ref m7, .int 0, .ref m8, .ref m9, .long 0, .ref m10, .ref m11, .ref m12, .int 0, .int 0, .int 0, .int 0, .ref m13, .int 0, .ref m14])), (m3, .inl (cI, 30, .inl (upd (fun _ => 0) 28 (1 : Int32)))), (m5, .inl (cI, 420, .inl f))] := hD
      exact hret _ _ _ _ [(o, .inr (7, [.int 0, .ref m1, .int 0, .int 0, .int 0, .int 0, .int 0, .ref m2, .ref m3, .ref m4, .ref m5, .int 1, .ref m6, .ref m7, .int 0, .ref m8, .ref m9, .long 0, .ref m10, .ref m11, .ref m12, .int 0, .int 0, .int 0, .int 0, .ref m13, .int 0, .ref m14])), (m3, .inl (cI, 30, .inl (upd (fun _ => 0) 28 (1 : Int32))))] _ _ (hP.sub (ws' := [(o, .inr (7, [.int 0, .ref m1, .int 0, .int 0, .int 0, .int 0, .int 0, .ref m2, .ref m3, .ref m4, .ref m5, .int 1, .ref m6, .ref m7, .int 0, .ref m8, .ref m9, .long 0, .ref m10, .ref m11, .ref m12, .int 0, .int 0, .int 0, .int 0, .ref m13, .int 0, .ref m14])), (m3, .inl (cI, 30, .inl (upd (fun _ => 0) 28 (1 : Int32))))]) [0, 1] rfl) (hD.sub (ws' := [(o, .inr (7, [.int 0, .ref m1, .int 0, .int 0, .int 0, .int 0, .int 0, .ref m2, .ref m3, .ref m4, .ref m5, .int 1, .ref m6, .ref m7, .int 0, .ref m8, .ref m9, .long 0, .ref m10, .ref m11, .ref m12, .int 0, .int 0, .int 0, .int 0, .ref m13, .int 0, .ref m14])), (m3, .inl (cI, 30, .inl (upd (fun _ => 0) 28 (1 : Int32))))]) [0, 1] (by decide) rfl) hS (Nat.le_of_ble_eq_true rfl) (Nat.le_of_ble_eq_true rfl) d_X9_note_93 rfl
    | succ n_4 ih_5 =>
      intro j_3 hj_6 f  H locs ls hP hD hS hl
      refine lv_iload_n hx hb d_X9_note_51 rfl (lv_at hl 0 rfl) ?_
      refine lv_bipush (v := 30) hx hb d_X9_note_52 (by decide) ?_
      refine lv_icmp_ge (tgt := 83) hx hb d_X9_note_54 (by decide) (fun c_8 => absurd c_8 (mt (nI_leI (a := 30) (b := j_3) (by omega) (by omega)).mp (by omega))) (fun _ => ?_)
      refine lv_aload_n hx hb d_X9_note_57 rfl (lv_at hl 1 rfl) ?_
      refine va_get (D := D) (ci := 7) (v := .ref m5) (C := RX9) (T := TX9) (N := 28) hx hb hg cu_iX9 hown hK.1 hP 0 rfl rfl 10 (by decide) (hg _ k_694) (fun _ h9 => h9) rfl d_X9_note_58 ?_
      refine lv_bipush (v := 30) hx hb d_X9_note_61 (by decide) ?_
      refine lv_aload_n hx hb d_X9_note_63 rfl (lv_at hl 1 rfl) ?_
      refine va_get (D := D) (ci := 7) (v := .int 0) (C := RX9) (T := TX9) (N := 28) hx hb hg cu_iX9 hown hK.1 hP 0 rfl rfl 11 (by decide) (hg _ k_695) (fun _ h9 => h9) rfl d_X9_note_64 ?_
      refine lv_imul hx hb d_X9_note_67 ?_
      refine cu_topi (y := 0) (by decide +kernel) ?_
      refine lv_iload_n hx hb d_X9_note_68 rfl (lv_at hl 0 rfl) ?_
      refine lv_iadd hx hb d_X9_note_69 ?_
      refine cu_topi (y := nI j_3) (Int32.zero_add _) ?_
      refine lv_aload_n hx hb d_X9_note_70 rfl (lv_at hl 1 rfl) ?_
      refine va_get (D := D) (ci := 7) (v := .ref m3) (C := RX9) (T := TX9) (N := 28) hx hb hg cu_iX9 hown hK.1 hP 0 rfl rfl 8 (by decide) (hg _ k_692) (fun _ h9 => h9) rfl d_X9_note_71 ?_
      refine lv_iload_n hx hb d_X9_note_74 rfl (lv_at hl 0 rfl) ?_
      refine va_iald hx hb hK.1 hP 1 0 rfl rfl (vp_in_nI (by omega) (by decide)) d_X9_note_75 ?_
      refine va_iast hx hb hK.1 hP hD hS 2 0 rfl rfl (vp_in_nI (by omega) (by decide)) d_X9_note_76 (fun H locs hP hD hS => ?_)
      have hP : va_P D vwCl [(o, .inr (7, [.int 0, .ref m1, .int 0, .int 0, .int 0, .int 0, .int 0, .ref m2, .ref m3, .ref m4, .ref m5, .int 0, .ref m6, .ref m7, .int 0, .ref m8, .ref m9, .long 0, .ref m10, .ref m11, .ref m12, .int 0, .int 0, .int 0, .int 0, .ref m13, .int 0, .ref m14])), (m3, .inl (cI, 30, .inl (upd (fun _ => 0) 28 (1 : Int32)))), (m5, .inl (cI, 420, .inl (upd f (nI j_3 : Int32).toNatClampNeg (((upd (fun _ => 0) 28 (1 : Int32)) (nI j_3).toNatClampNeg) : Int32))))] H := hP
      have hD : va_D A [(o, .inr (7, [.int 0, .ref m1, .int 0, .int 0, .int 0, .int 0, .int 0, .ref m2, .ref m3, .ref m4, .ref m5, .int 0, .ref m6, .ref m7, .int 0, .ref m8, .ref m9, .long 0, .ref m10, .ref m11, .ref m12, .int 0, .int 0, .int 0, .int 0, .ref m13, .int 0, .ref m14])), (m3, .inl (cI, 30, .inl (upd (fun _ => 0) 28 (1 : Int32)))), (m5, .inl (cI, 420, .inl (upd f (nI j_3 : Int32).toNatClampNeg (((upd (fun _ => 0) 28 (1 : Int32)) (nI j_3).toNatClampNeg) : Int32))))] := hD
      refine lv_iinc (v := nI (j_3 + 1)) (lv' := [(1, .int (nI (j_3 + 1))), (0, .ref o)]) hx hb d_X9_note_77 hl (k := 0) rfl (nI_1 j_3) (by decide) rfl (fun ls hl => ?_)
      refine lv_goto (tgt := 51) hx hb d_X9_note_80 (by decide) ?_
      exact ih_5 (j_3 + 1) (by first | rfl | omega) (upd f (nI j_3 : Int32).toNatClampNeg (((upd (fun _ => 0) 28 (1 : Int32)) (nI j_3).toNatClampNeg) : Int32))  _ _ _ hP hD hS (lv_sub hl [0, 1] rfl)
  exact key_2 30 0 (by first | rfl | omega) (fun _ => 0)  _ _ _ hP hD hS (lv_sub hl [0, 1] rfl)
set_option maxHeartbeats 4000000 in
set_option maxRecDepth 100000 in
theorem c_X9_change28 (l : Launch) (D : va_G) (cI cZ cQ : ClassId) (o m1 m2 m3 m4 m5 m6 m7 m8 m9 m10 m11 m12 m13 m14 : Nat) (v : Int32) : cu_W l D (cu_TY cI cZ cQ) yX9_change cX9_change 4 .int 1 21 0 0 [.ref o, .int 28, .int v] [(o, .inr (7, [.int 0, .ref m1, .int 0, .int 0, .int 0, .int 0, .int 0, .ref m2, .ref m3, .ref m4, .ref m5, .int 0, .ref m6, .ref m7, .int 0, .ref m8, .ref m9, .long 0, .ref m10, .ref m11, .ref m12, .int 0, .int 0, .int 0, .int 0, .ref m13, .int 0, .ref m14])), (m3, .inl (cI, 30, .inl (upd (fun _ => 0) 28 (1 : Int32)))), (m5, .inl (cI, 420, .inl (fun _ => 0)))] (fun r ww => (r = 1) ∧ ww = []) := by
  refine cu_W.intro (by decide) (Nat.le_of_ble_eq_true rfl) ?_
  intro p e s m args below meth c Q ls A S hret hP hD hS hA hK hl
  obtain ⟨hx, hb, hml, hown, hg⟩ := S
  have hown : s.vm.findClass RX9 = some m.cls := hown
  have hl : lv_has ls 4 [(0, .ref o), (1, .int 28), (2, .int v)] := hl
  refine lv_aload_n hx hb d_X9_change_0 rfl (lv_at hl 0 rfl) ?_
  refine cu_VV (wc := [(o, .inr (7, [.int 0, .ref m1, .int 0, .int 0, .int 0, .int 0, .int 0, .ref m2, .ref m3, .ref m4, .ref m5, .int 0, .ref m6, .ref m7, .int 0, .ref m8, .ref m9, .long 0, .ref m10, .ref m11, .ref m12, .int 0, .int 0, .int 0, .int 0, .ref m13, .int 0, .ref m14])), (m3, .inl (cI, 30, .inl (upd (fun _ => 0) 28 (1 : Int32)))), (m5, .inl (cI, 420, .inl (fun _ => 0)))]) (wr := []) (rest := []) [] ⟨hx, hb, hml, hown, hg⟩ (c_X9_note l D cI cZ cQ o m1 m2 m3 m4 m5 m6 m7 m8 m9 m10 m11 m12 m13 m14) hd_X9_note k_864 k_861 k_863 k_30 k_49 ⟨Nat.le_of_ble_eq_true rfl, Nat.le_of_ble_eq_true rfl⟩ ⟨Nat.le_of_ble_eq_true rfl, Nat.le_of_ble_eq_true rfl⟩ hP hD hS hA hK [0, 1, 2] [] rfl rfl (by decide) (by decide) (by decide) 0 rfl rfl rfl hl.1 rfl (Nat.le_of_ble_eq_true rfl) d_X9_change_1 (fun w_3 H locs hw_2 hP hD hS => ?_)
  subst hw_2
  have hP : va_P D vwCl [(o, .inr (7, [.int 0, .ref m1, .int 0, .int 0, .int 0, .int 0, .int 0, .ref m2, .ref m3, .ref m4, .ref m5, .int 1, .ref m6, .ref m7, .int 0, .ref m8, .ref m9, .long 0, .ref m10, .ref m11, .ref m12, .int 0, .int 0, .int 0, .int 0, .ref m13, .int 0, .ref m14])), (m3, .inl (cI, 30, .inl (upd (fun _ => 0) 28 (1 : Int32))))] H := hP
  have hD : va_D A [(o, .inr (7, [.int 0, .ref m1, .int 0, .int 0, .int 0, .int 0, .int 0, .ref m2, .ref m3, .ref m4, .ref m5, .int 1, .ref m6, .ref m7, .int 0, .ref m8, .ref m9, .long 0, .ref m10, .ref m11, .ref m12, .int 0, .int 0, .int 0, .int 0, .ref m13, .int 0, .ref m14])), (m3, .inl (cI, 30, .inl (upd (fun _ => 0) 28 (1 : Int32))))] := hD
  refine lv_aload_n hx hb d_X9_change_4 rfl (lv_at hl 0 rfl) ?_
  refine va_get (D := D) (ci := 7) (v := .ref m3) (C := RX9) (T := TX9) (N := 28) hx hb hg cu_iX9 hown hK.1 hP 0 rfl rfl 8 (by decide) (hg _ k_692) (fun _ h9 => h9) rfl d_X9_change_5 ?_
  refine lv_iload_n hx hb d_X9_change_8 rfl (lv_at hl 1 rfl) ?_
  refine va_iald hx hb hK.1 hP 1 0 rfl rfl (vp_in_nI (n := 28) (N := 30) (Nat.le_of_ble_eq_true rfl) (by decide)) d_X9_change_9 ?_
  refine cu_topi (y := 1) rfl ?_
  refine lv_istore_n (lv' := [(3, .int 1), (0, .ref o), (1, .int 28), (2, .int v)]) hx hb d_X9_change_10 rfl hl (by decide) rfl (fun ls hl => ?_)
  refine lv_aload_n hx hb d_X9_change_11 rfl (lv_at hl 1 rfl) ?_
  refine va_get (D := D) (ci := 7) (v := .ref m3) (C := RX9) (T := TX9) (N := 28) hx hb hg cu_iX9 hown hK.1 hP 0 rfl rfl 8 (by decide) (hg _ k_692) (fun _ h9 => h9) rfl d_X9_change_12 ?_
  refine lv_iload_n hx hb d_X9_change_15 rfl (lv_at hl 2 rfl) ?_
  refine lv_iload_n hx hb d_X9_change_16 rfl (lv_at hl 3 rfl) ?_
  refine va_iast hx hb hK.1 hP hD hS 1 0 rfl rfl (vp_in_nI (n := 28) (N := 30) (Nat.le_of_ble_eq_true rfl) (by decide)) d_X9_change_17 (fun H locs hP hD hS => ?_)
  have hP : va_P D vwCl [(o, .inr (7, [.int 0, .ref m1, .int 0, .int 0, .int 0, .int 0, .int 0, .ref m2, .ref m3, .ref m4, .ref m5, .int 1, .ref m6, .ref m7, .int 0, .ref m8, .ref m9, .long 0, .ref m10, .ref m11, .ref m12, .int 0, .int 0, .int 0, .int 0, .ref m13, .int 0, .ref m14])), (m3, .inl (cI, 30, .inl (upd (upd (fun _ => 0) 28 (1 : Int32)) 28 (v : Int32))))] H := hP
  have hD : va_D A [(o, .inr (7, [.int 0, .ref m1, .int 0, .int 0, .int 0, .int 0, .int 0, .ref m2, .ref m3, .ref m4, .ref m5, .int 1, .ref m6, .ref m7, .int 0, .ref m8, .ref m9, .long 0, .ref m10, .ref m11, .ref m12, .int 0, .int 0, .int 0, .int 0, .ref m13, .int 0, .ref m14])), (m3, .inl (cI, 30, .inl (upd (upd (fun _ => 0) 28 (1 : Int32)) 28 (v : Int32))))] := hD
  refine lv_iload_n hx hb d_X9_change_18 rfl (lv_at hl 0 rfl) ?_
  exact hret _ _ _ _ [] _ _ _ (hP.sub (ws' := []) [] rfl) (hD.sub (ws' := []) [] (by decide) rfl) hS (Nat.le_of_ble_eq_true rfl) (Nat.le_of_ble_eq_true rfl) d_X9_change_19 (rfl) ⟨rfl, rfl⟩
set_option maxHeartbeats 4000000 in
set_option maxRecDepth 100000 in
theorem c_X9_change29 (l : Launch) (D : va_G) (cI cZ cQ : ClassId) (o m1 m2 m3 m4 m5 m6 m7 m8 m9 m10 m11 m12 m13 m14 : Nat) (v : Int32) : cu_W l D (cu_TY cI cZ cQ) yX9_change cX9_change 4 .int 1 21 0 0 [.ref o, .int 29, .int v] [(o, .inr (7, [.int 0, .ref m1, .int 0, .int 0, .int 0, .int 0, .int 0, .ref m2, .ref m3, .ref m4, .ref m5, .int 0, .ref m6, .ref m7, .int 0, .ref m8, .ref m9, .long 0, .ref m10, .ref m11, .ref m12, .int 0, .int 0, .int 0, .int 0, .ref m13, .int 0, .ref m14])), (m3, .inl (cI, 30, .inl (upd (fun _ => 0) 28 (1 : Int32)))), (m5, .inl (cI, 420, .inl (fun _ => 0)))] (fun r ww => (r = 0) ∧ ww = []) := by
  refine cu_W.intro (by decide) (Nat.le_of_ble_eq_true rfl) ?_
  intro p e s m args below meth c Q ls A S hret hP hD hS hA hK hl
  obtain ⟨hx, hb, hml, hown, hg⟩ := S
  have hown : s.vm.findClass RX9 = some m.cls := hown
  have hl : lv_has ls 4 [(0, .ref o), (1, .int 29), (2, .int v)] := hl
  refine lv_aload_n hx hb d_X9_change_0 rfl (lv_at hl 0 rfl) ?_
  refine cu_VV (wc := [(o, .inr (7, [.int 0, .ref m1, .int 0, .int 0, .int 0, .int 0, .int 0, .ref m2, .ref m3, .ref m4, .ref m5, .int 0, .ref m6, .ref m7, .int 0, .ref m8, .ref m9, .long 0, .ref m10, .ref m11, .ref m12, .int 0, .int 0, .int 0, .int 0, .ref m13, .int 0, .ref m14])), (m3, .inl (cI, 30, .inl (upd (fun _ => 0) 28 (1 : Int32)))), (m5, .inl (cI, 420, .inl (fun _ => 0)))]) (wr := []) (rest := []) [] ⟨hx, hb, hml, hown, hg⟩ (c_X9_note l D cI cZ cQ o m1 m2 m3 m4 m5 m6 m7 m8 m9 m10 m11 m12 m13 m14) hd_X9_note k_864 k_861 k_863 k_30 k_49 ⟨Nat.le_of_ble_eq_true rfl, Nat.le_of_ble_eq_true rfl⟩ ⟨Nat.le_of_ble_eq_true rfl, Nat.le_of_ble_eq_true rfl⟩ hP hD hS hA hK [0, 1, 2] [] rfl rfl (by decide) (by decide) (by decide) 0 rfl rfl rfl hl.1 rfl (Nat.le_of_ble_eq_true rfl) d_X9_change_1 (fun w_3 H locs hw_2 hP hD hS => ?_)
  subst hw_2
  have hP : va_P D vwCl [(o, .inr (7, [.int 0, .ref m1, .int 0, .int 0, .int 0, .int 0, .int 0, .ref m2, .ref m3, .ref m4, .ref m5, .int 1, .ref m6, .ref m7, .int 0, .ref m8, .ref m9, .long 0, .ref m10, .ref m11, .ref m12, .int 0, .int 0, .int 0, .int 0, .ref m13, .int 0, .ref m14])), (m3, .inl (cI, 30, .inl (upd (fun _ => 0) 28 (1 : Int32))))] H := hP
  have hD : va_D A [(o, .inr (7, [.int 0, .ref m1, .int 0, .int 0, .int 0, .int 0, .int 0, .ref m2, .ref m3, .ref m4, .ref m5, .int 1, .ref m6, .ref m7, .int 0, .ref m8, .ref m9, .long 0, .ref m10, .ref m11, .ref m12, .int 0, .int 0, .int 0, .int 0, .ref m13, .int 0, .ref m14])), (m3, .inl (cI, 30, .inl (upd (fun _ => 0) 28 (1 : Int32))))] := hD
  refine lv_aload_n hx hb d_X9_change_4 rfl (lv_at hl 0 rfl) ?_
  refine va_get (D := D) (ci := 7) (v := .ref m3) (C := RX9) (T := TX9) (N := 28) hx hb hg cu_iX9 hown hK.1 hP 0 rfl rfl 8 (by decide) (hg _ k_692) (fun _ h9 => h9) rfl d_X9_change_5 ?_
  refine lv_iload_n hx hb d_X9_change_8 rfl (lv_at hl 1 rfl) ?_
  refine va_iald hx hb hK.1 hP 1 0 rfl rfl (vp_in_nI (n := 29) (N := 30) (Nat.le_of_ble_eq_true rfl) (by decide)) d_X9_change_9 ?_
  refine cu_topi (y := 0) rfl ?_
  refine lv_istore_n (lv' := [(3, .int 0), (0, .ref o), (1, .int 29), (2, .int v)]) hx hb d_X9_change_10 rfl hl (by decide) rfl (fun ls hl => ?_)
  refine lv_aload_n hx hb d_X9_change_11 rfl (lv_at hl 1 rfl) ?_
  refine va_get (D := D) (ci := 7) (v := .ref m3) (C := RX9) (T := TX9) (N := 28) hx hb hg cu_iX9 hown hK.1 hP 0 rfl rfl 8 (by decide) (hg _ k_692) (fun _ h9 => h9) rfl d_X9_change_12 ?_
  refine lv_iload_n hx hb d_X9_change_15 rfl (lv_at hl 2 rfl) ?_
  refine lv_iload_n hx hb d_X9_change_16 rfl (lv_at hl 3 rfl) ?_
  refine va_iast hx hb hK.1 hP hD hS 1 0 rfl rfl (vp_in_nI (n := 29) (N := 30) (Nat.le_of_ble_eq_true rfl) (by decide)) d_X9_change_17 (fun H locs hP hD hS => ?_)
  have hP : va_P D vwCl [(o, .inr (7, [.int 0, .ref m1, .int 0, .int 0, .int 0, .int 0, .int 0, .ref m2, .ref m3, .ref m4, .ref m5, .int 1, .ref m6, .ref m7, .int 0, .ref m8, .ref m9, .long 0, .ref m10, .ref m11, .ref m12, .int 0, .int 0, .int 0, .int 0, .ref m13, .int 0, .ref m14])), (m3, .inl (cI, 30, .inl (upd (upd (fun _ => 0) 28 (1 : Int32)) 29 (v : Int32))))] H := hP
  have hD : va_D A [(o, .inr (7, [.int 0, .ref m1, .int 0, .int 0, .int 0, .int 0, .int 0, .ref m2, .ref m3, .ref m4, .ref m5, .int 1, .ref m6, .ref m7, .int 0, .ref m8, .ref m9, .long 0, .ref m10, .ref m11, .ref m12, .int 0, .int 0, .int 0, .int 0, .ref m13, .int 0, .ref m14])), (m3, .inl (cI, 30, .inl (upd (upd (fun _ => 0) 28 (1 : Int32)) 29 (v : Int32))))] := hD
  refine lv_iload_n hx hb d_X9_change_18 rfl (lv_at hl 0 rfl) ?_
  exact hret _ _ _ _ [] _ _ _ (hP.sub (ws' := []) [] rfl) (hD.sub (ws' := []) [] (by decide) rfl) hS (Nat.le_of_ble_eq_true rfl) (Nat.le_of_ble_eq_true rfl) d_X9_change_19 (rfl) ⟨rfl, rfl⟩
set_option maxHeartbeats 4000000 in
set_option maxRecDepth 100000 in
theorem c_X9_setRate (l : Launch) (D : va_G) (cI cZ cQ : ClassId) (o m1 m2 m3 m4 m5 m6 m7 m8 m9 m10 m11 m12 m13 m14 : Nat) (v : Int32) : cu_W l D (cu_TY cI cZ cQ) yX9_setRate cX9_setRate 2 .int 2 44 0 0 [.ref o, .int v] [(o, .inr (7, [.int 0, .ref m1, .int 0, .int 0, .int 0, .int 0, .int 0, .ref m2, .ref m3, .ref m4, .ref m5, .int 0, .ref m6, .ref m7, .int 0, .ref m8, .ref m9, .long 0, .ref m10, .ref m11, .ref m12, .int 0, .int 0, .int 0, .int 0, .ref m13, .int 0, .ref m14])), (m3, .inl (cI, 30, .inl (upd (fun _ => 0) 28 (1 : Int32)))), (m5, .inl (cI, 420, .inl (fun _ => 0)))] (fun r ww => (r = cu_s9 v) ∧ ww = []) := by
  refine cu_W.intro (by decide) (Nat.le_of_ble_eq_true rfl) ?_
  intro p e s m args below meth c Q ls A S hret hP hD hS hA hK hl
  obtain ⟨hx, hb, hml, hown, hg⟩ := S
  have hown : s.vm.findClass RX9 = some m.cls := hown
  have hl : lv_has ls 2 [(0, .ref o), (1, .int v)] := hl
  refine lv_aload_n hx hb d_X9_setRate_0 rfl (lv_at hl 0 rfl) ?_
  refine lv_iconst (v := 0) hx hb d_X9_setRate_1 (by decide) ?_
  refine va_put (D := D) (ci := 7) (v := .int 0) (ty := .int) (C := RX9) (T := TX9) (N := 28) hx hb hg cu_iX9 tyX9 tyX9_ok nmX9 hown hK.1 hP hD hS 0 rfl rfl 0 (by decide) (hg _ k_684) (fun _ h9 => h9) rfl (by decide +kernel) rfl rfl (Nat.le_of_ble_eq_true rfl) d_X9_setRate_2 (fun H locs hP hD hS => ?_)
  have hP : va_P D vwCl [(o, .inr (7, [.int 0, .ref m1, .int 0, .int 0, .int 0, .int 0, .int 0, .ref m2, .ref m3, .ref m4, .ref m5, .int 0, .ref m6, .ref m7, .int 0, .ref m8, .ref m9, .long 0, .ref m10, .ref m11, .ref m12, .int 0, .int 0, .int 0, .int 0, .ref m13, .int 0, .ref m14])), (m3, .inl (cI, 30, .inl (upd (fun _ => 0) 28 (1 : Int32)))), (m5, .inl (cI, 420, .inl (fun _ => 0)))] H := hP
  have hD : va_D A [(o, .inr (7, [.int 0, .ref m1, .int 0, .int 0, .int 0, .int 0, .int 0, .ref m2, .ref m3, .ref m4, .ref m5, .int 0, .ref m6, .ref m7, .int 0, .ref m8, .ref m9, .long 0, .ref m10, .ref m11, .ref m12, .int 0, .int 0, .int 0, .int 0, .ref m13, .int 0, .ref m14])), (m3, .inl (cI, 30, .inl (upd (fun _ => 0) 28 (1 : Int32)))), (m5, .inl (cI, 420, .inl (fun _ => 0)))] := hD
  refine lv_iload_n hx hb d_X9_setRate_5 rfl (lv_at hl 1 rfl) ?_
  refine lv_i2l (v := v.toInt64) hx hb d_X9_setRate_6 rfl ?_
  refine lv_lconst (v := 0) hx hb d_X9_setRate_7 (by decide) ?_
  refine lv_ldc2 (v := 9) hx hb hown (hg _ k_869) d_X9_setRate_8 ?_
  refine cu_SR (wc := []) (rest := []) [.long v.toInt64, .long 0, .long 9] ⟨hx, hb, hml, hown, hg⟩ (c_X9_in l D cI cZ cQ v.toInt64 0 9) hd_X9_in k_776 k_774 k_775 k_49 ⟨Nat.le_of_ble_eq_true rfl, Nat.le_of_ble_eq_true rfl⟩ ⟨Nat.le_of_ble_eq_true rfl, Nat.le_of_ble_eq_true rfl⟩ hP hK [] rfl rfl hl.1 rfl (Nat.le_of_ble_eq_true rfl) d_X9_setRate_11 (fun r_1 hr_2 => ?_)
  replace hr_2 : r_1 = cu_i32 v 0 9 := by rw [hr_2]; exact cu_inI (by decide) (by decide)
  subst hr_2
  by_cases hc_3 : v < 0
  · skip
    refine cu_topi (y := 0) (by unfold cu_i32; rw [if_pos hc_3]) ?_
    refine lv_if_eq (tgt := 27) hx hb d_X9_setRate_14 (by decide) (fun _ => ?_) (fun c_4 => absurd (by decide +kernel) c_4)
    refine lv_bipush (v := (-2)) hx hb d_X9_setRate_27 (by decide) ?_
    exact hret _ _ _ _ [] _ _ _ (hP.sub (ws' := []) [] rfl) (hD.sub (ws' := []) [] (by decide) rfl) hS (Nat.le_of_ble_eq_true rfl) (Nat.le_of_ble_eq_true rfl) d_X9_setRate_29 (rfl) ⟨by unfold cu_s9; rw [if_pos hc_3], rfl⟩
  · skip
    by_cases hc_5 : 9 < v
    · skip
      refine cu_topi (y := 0) (by unfold cu_i32; rw [if_neg hc_3, if_pos hc_5]) ?_
      refine lv_if_eq (tgt := 27) hx hb d_X9_setRate_14 (by decide) (fun _ => ?_) (fun c_6 => absurd (by decide +kernel) c_6)
      refine lv_bipush (v := (-2)) hx hb d_X9_setRate_27 (by decide) ?_
      exact hret _ _ _ _ [] _ _ _ (hP.sub (ws' := []) [] rfl) (hD.sub (ws' := []) [] (by decide) rfl) hS (Nat.le_of_ble_eq_true rfl) (Nat.le_of_ble_eq_true rfl) d_X9_setRate_29 (rfl) ⟨by unfold cu_s9; rw [if_neg hc_3, if_pos hc_5], rfl⟩
    · skip
      refine cu_topi (y := 1) (by unfold cu_i32; rw [if_neg hc_3, if_neg hc_5]) ?_
      refine lv_if_eq (tgt := 27) hx hb d_X9_setRate_14 (by decide) (fun c_7 => absurd c_7 (by decide +kernel)) (fun _ => ?_)
      refine lv_aload_n hx hb d_X9_setRate_17 rfl (lv_at hl 0 rfl) ?_
      refine lv_bipush (v := 28) hx hb d_X9_setRate_18 (by decide) ?_
      refine lv_iload_n hx hb d_X9_setRate_20 rfl (lv_at hl 1 rfl) ?_
      refine cu_VW (wc := [(o, .inr (7, [.int 0, .ref m1, .int 0, .int 0, .int 0, .int 0, .int 0, .ref m2, .ref m3, .ref m4, .ref m5, .int 0, .ref m6, .ref m7, .int 0, .ref m8, .ref m9, .long 0, .ref m10, .ref m11, .ref m12, .int 0, .int 0, .int 0, .int 0, .ref m13, .int 0, .ref m14])), (m3, .inl (cI, 30, .inl (upd (fun _ => 0) 28 (1 : Int32)))), (m5, .inl (cI, 420, .inl (fun _ => 0)))]) (wr := []) (rest := []) [.int 28, .int v] ⟨hx, hb, hml, hown, hg⟩ (c_X9_change28 l D cI cZ cQ o m1 m2 m3 m4 m5 m6 m7 m8 m9 m10 m11 m12 m13 m14 v) hd_X9_change k_860 k_857 k_859 k_29 k_49 ⟨Nat.le_of_ble_eq_true rfl, Nat.le_of_ble_eq_true rfl⟩ ⟨Nat.le_of_ble_eq_true rfl, Nat.le_of_ble_eq_true rfl⟩ hP hD hS hA hK [0, 1, 2] [] rfl rfl (by decide) (by decide) (by decide) 0 rfl rfl rfl hl.1 rfl (Nat.le_of_ble_eq_true rfl) d_X9_setRate_21 (fun r_8 w_10 H locs hw_9 hP hD hS => ?_)
      obtain ⟨hr_11, rfl⟩ := hw_9
      subst hr_11
      have hP : va_P D vwCl [] H := hP
      have hD : va_D A [] := hD
      refine lv_goto (tgt := 29) hx hb d_X9_setRate_24 (by decide) ?_
      exact hret _ _ _ _ [] _ _ _ (hP.sub (ws' := []) [] rfl) (hD.sub (ws' := []) [] (by decide) rfl) hS (Nat.le_of_ble_eq_true rfl) (Nat.le_of_ble_eq_true rfl) d_X9_setRate_29 (rfl) ⟨by unfold cu_s9; rw [if_neg hc_3, if_neg hc_5], rfl⟩
set_option maxHeartbeats 4000000 in
set_option maxRecDepth 100000 in
theorem c_X9_setLaw (l : Launch) (D : va_G) (cI cZ cQ : ClassId) (o m1 m2 m3 m4 m5 m6 m7 m8 m9 m10 m11 m12 m13 m14 : Nat) (v : Int32) : cu_W l D (cu_TY cI cZ cQ) yX9_setLaw cX9_setLaw 2 .int 2 44 0 0 [.ref o, .int v] [(o, .inr (7, [.int 0, .ref m1, .int 0, .int 0, .int 0, .int 0, .int 0, .ref m2, .ref m3, .ref m4, .ref m5, .int 0, .ref m6, .ref m7, .int 0, .ref m8, .ref m9, .long 0, .ref m10, .ref m11, .ref m12, .int 0, .int 0, .int 0, .int 0, .ref m13, .int 0, .ref m14])), (m3, .inl (cI, 30, .inl (upd (fun _ => 0) 28 (1 : Int32)))), (m5, .inl (cI, 420, .inl (fun _ => 0)))] (fun r ww => (r = cu_s2 v 0) ∧ ww = []) := by
  refine cu_W.intro (by decide) (Nat.le_of_ble_eq_true rfl) ?_
  intro p e s m args below meth c Q ls A S hret hP hD hS hA hK hl
  obtain ⟨hx, hb, hml, hown, hg⟩ := S
  have hown : s.vm.findClass RX9 = some m.cls := hown
  have hl : lv_has ls 2 [(0, .ref o), (1, .int v)] := hl
  refine lv_aload_n hx hb d_X9_setLaw_0 rfl (lv_at hl 0 rfl) ?_
  refine lv_iconst (v := 0) hx hb d_X9_setLaw_1 (by decide) ?_
  refine va_put (D := D) (ci := 7) (v := .int 0) (ty := .int) (C := RX9) (T := TX9) (N := 28) hx hb hg cu_iX9 tyX9 tyX9_ok nmX9 hown hK.1 hP hD hS 0 rfl rfl 0 (by decide) (hg _ k_684) (fun _ h9 => h9) rfl (by decide +kernel) rfl rfl (Nat.le_of_ble_eq_true rfl) d_X9_setLaw_2 (fun H locs hP hD hS => ?_)
  have hP : va_P D vwCl [(o, .inr (7, [.int 0, .ref m1, .int 0, .int 0, .int 0, .int 0, .int 0, .ref m2, .ref m3, .ref m4, .ref m5, .int 0, .ref m6, .ref m7, .int 0, .ref m8, .ref m9, .long 0, .ref m10, .ref m11, .ref m12, .int 0, .int 0, .int 0, .int 0, .ref m13, .int 0, .ref m14])), (m3, .inl (cI, 30, .inl (upd (fun _ => 0) 28 (1 : Int32)))), (m5, .inl (cI, 420, .inl (fun _ => 0)))] H := hP
  have hD : va_D A [(o, .inr (7, [.int 0, .ref m1, .int 0, .int 0, .int 0, .int 0, .int 0, .ref m2, .ref m3, .ref m4, .ref m5, .int 0, .ref m6, .ref m7, .int 0, .ref m8, .ref m9, .long 0, .ref m10, .ref m11, .ref m12, .int 0, .int 0, .int 0, .int 0, .ref m13, .int 0, .ref m14])), (m3, .inl (cI, 30, .inl (upd (fun _ => 0) 28 (1 : Int32)))), (m5, .inl (cI, 420, .inl (fun _ => 0)))] := hD
  refine lv_iload_n hx hb d_X9_setLaw_5 rfl (lv_at hl 1 rfl) ?_
  refine lv_i2l (v := v.toInt64) hx hb d_X9_setLaw_6 rfl ?_
  refine lv_lconst (v := 0) hx hb d_X9_setLaw_7 (by decide) ?_
  refine lv_ldc2 (v := 2) hx hb hown (hg _ k_886) d_X9_setLaw_8 ?_
  refine cu_SR (wc := []) (rest := []) [.long v.toInt64, .long 0, .long 2] ⟨hx, hb, hml, hown, hg⟩ (c_X9_in l D cI cZ cQ v.toInt64 0 2) hd_X9_in k_776 k_774 k_775 k_49 ⟨Nat.le_of_ble_eq_true rfl, Nat.le_of_ble_eq_true rfl⟩ ⟨Nat.le_of_ble_eq_true rfl, Nat.le_of_ble_eq_true rfl⟩ hP hK [] rfl rfl hl.1 rfl (Nat.le_of_ble_eq_true rfl) d_X9_setLaw_11 (fun r_1 hr_2 => ?_)
  replace hr_2 : r_1 = cu_i32 v 0 2 := by rw [hr_2]; exact cu_inI (by decide) (by decide)
  subst hr_2
  by_cases hc_3 : v < 0
  · skip
    refine cu_topi (y := 0) (by unfold cu_i32; rw [if_pos hc_3]) ?_
    refine lv_if_eq (tgt := 27) hx hb d_X9_setLaw_14 (by decide) (fun _ => ?_) (fun c_4 => absurd (by decide +kernel) c_4)
    refine lv_bipush (v := (-2)) hx hb d_X9_setLaw_27 (by decide) ?_
    exact hret _ _ _ _ [] _ _ _ (hP.sub (ws' := []) [] rfl) (hD.sub (ws' := []) [] (by decide) rfl) hS (Nat.le_of_ble_eq_true rfl) (Nat.le_of_ble_eq_true rfl) d_X9_setLaw_29 (rfl) ⟨by unfold cu_s2; rw [if_pos hc_3], rfl⟩
  · skip
    by_cases hc_5 : 2 < v
    · skip
      refine cu_topi (y := 0) (by unfold cu_i32; rw [if_neg hc_3, if_pos hc_5]) ?_
      refine lv_if_eq (tgt := 27) hx hb d_X9_setLaw_14 (by decide) (fun _ => ?_) (fun c_6 => absurd (by decide +kernel) c_6)
      refine lv_bipush (v := (-2)) hx hb d_X9_setLaw_27 (by decide) ?_
      exact hret _ _ _ _ [] _ _ _ (hP.sub (ws' := []) [] rfl) (hD.sub (ws' := []) [] (by decide) rfl) hS (Nat.le_of_ble_eq_true rfl) (Nat.le_of_ble_eq_true rfl) d_X9_setLaw_29 (rfl) ⟨by unfold cu_s2; rw [if_neg hc_3, if_pos hc_5], rfl⟩
    · skip
      refine cu_topi (y := 1) (by unfold cu_i32; rw [if_neg hc_3, if_neg hc_5]) ?_
      refine lv_if_eq (tgt := 27) hx hb d_X9_setLaw_14 (by decide) (fun c_7 => absurd c_7 (by decide +kernel)) (fun _ => ?_)
      refine lv_aload_n hx hb d_X9_setLaw_17 rfl (lv_at hl 0 rfl) ?_
      refine lv_bipush (v := 29) hx hb d_X9_setLaw_18 (by decide) ?_
      refine lv_iload_n hx hb d_X9_setLaw_20 rfl (lv_at hl 1 rfl) ?_
      refine cu_VW (wc := [(o, .inr (7, [.int 0, .ref m1, .int 0, .int 0, .int 0, .int 0, .int 0, .ref m2, .ref m3, .ref m4, .ref m5, .int 0, .ref m6, .ref m7, .int 0, .ref m8, .ref m9, .long 0, .ref m10, .ref m11, .ref m12, .int 0, .int 0, .int 0, .int 0, .ref m13, .int 0, .ref m14])), (m3, .inl (cI, 30, .inl (upd (fun _ => 0) 28 (1 : Int32)))), (m5, .inl (cI, 420, .inl (fun _ => 0)))]) (wr := []) (rest := []) [.int 29, .int v] ⟨hx, hb, hml, hown, hg⟩ (c_X9_change29 l D cI cZ cQ o m1 m2 m3 m4 m5 m6 m7 m8 m9 m10 m11 m12 m13 m14 v) hd_X9_change k_860 k_857 k_859 k_29 k_49 ⟨Nat.le_of_ble_eq_true rfl, Nat.le_of_ble_eq_true rfl⟩ ⟨Nat.le_of_ble_eq_true rfl, Nat.le_of_ble_eq_true rfl⟩ hP hD hS hA hK [0, 1, 2] [] rfl rfl (by decide) (by decide) (by decide) 0 rfl rfl rfl hl.1 rfl (Nat.le_of_ble_eq_true rfl) d_X9_setLaw_21 (fun r_8 w_10 H locs hw_9 hP hD hS => ?_)
      obtain ⟨hr_11, rfl⟩ := hw_9
      subst hr_11
      have hP : va_P D vwCl [] H := hP
      have hD : va_D A [] := hD
      refine lv_goto (tgt := 29) hx hb d_X9_setLaw_24 (by decide) ?_
      exact hret _ _ _ _ [] _ _ _ (hP.sub (ws' := []) [] rfl) (hD.sub (ws' := []) [] (by decide) rfl) hS (Nat.le_of_ble_eq_true rfl) (Nat.le_of_ble_eq_true rfl) d_X9_setLaw_29 (rfl) ⟨by unfold cu_s2; rw [if_neg hc_3, if_neg hc_5], rfl⟩
set_option maxHeartbeats 4000000 in
set_option maxRecDepth 100000 in
theorem c_X9_undo (l : Launch) (D : va_G) (cI cZ cQ : ClassId) (o m1 m2 m3 m4 m5 m6 m7 m8 m9 m10 m11 m12 m13 m14 : Nat) : cu_W l D (cu_TY cI cZ cQ) yX9_undo cX9_undo 2 .int 0 0 0 0 [.ref o] [(o, .inr (7, [.int 0, .ref m1, .int 0, .int 0, .int 0, .int 0, .int 0, .ref m2, .ref m3, .ref m4, .ref m5, .int 0, .ref m6, .ref m7, .int 0, .ref m8, .ref m9, .long 0, .ref m10, .ref m11, .ref m12, .int 0, .int 0, .int 0, .int 0, .ref m13, .int 0, .ref m14]))] (fun r ww => (r = (-3)) ∧ ww = []) := by
  refine cu_W.intro (by decide) (Nat.le_of_ble_eq_true rfl) ?_
  intro p e s m args below meth c Q ls A S hret hP hD hS hA hK hl
  obtain ⟨hx, hb, hml, hown, hg⟩ := S
  have hown : s.vm.findClass RX9 = some m.cls := hown
  have hl : lv_has ls 2 [(0, .ref o)] := hl
  refine lv_aload_n hx hb d_X9_undo_0 rfl (lv_at hl 0 rfl) ?_
  refine lv_iconst (v := 0) hx hb d_X9_undo_1 (by decide) ?_
  refine va_put (D := D) (ci := 7) (v := .int 0) (ty := .int) (C := RX9) (T := TX9) (N := 28) hx hb hg cu_iX9 tyX9 tyX9_ok nmX9 hown hK.1 hP hD hS 0 rfl rfl 0 (by decide) (hg _ k_684) (fun _ h9 => h9) rfl (by decide +kernel) rfl rfl (Nat.le_of_ble_eq_true rfl) d_X9_undo_2 (fun H locs hP hD hS => ?_)
  have hP : va_P D vwCl [(o, .inr (7, [.int 0, .ref m1, .int 0, .int 0, .int 0, .int 0, .int 0, .ref m2, .ref m3, .ref m4, .ref m5, .int 0, .ref m6, .ref m7, .int 0, .ref m8, .ref m9, .long 0, .ref m10, .ref m11, .ref m12, .int 0, .int 0, .int 0, .int 0, .ref m13, .int 0, .ref m14]))] H := hP
  have hD : va_D A [(o, .inr (7, [.int 0, .ref m1, .int 0, .int 0, .int 0, .int 0, .int 0, .ref m2, .ref m3, .ref m4, .ref m5, .int 0, .ref m6, .ref m7, .int 0, .ref m8, .ref m9, .long 0, .ref m10, .ref m11, .ref m12, .int 0, .int 0, .int 0, .int 0, .ref m13, .int 0, .ref m14]))] := hD
  refine lv_aload_n hx hb d_X9_undo_5 rfl (lv_at hl 0 rfl) ?_
  refine va_get (D := D) (ci := 7) (v := .int 0) (C := RX9) (T := TX9) (N := 28) hx hb hg cu_iX9 hown hK.1 hP 0 rfl rfl 11 (by decide) (hg _ k_695) (fun _ h9 => h9) rfl d_X9_undo_6 ?_
  refine lv_if_ne (tgt := 15) hx hb d_X9_undo_9 (by decide) (fun c_1 => absurd (by decide +kernel) c_1) (fun _ => ?_)
  refine lv_bipush (v := (-3)) hx hb d_X9_undo_12 (by decide) ?_
  exact hret _ _ _ _ [] _ _ _ (hP.sub (ws' := []) [] rfl) (hD.sub (ws' := []) [] (by decide) rfl) hS (Nat.le_of_ble_eq_true rfl) (Nat.le_of_ble_eq_true rfl) d_X9_undo_14 (rfl) ⟨rfl, rfl⟩
set_option maxHeartbeats 4000000 in
set_option maxRecDepth 100000 in
theorem c_X9_unsee (l : Launch) (D : va_G) (cI cZ cQ : ClassId) (o m1 m2 m3 m4 m5 m6 m7 m8 m9 m10 m11 m12 m13 m14 : Nat) : cu_W l D (cu_TY cI cZ cQ) yX9_unsee cX9_unsee 2 .int 0 0 0 0 [.ref o] [(o, .inr (7, [.int 0, .ref m1, .int 0, .int 0, .int 0, .int 0, .int 0, .ref m2, .ref m3, .ref m4, .ref m5, .int 0, .ref m6, .ref m7, .int 0, .ref m8, .ref m9, .long 0, .ref m10, .ref m11, .ref m12, .int 0, .int 0, .int 0, .int 0, .ref m13, .int 0, .ref m14]))] (fun r ww => (r = 0) ∧ ww = []) := by
  refine cu_W.intro (by decide) (Nat.le_of_ble_eq_true rfl) ?_
  intro p e s m args below meth c Q ls A S hret hP hD hS hA hK hl
  obtain ⟨hx, hb, hml, hown, hg⟩ := S
  have hown : s.vm.findClass RX9 = some m.cls := hown
  have hl : lv_has ls 2 [(0, .ref o)] := hl
  refine lv_aload_n hx hb d_X9_unsee_0 rfl (lv_at hl 0 rfl) ?_
  refine lv_iconst (v := 0) hx hb d_X9_unsee_1 (by decide) ?_
  refine va_put (D := D) (ci := 7) (v := .int 0) (ty := .int) (C := RX9) (T := TX9) (N := 28) hx hb hg cu_iX9 tyX9 tyX9_ok nmX9 hown hK.1 hP hD hS 0 rfl rfl 0 (by decide) (hg _ k_684) (fun _ h9 => h9) rfl (by decide +kernel) rfl rfl (Nat.le_of_ble_eq_true rfl) d_X9_unsee_2 (fun H locs hP hD hS => ?_)
  have hP : va_P D vwCl [(o, .inr (7, [.int 0, .ref m1, .int 0, .int 0, .int 0, .int 0, .int 0, .ref m2, .ref m3, .ref m4, .ref m5, .int 0, .ref m6, .ref m7, .int 0, .ref m8, .ref m9, .long 0, .ref m10, .ref m11, .ref m12, .int 0, .int 0, .int 0, .int 0, .ref m13, .int 0, .ref m14]))] H := hP
  have hD : va_D A [(o, .inr (7, [.int 0, .ref m1, .int 0, .int 0, .int 0, .int 0, .int 0, .ref m2, .ref m3, .ref m4, .ref m5, .int 0, .ref m6, .ref m7, .int 0, .ref m8, .ref m9, .long 0, .ref m10, .ref m11, .ref m12, .int 0, .int 0, .int 0, .int 0, .ref m13, .int 0, .ref m14]))] := hD
  refine lv_aload_n hx hb d_X9_unsee_5 rfl (lv_at hl 0 rfl) ?_
  refine va_get (D := D) (ci := 7) (v := .int 0) (C := RX9) (T := TX9) (N := 28) hx hb hg cu_iX9 hown hK.1 hP 0 rfl rfl 14 (by decide) (hg _ k_698) (fun _ h9 => h9) rfl d_X9_unsee_6 ?_
  refine lv_istore_n (lv' := [(1, .int 0), (0, .ref o)]) hx hb d_X9_unsee_9 rfl hl (by decide) rfl (fun ls hl => ?_)
  refine lv_aload_n hx hb d_X9_unsee_10 rfl (lv_at hl 1 rfl) ?_
  refine lv_iconst (v := 0) hx hb d_X9_unsee_11 (by decide) ?_
  refine va_put (D := D) (ci := 7) (v := .int 0) (ty := .int) (C := RX9) (T := TX9) (N := 28) hx hb hg cu_iX9 tyX9 tyX9_ok nmX9 hown hK.1 hP hD hS 0 rfl rfl 14 (by decide) (hg _ k_698) (fun _ h9 => h9) rfl (by decide +kernel) rfl rfl (Nat.le_of_ble_eq_true rfl) d_X9_unsee_12 (fun H locs hP hD hS => ?_)
  have hP : va_P D vwCl [(o, .inr (7, [.int 0, .ref m1, .int 0, .int 0, .int 0, .int 0, .int 0, .ref m2, .ref m3, .ref m4, .ref m5, .int 0, .ref m6, .ref m7, .int 0, .ref m8, .ref m9, .long 0, .ref m10, .ref m11, .ref m12, .int 0, .int 0, .int 0, .int 0, .ref m13, .int 0, .ref m14]))] H := hP
  have hD : va_D A [(o, .inr (7, [.int 0, .ref m1, .int 0, .int 0, .int 0, .int 0, .int 0, .ref m2, .ref m3, .ref m4, .ref m5, .int 0, .ref m6, .ref m7, .int 0, .ref m8, .ref m9, .long 0, .ref m10, .ref m11, .ref m12, .int 0, .int 0, .int 0, .int 0, .ref m13, .int 0, .ref m14]))] := hD
  refine lv_iload_n hx hb d_X9_unsee_15 rfl (lv_at hl 0 rfl) ?_
  exact hret _ _ _ _ [] _ _ _ (hP.sub (ws' := []) [] rfl) (hD.sub (ws' := []) [] (by decide) rfl) hS (Nat.le_of_ble_eq_true rfl) (Nat.le_of_ble_eq_true rfl) d_X9_unsee_16 (rfl) ⟨rfl, rfl⟩
set_option maxHeartbeats 4000000 in
set_option maxRecDepth 100000 in
theorem c_X9_seed (l : Launch) (D : va_G) (cI cZ cQ : ClassId) (o m1 m2 m3 m4 m5 m6 m7 m8 m9 m10 m11 m12 m13 m14 : Nat) (v : Int64) : cu_L l D (cu_TY cI cZ cQ) yX9_seed cX9_seed 5 0 0 0 0 [.ref o, .long v] [(o, .inr (7, [.int 0, .ref m1, .int 0, .int 0, .int 0, .int 0, .int 0, .ref m2, .ref m3, .ref m4, .ref m5, .int 0, .ref m6, .ref m7, .int 0, .ref m8, .ref m9, .long 0, .ref m10, .ref m11, .ref m12, .int 0, .int 0, .int 0, .int 0, .ref m13, .int 0, .ref m14]))] (fun r ww => (r = 0) ∧ ww = []) := by
  refine cu_L.intro (by decide) (Nat.le_of_ble_eq_true rfl) ?_
  intro p e s m args below meth c Q ls A S hret hP hD hS hA hK hl
  obtain ⟨hx, hb, hml, hown, hg⟩ := S
  have hown : s.vm.findClass RX9 = some m.cls := hown
  have hl : lv_has ls 5 [(0, .ref o), (1, .long v)] := hl
  refine lv_aload_n hx hb d_X9_seed_0 rfl (lv_at hl 0 rfl) ?_
  refine lv_iconst (v := 0) hx hb d_X9_seed_1 (by decide) ?_
  refine va_put (D := D) (ci := 7) (v := .int 0) (ty := .int) (C := RX9) (T := TX9) (N := 28) hx hb hg cu_iX9 tyX9 tyX9_ok nmX9 hown hK.1 hP hD hS 0 rfl rfl 0 (by decide) (hg _ k_684) (fun _ h9 => h9) rfl (by decide +kernel) rfl rfl (Nat.le_of_ble_eq_true rfl) d_X9_seed_2 (fun H locs hP hD hS => ?_)
  have hP : va_P D vwCl [(o, .inr (7, [.int 0, .ref m1, .int 0, .int 0, .int 0, .int 0, .int 0, .ref m2, .ref m3, .ref m4, .ref m5, .int 0, .ref m6, .ref m7, .int 0, .ref m8, .ref m9, .long 0, .ref m10, .ref m11, .ref m12, .int 0, .int 0, .int 0, .int 0, .ref m13, .int 0, .ref m14]))] H := hP
  have hD : va_D A [(o, .inr (7, [.int 0, .ref m1, .int 0, .int 0, .int 0, .int 0, .int 0, .ref m2, .ref m3, .ref m4, .ref m5, .int 0, .ref m6, .ref m7, .int 0, .ref m8, .ref m9, .long 0, .ref m10, .ref m11, .ref m12, .int 0, .int 0, .int 0, .int 0, .ref m13, .int 0, .ref m14]))] := hD
  refine lv_aload_n hx hb d_X9_seed_5 rfl (lv_at hl 0 rfl) ?_
  refine va_get (D := D) (ci := 7) (v := .long 0) (C := RX9) (T := TX9) (N := 28) hx hb hg cu_iX9 hown hK.1 hP 0 rfl rfl 17 (by decide) (hg _ k_701) (fun _ h9 => h9) rfl d_X9_seed_6 ?_
  refine lv_lstore_n (lv' := [(3, .long 0), (0, .ref o), (1, .long v)]) hx hb d_X9_seed_9 rfl hl (by decide) rfl (fun ls hl => ?_)
  refine lv_aload_n hx hb d_X9_seed_10 rfl (lv_at hl 1 rfl) ?_
  refine lv_lload_n hx hb d_X9_seed_11 rfl (lv_at hl 2 rfl) ?_
  refine va_put (D := D) (ci := 7) (v := .long v) (ty := .long) (C := RX9) (T := TX9) (N := 28) hx hb hg cu_iX9 tyX9 tyX9_ok nmX9 hown hK.1 hP hD hS 0 rfl rfl 17 (by decide) (hg _ k_701) (fun _ h9 => h9) rfl (by decide +kernel) rfl rfl (Nat.le_of_ble_eq_true rfl) d_X9_seed_12 (fun H locs hP hD hS => ?_)
  have hP : va_P D vwCl [(o, .inr (7, [.int 0, .ref m1, .int 0, .int 0, .int 0, .int 0, .int 0, .ref m2, .ref m3, .ref m4, .ref m5, .int 0, .ref m6, .ref m7, .int 0, .ref m8, .ref m9, .long v, .ref m10, .ref m11, .ref m12, .int 0, .int 0, .int 0, .int 0, .ref m13, .int 0, .ref m14]))] H := hP
  have hD : va_D A [(o, .inr (7, [.int 0, .ref m1, .int 0, .int 0, .int 0, .int 0, .int 0, .ref m2, .ref m3, .ref m4, .ref m5, .int 0, .ref m6, .ref m7, .int 0, .ref m8, .ref m9, .long v, .ref m10, .ref m11, .ref m12, .int 0, .int 0, .int 0, .int 0, .ref m13, .int 0, .ref m14]))] := hD
  refine lv_lload_n hx hb d_X9_seed_15 rfl (lv_at hl 0 rfl) ?_
  exact hret _ _ _ _ [] _ _ _ (hP.sub (ws' := []) [] rfl) (hD.sub (ws' := []) [] (by decide) rfl) hS (Nat.le_of_ble_eq_true rfl) (Nat.le_of_ble_eq_true rfl) d_X9_seed_16 ⟨rfl, rfl⟩
set_option maxHeartbeats 4000000 in
set_option maxRecDepth 100000 in
theorem c_X9_falseOnes (l : Launch) (D : va_G) (cI cZ cQ : ClassId) (o m1 m2 m3 m4 m5 m6 m7 m8 m9 m10 m11 m12 m13 m14 : Nat) : cu_R l D (cu_TY cI cZ cQ) yX9_falseOnes cX9_falseOnes 3 .int 0 0 [.ref o] [(o, .inr (7, [.int 0, .ref m1, .int 0, .int 0, .int 0, .int 0, .int 0, .ref m2, .ref m3, .ref m4, .ref m5, .int 0, .ref m6, .ref m7, .int 0, .ref m8, .ref m9, .long 0, .ref m10, .ref m11, .ref m12, .int 0, .int 0, .int 0, .int 0, .ref m13, .int 0, .ref m14]))] (fun r => r = 0) := by
  refine cu_R.intro (by decide) (Nat.le_of_ble_eq_true rfl) ?_
  intro p e s m args below meth c Q ls S hret hP hK hl
  obtain ⟨hx, hb, hml, hown, hg⟩ := S
  have hown : s.vm.findClass RX9 = some m.cls := hown
  have hl : lv_has ls 3 [(0, .ref o)] := hl
  refine lv_iconst (v := 0) hx hb d_X9_falseOnes_0 (by decide) ?_
  refine lv_istore_n (lv' := [(1, .int 0), (0, .ref o)]) hx hb d_X9_falseOnes_1 rfl hl (by decide) rfl (fun ls hl => ?_)
  refine lv_iconst (v := 0) hx hb d_X9_falseOnes_2 (by decide) ?_
  refine lv_istore_n (lv' := [(2, .int 0), (1, .int 0), (0, .ref o)]) hx hb d_X9_falseOnes_3 rfl hl (by decide) rfl (fun ls hl => ?_)
  refine lv_iload_n hx hb d_X9_falseOnes_4 rfl (lv_at hl 0 rfl) ?_
  refine lv_aload_n hx hb d_X9_falseOnes_5 rfl (lv_at hl 2 rfl) ?_
  refine va_get (D := D) (ci := 7) (v := .int 0) (C := RX9) (T := TX9) (N := 28) hx hb hg cu_iX9 hown hK.1 hP 0 rfl rfl 3 (by decide) (hg _ k_687) (fun _ h9 => h9) rfl d_X9_falseOnes_6 ?_
  refine lv_icmp_ge (tgt := 56) hx hb d_X9_falseOnes_9 (by decide) (fun _ => ?_) (fun c_1 => absurd (by decide +kernel) c_1)
  refine lv_iload_n hx hb d_X9_falseOnes_56 rfl (lv_at hl 1 rfl) ?_
  exact hret _ _ _ d_X9_falseOnes_57 (rfl) (rfl)
set_option maxHeartbeats 4000000 in
set_option maxRecDepth 100000 in
theorem c_X9_count (l : Launch) (D : va_G) (cI cZ cQ : ClassId) (o m1 m2 m3 m4 m5 m6 m7 m8 m9 m10 m11 m12 m13 m14 : Nat) (c1 : Int32) : cu_W l D (cu_TY cI cZ cQ) yX9_count cX9_count 2 .int 1 22 0 0 [.ref o, .int c1] [(o, .inr (7, [.int 0, .ref m1, .int 0, .int 0, .int 0, .int 0, .int 0, .ref m2, .ref m3, .ref m4, .ref m5, .int 0, .ref m6, .ref m7, .int 0, .ref m8, .ref m9, .long 0, .ref m10, .ref m11, .ref m12, .int 0, .int 0, .int 0, .int 0, .ref m13, .int 0, .ref m14])), (m3, .inl (cI, 30, .inl (upd (fun _ => 0) 28 (1 : Int32))))] (fun r ww => (r = cu_sct c1) ∧ ww = []) := by
  refine cu_W.intro (by decide) (Nat.le_of_ble_eq_true rfl) ?_
  intro p e s m args below meth c Q ls A S hret hP hD hS hA hK hl
  obtain ⟨hx, hb, hml, hown, hg⟩ := S
  have hown : s.vm.findClass RX9 = some m.cls := hown
  have hl : lv_has ls 2 [(0, .ref o), (1, .int c1)] := hl
  refine lv_aload_n hx hb d_X9_count_0 rfl (lv_at hl 0 rfl) ?_
  refine lv_iconst (v := 0) hx hb d_X9_count_1 (by decide) ?_
  refine va_put (D := D) (ci := 7) (v := .int 0) (ty := .int) (C := RX9) (T := TX9) (N := 28) hx hb hg cu_iX9 tyX9 tyX9_ok nmX9 hown hK.1 hP hD hS 0 rfl rfl 0 (by decide) (hg _ k_684) (fun _ h9 => h9) rfl (by decide +kernel) rfl rfl (Nat.le_of_ble_eq_true rfl) d_X9_count_2 (fun H locs hP hD hS => ?_)
  have hP : va_P D vwCl [(o, .inr (7, [.int 0, .ref m1, .int 0, .int 0, .int 0, .int 0, .int 0, .ref m2, .ref m3, .ref m4, .ref m5, .int 0, .ref m6, .ref m7, .int 0, .ref m8, .ref m9, .long 0, .ref m10, .ref m11, .ref m12, .int 0, .int 0, .int 0, .int 0, .ref m13, .int 0, .ref m14])), (m3, .inl (cI, 30, .inl (upd (fun _ => 0) 28 (1 : Int32))))] H := hP
  have hD : va_D A [(o, .inr (7, [.int 0, .ref m1, .int 0, .int 0, .int 0, .int 0, .int 0, .ref m2, .ref m3, .ref m4, .ref m5, .int 0, .ref m6, .ref m7, .int 0, .ref m8, .ref m9, .long 0, .ref m10, .ref m11, .ref m12, .int 0, .int 0, .int 0, .int 0, .ref m13, .int 0, .ref m14])), (m3, .inl (cI, 30, .inl (upd (fun _ => 0) 28 (1 : Int32))))] := hD
  refine lv_iload_n hx hb d_X9_count_5 rfl (lv_at hl 1 rfl) ?_
  by_cases hk_1 : c1 = 0
  · skip
    refine cu_topi (y := 0) hk_1 ?_
    refine lv_tableIn (off := 50) (tgt := 56) hx hb d_X9_count_6 (by decide) (by decide) (by decide +kernel) (by decide) ?_
    refine lv_aload_n hx hb d_X9_count_56 rfl (lv_at hl 0 rfl) ?_
    refine va_get (D := D) (ci := 7) (v := .int 0) (C := RX9) (T := TX9) (N := 28) hx hb hg cu_iX9 hown hK.1 hP 0 rfl rfl 2 (by decide) (hg _ k_686) (fun _ h9 => h9) rfl d_X9_count_57 ?_
    exact hret _ _ _ _ [] _ _ _ (hP.sub (ws' := []) [] rfl) (hD.sub (ws' := []) [] (by decide) rfl) hS (Nat.le_of_ble_eq_true rfl) (Nat.le_of_ble_eq_true rfl) d_X9_count_60 (rfl) ⟨by unfold cu_sct; rw [if_pos hk_1], rfl⟩
  · skip
    by_cases hk_2 : c1 = 1
    · skip
      refine cu_topi (y := 1) hk_2 ?_
      refine lv_tableIn (off := 55) (tgt := 61) hx hb d_X9_count_6 (by decide) (by decide) (by decide +kernel) (by decide) ?_
      refine lv_aload_n hx hb d_X9_count_61 rfl (lv_at hl 0 rfl) ?_
      refine va_get (D := D) (ci := 7) (v := .int 0) (C := RX9) (T := TX9) (N := 28) hx hb hg cu_iX9 hown hK.1 hP 0 rfl rfl 3 (by decide) (hg _ k_687) (fun _ h9 => h9) rfl d_X9_count_62 ?_
      exact hret _ _ _ _ [] _ _ _ (hP.sub (ws' := []) [] rfl) (hD.sub (ws' := []) [] (by decide) rfl) hS (Nat.le_of_ble_eq_true rfl) (Nat.le_of_ble_eq_true rfl) d_X9_count_65 (rfl) ⟨by unfold cu_sct; rw [if_neg hk_1, if_pos hk_2], rfl⟩
    · skip
      by_cases hk_3 : c1 = 2
      · skip
        refine cu_topi (y := 2) hk_3 ?_
        refine lv_tableIn (off := 60) (tgt := 66) hx hb d_X9_count_6 (by decide) (by decide) (by decide +kernel) (by decide) ?_
        refine lv_aload_n hx hb d_X9_count_66 rfl (lv_at hl 0 rfl) ?_
        refine va_get (D := D) (ci := 7) (v := .int 0) (C := RX9) (T := TX9) (N := 28) hx hb hg cu_iX9 hown hK.1 hP 0 rfl rfl 4 (by decide) (hg _ k_688) (fun _ h9 => h9) rfl d_X9_count_67 ?_
        exact hret _ _ _ _ [] _ _ _ (hP.sub (ws' := []) [] rfl) (hD.sub (ws' := []) [] (by decide) rfl) hS (Nat.le_of_ble_eq_true rfl) (Nat.le_of_ble_eq_true rfl) d_X9_count_70 (rfl) ⟨by unfold cu_sct; rw [if_neg hk_1, if_neg hk_2, if_pos hk_3], rfl⟩
      · skip
        by_cases hk_4 : c1 = 3
        · skip
          refine cu_topi (y := 3) hk_4 ?_
          refine lv_tableIn (off := 65) (tgt := 71) hx hb d_X9_count_6 (by decide) (by decide) (by decide +kernel) (by decide) ?_
          refine lv_aload_n hx hb d_X9_count_71 rfl (lv_at hl 0 rfl) ?_
          refine va_get (D := D) (ci := 7) (v := .ref m3) (C := RX9) (T := TX9) (N := 28) hx hb hg cu_iX9 hown hK.1 hP 0 rfl rfl 8 (by decide) (hg _ k_692) (fun _ h9 => h9) rfl d_X9_count_72 ?_
          refine lv_bipush (v := 28) hx hb d_X9_count_75 (by decide) ?_
          refine va_iald hx hb hK.1 hP 1 0 rfl rfl (vp_in_nI (n := 28) (N := 30) (Nat.le_of_ble_eq_true rfl) (by decide)) d_X9_count_77 ?_
          refine cu_topi (y := 1) rfl ?_
          exact hret _ _ _ _ [] _ _ _ (hP.sub (ws' := []) [] rfl) (hD.sub (ws' := []) [] (by decide) rfl) hS (Nat.le_of_ble_eq_true rfl) (Nat.le_of_ble_eq_true rfl) d_X9_count_78 (rfl) ⟨by unfold cu_sct; rw [if_neg hk_1, if_neg hk_2, if_neg hk_3, if_pos hk_4], rfl⟩
        · skip
          by_cases hk_5 : c1 = 4
          · skip
            refine cu_topi (y := 4) hk_5 ?_
            refine lv_tableIn (off := 73) (tgt := 79) hx hb d_X9_count_6 (by decide) (by decide) (by decide +kernel) (by decide) ?_
            refine lv_aload_n hx hb d_X9_count_79 rfl (lv_at hl 0 rfl) ?_
            refine va_get (D := D) (ci := 7) (v := .ref m3) (C := RX9) (T := TX9) (N := 28) hx hb hg cu_iX9 hown hK.1 hP 0 rfl rfl 8 (by decide) (hg _ k_692) (fun _ h9 => h9) rfl d_X9_count_80 ?_
            refine lv_bipush (v := 29) hx hb d_X9_count_83 (by decide) ?_
            refine va_iald hx hb hK.1 hP 1 0 rfl rfl (vp_in_nI (n := 29) (N := 30) (Nat.le_of_ble_eq_true rfl) (by decide)) d_X9_count_85 ?_
            refine cu_topi (y := 0) rfl ?_
            exact hret _ _ _ _ [] _ _ _ (hP.sub (ws' := []) [] rfl) (hD.sub (ws' := []) [] (by decide) rfl) hS (Nat.le_of_ble_eq_true rfl) (Nat.le_of_ble_eq_true rfl) d_X9_count_86 (rfl) ⟨by unfold cu_sct; rw [if_neg hk_1, if_neg hk_2, if_neg hk_3, if_neg hk_4, if_pos hk_5], rfl⟩
          · skip
            by_cases hk_6 : c1 = 5
            · skip
              refine cu_topi (y := 5) hk_6 ?_
              refine lv_tableIn (off := 81) (tgt := 87) hx hb d_X9_count_6 (by decide) (by decide) (by decide +kernel) (by decide) ?_
              refine lv_aload_n hx hb d_X9_count_87 rfl (lv_at hl 0 rfl) ?_
              refine va_get (D := D) (ci := 7) (v := .ref m3) (C := RX9) (T := TX9) (N := 28) hx hb hg cu_iX9 hown hK.1 hP 0 rfl rfl 8 (by decide) (hg _ k_692) (fun _ h9 => h9) rfl d_X9_count_88 ?_
              refine lv_bipush (v := 24) hx hb d_X9_count_91 (by decide) ?_
              refine va_iald hx hb hK.1 hP 1 0 rfl rfl (vp_in_nI (n := 24) (N := 30) (Nat.le_of_ble_eq_true rfl) (by decide)) d_X9_count_93 ?_
              refine cu_topi (y := 0) rfl ?_
              exact hret _ _ _ _ [] _ _ _ (hP.sub (ws' := []) [] rfl) (hD.sub (ws' := []) [] (by decide) rfl) hS (Nat.le_of_ble_eq_true rfl) (Nat.le_of_ble_eq_true rfl) d_X9_count_94 (rfl) ⟨by unfold cu_sct; rw [if_neg hk_1, if_neg hk_2, if_neg hk_3, if_neg hk_4, if_neg hk_5, if_pos hk_6], rfl⟩
            · skip
              by_cases hk_7 : c1 = 6
              · skip
                refine cu_topi (y := 6) hk_7 ?_
                refine lv_tableIn (off := 89) (tgt := 95) hx hb d_X9_count_6 (by decide) (by decide) (by decide +kernel) (by decide) ?_
                refine lv_aload_n hx hb d_X9_count_95 rfl (lv_at hl 0 rfl) ?_
                refine cu_VR (wc := [(o, .inr (7, [.int 0, .ref m1, .int 0, .int 0, .int 0, .int 0, .int 0, .ref m2, .ref m3, .ref m4, .ref m5, .int 0, .ref m6, .ref m7, .int 0, .ref m8, .ref m9, .long 0, .ref m10, .ref m11, .ref m12, .int 0, .int 0, .int 0, .int 0, .ref m13, .int 0, .ref m14]))]) (rest := []) [] ⟨hx, hb, hml, hown, hg⟩ (c_X9_falseOnes l D cI cZ cQ o m1 m2 m3 m4 m5 m6 m7 m8 m9 m10 m11 m12 m13 m14) hd_X9_falseOnes k_1027 k_1024 k_1026 k_41 k_49 ⟨Nat.le_of_ble_eq_true rfl, Nat.le_of_ble_eq_true rfl⟩ ⟨Nat.le_of_ble_eq_true rfl, Nat.le_of_ble_eq_true rfl⟩ hP hK [0] rfl 0 rfl rfl rfl hl.1 rfl (Nat.le_of_ble_eq_true rfl) d_X9_count_96 (fun r_8 hr_9 => ?_)
                subst hr_9
                exact hret _ _ _ _ [] _ _ _ (hP.sub (ws' := []) [] rfl) (hD.sub (ws' := []) [] (by decide) rfl) hS (Nat.le_of_ble_eq_true rfl) (Nat.le_of_ble_eq_true rfl) d_X9_count_99 (rfl) ⟨by unfold cu_sct; rw [if_neg hk_1, if_neg hk_2, if_neg hk_3, if_neg hk_4, if_neg hk_5, if_neg hk_6, if_pos hk_7], rfl⟩
              · skip
                by_cases hk_10 : c1 = 7
                · skip
                  refine cu_topi (y := 7) hk_10 ?_
                  refine lv_tableIn (off := 94) (tgt := 100) hx hb d_X9_count_6 (by decide) (by decide) (by decide +kernel) (by decide) ?_
                  refine lv_aload_n hx hb d_X9_count_100 rfl (lv_at hl 0 rfl) ?_
                  refine va_get (D := D) (ci := 7) (v := .int 0) (C := RX9) (T := TX9) (N := 28) hx hb hg cu_iX9 hown hK.1 hP 0 rfl rfl 11 (by decide) (hg _ k_695) (fun _ h9 => h9) rfl d_X9_count_101 ?_
                  exact hret _ _ _ _ [] _ _ _ (hP.sub (ws' := []) [] rfl) (hD.sub (ws' := []) [] (by decide) rfl) hS (Nat.le_of_ble_eq_true rfl) (Nat.le_of_ble_eq_true rfl) d_X9_count_104 (rfl) ⟨by unfold cu_sct; rw [if_neg hk_1, if_neg hk_2, if_neg hk_3, if_neg hk_4, if_neg hk_5, if_neg hk_6, if_neg hk_7, if_pos hk_10], rfl⟩
                · skip
                  by_cases hk_11 : c1 = 8
                  · skip
                    refine cu_topi (y := 8) hk_11 ?_
                    refine lv_tableIn (off := 99) (tgt := 105) hx hb d_X9_count_6 (by decide) (by decide) (by decide +kernel) (by decide) ?_
                    refine lv_aload_n hx hb d_X9_count_105 rfl (lv_at hl 0 rfl) ?_
                    refine va_get (D := D) (ci := 7) (v := .int 0) (C := RX9) (T := TX9) (N := 28) hx hb hg cu_iX9 hown hK.1 hP 0 rfl rfl 14 (by decide) (hg _ k_698) (fun _ h9 => h9) rfl d_X9_count_106 ?_
                    exact hret _ _ _ _ [] _ _ _ (hP.sub (ws' := []) [] rfl) (hD.sub (ws' := []) [] (by decide) rfl) hS (Nat.le_of_ble_eq_true rfl) (Nat.le_of_ble_eq_true rfl) d_X9_count_109 (rfl) ⟨by unfold cu_sct; rw [if_neg hk_1, if_neg hk_2, if_neg hk_3, if_neg hk_4, if_neg hk_5, if_neg hk_6, if_neg hk_7, if_neg hk_10, if_pos hk_11], rfl⟩
                  · skip
                    refine lv_tableOut (tgt := 110) hx hb d_X9_count_6 (cu_out9 hk_1 hk_2 hk_3 hk_4 hk_5 hk_6 hk_7 hk_10 hk_11) (by decide) ?_
                    refine lv_bipush (v := (-2)) hx hb d_X9_count_110 (by decide) ?_
                    exact hret _ _ _ _ [] _ _ _ (hP.sub (ws' := []) [] rfl) (hD.sub (ws' := []) [] (by decide) rfl) hS (Nat.le_of_ble_eq_true rfl) (Nat.le_of_ble_eq_true rfl) d_X9_count_112 (rfl) ⟨by unfold cu_sct; rw [if_neg hk_1, if_neg hk_2, if_neg hk_3, if_neg hk_4, if_neg hk_5, if_neg hk_6, if_neg hk_7, if_neg hk_10, if_neg hk_11], rfl⟩
set_option maxHeartbeats 4000000 in
set_option maxRecDepth 100000 in
theorem c_X9_again (l : Launch) (D : va_G) (cI cZ cQ : ClassId) (o m1 m2 m3 m4 m5 m6 m7 m8 m9 m10 m11 m12 m13 m14 : Nat) (c1 : Int32) : cu_W l D (cu_TY cI cZ cQ) yX9_again cX9_again 3 .int 1 25 0 0 [.ref o, .int c1] [(o, .inr (7, [.int 0, .ref m1, .int 0, .int 0, .int 0, .int 0, .int 0, .ref m2, .ref m3, .ref m4, .ref m5, .int 0, .ref m6, .ref m7, .int 0, .ref m8, .ref m9, .long 0, .ref m10, .ref m11, .ref m12, .int 0, .int 0, .int 0, .int 0, .ref m13, .int 0, .ref m14])), (m7, .inl (cZ, 2, .inl (fun _ => 0)))] (fun r ww => (r = cu_sag c1) ∧ ww = []) := by
  refine cu_W.intro (by decide) (Nat.le_of_ble_eq_true rfl) ?_
  intro p e s m args below meth c Q ls A S hret hP hD hS hA hK hl
  obtain ⟨hx, hb, hml, hown, hg⟩ := S
  have hown : s.vm.findClass RX9 = some m.cls := hown
  have hl : lv_has ls 3 [(0, .ref o), (1, .int c1)] := hl
  refine lv_aload_n hx hb d_X9_again_0 rfl (lv_at hl 0 rfl) ?_
  refine lv_iconst (v := 0) hx hb d_X9_again_1 (by decide) ?_
  refine va_put (D := D) (ci := 7) (v := .int 0) (ty := .int) (C := RX9) (T := TX9) (N := 28) hx hb hg cu_iX9 tyX9 tyX9_ok nmX9 hown hK.1 hP hD hS 0 rfl rfl 0 (by decide) (hg _ k_684) (fun _ h9 => h9) rfl (by decide +kernel) rfl rfl (Nat.le_of_ble_eq_true rfl) d_X9_again_2 (fun H locs hP hD hS => ?_)
  have hP : va_P D vwCl [(o, .inr (7, [.int 0, .ref m1, .int 0, .int 0, .int 0, .int 0, .int 0, .ref m2, .ref m3, .ref m4, .ref m5, .int 0, .ref m6, .ref m7, .int 0, .ref m8, .ref m9, .long 0, .ref m10, .ref m11, .ref m12, .int 0, .int 0, .int 0, .int 0, .ref m13, .int 0, .ref m14])), (m7, .inl (cZ, 2, .inl (fun _ => 0)))] H := hP
  have hD : va_D A [(o, .inr (7, [.int 0, .ref m1, .int 0, .int 0, .int 0, .int 0, .int 0, .ref m2, .ref m3, .ref m4, .ref m5, .int 0, .ref m6, .ref m7, .int 0, .ref m8, .ref m9, .long 0, .ref m10, .ref m11, .ref m12, .int 0, .int 0, .int 0, .int 0, .ref m13, .int 0, .ref m14])), (m7, .inl (cZ, 2, .inl (fun _ => 0)))] := hD
  refine lv_iload_n hx hb d_X9_again_5 rfl (lv_at hl 1 rfl) ?_
  refine lv_i2l (v := c1.toInt64) hx hb d_X9_again_6 rfl ?_
  refine lv_lconst (v := 0) hx hb d_X9_again_7 (by decide) ?_
  refine lv_lconst (v := 1) hx hb d_X9_again_8 (by decide) ?_
  refine cu_SR (wc := []) (rest := []) [.long c1.toInt64, .long 0, .long 1] ⟨hx, hb, hml, hown, hg⟩ (c_X9_in l D cI cZ cQ c1.toInt64 0 1) hd_X9_in k_776 k_774 k_775 k_49 ⟨Nat.le_of_ble_eq_true rfl, Nat.le_of_ble_eq_true rfl⟩ ⟨Nat.le_of_ble_eq_true rfl, Nat.le_of_ble_eq_true rfl⟩ hP hK [] rfl rfl hl.1 rfl (Nat.le_of_ble_eq_true rfl) d_X9_again_9 (fun r_1 hr_2 => ?_)
  replace hr_2 : r_1 = cu_i32 c1 0 1 := by rw [hr_2]; exact cu_inI (by decide) (by decide)
  subst hr_2
  by_cases hc_3 : c1 < 0
  · skip
    refine cu_topi (y := 0) (by unfold cu_i32; rw [if_pos hc_3]) ?_
    refine lv_if_ne (tgt := 17) hx hb d_X9_again_12 (by decide) (fun c_4 => absurd (by decide +kernel) c_4) (fun _ => ?_)
    refine lv_iconst (v := (-1)) hx hb d_X9_again_15 (by decide) ?_
    exact hret _ _ _ _ [] _ _ _ (hP.sub (ws' := []) [] rfl) (hD.sub (ws' := []) [] (by decide) rfl) hS (Nat.le_of_ble_eq_true rfl) (Nat.le_of_ble_eq_true rfl) d_X9_again_16 (rfl) ⟨by unfold cu_sag; rw [if_pos hc_3], rfl⟩
  · skip
    by_cases hc_5 : 1 < c1
    · skip
      refine cu_topi (y := 0) (by unfold cu_i32; rw [if_neg hc_3, if_pos hc_5]) ?_
      refine lv_if_ne (tgt := 17) hx hb d_X9_again_12 (by decide) (fun c_6 => absurd (by decide +kernel) c_6) (fun _ => ?_)
      refine lv_iconst (v := (-1)) hx hb d_X9_again_15 (by decide) ?_
      exact hret _ _ _ _ [] _ _ _ (hP.sub (ws' := []) [] rfl) (hD.sub (ws' := []) [] (by decide) rfl) hS (Nat.le_of_ble_eq_true rfl) (Nat.le_of_ble_eq_true rfl) d_X9_again_16 (rfl) ⟨by unfold cu_sag; rw [if_neg hc_3, if_neg (cu_lt2n hc_5)], rfl⟩
    · skip
      refine cu_topi (y := 1) (by unfold cu_i32; rw [if_neg hc_3, if_neg hc_5]) ?_
      refine lv_if_ne (tgt := 17) hx hb d_X9_again_12 (by decide) (fun _ => ?_) (fun c_7 => absurd c_7 (by decide +kernel))
      refine lv_aload_n hx hb d_X9_again_17 rfl (lv_at hl 0 rfl) ?_
      refine va_get (D := D) (ci := 7) (v := .ref m7) (C := RX9) (T := TX9) (N := 28) hx hb hg cu_iX9 hown hK.1 hP 0 rfl rfl 13 (by decide) (hg _ k_697) (fun _ h9 => h9) rfl d_X9_again_18 ?_
      refine lv_iload_n hx hb d_X9_again_21 rfl (lv_at hl 1 rfl) ?_
      refine va_zald hx hb hK.1 hP 1 1 rfl rfl (cu_in2 hc_3 (cu_lt2p hc_5)) d_X9_again_22 ?_
      refine cu_topi (y := 0) rfl ?_
      refine lv_if_ne (tgt := 29) hx hb d_X9_again_23 (by decide) (fun c_8 => absurd (by decide +kernel) c_8) (fun _ => ?_)
      refine lv_bipush (v := (-3)) hx hb d_X9_again_26 (by decide) ?_
      exact hret _ _ _ _ [] _ _ _ (hP.sub (ws' := []) [] rfl) (hD.sub (ws' := []) [] (by decide) rfl) hS (Nat.le_of_ble_eq_true rfl) (Nat.le_of_ble_eq_true rfl) d_X9_again_28 (rfl) ⟨by unfold cu_sag; rw [if_neg hc_3, if_pos (cu_lt2p hc_5)], rfl⟩
set_option maxHeartbeats 4000000 in
set_option maxRecDepth 100000 in
theorem c_X9_keep (l : Launch) (D : va_G) (cI cZ cQ : ClassId) (o m1 m2 m3 m4 m5 m6 m7 m8 m9 m10 m11 m12 m13 m14 : Nat) (c1 : Int32) : cu_W l D (cu_TY cI cZ cQ) yX9_keep cX9_keep 3 .int 1 25 0 0 [.ref o, .int c1] [(o, .inr (7, [.int 0, .ref m1, .int 0, .int 0, .int 0, .int 0, .int 0, .ref m2, .ref m3, .ref m4, .ref m5, .int 0, .ref m6, .ref m7, .int 0, .ref m8, .ref m9, .long 0, .ref m10, .ref m11, .ref m12, .int 0, .int 0, .int 0, .int 0, .ref m13, .int 0, .ref m14])), (m3, .inl (cI, 30, .inl (upd (fun _ => 0) 28 (1 : Int32)))), (m6, .inl (cI, 60, .inl (fun _ => 0))), (m7, .inl (cZ, 2, .inl (fun _ => 0)))] (fun r ww => (r = cu_skp c1) ∧ ww = []) := by
  refine cu_W.intro (by decide) (Nat.le_of_ble_eq_true rfl) ?_
  intro p e s m args below meth c Q ls A S hret hP hD hS hA hK hl
  obtain ⟨hx, hb, hml, hown, hg⟩ := S
  have hown : s.vm.findClass RX9 = some m.cls := hown
  have hl : lv_has ls 3 [(0, .ref o), (1, .int c1)] := hl
  refine lv_aload_n hx hb d_X9_keep_0 rfl (lv_at hl 0 rfl) ?_
  refine lv_iconst (v := 0) hx hb d_X9_keep_1 (by decide) ?_
  refine va_put (D := D) (ci := 7) (v := .int 0) (ty := .int) (C := RX9) (T := TX9) (N := 28) hx hb hg cu_iX9 tyX9 tyX9_ok nmX9 hown hK.1 hP hD hS 0 rfl rfl 0 (by decide) (hg _ k_684) (fun _ h9 => h9) rfl (by decide +kernel) rfl rfl (Nat.le_of_ble_eq_true rfl) d_X9_keep_2 (fun H locs hP hD hS => ?_)
  have hP : va_P D vwCl [(o, .inr (7, [.int 0, .ref m1, .int 0, .int 0, .int 0, .int 0, .int 0, .ref m2, .ref m3, .ref m4, .ref m5, .int 0, .ref m6, .ref m7, .int 0, .ref m8, .ref m9, .long 0, .ref m10, .ref m11, .ref m12, .int 0, .int 0, .int 0, .int 0, .ref m13, .int 0, .ref m14])), (m3, .inl (cI, 30, .inl (upd (fun _ => 0) 28 (1 : Int32)))), (m6, .inl (cI, 60, .inl (fun _ => 0))), (m7, .inl (cZ, 2, .inl (fun _ => 0)))] H := hP
  have hD : va_D A [(o, .inr (7, [.int 0, .ref m1, .int 0, .int 0, .int 0, .int 0, .int 0, .ref m2, .ref m3, .ref m4, .ref m5, .int 0, .ref m6, .ref m7, .int 0, .ref m8, .ref m9, .long 0, .ref m10, .ref m11, .ref m12, .int 0, .int 0, .int 0, .int 0, .ref m13, .int 0, .ref m14])), (m3, .inl (cI, 30, .inl (upd (fun _ => 0) 28 (1 : Int32)))), (m6, .inl (cI, 60, .inl (fun _ => 0))), (m7, .inl (cZ, 2, .inl (fun _ => 0)))] := hD
  refine lv_iload_n hx hb d_X9_keep_5 rfl (lv_at hl 1 rfl) ?_
  refine lv_i2l (v := c1.toInt64) hx hb d_X9_keep_6 rfl ?_
  refine lv_lconst (v := 0) hx hb d_X9_keep_7 (by decide) ?_
  refine lv_lconst (v := 1) hx hb d_X9_keep_8 (by decide) ?_
  refine cu_SR (wc := []) (rest := []) [.long c1.toInt64, .long 0, .long 1] ⟨hx, hb, hml, hown, hg⟩ (c_X9_in l D cI cZ cQ c1.toInt64 0 1) hd_X9_in k_776 k_774 k_775 k_49 ⟨Nat.le_of_ble_eq_true rfl, Nat.le_of_ble_eq_true rfl⟩ ⟨Nat.le_of_ble_eq_true rfl, Nat.le_of_ble_eq_true rfl⟩ hP hK [] rfl rfl hl.1 rfl (Nat.le_of_ble_eq_true rfl) d_X9_keep_9 (fun r_1 hr_2 => ?_)
  replace hr_2 : r_1 = cu_i32 c1 0 1 := by rw [hr_2]; exact cu_inI (by decide) (by decide)
  subst hr_2
  by_cases hc_3 : c1 < 0
  · skip
    refine cu_topi (y := 0) (by unfold cu_i32; rw [if_pos hc_3]) ?_
    refine lv_if_ne (tgt := 17) hx hb d_X9_keep_12 (by decide) (fun c_4 => absurd (by decide +kernel) c_4) (fun _ => ?_)
    refine lv_iconst (v := (-1)) hx hb d_X9_keep_15 (by decide) ?_
    exact hret _ _ _ _ [] _ _ _ (hP.sub (ws' := []) [] rfl) (hD.sub (ws' := []) [] (by decide) rfl) hS (Nat.le_of_ble_eq_true rfl) (Nat.le_of_ble_eq_true rfl) d_X9_keep_16 (rfl) ⟨by unfold cu_skp; rw [if_pos hc_3], rfl⟩
  · skip
    by_cases hc_5 : 1 < c1
    · skip
      refine cu_topi (y := 0) (by unfold cu_i32; rw [if_neg hc_3, if_pos hc_5]) ?_
      refine lv_if_ne (tgt := 17) hx hb d_X9_keep_12 (by decide) (fun c_6 => absurd (by decide +kernel) c_6) (fun _ => ?_)
      refine lv_iconst (v := (-1)) hx hb d_X9_keep_15 (by decide) ?_
      exact hret _ _ _ _ [] _ _ _ (hP.sub (ws' := []) [] rfl) (hD.sub (ws' := []) [] (by decide) rfl) hS (Nat.le_of_ble_eq_true rfl) (Nat.le_of_ble_eq_true rfl) d_X9_keep_16 (rfl) ⟨by unfold cu_skp; rw [if_neg hc_3, if_neg (cu_lt2n hc_5)], rfl⟩
    · skip
      refine cu_topi (y := 1) (by unfold cu_i32; rw [if_neg hc_3, if_neg hc_5]) ?_
      refine lv_if_ne (tgt := 17) hx hb d_X9_keep_12 (by decide) (fun _ => ?_) (fun c_7 => absurd c_7 (by decide +kernel))
      rcases cu_two hc_3 (cu_lt2p hc_5) with e9 | e9
      · skip
        subst e9
        refine lv_aload_n hx hb d_X9_keep_17 rfl (lv_at hl 0 rfl) ?_
        refine va_get (D := D) (ci := 7) (v := .ref m7) (C := RX9) (T := TX9) (N := 28) hx hb hg cu_iX9 hown hK.1 hP 0 rfl rfl 13 (by decide) (hg _ k_697) (fun _ h9 => h9) rfl d_X9_keep_18 ?_
        refine lv_iload_n hx hb d_X9_keep_21 rfl (lv_at hl 1 rfl) ?_
        refine lv_iconst (v := 1) hx hb d_X9_keep_22 (by decide) ?_
        refine va_zast hx hb hK.1 hP hD hS 3 1 rfl rfl (vp_in_nI (n := 0) (N := 2) (Nat.le_of_ble_eq_true rfl) (by decide)) d_X9_keep_23 (fun H locs hP hD hS => ?_)
        have hP : va_P D vwCl [(o, .inr (7, [.int 0, .ref m1, .int 0, .int 0, .int 0, .int 0, .int 0, .ref m2, .ref m3, .ref m4, .ref m5, .int 0, .ref m6, .ref m7, .int 0, .ref m8, .ref m9, .long 0, .ref m10, .ref m11, .ref m12, .int 0, .int 0, .int 0, .int 0, .ref m13, .int 0, .ref m14])), (m3, .inl (cI, 30, .inl (upd (fun _ => 0) 28 (1 : Int32)))), (m6, .inl (cI, 60, .inl (fun _ => 0))), (m7, .inl (cZ, 2, .inl (upd (fun _ => 0) 0 (vp_nar .boolean (1 : Int32)))))] H := hP
        have hD : va_D A [(o, .inr (7, [.int 0, .ref m1, .int 0, .int 0, .int 0, .int 0, .int 0, .ref m2, .ref m3, .ref m4, .ref m5, .int 0, .ref m6, .ref m7, .int 0, .ref m8, .ref m9, .long 0, .ref m10, .ref m11, .ref m12, .int 0, .int 0, .int 0, .int 0, .ref m13, .int 0, .ref m14])), (m3, .inl (cI, 30, .inl (upd (fun _ => 0) 28 (1 : Int32)))), (m6, .inl (cI, 60, .inl (fun _ => 0))), (m7, .inl (cZ, 2, .inl (upd (fun _ => 0) 0 (vp_nar .boolean (1 : Int32)))))] := hD
        refine lv_iconst (v := 0) hx hb d_X9_keep_24 (by decide) ?_
        refine lv_istore_n (lv' := [(2, .int 0), (0, .ref o), (1, .int 0)]) hx hb d_X9_keep_25 rfl hl (by decide) rfl (fun ls hl => ?_)
        have key_8 : ∀ (n_10 j_9 : Nat) (hj_12 : j_9 + n_10 = 30) (f : Nat → Int32)  (H : Heap) (locs : List Loc) (ls : Array Slot) (hP : va_P D vwCl [(o, .inr (7, [.int 0, .ref m1, .int 0, .int 0, .int 0, .int 0, .int 0, .ref m2, .ref m3, .ref m4, .ref m5, .int 0, .ref m6, .ref m7, .int 0, .ref m8, .ref m9, .long 0, .ref m10, .ref m11, .ref m12, .int 0, .int 0, .int 0, .int 0, .ref m13, .int 0, .ref m14])), (m3, .inl (cI, 30, .inl (upd (fun _ => 0) 28 (1 : Int32)))), (m6, .inl (cI, 60, .inl f)), (m7, .inl (cZ, 2, .inl (upd (fun _ => 0) 0 (vp_nar .boolean (1 : Int32)))))] H) (hD : va_D A [(o, .inr (7, [.int 0, .ref m1, .int 0, .int 0, .int 0, .int 0, .int 0, .ref m2, .ref m3, .ref m4, .ref m5, .int 0, .ref m6, .ref m7, .int 0, .ref m8, .ref m9, .long 0, .ref m10, .ref m11, .ref m12, .int 0, .int 0, .int 0, .int 0, .ref m13, .int 0, .ref m14])), (m3, .inl (cI, 30, .inl (upd (fun _ => 0) 28 (1 : Int32)))), (m6, .inl (cI, 60, .inl f)), (m7, .inl (cZ, 2, .inl (upd (fun _ => 0) 0 (vp_nar .boolean (1 : Int32)))))]) (hS : va_S A s.heap H locs) (hl : lv_has ls 3 [(2, .int (nI j_9)), (0, .ref o), (1, .int 0)]), W p l e (cu_rm 1 25 0 0) s m args below meth c H locs 0 0 Q (F0 m 26 ls []) := by
          intro n_10
          induction n_10 with
          | zero =>
            intro j_9 hj_12 f  H locs ls hP hD hS hl
            obtain rfl : 30 = j_9 := by omega
            have hl : lv_has ls 3 [(2, .int 30), (0, .ref o), (1, .int 0)] := hl
            have hP : va_P D vwCl [(o, .inr (7, [.int 0, .ref m1, .int 0, .int 0, .int 0, .int 0, .int 0, .ref m2, .ref m3, .ref m4, .ref m5, .int 0, .ref m6, .ref m7, .int 0, .ref m8, .ref m9, .long 0, .ref m10, .ref m11, .ref m12, .int 0, .int 0, .int 0, .int 0, .ref m13, .int 0, .ref m14])), (m3, .inl (cI, 30, .inl (upd (fun _ => 0) 28 (1 : Int32)))), (m6, .inl (cI, 60, .inl f)), (m7, .inl (cZ, 2, .inl (upd (fun _ => 0) 0 (vp_nar .boolean (1 : Int32)))))] H := hP
            have hD : va_D A [(o, .inr (7, [.int 0, .ref m1, .int 0, .int 0, .int 0, .int 0, .int 0, .ref m2, .ref m3, .ref m4, .ref m5, .int 0, .ref m6, .ref m7, .int 0, .ref m8, .ref m9, .long 0, .ref m10, .ref m11, .ref m12, .int 0, .int 0, .int 0, .int 0, .ref m13, .int 0, .ref m14])), (m3, .inl (cI, 30, .inl (upd (fun _ => 0) 28 (1 : Int32)))), (m6, .inl (cI, 60, .inl f)), (m7, .inl (cZ, 2, .inl (upd (fun _ => 0) 0 (vp_nar .boolean (1 : Int32)))))] := hD
            refine lv_iload_n hx hb d_X9_keep_26 rfl (lv_at hl 0 rfl) ?_
            refine lv_bipush (v := 30) hx hb d_X9_keep_27 (by decide) ?_
            refine lv_icmp_ge (tgt := 55) hx hb d_X9_keep_29 (by decide) (fun _ => ?_) (fun c_13 => absurd (by decide +kernel) c_13)
            refine lv_aload_n hx hb d_X9_keep_55 rfl (lv_at hl 1 rfl) ?_
            refine va_get (D := D) (ci := 7) (v := .int 0) (C := RX9) (T := TX9) (N := 28) hx hb hg cu_iX9 hown hK.1 hP 0 rfl rfl 3 (by decide) (hg _ k_687) (fun _ h9 => h9) rfl d_X9_keep_56 ?_
            exact hret _ _ _ _ [] _ _ _ (hP.sub (ws' := []) [] rfl) (hD.sub (ws' := []) [] (by decide) rfl) hS (Nat.le_of_ble_eq_true rfl) (Nat.le_of_ble_eq_true rfl) d_X9_keep_59 (rfl) ⟨by unfold cu_skp; rw [if_neg hc_3, if_pos (by decide)], rfl⟩
          | succ n_10 ih_11 =>
            intro j_9 hj_12 f  H locs ls hP hD hS hl
            refine lv_iload_n hx hb d_X9_keep_26 rfl (lv_at hl 0 rfl) ?_
            refine lv_bipush (v := 30) hx hb d_X9_keep_27 (by decide) ?_
            refine lv_icmp_ge (tgt := 55) hx hb d_X9_keep_29 (by decide) (fun c_14 => absurd c_14 (mt (nI_leI (a := 30) (b := j_9) (by omega) (by omega)).mp (by omega))) (fun _ => ?_)
            refine lv_aload_n hx hb d_X9_keep_32 rfl (lv_at hl 1 rfl) ?_
            refine va_get (D := D) (ci := 7) (v := .ref m6) (C := RX9) (T := TX9) (N := 28) hx hb hg cu_iX9 hown hK.1 hP 0 rfl rfl 12 (by decide) (hg _ k_696) (fun _ h9 => h9) rfl d_X9_keep_33 ?_
            refine lv_bipush (v := 30) hx hb d_X9_keep_36 (by decide) ?_
            refine lv_iload_n hx hb d_X9_keep_38 rfl (lv_at hl 2 rfl) ?_
            refine lv_imul hx hb d_X9_keep_39 ?_
            refine cu_topi (y := 0) (by decide +kernel) ?_
            refine lv_iload_n hx hb d_X9_keep_40 rfl (lv_at hl 0 rfl) ?_
            refine lv_iadd hx hb d_X9_keep_41 ?_
            refine cu_topi (y := nI j_9) (Int32.zero_add _) ?_
            refine lv_aload_n hx hb d_X9_keep_42 rfl (lv_at hl 1 rfl) ?_
            refine va_get (D := D) (ci := 7) (v := .ref m3) (C := RX9) (T := TX9) (N := 28) hx hb hg cu_iX9 hown hK.1 hP 0 rfl rfl 8 (by decide) (hg _ k_692) (fun _ h9 => h9) rfl d_X9_keep_43 ?_
            refine lv_iload_n hx hb d_X9_keep_46 rfl (lv_at hl 0 rfl) ?_
            refine va_iald hx hb hK.1 hP 1 0 rfl rfl (vp_in_nI (by omega) (by decide)) d_X9_keep_47 ?_
            refine va_iast hx hb hK.1 hP hD hS 2 0 rfl rfl (vp_in_nI (by omega) (by decide)) d_X9_keep_48 (fun H locs hP hD hS => ?_)
            have hP : va_P D vwCl [(o, .inr (7, [.int 0, .ref m1, .int 0, .int 0, .int 0, .int 0, .int 0, .ref m2, .ref m3, .ref m4, .ref m5, .int 0, .ref m6, .ref m7, .int 0, .ref m8, .ref m9, .long 0, .ref m10, .ref m11, .ref m12, .int 0, .int 0, .int 0, .int 0, .ref m13, .int 0, .ref m14])), (m3, .inl (cI, 30, .inl (upd (fun _ => 0) 28 (1 : Int32)))), (m6, .inl (cI, 60, .inl (upd f (nI j_9 : Int32).toNatClampNeg (((upd (fun _ => 0) 28 (1 : Int32)) (nI j_9).toNatClampNeg) : Int32)))), (m7, .inl (cZ, 2, .inl (upd (fun _ => 0) 0 (vp_nar .boolean (1 : Int32)))))] H := hP
            have hD : va_D A [(o, .inr (7, [.int 0, .ref m1, .int 0, .int 0, .int 0, .int 0, .int 0, .ref m2, .ref m3, .ref m4, .ref m5, .int 0, .ref m6, .ref m7, .int 0, .ref m8, .ref m9, .long 0, .ref m10, .ref m11, .ref m12, .int 0, .int 0, .int 0, .int 0, .ref m13, .int 0, .ref m14])), (m3, .inl (cI, 30, .inl (upd (fun _ => 0) 28 (1 : Int32)))), (m6, .inl (cI, 60, .inl (upd f (nI j_9 : Int32).toNatClampNeg (((upd (fun _ => 0) 28 (1 : Int32)) (nI j_9).toNatClampNeg) : Int32)))), (m7, .inl (cZ, 2, .inl (upd (fun _ => 0) 0 (vp_nar .boolean (1 : Int32)))))] := hD
            refine lv_iinc (v := nI (j_9 + 1)) (lv' := [(2, .int (nI (j_9 + 1))), (0, .ref o), (1, .int 0)]) hx hb d_X9_keep_49 hl (k := 0) rfl (nI_1 j_9) (by decide) rfl (fun ls hl => ?_)
            refine lv_goto (tgt := 26) hx hb d_X9_keep_52 (by decide) ?_
            exact ih_11 (j_9 + 1) (by first | rfl | omega) (upd f (nI j_9 : Int32).toNatClampNeg (((upd (fun _ => 0) 28 (1 : Int32)) (nI j_9).toNatClampNeg) : Int32))  _ _ _ hP hD hS (lv_sub hl [0, 1, 2] rfl)
        exact key_8 30 0 (by first | rfl | omega) (fun _ => 0)  _ _ _ hP hD hS (lv_sub hl [0, 1, 2] rfl)
      · skip
        subst e9
        refine lv_aload_n hx hb d_X9_keep_17 rfl (lv_at hl 0 rfl) ?_
        refine va_get (D := D) (ci := 7) (v := .ref m7) (C := RX9) (T := TX9) (N := 28) hx hb hg cu_iX9 hown hK.1 hP 0 rfl rfl 13 (by decide) (hg _ k_697) (fun _ h9 => h9) rfl d_X9_keep_18 ?_
        refine lv_iload_n hx hb d_X9_keep_21 rfl (lv_at hl 1 rfl) ?_
        refine lv_iconst (v := 1) hx hb d_X9_keep_22 (by decide) ?_
        refine va_zast hx hb hK.1 hP hD hS 3 1 rfl rfl (vp_in_nI (n := 1) (N := 2) (Nat.le_of_ble_eq_true rfl) (by decide)) d_X9_keep_23 (fun H locs hP hD hS => ?_)
        have hP : va_P D vwCl [(o, .inr (7, [.int 0, .ref m1, .int 0, .int 0, .int 0, .int 0, .int 0, .ref m2, .ref m3, .ref m4, .ref m5, .int 0, .ref m6, .ref m7, .int 0, .ref m8, .ref m9, .long 0, .ref m10, .ref m11, .ref m12, .int 0, .int 0, .int 0, .int 0, .ref m13, .int 0, .ref m14])), (m3, .inl (cI, 30, .inl (upd (fun _ => 0) 28 (1 : Int32)))), (m6, .inl (cI, 60, .inl (fun _ => 0))), (m7, .inl (cZ, 2, .inl (upd (fun _ => 0) 1 (vp_nar .boolean (1 : Int32)))))] H := hP
        have hD : va_D A [(o, .inr (7, [.int 0, .ref m1, .int 0, .int 0, .int 0, .int 0, .int 0, .ref m2, .ref m3, .ref m4, .ref m5, .int 0, .ref m6, .ref m7, .int 0, .ref m8, .ref m9, .long 0, .ref m10, .ref m11, .ref m12, .int 0, .int 0, .int 0, .int 0, .ref m13, .int 0, .ref m14])), (m3, .inl (cI, 30, .inl (upd (fun _ => 0) 28 (1 : Int32)))), (m6, .inl (cI, 60, .inl (fun _ => 0))), (m7, .inl (cZ, 2, .inl (upd (fun _ => 0) 1 (vp_nar .boolean (1 : Int32)))))] := hD
        refine lv_iconst (v := 0) hx hb d_X9_keep_24 (by decide) ?_
        refine lv_istore_n (lv' := [(2, .int 0), (0, .ref o), (1, .int 1)]) hx hb d_X9_keep_25 rfl hl (by decide) rfl (fun ls hl => ?_)
        have key_15 : ∀ (n_17 j_16 : Nat) (hj_19 : j_16 + n_17 = 30) (f : Nat → Int32)  (H : Heap) (locs : List Loc) (ls : Array Slot) (hP : va_P D vwCl [(o, .inr (7, [.int 0, .ref m1, .int 0, .int 0, .int 0, .int 0, .int 0, .ref m2, .ref m3, .ref m4, .ref m5, .int 0, .ref m6, .ref m7, .int 0, .ref m8, .ref m9, .long 0, .ref m10, .ref m11, .ref m12, .int 0, .int 0, .int 0, .int 0, .ref m13, .int 0, .ref m14])), (m3, .inl (cI, 30, .inl (upd (fun _ => 0) 28 (1 : Int32)))), (m6, .inl (cI, 60, .inl f)), (m7, .inl (cZ, 2, .inl (upd (fun _ => 0) 1 (vp_nar .boolean (1 : Int32)))))] H) (hD : va_D A [(o, .inr (7, [.int 0, .ref m1, .int 0, .int 0, .int 0, .int 0, .int 0, .ref m2, .ref m3, .ref m4, .ref m5, .int 0, .ref m6, .ref m7, .int 0, .ref m8, .ref m9, .long 0, .ref m10, .ref m11, .ref m12, .int 0, .int 0, .int 0, .int 0, .ref m13, .int 0, .ref m14])), (m3, .inl (cI, 30, .inl (upd (fun _ => 0) 28 (1 : Int32)))), (m6, .inl (cI, 60, .inl f)), (m7, .inl (cZ, 2, .inl (upd (fun _ => 0) 1 (vp_nar .boolean (1 : Int32)))))]) (hS : va_S A s.heap H locs) (hl : lv_has ls 3 [(2, .int (nI j_16)), (0, .ref o), (1, .int 1)]), W p l e (cu_rm 1 25 0 0) s m args below meth c H locs 0 0 Q (F0 m 26 ls []) := by
          intro n_17
          induction n_17 with
          | zero =>
            intro j_16 hj_19 f  H locs ls hP hD hS hl
            obtain rfl : 30 = j_16 := by omega
            have hl : lv_has ls 3 [(2, .int 30), (0, .ref o), (1, .int 1)] := hl
            have hP : va_P D vwCl [(o, .inr (7, [.int 0, .ref m1, .int 0, .int 0, .int 0, .int 0, .int 0, .ref m2, .ref m3, .ref m4, .ref m5, .int 0, .ref m6, .ref m7, .int 0, .ref m8, .ref m9, .long 0, .ref m10, .ref m11, .ref m12, .int 0, .int 0, .int 0, .int 0, .ref m13, .int 0, .ref m14])), (m3, .inl (cI, 30, .inl (upd (fun _ => 0) 28 (1 : Int32)))), (m6, .inl (cI, 60, .inl f)), (m7, .inl (cZ, 2, .inl (upd (fun _ => 0) 1 (vp_nar .boolean (1 : Int32)))))] H := hP
            have hD : va_D A [(o, .inr (7, [.int 0, .ref m1, .int 0, .int 0, .int 0, .int 0, .int 0, .ref m2, .ref m3, .ref m4, .ref m5, .int 0, .ref m6, .ref m7, .int 0, .ref m8, .ref m9, .long 0, .ref m10, .ref m11, .ref m12, .int 0, .int 0, .int 0, .int 0, .ref m13, .int 0, .ref m14])), (m3, .inl (cI, 30, .inl (upd (fun _ => 0) 28 (1 : Int32)))), (m6, .inl (cI, 60, .inl f)), (m7, .inl (cZ, 2, .inl (upd (fun _ => 0) 1 (vp_nar .boolean (1 : Int32)))))] := hD
            refine lv_iload_n hx hb d_X9_keep_26 rfl (lv_at hl 0 rfl) ?_
            refine lv_bipush (v := 30) hx hb d_X9_keep_27 (by decide) ?_
            refine lv_icmp_ge (tgt := 55) hx hb d_X9_keep_29 (by decide) (fun _ => ?_) (fun c_20 => absurd (by decide +kernel) c_20)
            refine lv_aload_n hx hb d_X9_keep_55 rfl (lv_at hl 1 rfl) ?_
            refine va_get (D := D) (ci := 7) (v := .int 0) (C := RX9) (T := TX9) (N := 28) hx hb hg cu_iX9 hown hK.1 hP 0 rfl rfl 3 (by decide) (hg _ k_687) (fun _ h9 => h9) rfl d_X9_keep_56 ?_
            exact hret _ _ _ _ [] _ _ _ (hP.sub (ws' := []) [] rfl) (hD.sub (ws' := []) [] (by decide) rfl) hS (Nat.le_of_ble_eq_true rfl) (Nat.le_of_ble_eq_true rfl) d_X9_keep_59 (rfl) ⟨by unfold cu_skp; rw [if_neg hc_3, if_pos (by decide)], rfl⟩
          | succ n_17 ih_18 =>
            intro j_16 hj_19 f  H locs ls hP hD hS hl
            refine lv_iload_n hx hb d_X9_keep_26 rfl (lv_at hl 0 rfl) ?_
            refine lv_bipush (v := 30) hx hb d_X9_keep_27 (by decide) ?_
            refine lv_icmp_ge (tgt := 55) hx hb d_X9_keep_29 (by decide) (fun c_21 => absurd c_21 (mt (nI_leI (a := 30) (b := j_16) (by omega) (by omega)).mp (by omega))) (fun _ => ?_)
            refine lv_aload_n hx hb d_X9_keep_32 rfl (lv_at hl 1 rfl) ?_
            refine va_get (D := D) (ci := 7) (v := .ref m6) (C := RX9) (T := TX9) (N := 28) hx hb hg cu_iX9 hown hK.1 hP 0 rfl rfl 12 (by decide) (hg _ k_696) (fun _ h9 => h9) rfl d_X9_keep_33 ?_
            refine lv_bipush (v := 30) hx hb d_X9_keep_36 (by decide) ?_
            refine lv_iload_n hx hb d_X9_keep_38 rfl (lv_at hl 2 rfl) ?_
            refine lv_imul hx hb d_X9_keep_39 ?_
            refine cu_topi (y := 30) (by decide +kernel) ?_
            refine lv_iload_n hx hb d_X9_keep_40 rfl (lv_at hl 0 rfl) ?_
            refine lv_iadd hx hb d_X9_keep_41 ?_
            refine cu_topi (y := nI (30 + j_16)) (nI_add 30 j_16) ?_
            refine lv_aload_n hx hb d_X9_keep_42 rfl (lv_at hl 1 rfl) ?_
            refine va_get (D := D) (ci := 7) (v := .ref m3) (C := RX9) (T := TX9) (N := 28) hx hb hg cu_iX9 hown hK.1 hP 0 rfl rfl 8 (by decide) (hg _ k_692) (fun _ h9 => h9) rfl d_X9_keep_43 ?_
            refine lv_iload_n hx hb d_X9_keep_46 rfl (lv_at hl 0 rfl) ?_
            refine va_iald hx hb hK.1 hP 1 0 rfl rfl (vp_in_nI (by omega) (by decide)) d_X9_keep_47 ?_
            refine va_iast hx hb hK.1 hP hD hS 2 0 rfl rfl (vp_in_nI (by omega) (by decide)) d_X9_keep_48 (fun H locs hP hD hS => ?_)
            have hP : va_P D vwCl [(o, .inr (7, [.int 0, .ref m1, .int 0, .int 0, .int 0, .int 0, .int 0, .ref m2, .ref m3, .ref m4, .ref m5, .int 0, .ref m6, .ref m7, .int 0, .ref m8, .ref m9, .long 0, .ref m10, .ref m11, .ref m12, .int 0, .int 0, .int 0, .int 0, .ref m13, .int 0, .ref m14])), (m3, .inl (cI, 30, .inl (upd (fun _ => 0) 28 (1 : Int32)))), (m6, .inl (cI, 60, .inl (upd f (nI (30 + j_16) : Int32).toNatClampNeg (((upd (fun _ => 0) 28 (1 : Int32)) (nI j_16).toNatClampNeg) : Int32)))), (m7, .inl (cZ, 2, .inl (upd (fun _ => 0) 1 (vp_nar .boolean (1 : Int32)))))] H := hP
            have hD : va_D A [(o, .inr (7, [.int 0, .ref m1, .int 0, .int 0, .int 0, .int 0, .int 0, .ref m2, .ref m3, .ref m4, .ref m5, .int 0, .ref m6, .ref m7, .int 0, .ref m8, .ref m9, .long 0, .ref m10, .ref m11, .ref m12, .int 0, .int 0, .int 0, .int 0, .ref m13, .int 0, .ref m14])), (m3, .inl (cI, 30, .inl (upd (fun _ => 0) 28 (1 : Int32)))), (m6, .inl (cI, 60, .inl (upd f (nI (30 + j_16) : Int32).toNatClampNeg (((upd (fun _ => 0) 28 (1 : Int32)) (nI j_16).toNatClampNeg) : Int32)))), (m7, .inl (cZ, 2, .inl (upd (fun _ => 0) 1 (vp_nar .boolean (1 : Int32)))))] := hD
            refine lv_iinc (v := nI (j_16 + 1)) (lv' := [(2, .int (nI (j_16 + 1))), (0, .ref o), (1, .int 1)]) hx hb d_X9_keep_49 hl (k := 0) rfl (nI_1 j_16) (by decide) rfl (fun ls hl => ?_)
            refine lv_goto (tgt := 26) hx hb d_X9_keep_52 (by decide) ?_
            exact ih_18 (j_16 + 1) (by first | rfl | omega) (upd f (nI (30 + j_16) : Int32).toNatClampNeg (((upd (fun _ => 0) 28 (1 : Int32)) (nI j_16).toNatClampNeg) : Int32))  _ _ _ hP hD hS (lv_sub hl [0, 1, 2] rfl)
        exact key_15 30 0 (by first | rfl | omega) (fun _ => 0)  _ _ _ hP hD hS (lv_sub hl [0, 1, 2] rfl)
set_option maxHeartbeats 4000000 in
set_option maxRecDepth 100000 in
theorem c_X9_drawn (l : Launch) (D : va_G) (cI cZ cQ : ClassId) (o m1 m2 m3 m4 m5 m6 m7 m8 m9 m10 m11 m12 m13 m14 : Nat) (c1 : Int32) : cu_W l D (cu_TY cI cZ cQ) yX9_drawn cX9_drawn 9 .int 1 25 0 0 [.ref o, .int c1] [(o, .inr (7, [.int 0, .ref m1, .int 0, .int 0, .int 0, .int 0, .int 0, .ref m2, .ref m3, .ref m4, .ref m5, .int 0, .ref m6, .ref m7, .int 0, .ref m8, .ref m9, .long 0, .ref m10, .ref m11, .ref m12, .int 0, .int 0, .int 0, .int 0, .ref m13, .int 0, .ref m14]))] (fun r ww => (r = cu_sdr c1) ∧ ww = []) := by
  refine cu_W.intro (by decide) (Nat.le_of_ble_eq_true rfl) ?_
  intro p e s m args below meth c Q ls A S hret hP hD hS hA hK hl
  obtain ⟨hx, hb, hml, hown, hg⟩ := S
  have hown : s.vm.findClass RX9 = some m.cls := hown
  have hl : lv_has ls 9 [(0, .ref o), (1, .int c1)] := hl
  refine lv_aload_n hx hb d_X9_drawn_0 rfl (lv_at hl 0 rfl) ?_
  refine lv_iconst (v := 0) hx hb d_X9_drawn_1 (by decide) ?_
  refine va_put (D := D) (ci := 7) (v := .int 0) (ty := .int) (C := RX9) (T := TX9) (N := 28) hx hb hg cu_iX9 tyX9 tyX9_ok nmX9 hown hK.1 hP hD hS 0 rfl rfl 0 (by decide) (hg _ k_684) (fun _ h9 => h9) rfl (by decide +kernel) rfl rfl (Nat.le_of_ble_eq_true rfl) d_X9_drawn_2 (fun H locs hP hD hS => ?_)
  have hP : va_P D vwCl [(o, .inr (7, [.int 0, .ref m1, .int 0, .int 0, .int 0, .int 0, .int 0, .ref m2, .ref m3, .ref m4, .ref m5, .int 0, .ref m6, .ref m7, .int 0, .ref m8, .ref m9, .long 0, .ref m10, .ref m11, .ref m12, .int 0, .int 0, .int 0, .int 0, .ref m13, .int 0, .ref m14]))] H := hP
  have hD : va_D A [(o, .inr (7, [.int 0, .ref m1, .int 0, .int 0, .int 0, .int 0, .int 0, .ref m2, .ref m3, .ref m4, .ref m5, .int 0, .ref m6, .ref m7, .int 0, .ref m8, .ref m9, .long 0, .ref m10, .ref m11, .ref m12, .int 0, .int 0, .int 0, .int 0, .ref m13, .int 0, .ref m14]))] := hD
  refine lv_iload_n hx hb d_X9_drawn_5 rfl (lv_at hl 1 rfl) ?_
  refine lv_i2l (v := c1.toInt64) hx hb d_X9_drawn_6 rfl ?_
  refine lv_lconst (v := 1) hx hb d_X9_drawn_7 (by decide) ?_
  refine lv_ldc2 (v := 20) hx hb hown (hg _ k_1009) d_X9_drawn_8 ?_
  refine cu_SR (wc := []) (rest := []) [.long c1.toInt64, .long 1, .long 20] ⟨hx, hb, hml, hown, hg⟩ (c_X9_in l D cI cZ cQ c1.toInt64 1 20) hd_X9_in k_776 k_774 k_775 k_49 ⟨Nat.le_of_ble_eq_true rfl, Nat.le_of_ble_eq_true rfl⟩ ⟨Nat.le_of_ble_eq_true rfl, Nat.le_of_ble_eq_true rfl⟩ hP hK [] rfl rfl hl.1 rfl (Nat.le_of_ble_eq_true rfl) d_X9_drawn_11 (fun r_1 hr_2 => ?_)
  replace hr_2 : r_1 = cu_i32 c1 1 20 := by rw [hr_2]; exact cu_inI (by decide) (by decide)
  subst hr_2
  by_cases hc_3 : c1 < 1
  · skip
    refine cu_topi (y := 0) (by unfold cu_i32; rw [if_pos hc_3]) ?_
    refine lv_if_ne (tgt := 20) hx hb d_X9_drawn_14 (by decide) (fun c_4 => absurd (by decide +kernel) c_4) (fun _ => ?_)
    refine lv_bipush (v := (-2)) hx hb d_X9_drawn_17 (by decide) ?_
    exact hret _ _ _ _ [] _ _ _ (hP.sub (ws' := []) [] rfl) (hD.sub (ws' := []) [] (by decide) rfl) hS (Nat.le_of_ble_eq_true rfl) (Nat.le_of_ble_eq_true rfl) d_X9_drawn_19 (rfl) ⟨by unfold cu_sdr; rw [if_pos hc_3], rfl⟩
  · skip
    by_cases hc_5 : 20 < c1
    · skip
      refine cu_topi (y := 0) (by unfold cu_i32; rw [if_neg hc_3, if_pos hc_5]) ?_
      refine lv_if_ne (tgt := 20) hx hb d_X9_drawn_14 (by decide) (fun c_6 => absurd (by decide +kernel) c_6) (fun _ => ?_)
      refine lv_bipush (v := (-2)) hx hb d_X9_drawn_17 (by decide) ?_
      exact hret _ _ _ _ [] _ _ _ (hP.sub (ws' := []) [] rfl) (hD.sub (ws' := []) [] (by decide) rfl) hS (Nat.le_of_ble_eq_true rfl) (Nat.le_of_ble_eq_true rfl) d_X9_drawn_19 (rfl) ⟨by unfold cu_sdr; rw [if_neg hc_3, if_pos hc_5], rfl⟩
    · skip
      refine cu_topi (y := 1) (by unfold cu_i32; rw [if_neg hc_3, if_neg hc_5]) ?_
      refine lv_if_ne (tgt := 20) hx hb d_X9_drawn_14 (by decide) (fun _ => ?_) (fun c_7 => absurd c_7 (by decide +kernel))
      obtain ⟨k9, hk9, e9⟩ := cu_nat 1 20 (by decide) (by decide) hc_3 hc_5
      subst e9
      refine lv_iconst (v := 0) hx hb d_X9_drawn_20 (by decide) ?_
      refine lv_istore_n (lv' := [(2, .int 0), (0, .ref o), (1, .int (nI k9))]) hx hb d_X9_drawn_21 rfl hl (by decide) rfl (fun ls hl => ?_)
      refine lv_iconst (v := 0) hx hb d_X9_drawn_22 (by decide) ?_
      refine lv_istore_n (lv' := [(3, .int 0), (2, .int 0), (0, .ref o), (1, .int (nI k9))]) hx hb d_X9_drawn_23 rfl hl (by decide) rfl (fun ls hl => ?_)
      have key_8 : ∀ (n_10 j_9 : Nat) (hj_12 : j_9 + n_10 = k9) (sv : Int64)  (H : Heap) (locs : List Loc) (ls : Array Slot) (hP : va_P D vwCl [(o, .inr (7, [.int 0, .ref m1, .int 0, .int 0, .int 0, .int 0, .int 0, .ref m2, .ref m3, .ref m4, .ref m5, .int 0, .ref m6, .ref m7, .int 0, .ref m8, .ref m9, .long sv, .ref m10, .ref m11, .ref m12, .int 0, .int 0, .int 0, .int 0, .ref m13, .int 0, .ref m14]))] H) (hD : va_D A [(o, .inr (7, [.int 0, .ref m1, .int 0, .int 0, .int 0, .int 0, .int 0, .ref m2, .ref m3, .ref m4, .ref m5, .int 0, .ref m6, .ref m7, .int 0, .ref m8, .ref m9, .long sv, .ref m10, .ref m11, .ref m12, .int 0, .int 0, .int 0, .int 0, .ref m13, .int 0, .ref m14]))]) (hS : va_S A s.heap H locs) (hl : lv_has ls 9 [(3, .int (nI j_9)), (2, .int 0), (0, .ref o), (1, .int (nI k9))]), W p l e (cu_rm 1 25 0 0) s m args below meth c H locs 0 0 Q (F0 m 24 ls []) := by
        intro n_10
        induction n_10 with
        | zero =>
          intro j_9 hj_12 sv  H locs ls hP hD hS hl
          obtain rfl : k9 = j_9 := by omega
          have hl : lv_has ls 9 [(3, .int (nI k9)), (2, .int 0), (0, .ref o), (1, .int (nI k9))] := hl
          have hP : va_P D vwCl [(o, .inr (7, [.int 0, .ref m1, .int 0, .int 0, .int 0, .int 0, .int 0, .ref m2, .ref m3, .ref m4, .ref m5, .int 0, .ref m6, .ref m7, .int 0, .ref m8, .ref m9, .long sv, .ref m10, .ref m11, .ref m12, .int 0, .int 0, .int 0, .int 0, .ref m13, .int 0, .ref m14]))] H := hP
          have hD : va_D A [(o, .inr (7, [.int 0, .ref m1, .int 0, .int 0, .int 0, .int 0, .int 0, .ref m2, .ref m3, .ref m4, .ref m5, .int 0, .ref m6, .ref m7, .int 0, .ref m8, .ref m9, .long sv, .ref m10, .ref m11, .ref m12, .int 0, .int 0, .int 0, .int 0, .ref m13, .int 0, .ref m14]))] := hD
          refine lv_iload_n hx hb d_X9_drawn_24 rfl (lv_at hl 0 rfl) ?_
          refine lv_iload_n hx hb d_X9_drawn_25 rfl (lv_at hl 3 rfl) ?_
          refine lv_icmp_ge (tgt := 162) hx hb d_X9_drawn_26 (by decide) (fun _ => ?_) (fun c_13 => absurd (Int32.le_refl _) c_13)
          refine lv_iload_n hx hb d_X9_drawn_162 rfl (lv_at hl 1 rfl) ?_
          exact hret _ _ _ _ [] _ _ _ (hP.sub (ws' := []) [] rfl) (hD.sub (ws' := []) [] (by decide) rfl) hS (Nat.le_of_ble_eq_true rfl) (Nat.le_of_ble_eq_true rfl) d_X9_drawn_163 (rfl) ⟨by unfold cu_sdr; rw [if_neg hc_3, if_neg hc_5], rfl⟩
        | succ n_10 ih_11 =>
          intro j_9 hj_12 sv  H locs ls hP hD hS hl
          refine lv_iload_n hx hb d_X9_drawn_24 rfl (lv_at hl 0 rfl) ?_
          refine lv_iload_n hx hb d_X9_drawn_25 rfl (lv_at hl 3 rfl) ?_
          refine lv_icmp_ge (tgt := 162) hx hb d_X9_drawn_26 (by decide) (fun c_14 => absurd c_14 (mt (nI_leI (by omega) (by omega)).mp (by omega))) (fun _ => ?_)
          refine lv_aload_n hx hb d_X9_drawn_29 rfl (lv_at hl 2 rfl) ?_
          refine lv_aload_n hx hb d_X9_drawn_30 rfl (lv_at hl 2 rfl) ?_
          refine va_get (D := D) (ci := 7) (v := .long sv) (C := RX9) (T := TX9) (N := 28) hx hb hg cu_iX9 hown hK.1 hP 0 rfl rfl 17 (by decide) (hg _ k_701) (fun _ h9 => h9) rfl d_X9_drawn_31 ?_
          refine lv_ldc2 (v := 6364136223846793005) hx hb hown (hg _ k_1010) d_X9_drawn_34 ?_
          refine lv_lmul hx hb d_X9_drawn_37 ?_
          refine lv_ldc2 (v := 1442695040888963407) hx hb hown (hg _ k_1011) d_X9_drawn_38 ?_
          refine lv_ladd hx hb d_X9_drawn_41 ?_
          refine va_put (D := D) (ci := 7) (v := .long ((sv * 6364136223846793005) + 1442695040888963407)) (ty := .long) (C := RX9) (T := TX9) (N := 28) hx hb hg cu_iX9 tyX9 tyX9_ok nmX9 hown hK.1 hP hD hS 0 rfl rfl 17 (by decide) (hg _ k_701) (fun _ h9 => h9) rfl (by decide +kernel) rfl rfl (Nat.le_of_ble_eq_true rfl) d_X9_drawn_42 (fun H locs hP hD hS => ?_)
          have hP : va_P D vwCl [(o, .inr (7, [.int 0, .ref m1, .int 0, .int 0, .int 0, .int 0, .int 0, .ref m2, .ref m3, .ref m4, .ref m5, .int 0, .ref m6, .ref m7, .int 0, .ref m8, .ref m9, .long ((sv * 6364136223846793005) + 1442695040888963407), .ref m10, .ref m11, .ref m12, .int 0, .int 0, .int 0, .int 0, .ref m13, .int 0, .ref m14]))] H := hP
          have hD : va_D A [(o, .inr (7, [.int 0, .ref m1, .int 0, .int 0, .int 0, .int 0, .int 0, .ref m2, .ref m3, .ref m4, .ref m5, .int 0, .ref m6, .ref m7, .int 0, .ref m8, .ref m9, .long ((sv * 6364136223846793005) + 1442695040888963407), .ref m10, .ref m11, .ref m12, .int 0, .int 0, .int 0, .int 0, .ref m13, .int 0, .ref m14]))] := hD
          refine lv_aload_n hx hb d_X9_drawn_45 rfl (lv_at hl 2 rfl) ?_
          refine va_get (D := D) (ci := 7) (v := .long ((sv * 6364136223846793005) + 1442695040888963407)) (C := RX9) (T := TX9) (N := 28) hx hb hg cu_iX9 hown hK.1 hP 0 rfl rfl 17 (by decide) (hg _ k_701) (fun _ h9 => h9) rfl d_X9_drawn_46 ?_
          refine lv_bipush (v := 33) hx hb d_X9_drawn_49 (by decide) ?_
          refine lv_lushr (v := (((sv * 6364136223846793005) + 1442695040888963407).toUInt64 >>> (((33 : Int32)).toInt64.toUInt64 &&& Int64.toUInt64 63)).toInt64) hx hb d_X9_drawn_51 rfl ?_
          refine lv_topl (fun g_15 _ => ?_)
          refine lv_l2i (v := g_15.toInt32) hx hb d_X9_drawn_52 rfl ?_
          refine lv_istore (lv' := [(4, .int g_15.toInt32), (3, .int (nI j_9)), (2, .int 0), (0, .ref o), (1, .int (nI k9))]) hx hb d_X9_drawn_53 hl (by decide) rfl (fun ls hl => ?_)
          refine lv_aload_n hx hb d_X9_drawn_55 rfl (lv_at hl 3 rfl) ?_
          refine va_get (D := D) (ci := 7) (v := .int 0) (C := RX9) (T := TX9) (N := 28) hx hb hg cu_iX9 hown hK.1 hP 0 rfl rfl 4 (by decide) (hg _ k_688) (fun _ h9 => h9) rfl d_X9_drawn_56 ?_
          refine lv_if_le (tgt := 156) hx hb d_X9_drawn_59 (by decide) (fun _ => ?_) (fun c_16 => absurd (by decide +kernel) c_16)
          refine lv_iinc (v := nI (j_9 + 1)) (lv' := [(3, .int (nI (j_9 + 1))), (4, .int g_15.toInt32), (2, .int 0), (0, .ref o), (1, .int (nI k9))]) hx hb d_X9_drawn_156 hl (k := 1) rfl (nI_1 j_9) (by decide) rfl (fun ls hl => ?_)
          refine lv_goto (tgt := 24) hx hb d_X9_drawn_159 (by decide) ?_
          exact ih_11 (j_9 + 1) (by first | rfl | omega) ((sv * 6364136223846793005) + 1442695040888963407)  _ _ _ hP hD hS (lv_sub hl [0, 2, 3, 4] rfl)
      exact key_8 k9 0 (by first | rfl | omega) 0  _ _ _ hP hD hS (lv_sub hl [0, 1, 2, 3] rfl)
set_option maxHeartbeats 4000000 in
set_option maxRecDepth 100000 in
theorem c_X9_layFitting (l : Launch) (D : va_G) (cI cZ cQ : ClassId) (o m1 m2 m3 m4 m5 m6 m7 m8 m9 m10 m11 m12 m13 m14 : Nat) (pp : Nat) : cu_V l D (cu_TY cI cZ cQ) yX9_layFitting cX9_layFitting 5 0 0 0 0 [.ref o, .ref pp] [(o, .inr (7, [.int 0, .ref m1, .int 0, .int 0, .int 0, .int 0, .int 0, .ref m2, .ref m3, .ref m4, .ref m5, .int 0, .ref m6, .ref m7, .int 0, .ref m8, .ref m9, .long 0, .ref m10, .ref m11, .ref m12, .int 0, .int 0, .int 0, .int 0, .ref m13, .int 0, .ref m14])), (m10, .inl (cI, 1000, .inl (fun _ => 0)))] (fun ww => ww = [(o, .inr (7, [.int 0, .ref m1, .int 0, .int 0, .int 0, .int 0, .int 0, .ref m2, .ref m3, .ref m4, .ref m5, .int 0, .ref m6, .ref m7, .int 0, .ref m8, .ref m9, .long 0, .ref m10, .ref m11, .ref m12, .int 0, .int 0, .int 0, .int 0, .ref m13, .int 0, .ref m14])), (m10, .inl (cI, 1000, .inl (fun _ => 0)))]) := by
  refine cu_V.intro (by decide) (Nat.le_of_ble_eq_true rfl) ?_
  intro p e s m args below meth c Q ls A S hin hret hP hD hS hA hK hl
  obtain ⟨hx, hb, hml, hown, hg⟩ := S
  have hown : s.vm.findClass RX9 = some m.cls := hown
  have hin : meth.name = "layFitting" := hin
  have hl : lv_has ls 5 [(0, .ref o), (1, .ref pp)] := hl
  refine lv_iconst (v := 1) hx hb d_X9_layFitting_0 (by decide) ?_
  refine lv_istore_n (lv' := [(2, .int 1), (0, .ref o), (1, .ref pp)]) hx hb d_X9_layFitting_1 rfl hl (by decide) rfl (fun ls hl => ?_)
  have key_1 : ∀ (n_3 j_2 : Nat) (hj_5 : j_2 + n_3 = 1000)  (hi_6 : 1 ≤ j_2) (H : Heap) (locs : List Loc) (ls : Array Slot) (hP : va_P D vwCl [(o, .inr (7, [.int 0, .ref m1, .int 0, .int 0, .int 0, .int 0, .int 0, .ref m2, .ref m3, .ref m4, .ref m5, .int 0, .ref m6, .ref m7, .int 0, .ref m8, .ref m9, .long 0, .ref m10, .ref m11, .ref m12, .int 0, .int 0, .int 0, .int 0, .ref m13, .int 0, .ref m14])), (m10, .inl (cI, 1000, .inl (fun _ => 0)))] H) (hD : va_D A [(o, .inr (7, [.int 0, .ref m1, .int 0, .int 0, .int 0, .int 0, .int 0, .ref m2, .ref m3, .ref m4, .ref m5, .int 0, .ref m6, .ref m7, .int 0, .ref m8, .ref m9, .long 0, .ref m10, .ref m11, .ref m12, .int 0, .int 0, .int 0, .int 0, .ref m13, .int 0, .ref m14])), (m10, .inl (cI, 1000, .inl (fun _ => 0)))]) (hS : va_S A s.heap H locs) (hl : lv_has ls 5 [(2, .int (nI j_2)), (0, .ref o), (1, .ref pp)]), W p l e (cu_rm 0 0 0 0) s m args below meth c H locs 0 0 Q (F0 m 2 ls []) := by
    intro n_3
    induction n_3 with
    | zero =>
      intro j_2 hj_5  hi_6 H locs ls hP hD hS hl
      obtain rfl : 1000 = j_2 := by omega
      have hl : lv_has ls 5 [(2, .int 1000), (0, .ref o), (1, .ref pp)] := hl
      have hP : va_P D vwCl [(o, .inr (7, [.int 0, .ref m1, .int 0, .int 0, .int 0, .int 0, .int 0, .ref m2, .ref m3, .ref m4, .ref m5, .int 0, .ref m6, .ref m7, .int 0, .ref m8, .ref m9, .long 0, .ref m10, .ref m11, .ref m12, .int 0, .int 0, .int 0, .int 0, .ref m13, .int 0, .ref m14])), (m10, .inl (cI, 1000, .inl (fun _ => 0)))] H := hP
      have hD : va_D A [(o, .inr (7, [.int 0, .ref m1, .int 0, .int 0, .int 0, .int 0, .int 0, .ref m2, .ref m3, .ref m4, .ref m5, .int 0, .ref m6, .ref m7, .int 0, .ref m8, .ref m9, .long 0, .ref m10, .ref m11, .ref m12, .int 0, .int 0, .int 0, .int 0, .ref m13, .int 0, .ref m14])), (m10, .inl (cI, 1000, .inl (fun _ => 0)))] := hD
      refine lv_iload_n hx hb d_X9_layFitting_2 rfl (lv_at hl 0 rfl) ?_
      refine lv_sipush (v := 999) hx hb d_X9_layFitting_3 (by decide) ?_
      refine lv_icmp_gt (tgt := 99) hx hb d_X9_layFitting_6 (by decide) (fun _ => ?_) (fun c_7 => absurd (by decide +kernel) c_7)
      exact hret _ _ _ _ [(o, .inr (7, [.int 0, .ref m1, .int 0, .int 0, .int 0, .int 0, .int 0, .ref m2, .ref m3, .ref m4, .ref m5, .int 0, .ref m6, .ref m7, .int 0, .ref m8, .ref m9, .long 0, .ref m10, .ref m11, .ref m12, .int 0, .int 0, .int 0, .int 0, .ref m13, .int 0, .ref m14])), (m10, .inl (cI, 1000, .inl (fun _ => 0)))] _ _ (hP.sub (ws' := [(o, .inr (7, [.int 0, .ref m1, .int 0, .int 0, .int 0, .int 0, .int 0, .ref m2, .ref m3, .ref m4, .ref m5, .int 0, .ref m6, .ref m7, .int 0, .ref m8, .ref m9, .long 0, .ref m10, .ref m11, .ref m12, .int 0, .int 0, .int 0, .int 0, .ref m13, .int 0, .ref m14])), (m10, .inl (cI, 1000, .inl (fun _ => 0)))]) [0, 1] rfl) (hD.sub (ws' := [(o, .inr (7, [.int 0, .ref m1, .int 0, .int 0, .int 0, .int 0, .int 0, .ref m2, .ref m3, .ref m4, .ref m5, .int 0, .ref m6, .ref m7, .int 0, .ref m8, .ref m9, .long 0, .ref m10, .ref m11, .ref m12, .int 0, .int 0, .int 0, .int 0, .ref m13, .int 0, .ref m14])), (m10, .inl (cI, 1000, .inl (fun _ => 0)))]) [0, 1] (by decide) rfl) hS (Nat.le_of_ble_eq_true rfl) (Nat.le_of_ble_eq_true rfl) d_X9_layFitting_99 rfl
    | succ n_3 ih_4 =>
      intro j_2 hj_5  hi_6 H locs ls hP hD hS hl
      refine lv_iload_n hx hb d_X9_layFitting_2 rfl (lv_at hl 0 rfl) ?_
      refine lv_sipush (v := 999) hx hb d_X9_layFitting_3 (by decide) ?_
      refine lv_icmp_gt (tgt := 99) hx hb d_X9_layFitting_6 (by decide) (fun c_8 => absurd c_8 (mt (nI_ltI (a := 999) (b := j_2) (by omega) (by omega)).mp (by omega))) (fun _ => ?_)
      refine lv_aload_n hx hb d_X9_layFitting_9 rfl (lv_at hl 1 rfl) ?_
      refine va_get (D := D) (ci := 7) (v := .ref m10) (C := RX9) (T := TX9) (N := 28) hx hb hg cu_iX9 hown hK.1 hP 0 rfl rfl 18 (by decide) (hg _ k_702) (fun _ h9 => h9) rfl d_X9_layFitting_10 ?_
      refine lv_iload_n hx hb d_X9_layFitting_13 rfl (lv_at hl 0 rfl) ?_
      refine lv_iconst (v := 0) hx hb d_X9_layFitting_14 (by decide) ?_
      refine va_iast hx hb hK.1 hP hD hS 1 0 rfl rfl (vp_in_nI (by omega) (by decide)) d_X9_layFitting_15 (fun H locs hP hD hS => ?_)
      have hP : va_P D vwCl [(o, .inr (7, [.int 0, .ref m1, .int 0, .int 0, .int 0, .int 0, .int 0, .ref m2, .ref m3, .ref m4, .ref m5, .int 0, .ref m6, .ref m7, .int 0, .ref m8, .ref m9, .long 0, .ref m10, .ref m11, .ref m12, .int 0, .int 0, .int 0, .int 0, .ref m13, .int 0, .ref m14])), (m10, .inl (cI, 1000, .inl (fun _ => 0)))] H := by rw [cu_updZ] at hP; exact hP
      have hD : va_D A [(o, .inr (7, [.int 0, .ref m1, .int 0, .int 0, .int 0, .int 0, .int 0, .ref m2, .ref m3, .ref m4, .ref m5, .int 0, .ref m6, .ref m7, .int 0, .ref m8, .ref m9, .long 0, .ref m10, .ref m11, .ref m12, .int 0, .int 0, .int 0, .int 0, .ref m13, .int 0, .ref m14])), (m10, .inl (cI, 1000, .inl (fun _ => 0)))] := by rw [cu_updZ] at hD; exact hD
      refine lv_iconst (v := 0) hx hb d_X9_layFitting_16 (by decide) ?_
      refine lv_istore_n (lv' := [(3, .int 0), (2, .int (nI j_2)), (0, .ref o), (1, .ref pp)]) hx hb d_X9_layFitting_17 rfl hl (by decide) rfl (fun ls hl => ?_)
      refine lv_iload_n hx hb d_X9_layFitting_18 rfl (lv_at hl 0 rfl) ?_
      refine lv_aload_n hx hb d_X9_layFitting_19 rfl (lv_at hl 2 rfl) ?_
      refine va_get (D := D) (ci := 7) (v := .int 0) (C := RX9) (T := TX9) (N := 28) hx hb hg cu_iX9 hown hK.1 hP 0 rfl rfl 3 (by decide) (hg _ k_687) (fun _ h9 => h9) rfl d_X9_layFitting_20 ?_
      refine lv_icmp_ge (tgt := 93) hx hb d_X9_layFitting_23 (by decide) (fun _ => ?_) (fun c_9 => absurd (by decide +kernel) c_9)
      refine lv_iinc (v := nI (j_2 + 1)) (lv' := [(2, .int (nI (j_2 + 1))), (3, .int 0), (0, .ref o), (1, .ref pp)]) hx hb d_X9_layFitting_93 hl (k := 1) rfl (nI_1 j_2) (by decide) rfl (fun ls hl => ?_)
      refine lv_goto (tgt := 2) hx hb d_X9_layFitting_96 (by decide) ?_
      exact ih_4 (j_2 + 1) (by first | rfl | omega)  (by omega) _ _ _ hP hD hS (lv_sub hl [0, 2, 3] rfl)
  exact key_1 999 1 (by first | rfl | omega)  (Nat.le_refl _) _ _ _ hP hD hS (lv_sub hl [0, 1, 2] rfl)
set_option maxHeartbeats 4000000 in
set_option maxRecDepth 100000 in
theorem c_X9_open (l : Launch) (D : va_G) (cI cZ cQ : ClassId) (o m1 m2 m3 m4 m5 m6 m7 m8 m9 m10 m11 m12 m13 m14 : Nat) (z1 z2 z3 z4 : Int32) (pp : Nat) (pf : Nat → Int32) : cu_R l D (cu_TY cI cZ cQ) yX9_open cX9_open 2 .int 0 0 [.ref o, .ref pp] [(o, .inr (7, [.int 0, .ref m1, .int 0, .int 0, .int 0, .int 0, .int 0, .ref m2, .ref m3, .ref m4, .ref m5, .int 0, .ref m6, .ref m7, .int 0, .ref m8, .ref m9, .long 0, .ref m10, .ref m11, .ref m12, .int z1, .int z2, .int z3, .int z4, .ref m13, .int 0, .ref m14])), (pp, .inl (cI, 30, .inl pf))] (fun r => r = 0) := by
  refine cu_R.intro (by decide) (Nat.le_of_ble_eq_true rfl) ?_
  intro p e s m args below meth c Q ls S hret hP hK hl
  obtain ⟨hx, hb, hml, hown, hg⟩ := S
  have hown : s.vm.findClass RX9 = some m.cls := hown
  have hl : lv_has ls 2 [(0, .ref o), (1, .ref pp)] := hl
  refine lv_iconst (v := 1) hx hb d_X9_open_0 (by decide) ?_
  refine lv_aload_n hx hb d_X9_open_1 rfl (lv_at hl 0 rfl) ?_
  refine va_get (D := D) (ci := 7) (v := .int 0) (C := RX9) (T := TX9) (N := 28) hx hb hg cu_iX9 hown hK.1 hP 0 rfl rfl 3 (by decide) (hg _ k_687) (fun _ h9 => h9) rfl d_X9_open_2 ?_
  refine lv_ishl hx hb d_X9_open_5 ?_
  refine cu_topi (y := 1) (by decide +kernel) ?_
  refine lv_iconst (v := 1) hx hb d_X9_open_6 (by decide) ?_
  refine lv_isub hx hb d_X9_open_7 ?_
  refine cu_topi (y := 0) (by decide +kernel) ?_
  refine lv_aload_n hx hb d_X9_open_8 rfl (lv_at hl 1 rfl) ?_
  refine lv_bipush (v := 24) hx hb d_X9_open_9 (by decide) ?_
  refine va_iald hx hb hK.1 hP 1 0 rfl rfl (vp_in_nI (n := 24) (N := 30) (Nat.le_of_ble_eq_true rfl) (by decide)) d_X9_open_11 ?_
  refine cu_topi (y := (pf 24)) rfl ?_
  refine lv_iconst (v := (-1)) hx hb d_X9_open_12 (by decide) ?_
  refine lv_ixor hx hb d_X9_open_13 ?_
  refine lv_iand hx hb d_X9_open_14 ?_
  refine cu_topi (y := 0) (cu_zand _) ?_
  exact hret _ _ _ d_X9_open_15 (rfl) (rfl)
set_option maxHeartbeats 4000000 in
set_option maxRecDepth 100000 in
theorem c_X9_ones (l : Launch) (D : va_G) (cI cZ cQ : ClassId) : cu_R l D (cu_TY cI cZ cQ) yX9_ones cX9_ones 3 .int 0 0 [.int 0] [] (fun r => r = 0) := by
  refine cu_R.intro (by decide) (Nat.le_of_ble_eq_true rfl) ?_
  intro p e s m args below meth c Q ls S hret hP hK hl
  obtain ⟨hx, hb, hml, hown, hg⟩ := S
  have hown : s.vm.findClass RX9 = some m.cls := hown
  have hl : lv_has ls 3 [(0, .int 0)] := hl
  refine lv_iconst (v := 0) hx hb d_X9_ones_0 (by decide) ?_
  refine lv_istore_n (lv' := [(1, .int 0), (0, .int 0)]) hx hb d_X9_ones_1 rfl hl (by decide) rfl (fun ls hl => ?_)
  refine lv_iconst (v := 0) hx hb d_X9_ones_2 (by decide) ?_
  refine lv_istore_n (lv' := [(2, .int 0), (1, .int 0), (0, .int 0)]) hx hb d_X9_ones_3 rfl hl (by decide) rfl (fun ls hl => ?_)
  refine lv_iload_n hx hb d_X9_ones_4 rfl (lv_at hl 0 rfl) ?_
  refine lv_bipush (v := 12) hx hb d_X9_ones_5 (by decide) ?_
  refine lv_icmp_ge (tgt := 24) hx hb d_X9_ones_7 (by decide) (fun c_1 => absurd c_1 (by decide +kernel)) (fun _ => ?_)
  refine lv_iload_n hx hb d_X9_ones_10 rfl (lv_at hl 1 rfl) ?_
  refine lv_iload_n hx hb d_X9_ones_11 rfl (lv_at hl 2 rfl) ?_
  refine lv_iload_n hx hb d_X9_ones_12 rfl (lv_at hl 0 rfl) ?_
  refine lv_ishr hx hb d_X9_ones_13 ?_
  refine cu_topi (y := 0) (by decide +kernel) ?_
  refine lv_iconst (v := 1) hx hb d_X9_ones_14 (by decide) ?_
  refine lv_iand hx hb d_X9_ones_15 ?_
  refine cu_topi (y := 0) (by decide +kernel) ?_
  refine lv_iadd hx hb d_X9_ones_16 ?_
  refine cu_topi (y := 0) (by decide +kernel) ?_
  refine lv_istore_n (lv' := [(1, .int 0), (2, .int 0), (0, .int 0)]) hx hb d_X9_ones_17 rfl hl (by decide) rfl (fun ls hl => ?_)
  refine lv_iinc (v := 1) (lv' := [(2, .int 1), (1, .int 0), (0, .int 0)]) hx hb d_X9_ones_18 hl (k := 1) rfl (by decide +kernel) (by decide) rfl (fun ls hl => ?_)
  refine lv_goto (tgt := 4) hx hb d_X9_ones_21 (by decide) ?_
  refine lv_iload_n hx hb d_X9_ones_4 rfl (lv_at hl 0 rfl) ?_
  refine lv_bipush (v := 12) hx hb d_X9_ones_5 (by decide) ?_
  refine lv_icmp_ge (tgt := 24) hx hb d_X9_ones_7 (by decide) (fun c_2 => absurd c_2 (by decide +kernel)) (fun _ => ?_)
  refine lv_iload_n hx hb d_X9_ones_10 rfl (lv_at hl 1 rfl) ?_
  refine lv_iload_n hx hb d_X9_ones_11 rfl (lv_at hl 2 rfl) ?_
  refine lv_iload_n hx hb d_X9_ones_12 rfl (lv_at hl 0 rfl) ?_
  refine lv_ishr hx hb d_X9_ones_13 ?_
  refine cu_topi (y := 0) (by decide +kernel) ?_
  refine lv_iconst (v := 1) hx hb d_X9_ones_14 (by decide) ?_
  refine lv_iand hx hb d_X9_ones_15 ?_
  refine cu_topi (y := 0) (by decide +kernel) ?_
  refine lv_iadd hx hb d_X9_ones_16 ?_
  refine cu_topi (y := 0) (by decide +kernel) ?_
  refine lv_istore_n (lv' := [(1, .int 0), (2, .int 1), (0, .int 0)]) hx hb d_X9_ones_17 rfl hl (by decide) rfl (fun ls hl => ?_)
  refine lv_iinc (v := 2) (lv' := [(2, .int 2), (1, .int 0), (0, .int 0)]) hx hb d_X9_ones_18 hl (k := 1) rfl (by decide +kernel) (by decide) rfl (fun ls hl => ?_)
  refine lv_goto (tgt := 4) hx hb d_X9_ones_21 (by decide) ?_
  refine lv_iload_n hx hb d_X9_ones_4 rfl (lv_at hl 0 rfl) ?_
  refine lv_bipush (v := 12) hx hb d_X9_ones_5 (by decide) ?_
  refine lv_icmp_ge (tgt := 24) hx hb d_X9_ones_7 (by decide) (fun c_3 => absurd c_3 (by decide +kernel)) (fun _ => ?_)
  refine lv_iload_n hx hb d_X9_ones_10 rfl (lv_at hl 1 rfl) ?_
  refine lv_iload_n hx hb d_X9_ones_11 rfl (lv_at hl 2 rfl) ?_
  refine lv_iload_n hx hb d_X9_ones_12 rfl (lv_at hl 0 rfl) ?_
  refine lv_ishr hx hb d_X9_ones_13 ?_
  refine cu_topi (y := 0) (by decide +kernel) ?_
  refine lv_iconst (v := 1) hx hb d_X9_ones_14 (by decide) ?_
  refine lv_iand hx hb d_X9_ones_15 ?_
  refine cu_topi (y := 0) (by decide +kernel) ?_
  refine lv_iadd hx hb d_X9_ones_16 ?_
  refine cu_topi (y := 0) (by decide +kernel) ?_
  refine lv_istore_n (lv' := [(1, .int 0), (2, .int 2), (0, .int 0)]) hx hb d_X9_ones_17 rfl hl (by decide) rfl (fun ls hl => ?_)
  refine lv_iinc (v := 3) (lv' := [(2, .int 3), (1, .int 0), (0, .int 0)]) hx hb d_X9_ones_18 hl (k := 1) rfl (by decide +kernel) (by decide) rfl (fun ls hl => ?_)
  refine lv_goto (tgt := 4) hx hb d_X9_ones_21 (by decide) ?_
  refine lv_iload_n hx hb d_X9_ones_4 rfl (lv_at hl 0 rfl) ?_
  refine lv_bipush (v := 12) hx hb d_X9_ones_5 (by decide) ?_
  refine lv_icmp_ge (tgt := 24) hx hb d_X9_ones_7 (by decide) (fun c_4 => absurd c_4 (by decide +kernel)) (fun _ => ?_)
  refine lv_iload_n hx hb d_X9_ones_10 rfl (lv_at hl 1 rfl) ?_
  refine lv_iload_n hx hb d_X9_ones_11 rfl (lv_at hl 2 rfl) ?_
  refine lv_iload_n hx hb d_X9_ones_12 rfl (lv_at hl 0 rfl) ?_
  refine lv_ishr hx hb d_X9_ones_13 ?_
  refine cu_topi (y := 0) (by decide +kernel) ?_
  refine lv_iconst (v := 1) hx hb d_X9_ones_14 (by decide) ?_
  refine lv_iand hx hb d_X9_ones_15 ?_
  refine cu_topi (y := 0) (by decide +kernel) ?_
  refine lv_iadd hx hb d_X9_ones_16 ?_
  refine cu_topi (y := 0) (by decide +kernel) ?_
  refine lv_istore_n (lv' := [(1, .int 0), (2, .int 3), (0, .int 0)]) hx hb d_X9_ones_17 rfl hl (by decide) rfl (fun ls hl => ?_)
  refine lv_iinc (v := 4) (lv' := [(2, .int 4), (1, .int 0), (0, .int 0)]) hx hb d_X9_ones_18 hl (k := 1) rfl (by decide +kernel) (by decide) rfl (fun ls hl => ?_)
  refine lv_goto (tgt := 4) hx hb d_X9_ones_21 (by decide) ?_
  refine lv_iload_n hx hb d_X9_ones_4 rfl (lv_at hl 0 rfl) ?_
  refine lv_bipush (v := 12) hx hb d_X9_ones_5 (by decide) ?_
  refine lv_icmp_ge (tgt := 24) hx hb d_X9_ones_7 (by decide) (fun c_5 => absurd c_5 (by decide +kernel)) (fun _ => ?_)
  refine lv_iload_n hx hb d_X9_ones_10 rfl (lv_at hl 1 rfl) ?_
  refine lv_iload_n hx hb d_X9_ones_11 rfl (lv_at hl 2 rfl) ?_
  refine lv_iload_n hx hb d_X9_ones_12 rfl (lv_at hl 0 rfl) ?_
  refine lv_ishr hx hb d_X9_ones_13 ?_
  refine cu_topi (y := 0) (by decide +kernel) ?_
  refine lv_iconst (v := 1) hx hb d_X9_ones_14 (by decide) ?_
  refine lv_iand hx hb d_X9_ones_15 ?_
  refine cu_topi (y := 0) (by decide +kernel) ?_
  refine lv_iadd hx hb d_X9_ones_16 ?_
  refine cu_topi (y := 0) (by decide +kernel) ?_
  refine lv_istore_n (lv' := [(1, .int 0), (2, .int 4), (0, .int 0)]) hx hb d_X9_ones_17 rfl hl (by decide) rfl (fun ls hl => ?_)
  refine lv_iinc (v := 5) (lv' := [(2, .int 5), (1, .int 0), (0, .int 0)]) hx hb d_X9_ones_18 hl (k := 1) rfl (by decide +kernel) (by decide) rfl (fun ls hl => ?_)
  refine lv_goto (tgt := 4) hx hb d_X9_ones_21 (by decide) ?_
  refine lv_iload_n hx hb d_X9_ones_4 rfl (lv_at hl 0 rfl) ?_
  refine lv_bipush (v := 12) hx hb d_X9_ones_5 (by decide) ?_
  refine lv_icmp_ge (tgt := 24) hx hb d_X9_ones_7 (by decide) (fun c_6 => absurd c_6 (by decide +kernel)) (fun _ => ?_)
  refine lv_iload_n hx hb d_X9_ones_10 rfl (lv_at hl 1 rfl) ?_
  refine lv_iload_n hx hb d_X9_ones_11 rfl (lv_at hl 2 rfl) ?_
  refine lv_iload_n hx hb d_X9_ones_12 rfl (lv_at hl 0 rfl) ?_
  refine lv_ishr hx hb d_X9_ones_13 ?_
  refine cu_topi (y := 0) (by decide +kernel) ?_
  refine lv_iconst (v := 1) hx hb d_X9_ones_14 (by decide) ?_
  refine lv_iand hx hb d_X9_ones_15 ?_
  refine cu_topi (y := 0) (by decide +kernel) ?_
  refine lv_iadd hx hb d_X9_ones_16 ?_
  refine cu_topi (y := 0) (by decide +kernel) ?_
  refine lv_istore_n (lv' := [(1, .int 0), (2, .int 5), (0, .int 0)]) hx hb d_X9_ones_17 rfl hl (by decide) rfl (fun ls hl => ?_)
  refine lv_iinc (v := 6) (lv' := [(2, .int 6), (1, .int 0), (0, .int 0)]) hx hb d_X9_ones_18 hl (k := 1) rfl (by decide +kernel) (by decide) rfl (fun ls hl => ?_)
  refine lv_goto (tgt := 4) hx hb d_X9_ones_21 (by decide) ?_
  refine lv_iload_n hx hb d_X9_ones_4 rfl (lv_at hl 0 rfl) ?_
  refine lv_bipush (v := 12) hx hb d_X9_ones_5 (by decide) ?_
  refine lv_icmp_ge (tgt := 24) hx hb d_X9_ones_7 (by decide) (fun c_7 => absurd c_7 (by decide +kernel)) (fun _ => ?_)
  refine lv_iload_n hx hb d_X9_ones_10 rfl (lv_at hl 1 rfl) ?_
  refine lv_iload_n hx hb d_X9_ones_11 rfl (lv_at hl 2 rfl) ?_
  refine lv_iload_n hx hb d_X9_ones_12 rfl (lv_at hl 0 rfl) ?_
  refine lv_ishr hx hb d_X9_ones_13 ?_
  refine cu_topi (y := 0) (by decide +kernel) ?_
  refine lv_iconst (v := 1) hx hb d_X9_ones_14 (by decide) ?_
  refine lv_iand hx hb d_X9_ones_15 ?_
  refine cu_topi (y := 0) (by decide +kernel) ?_
  refine lv_iadd hx hb d_X9_ones_16 ?_
  refine cu_topi (y := 0) (by decide +kernel) ?_
  refine lv_istore_n (lv' := [(1, .int 0), (2, .int 6), (0, .int 0)]) hx hb d_X9_ones_17 rfl hl (by decide) rfl (fun ls hl => ?_)
  refine lv_iinc (v := 7) (lv' := [(2, .int 7), (1, .int 0), (0, .int 0)]) hx hb d_X9_ones_18 hl (k := 1) rfl (by decide +kernel) (by decide) rfl (fun ls hl => ?_)
  refine lv_goto (tgt := 4) hx hb d_X9_ones_21 (by decide) ?_
  refine lv_iload_n hx hb d_X9_ones_4 rfl (lv_at hl 0 rfl) ?_
  refine lv_bipush (v := 12) hx hb d_X9_ones_5 (by decide) ?_
  refine lv_icmp_ge (tgt := 24) hx hb d_X9_ones_7 (by decide) (fun c_8 => absurd c_8 (by decide +kernel)) (fun _ => ?_)
  refine lv_iload_n hx hb d_X9_ones_10 rfl (lv_at hl 1 rfl) ?_
  refine lv_iload_n hx hb d_X9_ones_11 rfl (lv_at hl 2 rfl) ?_
  refine lv_iload_n hx hb d_X9_ones_12 rfl (lv_at hl 0 rfl) ?_
  refine lv_ishr hx hb d_X9_ones_13 ?_
  refine cu_topi (y := 0) (by decide +kernel) ?_
  refine lv_iconst (v := 1) hx hb d_X9_ones_14 (by decide) ?_
  refine lv_iand hx hb d_X9_ones_15 ?_
  refine cu_topi (y := 0) (by decide +kernel) ?_
  refine lv_iadd hx hb d_X9_ones_16 ?_
  refine cu_topi (y := 0) (by decide +kernel) ?_
  refine lv_istore_n (lv' := [(1, .int 0), (2, .int 7), (0, .int 0)]) hx hb d_X9_ones_17 rfl hl (by decide) rfl (fun ls hl => ?_)
  refine lv_iinc (v := 8) (lv' := [(2, .int 8), (1, .int 0), (0, .int 0)]) hx hb d_X9_ones_18 hl (k := 1) rfl (by decide +kernel) (by decide) rfl (fun ls hl => ?_)
  refine lv_goto (tgt := 4) hx hb d_X9_ones_21 (by decide) ?_
  refine lv_iload_n hx hb d_X9_ones_4 rfl (lv_at hl 0 rfl) ?_
  refine lv_bipush (v := 12) hx hb d_X9_ones_5 (by decide) ?_
  refine lv_icmp_ge (tgt := 24) hx hb d_X9_ones_7 (by decide) (fun c_9 => absurd c_9 (by decide +kernel)) (fun _ => ?_)
  refine lv_iload_n hx hb d_X9_ones_10 rfl (lv_at hl 1 rfl) ?_
  refine lv_iload_n hx hb d_X9_ones_11 rfl (lv_at hl 2 rfl) ?_
  refine lv_iload_n hx hb d_X9_ones_12 rfl (lv_at hl 0 rfl) ?_
  refine lv_ishr hx hb d_X9_ones_13 ?_
  refine cu_topi (y := 0) (by decide +kernel) ?_
  refine lv_iconst (v := 1) hx hb d_X9_ones_14 (by decide) ?_
  refine lv_iand hx hb d_X9_ones_15 ?_
  refine cu_topi (y := 0) (by decide +kernel) ?_
  refine lv_iadd hx hb d_X9_ones_16 ?_
  refine cu_topi (y := 0) (by decide +kernel) ?_
  refine lv_istore_n (lv' := [(1, .int 0), (2, .int 8), (0, .int 0)]) hx hb d_X9_ones_17 rfl hl (by decide) rfl (fun ls hl => ?_)
  refine lv_iinc (v := 9) (lv' := [(2, .int 9), (1, .int 0), (0, .int 0)]) hx hb d_X9_ones_18 hl (k := 1) rfl (by decide +kernel) (by decide) rfl (fun ls hl => ?_)
  refine lv_goto (tgt := 4) hx hb d_X9_ones_21 (by decide) ?_
  refine lv_iload_n hx hb d_X9_ones_4 rfl (lv_at hl 0 rfl) ?_
  refine lv_bipush (v := 12) hx hb d_X9_ones_5 (by decide) ?_
  refine lv_icmp_ge (tgt := 24) hx hb d_X9_ones_7 (by decide) (fun c_10 => absurd c_10 (by decide +kernel)) (fun _ => ?_)
  refine lv_iload_n hx hb d_X9_ones_10 rfl (lv_at hl 1 rfl) ?_
  refine lv_iload_n hx hb d_X9_ones_11 rfl (lv_at hl 2 rfl) ?_
  refine lv_iload_n hx hb d_X9_ones_12 rfl (lv_at hl 0 rfl) ?_
  refine lv_ishr hx hb d_X9_ones_13 ?_
  refine cu_topi (y := 0) (by decide +kernel) ?_
  refine lv_iconst (v := 1) hx hb d_X9_ones_14 (by decide) ?_
  refine lv_iand hx hb d_X9_ones_15 ?_
  refine cu_topi (y := 0) (by decide +kernel) ?_
  refine lv_iadd hx hb d_X9_ones_16 ?_
  refine cu_topi (y := 0) (by decide +kernel) ?_
  refine lv_istore_n (lv' := [(1, .int 0), (2, .int 9), (0, .int 0)]) hx hb d_X9_ones_17 rfl hl (by decide) rfl (fun ls hl => ?_)
  refine lv_iinc (v := 10) (lv' := [(2, .int 10), (1, .int 0), (0, .int 0)]) hx hb d_X9_ones_18 hl (k := 1) rfl (by decide +kernel) (by decide) rfl (fun ls hl => ?_)
  refine lv_goto (tgt := 4) hx hb d_X9_ones_21 (by decide) ?_
  refine lv_iload_n hx hb d_X9_ones_4 rfl (lv_at hl 0 rfl) ?_
  refine lv_bipush (v := 12) hx hb d_X9_ones_5 (by decide) ?_
  refine lv_icmp_ge (tgt := 24) hx hb d_X9_ones_7 (by decide) (fun c_11 => absurd c_11 (by decide +kernel)) (fun _ => ?_)
  refine lv_iload_n hx hb d_X9_ones_10 rfl (lv_at hl 1 rfl) ?_
  refine lv_iload_n hx hb d_X9_ones_11 rfl (lv_at hl 2 rfl) ?_
  refine lv_iload_n hx hb d_X9_ones_12 rfl (lv_at hl 0 rfl) ?_
  refine lv_ishr hx hb d_X9_ones_13 ?_
  refine cu_topi (y := 0) (by decide +kernel) ?_
  refine lv_iconst (v := 1) hx hb d_X9_ones_14 (by decide) ?_
  refine lv_iand hx hb d_X9_ones_15 ?_
  refine cu_topi (y := 0) (by decide +kernel) ?_
  refine lv_iadd hx hb d_X9_ones_16 ?_
  refine cu_topi (y := 0) (by decide +kernel) ?_
  refine lv_istore_n (lv' := [(1, .int 0), (2, .int 10), (0, .int 0)]) hx hb d_X9_ones_17 rfl hl (by decide) rfl (fun ls hl => ?_)
  refine lv_iinc (v := 11) (lv' := [(2, .int 11), (1, .int 0), (0, .int 0)]) hx hb d_X9_ones_18 hl (k := 1) rfl (by decide +kernel) (by decide) rfl (fun ls hl => ?_)
  refine lv_goto (tgt := 4) hx hb d_X9_ones_21 (by decide) ?_
  refine lv_iload_n hx hb d_X9_ones_4 rfl (lv_at hl 0 rfl) ?_
  refine lv_bipush (v := 12) hx hb d_X9_ones_5 (by decide) ?_
  refine lv_icmp_ge (tgt := 24) hx hb d_X9_ones_7 (by decide) (fun c_12 => absurd c_12 (by decide +kernel)) (fun _ => ?_)
  refine lv_iload_n hx hb d_X9_ones_10 rfl (lv_at hl 1 rfl) ?_
  refine lv_iload_n hx hb d_X9_ones_11 rfl (lv_at hl 2 rfl) ?_
  refine lv_iload_n hx hb d_X9_ones_12 rfl (lv_at hl 0 rfl) ?_
  refine lv_ishr hx hb d_X9_ones_13 ?_
  refine cu_topi (y := 0) (by decide +kernel) ?_
  refine lv_iconst (v := 1) hx hb d_X9_ones_14 (by decide) ?_
  refine lv_iand hx hb d_X9_ones_15 ?_
  refine cu_topi (y := 0) (by decide +kernel) ?_
  refine lv_iadd hx hb d_X9_ones_16 ?_
  refine cu_topi (y := 0) (by decide +kernel) ?_
  refine lv_istore_n (lv' := [(1, .int 0), (2, .int 11), (0, .int 0)]) hx hb d_X9_ones_17 rfl hl (by decide) rfl (fun ls hl => ?_)
  refine lv_iinc (v := 12) (lv' := [(2, .int 12), (1, .int 0), (0, .int 0)]) hx hb d_X9_ones_18 hl (k := 1) rfl (by decide +kernel) (by decide) rfl (fun ls hl => ?_)
  refine lv_goto (tgt := 4) hx hb d_X9_ones_21 (by decide) ?_
  refine lv_iload_n hx hb d_X9_ones_4 rfl (lv_at hl 0 rfl) ?_
  refine lv_bipush (v := 12) hx hb d_X9_ones_5 (by decide) ?_
  refine lv_icmp_ge (tgt := 24) hx hb d_X9_ones_7 (by decide) (fun _ => ?_) (fun c_13 => absurd (by decide +kernel) c_13)
  refine lv_iload_n hx hb d_X9_ones_24 rfl (lv_at hl 1 rfl) ?_
  exact hret _ _ _ d_X9_ones_25 (rfl) (rfl)
set_option maxHeartbeats 4000000 in
set_option maxRecDepth 100000 in
theorem c_X9_lossOf (l : Launch) (D : va_G) (cI cZ cQ : ClassId) (o m1 m2 m3 m4 m5 m6 m7 m8 m9 m10 m11 m12 m13 m14 : Nat) (c1 c2 : Int32) : cu_R l D (cu_TY cI cZ cQ) yX9_lossOf cX9_lossOf 5 .int 0 0 [.ref o, .int c1, .int c2] [(o, .inr (7, [.int 0, .ref m1, .int 0, .int 0, .int 0, .int 0, .int 0, .ref m2, .ref m3, .ref m4, .ref m5, .int 0, .ref m6, .ref m7, .int 0, .ref m8, .ref m9, .long 0, .ref m10, .ref m11, .ref m12, .int 0, .int 0, .int 0, .int 0, .ref m13, .int 0, .ref m14]))] (fun r => r = 0) := by
  refine cu_R.intro (by decide) (Nat.le_of_ble_eq_true rfl) ?_
  intro p e s m args below meth c Q ls S hret hP hK hl
  obtain ⟨hx, hb, hml, hown, hg⟩ := S
  have hown : s.vm.findClass RX9 = some m.cls := hown
  have hl : lv_has ls 5 [(0, .ref o), (1, .int c1), (2, .int c2)] := hl
  refine lv_iconst (v := 0) hx hb d_X9_lossOf_0 (by decide) ?_
  refine lv_istore_n (lv' := [(3, .int 0), (0, .ref o), (1, .int c1), (2, .int c2)]) hx hb d_X9_lossOf_1 rfl hl (by decide) rfl (fun ls hl => ?_)
  refine lv_iconst (v := 0) hx hb d_X9_lossOf_2 (by decide) ?_
  refine lv_istore (lv' := [(4, .int 0), (3, .int 0), (0, .ref o), (1, .int c1), (2, .int c2)]) hx hb d_X9_lossOf_3 hl (by decide) rfl (fun ls hl => ?_)
  refine lv_iload hx hb d_X9_lossOf_5 (lv_at hl 0 rfl) ?_
  refine lv_aload_n hx hb d_X9_lossOf_7 rfl (lv_at hl 2 rfl) ?_
  refine va_get (D := D) (ci := 7) (v := .int 0) (C := RX9) (T := TX9) (N := 28) hx hb hg cu_iX9 hown hK.1 hP 0 rfl rfl 3 (by decide) (hg _ k_687) (fun _ h9 => h9) rfl d_X9_lossOf_8 ?_
  refine lv_icmp_ge (tgt := 48) hx hb d_X9_lossOf_11 (by decide) (fun _ => ?_) (fun c_1 => absurd (by decide +kernel) c_1)
  refine lv_iload_n hx hb d_X9_lossOf_48 rfl (lv_at hl 1 rfl) ?_
  exact hret _ _ _ d_X9_lossOf_49 (rfl) (rfl)
set_option maxHeartbeats 4000000 in
set_option maxRecDepth 100000 in
theorem c_X9_keyOf (l : Launch) (D : va_G) (cI cZ cQ : ClassId) (o m1 m2 m3 m4 m5 m6 m7 m8 m9 m10 m11 m12 m13 m14 : Nat) (pp : Nat) (pf : Nat → Int32) (k : Nat) (hy_0 : 1 ≤ k ∧ k ≤ 999) : cu_R l D (cu_TY cI cZ cQ) yX9_keyOf cX9_keyOf 4 .int 1 24 [.ref o, .ref pp, .int (nI k)] [(o, .inr (7, [.int 0, .ref m1, .int 0, .int 0, .int 0, .int 0, .int 0, .ref m2, .ref m3, .ref m4, .ref m5, .int 0, .ref m6, .ref m7, .int 0, .ref m8, .ref m9, .long 0, .ref m10, .ref m11, .ref m12, .int 0, .int 0, .int 0, .int 0, .ref m13, .int 0, .ref m14])), (pp, .inl (cI, 30, .inl pf)), (m10, .inl (cI, 1000, .inl (fun _ => 0)))] (fun r => r = nI (48000999 - k)) := by
  refine cu_R.intro (by decide) (Nat.le_of_ble_eq_true rfl) ?_
  intro p e s m args below meth c Q ls S hret hP hK hl
  obtain ⟨hx, hb, hml, hown, hg⟩ := S
  have hown : s.vm.findClass RX9 = some m.cls := hown
  have hl : lv_has ls 4 [(0, .ref o), (1, .ref pp), (2, .int (nI k))] := hl
  refine lv_aload_n hx hb d_X9_keyOf_0 rfl (lv_at hl 0 rfl) ?_
  refine va_get (D := D) (ci := 7) (v := .ref m10) (C := RX9) (T := TX9) (N := 28) hx hb hg cu_iX9 hown hK.1 hP 0 rfl rfl 18 (by decide) (hg _ k_702) (fun _ h9 => h9) rfl d_X9_keyOf_1 ?_
  refine lv_iload_n hx hb d_X9_keyOf_4 rfl (lv_at hl 2 rfl) ?_
  refine va_iald hx hb hK.1 hP 2 0 rfl rfl (vp_in_nI (by omega) (by decide)) d_X9_keyOf_5 ?_
  refine cu_topi (y := 0) rfl ?_
  refine lv_aload_n hx hb d_X9_keyOf_6 rfl (lv_at hl 0 rfl) ?_
  refine lv_aload_n hx hb d_X9_keyOf_7 rfl (lv_at hl 1 rfl) ?_
  refine cu_VR (wc := [(o, .inr (7, [.int 0, .ref m1, .int 0, .int 0, .int 0, .int 0, .int 0, .ref m2, .ref m3, .ref m4, .ref m5, .int 0, .ref m6, .ref m7, .int 0, .ref m8, .ref m9, .long 0, .ref m10, .ref m11, .ref m12, .int 0, .int 0, .int 0, .int 0, .ref m13, .int 0, .ref m14])), (pp, .inl (cI, 30, .inl pf))]) (rest := [.int 0]) [.ref pp] ⟨hx, hb, hml, hown, hg⟩ (c_X9_open l D cI cZ cQ o m1 m2 m3 m4 m5 m6 m7 m8 m9 m10 m11 m12 m13 m14 0 0 0 0 pp pf) hd_X9_open k_916 k_913 k_915 k_32 k_49 ⟨Nat.le_of_ble_eq_true rfl, Nat.le_of_ble_eq_true rfl⟩ ⟨Nat.le_of_ble_eq_true rfl, Nat.le_of_ble_eq_true rfl⟩ hP hK [0, 1] rfl 0 rfl rfl rfl hl.1 rfl (Nat.le_of_ble_eq_true rfl) d_X9_keyOf_8 (fun r_1 hr_2 => ?_)
  subst hr_2
  refine lv_iand hx hb d_X9_keyOf_11 ?_
  refine cu_topi (y := 0) (by decide +kernel) ?_
  refine lv_istore_n (lv' := [(3, .int 0), (0, .ref o), (1, .ref pp), (2, .int (nI k))]) hx hb d_X9_keyOf_12 rfl hl (by decide) rfl (fun ls hl => ?_)
  refine lv_bipush (v := 12) hx hb d_X9_keyOf_13 (by decide) ?_
  refine lv_iload_n hx hb d_X9_keyOf_15 rfl (lv_at hl 0 rfl) ?_
  refine cu_SR (wc := []) (rest := [.int 12]) [.int 0] ⟨hx, hb, hml, hown, hg⟩ (c_X9_ones l D cI cZ cQ ) hd_X9_ones k_851 k_849 k_850 k_49 ⟨Nat.le_of_ble_eq_true rfl, Nat.le_of_ble_eq_true rfl⟩ ⟨Nat.le_of_ble_eq_true rfl, Nat.le_of_ble_eq_true rfl⟩ hP hK [] rfl rfl hl.1 rfl (Nat.le_of_ble_eq_true rfl) d_X9_keyOf_16 (fun r_3 hr_4 => ?_)
  subst hr_4
  refine lv_isub hx hb d_X9_keyOf_19 ?_
  refine cu_topi (y := 12) (by decide +kernel) ?_
  refine lv_ldc (v := 4000000) hx hb hown (hg _ k_929) d_X9_keyOf_20 ?_
  refine lv_imul hx hb d_X9_keyOf_22 ?_
  refine cu_topi (y := 48000000) (by decide +kernel) ?_
  refine lv_aload_n hx hb d_X9_keyOf_23 rfl (lv_at hl 1 rfl) ?_
  refine lv_iload_n hx hb d_X9_keyOf_24 rfl (lv_at hl 0 rfl) ?_
  refine lv_iload_n hx hb d_X9_keyOf_25 rfl (lv_at hl 3 rfl) ?_
  refine cu_VR (wc := [(o, .inr (7, [.int 0, .ref m1, .int 0, .int 0, .int 0, .int 0, .int 0, .ref m2, .ref m3, .ref m4, .ref m5, .int 0, .ref m6, .ref m7, .int 0, .ref m8, .ref m9, .long 0, .ref m10, .ref m11, .ref m12, .int 0, .int 0, .int 0, .int 0, .ref m13, .int 0, .ref m14]))]) (rest := [.int 48000000]) [.int 0, .int (nI k)] ⟨hx, hb, hml, hown, hg⟩ (c_X9_lossOf l D cI cZ cQ o m1 m2 m3 m4 m5 m6 m7 m8 m9 m10 m11 m12 m13 m14 0 (nI k)) hd_X9_lossOf k_920 k_917 k_919 k_33 k_49 ⟨Nat.le_of_ble_eq_true rfl, Nat.le_of_ble_eq_true rfl⟩ ⟨Nat.le_of_ble_eq_true rfl, Nat.le_of_ble_eq_true rfl⟩ hP hK [0] rfl 0 rfl rfl rfl hl.1 rfl (Nat.le_of_ble_eq_true rfl) d_X9_keyOf_26 (fun r_5 hr_6 => ?_)
  subst hr_6
  refine lv_sipush (v := 1000) hx hb d_X9_keyOf_29 (by decide) ?_
  refine lv_imul hx hb d_X9_keyOf_32 ?_
  refine cu_topi (y := 0) (by decide +kernel) ?_
  refine lv_iadd hx hb d_X9_keyOf_33 ?_
  refine cu_topi (y := 48000000) (by decide +kernel) ?_
  refine lv_sipush (v := 999) hx hb d_X9_keyOf_34 (by decide) ?_
  refine lv_iadd hx hb d_X9_keyOf_37 ?_
  refine cu_topi (y := 48000999) (by decide +kernel) ?_
  refine lv_iload_n hx hb d_X9_keyOf_38 rfl (lv_at hl 3 rfl) ?_
  refine lv_isub hx hb d_X9_keyOf_39 ?_
  refine cu_topi (y := nI (48000999 - k)) (cu_nsub (a := 48000999) (b := k) (by omega)) ?_
  exact hret _ _ _ d_X9_keyOf_40 (rfl) (rfl)
set_option maxHeartbeats 4000000 in
set_option maxRecDepth 100000 in
theorem c_X9_rankOf (l : Launch) (D : va_G) (cI cZ cQ : ClassId) (o m1 m2 m3 m4 m5 m6 m7 m8 m9 m10 m11 m12 m13 m14 : Nat) (pp : Nat) (pf : Nat → Int32) (k : Nat) (hy_0 : 1 ≤ k ∧ k ≤ 999) : cu_R l D (cu_TY cI cZ cQ) yX9_rankOf cX9_rankOf 6 .int 2 47 [.ref o, .ref pp, .int (nI k)] [(o, .inr (7, [.int 0, .ref m1, .int 0, .int 0, .int 0, .int 0, .int 0, .ref m2, .ref m3, .ref m4, .ref m5, .int 0, .ref m6, .ref m7, .int 0, .ref m8, .ref m9, .long 0, .ref m10, .ref m11, .ref m12, .int 0, .int 0, .int 0, .int 0, .ref m13, .int 0, .ref m14])), (pp, .inl (cI, 30, .inl pf)), (m10, .inl (cI, 1000, .inl (fun _ => 0)))] (fun r => r = nI (999 - k)) := by
  refine cu_R.intro (by decide) (Nat.le_of_ble_eq_true rfl) ?_
  intro p e s m args below meth c Q ls S hret hP hK hl
  obtain ⟨hx, hb, hml, hown, hg⟩ := S
  have hown : s.vm.findClass RX9 = some m.cls := hown
  have hl : lv_has ls 6 [(0, .ref o), (1, .ref pp), (2, .int (nI k))] := hl
  refine lv_aload_n hx hb d_X9_rankOf_0 rfl (lv_at hl 0 rfl) ?_
  refine lv_aload_n hx hb d_X9_rankOf_1 rfl (lv_at hl 1 rfl) ?_
  refine lv_iload_n hx hb d_X9_rankOf_2 rfl (lv_at hl 2 rfl) ?_
  refine cu_VR (wc := [(o, .inr (7, [.int 0, .ref m1, .int 0, .int 0, .int 0, .int 0, .int 0, .ref m2, .ref m3, .ref m4, .ref m5, .int 0, .ref m6, .ref m7, .int 0, .ref m8, .ref m9, .long 0, .ref m10, .ref m11, .ref m12, .int 0, .int 0, .int 0, .int 0, .ref m13, .int 0, .ref m14])), (pp, .inl (cI, 30, .inl pf)), (m10, .inl (cI, 1000, .inl (fun _ => 0)))]) (rest := []) [.ref pp, .int (nI k)] ⟨hx, hb, hml, hown, hg⟩ (c_X9_keyOf l D cI cZ cQ o m1 m2 m3 m4 m5 m6 m7 m8 m9 m10 m11 m12 m13 m14 pp pf k (⟨by omega, by omega⟩)) hd_X9_keyOf k_928 k_925 k_927 k_35 k_49 ⟨Nat.le_of_ble_eq_true rfl, Nat.le_of_ble_eq_true rfl⟩ ⟨Nat.le_of_ble_eq_true rfl, Nat.le_of_ble_eq_true rfl⟩ hP hK [0, 1, 2] rfl 0 rfl rfl rfl hl.1 rfl (Nat.le_of_ble_eq_true rfl) d_X9_rankOf_3 (fun r_1 hr_2 => ?_)
  subst hr_2
  refine lv_istore_n (lv' := [(3, .int (nI (48000999 - k))), (0, .ref o), (1, .ref pp), (2, .int (nI k))]) hx hb d_X9_rankOf_6 rfl hl (by decide) rfl (fun ls hl => ?_)
  refine lv_iconst (v := 0) hx hb d_X9_rankOf_7 (by decide) ?_
  refine lv_istore (lv' := [(4, .int 0), (3, .int (nI (48000999 - k))), (0, .ref o), (1, .ref pp), (2, .int (nI k))]) hx hb d_X9_rankOf_8 hl (by decide) rfl (fun ls hl => ?_)
  refine lv_iconst (v := 1) hx hb d_X9_rankOf_10 (by decide) ?_
  refine lv_istore (lv' := [(5, .int 1), (4, .int 0), (3, .int (nI (48000999 - k))), (0, .ref o), (1, .ref pp), (2, .int (nI k))]) hx hb d_X9_rankOf_11 hl (by decide) rfl (fun ls hl => ?_)
  have key_3 : ∀ (n_5 j_4 : Nat) (hj_7 : j_4 + n_5 = 1000)  (hi_8 : 1 ≤ j_4) (ls : Array Slot) (hl : lv_has ls 6 [(5, .int (nI j_4)), (4, .int (nI (j_4 - 1 - k))), (3, .int (nI (48000999 - k))), (0, .ref o), (1, .ref pp), (2, .int (nI k))]), W p l e (cu_rm 2 47 0 0) s m args below meth c s.heap [] 0 0 Q (F0 m 13 ls []) := by
    intro n_5
    induction n_5 with
    | zero =>
      intro j_4 hj_7  hi_8 ls hl
      obtain rfl : 1000 = j_4 := by omega
      have hl : lv_has ls 6 [(5, .int 1000), (4, .int (nI (1000 - 1 - k))), (3, .int (nI (48000999 - k))), (0, .ref o), (1, .ref pp), (2, .int (nI k))] := hl
      refine lv_iload hx hb d_X9_rankOf_13 (lv_at hl 0 rfl) ?_
      refine lv_sipush (v := 999) hx hb d_X9_rankOf_15 (by decide) ?_
      refine lv_icmp_gt (tgt := 48) hx hb d_X9_rankOf_18 (by decide) (fun _ => ?_) (fun c_9 => absurd (by decide +kernel) c_9)
      refine lv_iload hx hb d_X9_rankOf_48 (lv_at hl 1 rfl) ?_
      exact hret _ _ _ d_X9_rankOf_50 (rfl) (congrArg nI (by omega))
    | succ n_5 ih_6 =>
      intro j_4 hj_7  hi_8 ls hl
      refine lv_iload hx hb d_X9_rankOf_13 (lv_at hl 0 rfl) ?_
      refine lv_sipush (v := 999) hx hb d_X9_rankOf_15 (by decide) ?_
      refine lv_icmp_gt (tgt := 48) hx hb d_X9_rankOf_18 (by decide) (fun c_10 => absurd c_10 (mt (nI_ltI (a := 999) (b := j_4) (by omega) (by omega)).mp (by omega))) (fun _ => ?_)
      refine lv_iload hx hb d_X9_rankOf_21 (lv_at hl 1 rfl) ?_
      refine lv_aload_n hx hb d_X9_rankOf_23 rfl (lv_at hl 3 rfl) ?_
      refine lv_aload_n hx hb d_X9_rankOf_24 rfl (lv_at hl 4 rfl) ?_
      refine lv_iload hx hb d_X9_rankOf_25 (lv_at hl 0 rfl) ?_
      refine cu_VR (wc := [(o, .inr (7, [.int 0, .ref m1, .int 0, .int 0, .int 0, .int 0, .int 0, .ref m2, .ref m3, .ref m4, .ref m5, .int 0, .ref m6, .ref m7, .int 0, .ref m8, .ref m9, .long 0, .ref m10, .ref m11, .ref m12, .int 0, .int 0, .int 0, .int 0, .ref m13, .int 0, .ref m14])), (pp, .inl (cI, 30, .inl pf)), (m10, .inl (cI, 1000, .inl (fun _ => 0)))]) (rest := [.int (nI (j_4 - 1 - k))]) [.ref pp, .int (nI j_4)] ⟨hx, hb, hml, hown, hg⟩ (c_X9_keyOf l D cI cZ cQ o m1 m2 m3 m4 m5 m6 m7 m8 m9 m10 m11 m12 m13 m14 pp pf j_4 (⟨by omega, by omega⟩)) hd_X9_keyOf k_928 k_925 k_927 k_35 k_49 ⟨Nat.le_of_ble_eq_true rfl, Nat.le_of_ble_eq_true rfl⟩ ⟨Nat.le_of_ble_eq_true rfl, Nat.le_of_ble_eq_true rfl⟩ hP hK [0, 1, 2] rfl 0 rfl rfl rfl hl.1 rfl (Nat.le_of_ble_eq_true rfl) d_X9_rankOf_27 (fun r_11 hr_12 => ?_)
      subst hr_12
      refine lv_iload_n hx hb d_X9_rankOf_30 rfl (lv_at hl 2 rfl) ?_
      refine lv_icmp_ge (tgt := 38) hx hb d_X9_rankOf_31 (by decide) (fun c_13 => ?_) (fun c_13 => ?_)
      · skip
        have hn9 := (nI_leI (by omega) (by omega)).mp c_13
        refine lv_iconst (v := 0) hx hb d_X9_rankOf_38 (by decide) ?_
        refine lv_iadd hx hb d_X9_rankOf_39 ?_
        refine cu_topi (y := nI ((j_4 - 1 - k) + 0)) (nI_add (j_4 - 1 - k) 0) ?_
        refine lv_istore (lv' := [(4, .int (nI ((j_4 - 1 - k) + 0))), (5, .int (nI j_4)), (3, .int (nI (48000999 - k))), (0, .ref o), (1, .ref pp), (2, .int (nI k))]) hx hb d_X9_rankOf_40 hl (by decide) rfl (fun ls hl => ?_)
        refine lv_iinc (v := nI (j_4 + 1)) (lv' := [(5, .int (nI (j_4 + 1))), (4, .int (nI ((j_4 - 1 - k) + 0))), (3, .int (nI (48000999 - k))), (0, .ref o), (1, .ref pp), (2, .int (nI k))]) hx hb d_X9_rankOf_42 hl (k := 1) rfl (nI_1 j_4) (by decide) rfl (fun ls hl => ?_)
        refine lv_goto (tgt := 13) hx hb d_X9_rankOf_45 (by decide) ?_
        have he_14 : (nI ((j_4 - 1 - k) + 0) : Int32) = nI ((j_4 + 1) - 1 - k) := congrArg nI (by omega)
        rw [he_14] at hl
        exact ih_6 (j_4 + 1) (by first | rfl | omega)  (by omega) _ (lv_sub hl [0, 1, 2, 3, 4, 5] rfl)
      · skip
        have hn9 := mt (nI_leI (by omega) (by omega)).mpr c_13
        refine lv_iconst (v := 1) hx hb d_X9_rankOf_34 (by decide) ?_
        refine lv_goto (tgt := 39) hx hb d_X9_rankOf_35 (by decide) ?_
        refine lv_iadd hx hb d_X9_rankOf_39 ?_
        refine cu_topi (y := nI ((j_4 - 1 - k) + 1)) (nI_add (j_4 - 1 - k) 1) ?_
        refine lv_istore (lv' := [(4, .int (nI ((j_4 - 1 - k) + 1))), (5, .int (nI j_4)), (3, .int (nI (48000999 - k))), (0, .ref o), (1, .ref pp), (2, .int (nI k))]) hx hb d_X9_rankOf_40 hl (by decide) rfl (fun ls hl => ?_)
        refine lv_iinc (v := nI (j_4 + 1)) (lv' := [(5, .int (nI (j_4 + 1))), (4, .int (nI ((j_4 - 1 - k) + 1))), (3, .int (nI (48000999 - k))), (0, .ref o), (1, .ref pp), (2, .int (nI k))]) hx hb d_X9_rankOf_42 hl (k := 1) rfl (nI_1 j_4) (by decide) rfl (fun ls hl => ?_)
        refine lv_goto (tgt := 13) hx hb d_X9_rankOf_45 (by decide) ?_
        have he_15 : (nI ((j_4 - 1 - k) + 1) : Int32) = nI ((j_4 + 1) - 1 - k) := congrArg nI (by omega)
        rw [he_15] at hl
        exact ih_6 (j_4 + 1) (by first | rfl | omega)  (by omega) _ (lv_sub hl [0, 1, 2, 3, 4, 5] rfl)
  exact key_3 999 1 (by first | rfl | omega)  (Nat.le_refl _) _ (by rw [show (1 - 1 - k) = 0 by omega]; exact lv_sub hl [0, 1, 2, 3, 4, 5] rfl)
set_option maxHeartbeats 4000000 in
set_option maxRecDepth 100000 in
theorem c_X9_firstUnit (l : Launch) (D : va_G) (cI cZ cQ : ClassId) (o m1 m2 m3 m4 m5 m6 m7 m8 m9 m10 m11 m12 m13 m14 : Nat) (pp : Nat) (pf : Nat → Int32) : cu_R l D (cu_TY cI cZ cQ) yX9_firstUnit cX9_firstUnit 6 .int 2 47 [.ref o, .ref pp] [(o, .inr (7, [.int 0, .ref m1, .int 0, .int 0, .int 0, .int 0, .int 0, .ref m2, .ref m3, .ref m4, .ref m5, .int 0, .ref m6, .ref m7, .int 0, .ref m8, .ref m9, .long 0, .ref m10, .ref m11, .ref m12, .int 0, .int 0, .int 0, .int 0, .ref m13, .int 0, .ref m14])), (pp, .inl (cI, 30, .inl pf)), (m10, .inl (cI, 1000, .inl (fun _ => 0)))] (fun r => r = 999) := by
  refine cu_R.intro (by decide) (Nat.le_of_ble_eq_true rfl) ?_
  intro p e s m args below meth c Q ls S hret hP hK hl
  obtain ⟨hx, hb, hml, hown, hg⟩ := S
  have hown : s.vm.findClass RX9 = some m.cls := hown
  have hl : lv_has ls 6 [(0, .ref o), (1, .ref pp)] := hl
  refine lv_iconst (v := 1) hx hb d_X9_firstUnit_0 (by decide) ?_
  refine lv_istore_n (lv' := [(2, .int 1), (0, .ref o), (1, .ref pp)]) hx hb d_X9_firstUnit_1 rfl hl (by decide) rfl (fun ls hl => ?_)
  refine lv_aload_n hx hb d_X9_firstUnit_2 rfl (lv_at hl 1 rfl) ?_
  refine lv_aload_n hx hb d_X9_firstUnit_3 rfl (lv_at hl 2 rfl) ?_
  refine lv_iconst (v := 1) hx hb d_X9_firstUnit_4 (by decide) ?_
  refine cu_VR (wc := [(o, .inr (7, [.int 0, .ref m1, .int 0, .int 0, .int 0, .int 0, .int 0, .ref m2, .ref m3, .ref m4, .ref m5, .int 0, .ref m6, .ref m7, .int 0, .ref m8, .ref m9, .long 0, .ref m10, .ref m11, .ref m12, .int 0, .int 0, .int 0, .int 0, .ref m13, .int 0, .ref m14])), (pp, .inl (cI, 30, .inl pf)), (m10, .inl (cI, 1000, .inl (fun _ => 0)))]) (rest := []) [.ref pp, .int 1] ⟨hx, hb, hml, hown, hg⟩ (c_X9_keyOf l D cI cZ cQ o m1 m2 m3 m4 m5 m6 m7 m8 m9 m10 m11 m12 m13 m14 pp pf 1 (⟨by omega, by omega⟩)) hd_X9_keyOf k_928 k_925 k_927 k_35 k_49 ⟨Nat.le_of_ble_eq_true rfl, Nat.le_of_ble_eq_true rfl⟩ ⟨Nat.le_of_ble_eq_true rfl, Nat.le_of_ble_eq_true rfl⟩ hP hK [0, 1, 2] rfl 0 rfl rfl rfl hl.1 rfl (Nat.le_of_ble_eq_true rfl) d_X9_firstUnit_5 (fun r_1 hr_2 => ?_)
  subst hr_2
  refine lv_istore_n (lv' := [(3, .int (nI (48000999 - 1))), (2, .int 1), (0, .ref o), (1, .ref pp)]) hx hb d_X9_firstUnit_8 rfl hl (by decide) rfl (fun ls hl => ?_)
  refine lv_iconst (v := 2) hx hb d_X9_firstUnit_9 (by decide) ?_
  refine lv_istore (lv' := [(4, .int 2), (3, .int (nI (48000999 - 1))), (2, .int 1), (0, .ref o), (1, .ref pp)]) hx hb d_X9_firstUnit_10 hl (by decide) rfl (fun ls hl => ?_)
  have key_3 : ∀ (n_5 j_4 : Nat) (hj_7 : j_4 + n_5 = 1000)  (hi_8 : 2 ≤ j_4) (ls : Array Slot) (hl : lv_has ls 6 [(4, .int (nI j_4)), (3, .int (nI (48001000 - j_4))), (2, .int (nI (j_4 - 1))), (0, .ref o), (1, .ref pp)]), W p l e (cu_rm 2 47 0 0) s m args below meth c s.heap [] 0 0 Q (F0 m 12 ls []) := by
    intro n_5
    induction n_5 with
    | zero =>
      intro j_4 hj_7  hi_8 ls hl
      obtain rfl : 1000 = j_4 := by omega
      have hl : lv_has ls 6 [(4, .int 1000), (3, .int 48000000), (2, .int 999), (0, .ref o), (1, .ref pp)] := hl
      refine lv_iload hx hb d_X9_firstUnit_12 (lv_at hl 0 rfl) ?_
      refine lv_sipush (v := 999) hx hb d_X9_firstUnit_14 (by decide) ?_
      refine lv_icmp_gt (tgt := 61) hx hb d_X9_firstUnit_17 (by decide) (fun _ => ?_) (fun c_9 => absurd (by decide +kernel) c_9)
      refine lv_iload_n hx hb d_X9_firstUnit_61 rfl (lv_at hl 2 rfl) ?_
      exact hret _ _ _ d_X9_firstUnit_62 (rfl) (rfl)
    | succ n_5 ih_6 =>
      intro j_4 hj_7  hi_8 ls hl
      refine lv_iload hx hb d_X9_firstUnit_12 (lv_at hl 0 rfl) ?_
      refine lv_sipush (v := 999) hx hb d_X9_firstUnit_14 (by decide) ?_
      refine lv_icmp_gt (tgt := 61) hx hb d_X9_firstUnit_17 (by decide) (fun c_10 => absurd c_10 (mt (nI_ltI (a := 999) (b := j_4) (by omega) (by omega)).mp (by omega))) (fun _ => ?_)
      refine lv_aload_n hx hb d_X9_firstUnit_20 rfl (lv_at hl 3 rfl) ?_
      refine lv_aload_n hx hb d_X9_firstUnit_21 rfl (lv_at hl 4 rfl) ?_
      refine lv_iload hx hb d_X9_firstUnit_22 (lv_at hl 0 rfl) ?_
      refine cu_VR (wc := [(o, .inr (7, [.int 0, .ref m1, .int 0, .int 0, .int 0, .int 0, .int 0, .ref m2, .ref m3, .ref m4, .ref m5, .int 0, .ref m6, .ref m7, .int 0, .ref m8, .ref m9, .long 0, .ref m10, .ref m11, .ref m12, .int 0, .int 0, .int 0, .int 0, .ref m13, .int 0, .ref m14])), (pp, .inl (cI, 30, .inl pf)), (m10, .inl (cI, 1000, .inl (fun _ => 0)))]) (rest := []) [.ref pp, .int (nI j_4)] ⟨hx, hb, hml, hown, hg⟩ (c_X9_keyOf l D cI cZ cQ o m1 m2 m3 m4 m5 m6 m7 m8 m9 m10 m11 m12 m13 m14 pp pf j_4 (⟨by omega, by omega⟩)) hd_X9_keyOf k_928 k_925 k_927 k_35 k_49 ⟨Nat.le_of_ble_eq_true rfl, Nat.le_of_ble_eq_true rfl⟩ ⟨Nat.le_of_ble_eq_true rfl, Nat.le_of_ble_eq_true rfl⟩ hP hK [0, 1, 2] rfl 0 rfl rfl rfl hl.1 rfl (Nat.le_of_ble_eq_true rfl) d_X9_firstUnit_24 (fun r_11 hr_12 => ?_)
      subst hr_12
      refine lv_istore (lv' := [(5, .int (nI (48000999 - j_4))), (4, .int (nI j_4)), (3, .int (nI (48001000 - j_4))), (2, .int (nI (j_4 - 1))), (0, .ref o), (1, .ref pp)]) hx hb d_X9_firstUnit_27 hl (by decide) rfl (fun ls hl => ?_)
      refine lv_iload hx hb d_X9_firstUnit_29 (lv_at hl 0 rfl) ?_
      refine lv_iload_n hx hb d_X9_firstUnit_31 rfl (lv_at hl 2 rfl) ?_
      refine lv_icmp_ge (tgt := 40) hx hb d_X9_firstUnit_32 (by decide) (fun c_13 => absurd c_13 (mt (nI_leI (by omega) (by omega)).mp (by omega))) (fun _ => ?_)
      refine lv_iload hx hb d_X9_firstUnit_35 (lv_at hl 1 rfl) ?_
      refine lv_goto (tgt := 41) hx hb d_X9_firstUnit_37 (by decide) ?_
      refine lv_istore_n (lv' := [(2, .int (nI j_4)), (5, .int (nI (48000999 - j_4))), (4, .int (nI j_4)), (3, .int (nI (48001000 - j_4))), (0, .ref o), (1, .ref pp)]) hx hb d_X9_firstUnit_41 rfl hl (by decide) rfl (fun ls hl => ?_)
      refine lv_iload hx hb d_X9_firstUnit_42 (lv_at hl 1 rfl) ?_
      refine lv_iload_n hx hb d_X9_firstUnit_44 rfl (lv_at hl 3 rfl) ?_
      refine lv_icmp_ge (tgt := 53) hx hb d_X9_firstUnit_45 (by decide) (fun c_14 => absurd c_14 (mt (nI_leI (by omega) (by omega)).mp (by omega))) (fun _ => ?_)
      refine lv_iload hx hb d_X9_firstUnit_48 (lv_at hl 1 rfl) ?_
      refine lv_goto (tgt := 54) hx hb d_X9_firstUnit_50 (by decide) ?_
      refine lv_istore_n (lv' := [(3, .int (nI (48000999 - j_4))), (2, .int (nI j_4)), (5, .int (nI (48000999 - j_4))), (4, .int (nI j_4)), (0, .ref o), (1, .ref pp)]) hx hb d_X9_firstUnit_54 rfl hl (by decide) rfl (fun ls hl => ?_)
      refine lv_iinc (v := nI (j_4 + 1)) (lv' := [(4, .int (nI (j_4 + 1))), (3, .int (nI (48000999 - j_4))), (2, .int (nI j_4)), (5, .int (nI (48000999 - j_4))), (0, .ref o), (1, .ref pp)]) hx hb d_X9_firstUnit_55 hl (k := 3) rfl (nI_1 j_4) (by decide) rfl (fun ls hl => ?_)
      refine lv_goto (tgt := 12) hx hb d_X9_firstUnit_58 (by decide) ?_
      have he_15 : (nI (48000999 - j_4) : Int32) = nI (48001000 - (j_4 + 1)) := congrArg nI (by omega)
      rw [he_15] at hl
      have he_16 : (nI j_4 : Int32) = nI ((j_4 + 1) - 1) := congrArg nI (by omega)
      rw [he_16] at hl
      exact ih_6 (j_4 + 1) (by first | rfl | omega)  (by omega) _ (lv_sub hl [0, 1, 2, 4, 5] rfl)
  exact key_3 998 2 (by first | rfl | omega)  (Nat.le_refl _) _ (lv_sub hl [0, 1, 2, 3, 4] rfl)
set_option maxHeartbeats 4000000 in
set_option maxRecDepth 100000 in
theorem c_X9_unit (l : Launch) (D : va_G) (cI cZ cQ : ClassId) (o m1 m2 m3 m4 m5 m6 m7 m8 m9 m10 m11 m12 m13 m14 : Nat) (c1 c2 : Int32) : cu_W l D (cu_TY cI cZ cQ) yX9_unit cX9_unit 4 .int 3 72 0 0 [.ref o, .int c1, .int c2] [(o, .inr (7, [.int 0, .ref m1, .int 0, .int 0, .int 0, .int 0, .int 0, .ref m2, .ref m3, .ref m4, .ref m5, .int 0, .ref m6, .ref m7, .int 0, .ref m8, .ref m9, .long 0, .ref m10, .ref m11, .ref m12, .int 0, .int 0, .int 0, .int 0, .ref m13, .int 0, .ref m14])), (m3, .inl (cI, 30, .inl (upd (fun _ => 0) 28 (1 : Int32)))), (m10, .inl (cI, 1000, .inl (fun _ => 0)))] (fun r ww => (r = cu_sun c1 c2) ∧ ww = []) := by
  refine cu_W.intro (by decide) (Nat.le_of_ble_eq_true rfl) ?_
  intro p e s m args below meth c Q ls A S hret hP hD hS hA hK hl
  obtain ⟨hx, hb, hml, hown, hg⟩ := S
  have hown : s.vm.findClass RX9 = some m.cls := hown
  have hl : lv_has ls 4 [(0, .ref o), (1, .int c1), (2, .int c2)] := hl
  refine lv_aload_n hx hb d_X9_unit_0 rfl (lv_at hl 0 rfl) ?_
  refine lv_iconst (v := 0) hx hb d_X9_unit_1 (by decide) ?_
  refine va_put (D := D) (ci := 7) (v := .int 0) (ty := .int) (C := RX9) (T := TX9) (N := 28) hx hb hg cu_iX9 tyX9 tyX9_ok nmX9 hown hK.1 hP hD hS 0 rfl rfl 0 (by decide) (hg _ k_684) (fun _ h9 => h9) rfl (by decide +kernel) rfl rfl (Nat.le_of_ble_eq_true rfl) d_X9_unit_2 (fun H locs hP hD hS => ?_)
  have hP : va_P D vwCl [(o, .inr (7, [.int 0, .ref m1, .int 0, .int 0, .int 0, .int 0, .int 0, .ref m2, .ref m3, .ref m4, .ref m5, .int 0, .ref m6, .ref m7, .int 0, .ref m8, .ref m9, .long 0, .ref m10, .ref m11, .ref m12, .int 0, .int 0, .int 0, .int 0, .ref m13, .int 0, .ref m14])), (m3, .inl (cI, 30, .inl (upd (fun _ => 0) 28 (1 : Int32)))), (m10, .inl (cI, 1000, .inl (fun _ => 0)))] H := hP
  have hD : va_D A [(o, .inr (7, [.int 0, .ref m1, .int 0, .int 0, .int 0, .int 0, .int 0, .ref m2, .ref m3, .ref m4, .ref m5, .int 0, .ref m6, .ref m7, .int 0, .ref m8, .ref m9, .long 0, .ref m10, .ref m11, .ref m12, .int 0, .int 0, .int 0, .int 0, .ref m13, .int 0, .ref m14])), (m3, .inl (cI, 30, .inl (upd (fun _ => 0) 28 (1 : Int32)))), (m10, .inl (cI, 1000, .inl (fun _ => 0)))] := hD
  refine lv_iload_n hx hb d_X9_unit_5 rfl (lv_at hl 1 rfl) ?_
  refine lv_i2l (v := c1.toInt64) hx hb d_X9_unit_6 rfl ?_
  refine lv_lconst (v := 1) hx hb d_X9_unit_7 (by decide) ?_
  refine lv_ldc2 (v := 999) hx hb hown (hg _ k_856) d_X9_unit_8 ?_
  refine cu_SR (wc := []) (rest := []) [.long c1.toInt64, .long 1, .long 999] ⟨hx, hb, hml, hown, hg⟩ (c_X9_in l D cI cZ cQ c1.toInt64 1 999) hd_X9_in k_776 k_774 k_775 k_49 ⟨Nat.le_of_ble_eq_true rfl, Nat.le_of_ble_eq_true rfl⟩ ⟨Nat.le_of_ble_eq_true rfl, Nat.le_of_ble_eq_true rfl⟩ hP hK [] rfl rfl hl.1 rfl (Nat.le_of_ble_eq_true rfl) d_X9_unit_11 (fun r_1 hr_2 => ?_)
  replace hr_2 : r_1 = cu_i32 c1 1 999 := by rw [hr_2]; exact cu_inI (by decide) (by decide)
  subst hr_2
  by_cases hc_3 : c1 < 1
  · skip
    refine cu_topi (y := 0) (by unfold cu_i32; rw [if_pos hc_3]) ?_
    refine lv_if_eq (tgt := 29) hx hb d_X9_unit_14 (by decide) (fun _ => ?_) (fun c_4 => absurd (by decide +kernel) c_4)
    refine lv_bipush (v := (-2)) hx hb d_X9_unit_29 (by decide) ?_
    exact hret _ _ _ _ [] _ _ _ (hP.sub (ws' := []) [] rfl) (hD.sub (ws' := []) [] (by decide) rfl) hS (Nat.le_of_ble_eq_true rfl) (Nat.le_of_ble_eq_true rfl) d_X9_unit_31 (rfl) ⟨by unfold cu_sun; rw [if_pos hc_3], rfl⟩
  · skip
    by_cases hc_5 : 999 < c1
    · skip
      refine cu_topi (y := 0) (by unfold cu_i32; rw [if_neg hc_3, if_pos hc_5]) ?_
      refine lv_if_eq (tgt := 29) hx hb d_X9_unit_14 (by decide) (fun _ => ?_) (fun c_6 => absurd (by decide +kernel) c_6)
      refine lv_bipush (v := (-2)) hx hb d_X9_unit_29 (by decide) ?_
      exact hret _ _ _ _ [] _ _ _ (hP.sub (ws' := []) [] rfl) (hD.sub (ws' := []) [] (by decide) rfl) hS (Nat.le_of_ble_eq_true rfl) (Nat.le_of_ble_eq_true rfl) d_X9_unit_31 (rfl) ⟨by unfold cu_sun; rw [if_neg hc_3, if_pos hc_5], rfl⟩
    · skip
      refine cu_topi (y := 1) (by unfold cu_i32; rw [if_neg hc_3, if_neg hc_5]) ?_
      refine lv_if_eq (tgt := 29) hx hb d_X9_unit_14 (by decide) (fun c_7 => absurd c_7 (by decide +kernel)) (fun _ => ?_)
      refine lv_iload_n hx hb d_X9_unit_17 rfl (lv_at hl 2 rfl) ?_
      refine lv_i2l (v := c2.toInt64) hx hb d_X9_unit_18 rfl ?_
      refine lv_lconst (v := 0) hx hb d_X9_unit_19 (by decide) ?_
      refine lv_ldc2 (v := 3) hx hb hown (hg _ k_845) d_X9_unit_20 ?_
      refine cu_SR (wc := []) (rest := []) [.long c2.toInt64, .long 0, .long 3] ⟨hx, hb, hml, hown, hg⟩ (c_X9_in l D cI cZ cQ c2.toInt64 0 3) hd_X9_in k_776 k_774 k_775 k_49 ⟨Nat.le_of_ble_eq_true rfl, Nat.le_of_ble_eq_true rfl⟩ ⟨Nat.le_of_ble_eq_true rfl, Nat.le_of_ble_eq_true rfl⟩ hP hK [] rfl rfl hl.1 rfl (Nat.le_of_ble_eq_true rfl) d_X9_unit_23 (fun r_8 hr_9 => ?_)
      replace hr_9 : r_8 = cu_i32 c2 0 3 := by rw [hr_9]; exact cu_inI (by decide) (by decide)
      subst hr_9
      by_cases hc_10 : c2 < 0
      · skip
        refine cu_topi (y := 0) (by unfold cu_i32; rw [if_pos hc_10]) ?_
        refine lv_if_ne (tgt := 32) hx hb d_X9_unit_26 (by decide) (fun c_11 => absurd (by decide +kernel) c_11) (fun _ => ?_)
        refine lv_bipush (v := (-2)) hx hb d_X9_unit_29 (by decide) ?_
        exact hret _ _ _ _ [] _ _ _ (hP.sub (ws' := []) [] rfl) (hD.sub (ws' := []) [] (by decide) rfl) hS (Nat.le_of_ble_eq_true rfl) (Nat.le_of_ble_eq_true rfl) d_X9_unit_31 (rfl) ⟨by unfold cu_sun; rw [if_neg hc_3, if_neg hc_5, if_neg (cu_ne1 (k := 0) hc_10 (by decide)), if_neg (cu_ne1 (k := 1) hc_10 (by decide)), if_neg (cu_ne1 (k := 2) hc_10 (by decide)), if_neg (cu_ne1 (k := 3) hc_10 (by decide))], rfl⟩
      · skip
        by_cases hc_12 : 3 < c2
        · skip
          refine cu_topi (y := 0) (by unfold cu_i32; rw [if_neg hc_10, if_pos hc_12]) ?_
          refine lv_if_ne (tgt := 32) hx hb d_X9_unit_26 (by decide) (fun c_13 => absurd (by decide +kernel) c_13) (fun _ => ?_)
          refine lv_bipush (v := (-2)) hx hb d_X9_unit_29 (by decide) ?_
          exact hret _ _ _ _ [] _ _ _ (hP.sub (ws' := []) [] rfl) (hD.sub (ws' := []) [] (by decide) rfl) hS (Nat.le_of_ble_eq_true rfl) (Nat.le_of_ble_eq_true rfl) d_X9_unit_31 (rfl) ⟨by unfold cu_sun; rw [if_neg hc_3, if_neg hc_5, if_neg (cu_ne2 (k := 0) hc_12 (by decide)), if_neg (cu_ne2 (k := 1) hc_12 (by decide)), if_neg (cu_ne2 (k := 2) hc_12 (by decide)), if_neg (cu_ne2 (k := 3) hc_12 (by decide))], rfl⟩
        · skip
          refine cu_topi (y := 1) (by unfold cu_i32; rw [if_neg hc_10, if_neg hc_12]) ?_
          refine lv_if_ne (tgt := 32) hx hb d_X9_unit_26 (by decide) (fun _ => ?_) (fun c_14 => absurd c_14 (by decide +kernel))
          obtain ⟨k9, hk9, e9⟩ := cu_nat 1 999 (by decide) (by decide) hc_3 hc_5
          subst e9
          refine lv_aload_n hx hb d_X9_unit_32 rfl (lv_at hl 0 rfl) ?_
          refine lv_aload_n hx hb d_X9_unit_33 rfl (lv_at hl 0 rfl) ?_
          refine va_get (D := D) (ci := 7) (v := .ref m3) (C := RX9) (T := TX9) (N := 28) hx hb hg cu_iX9 hown hK.1 hP 0 rfl rfl 8 (by decide) (hg _ k_692) (fun _ h9 => h9) rfl d_X9_unit_34 ?_
          refine cu_VV (wc := [(o, .inr (7, [.int 0, .ref m1, .int 0, .int 0, .int 0, .int 0, .int 0, .ref m2, .ref m3, .ref m4, .ref m5, .int 0, .ref m6, .ref m7, .int 0, .ref m8, .ref m9, .long 0, .ref m10, .ref m11, .ref m12, .int 0, .int 0, .int 0, .int 0, .ref m13, .int 0, .ref m14])), (m10, .inl (cI, 1000, .inl (fun _ => 0)))]) (wr := [(m3, .inl (cI, 30, .inl (upd (fun _ => 0) 28 (1 : Int32))))]) (rest := []) [.ref m3] ⟨hx, hb, hml, hown, hg⟩ (c_X9_layFitting l D cI cZ cQ o m1 m2 m3 m4 m5 m6 m7 m8 m9 m10 m11 m12 m13 m14 m3) hd_X9_layFitting k_912 k_909 k_911 k_31 k_49 ⟨Nat.le_of_ble_eq_true rfl, Nat.le_of_ble_eq_true rfl⟩ ⟨Nat.le_of_ble_eq_true rfl, Nat.le_of_ble_eq_true rfl⟩ hP hD hS hA hK [0, 2] [1] rfl rfl (by decide) (by decide) (by decide) 0 rfl rfl rfl hl.1 rfl (Nat.le_of_ble_eq_true rfl) d_X9_unit_37 (fun w_17 H locs hw_16 hP hD hS => ?_)
          subst hw_16
          have hP : va_P D vwCl [(m3, .inl (cI, 30, .inl (upd (fun _ => 0) 28 (1 : Int32)))), (o, .inr (7, [.int 0, .ref m1, .int 0, .int 0, .int 0, .int 0, .int 0, .ref m2, .ref m3, .ref m4, .ref m5, .int 0, .ref m6, .ref m7, .int 0, .ref m8, .ref m9, .long 0, .ref m10, .ref m11, .ref m12, .int 0, .int 0, .int 0, .int 0, .ref m13, .int 0, .ref m14])), (m10, .inl (cI, 1000, .inl (fun _ => 0)))] H := hP
          have hD : va_D A [(m3, .inl (cI, 30, .inl (upd (fun _ => 0) 28 (1 : Int32)))), (o, .inr (7, [.int 0, .ref m1, .int 0, .int 0, .int 0, .int 0, .int 0, .ref m2, .ref m3, .ref m4, .ref m5, .int 0, .ref m6, .ref m7, .int 0, .ref m8, .ref m9, .long 0, .ref m10, .ref m11, .ref m12, .int 0, .int 0, .int 0, .int 0, .ref m13, .int 0, .ref m14])), (m10, .inl (cI, 1000, .inl (fun _ => 0)))] := hD
          refine lv_aload_n hx hb d_X9_unit_40 rfl (lv_at hl 0 rfl) ?_
          refine va_get (D := D) (ci := 7) (v := .ref m10) (C := RX9) (T := TX9) (N := 28) hx hb hg cu_iX9 hown hK.1 hP 1 rfl rfl 18 (by decide) (hg _ k_702) (fun _ h9 => h9) rfl d_X9_unit_41 ?_
          refine lv_iload_n hx hb d_X9_unit_44 rfl (lv_at hl 1 rfl) ?_
          refine va_iald hx hb hK.1 hP 2 0 rfl rfl (vp_in_nI (by omega) (by decide)) d_X9_unit_45 ?_
          refine cu_topi (y := 0) rfl ?_
          refine lv_aload_n hx hb d_X9_unit_46 rfl (lv_at hl 0 rfl) ?_
          refine lv_aload_n hx hb d_X9_unit_47 rfl (lv_at hl 0 rfl) ?_
          refine va_get (D := D) (ci := 7) (v := .ref m3) (C := RX9) (T := TX9) (N := 28) hx hb hg cu_iX9 hown hK.1 hP 1 rfl rfl 8 (by decide) (hg _ k_692) (fun _ h9 => h9) rfl d_X9_unit_48 ?_
          refine cu_VR (wc := [(o, .inr (7, [.int 0, .ref m1, .int 0, .int 0, .int 0, .int 0, .int 0, .ref m2, .ref m3, .ref m4, .ref m5, .int 0, .ref m6, .ref m7, .int 0, .ref m8, .ref m9, .long 0, .ref m10, .ref m11, .ref m12, .int 0, .int 0, .int 0, .int 0, .ref m13, .int 0, .ref m14])), (m3, .inl (cI, 30, .inl (upd (fun _ => 0) 28 (1 : Int32))))]) (rest := [.int 0]) [.ref m3] ⟨hx, hb, hml, hown, hg⟩ (c_X9_open l D cI cZ cQ o m1 m2 m3 m4 m5 m6 m7 m8 m9 m10 m11 m12 m13 m14 0 0 0 0 m3 (upd (fun _ => 0) 28 (1 : Int32))) hd_X9_open k_916 k_913 k_915 k_32 k_49 ⟨Nat.le_of_ble_eq_true rfl, Nat.le_of_ble_eq_true rfl⟩ ⟨Nat.le_of_ble_eq_true rfl, Nat.le_of_ble_eq_true rfl⟩ hP hK [1, 0] rfl 0 rfl rfl rfl hl.1 rfl (Nat.le_of_ble_eq_true rfl) d_X9_unit_51 (fun r_18 hr_19 => ?_)
          subst hr_19
          refine lv_iand hx hb d_X9_unit_54 ?_
          refine cu_topi (y := 0) (by decide +kernel) ?_
          refine lv_istore_n (lv' := [(3, .int 0), (0, .ref o), (1, .int (nI k9)), (2, .int c2)]) hx hb d_X9_unit_55 rfl hl (by decide) rfl (fun ls hl => ?_)
          refine lv_iload_n hx hb d_X9_unit_56 rfl (lv_at hl 3 rfl) ?_
          refine lv_if_ne (tgt := 67) hx hb d_X9_unit_57 (by decide) (fun c_20 => ?_) (fun c_20 => ?_)
          · skip
            refine lv_iload_n hx hb d_X9_unit_67 rfl (lv_at hl 3 rfl) ?_
            refine lv_iconst (v := 1) hx hb d_X9_unit_68 (by decide) ?_
            refine lv_icmp_ne (tgt := 76) hx hb d_X9_unit_69 (by decide) (fun c_21 => ?_) (fun c_21 => ?_)
            · skip
              refine lv_iload_n hx hb d_X9_unit_76 rfl (lv_at hl 3 rfl) ?_
              refine lv_iconst (v := 2) hx hb d_X9_unit_77 (by decide) ?_
              refine lv_icmp_ne (tgt := 90) hx hb d_X9_unit_78 (by decide) (fun c_22 => ?_) (fun c_22 => ?_)
              · skip
                refine lv_aload_n hx hb d_X9_unit_90 rfl (lv_at hl 1 rfl) ?_
                refine lv_aload_n hx hb d_X9_unit_91 rfl (lv_at hl 1 rfl) ?_
                refine va_get (D := D) (ci := 7) (v := .ref m3) (C := RX9) (T := TX9) (N := 28) hx hb hg cu_iX9 hown hK.1 hP 1 rfl rfl 8 (by decide) (hg _ k_692) (fun _ h9 => h9) rfl d_X9_unit_92 ?_
                refine lv_iload_n hx hb d_X9_unit_95 rfl (lv_at hl 2 rfl) ?_
                refine cu_VR (wc := [(o, .inr (7, [.int 0, .ref m1, .int 0, .int 0, .int 0, .int 0, .int 0, .ref m2, .ref m3, .ref m4, .ref m5, .int 0, .ref m6, .ref m7, .int 0, .ref m8, .ref m9, .long 0, .ref m10, .ref m11, .ref m12, .int 0, .int 0, .int 0, .int 0, .ref m13, .int 0, .ref m14])), (m3, .inl (cI, 30, .inl (upd (fun _ => 0) 28 (1 : Int32)))), (m10, .inl (cI, 1000, .inl (fun _ => 0)))]) (rest := []) [.ref m3, .int (nI k9)] ⟨hx, hb, hml, hown, hg⟩ (c_X9_rankOf l D cI cZ cQ o m1 m2 m3 m4 m5 m6 m7 m8 m9 m10 m11 m12 m13 m14 m3 (upd (fun _ => 0) 28 (1 : Int32)) k9 (⟨by omega, by omega⟩)) hd_X9_rankOf k_924 k_921 k_923 k_34 k_49 ⟨Nat.le_of_ble_eq_true rfl, Nat.le_of_ble_eq_true rfl⟩ ⟨Nat.le_of_ble_eq_true rfl, Nat.le_of_ble_eq_true rfl⟩ hP hK [1, 0, 2] rfl 0 rfl rfl rfl hl.1 rfl (Nat.le_of_ble_eq_true rfl) d_X9_unit_96 (fun r_23 hr_24 => ?_)
                subst hr_24
                exact hret _ _ _ _ [] _ _ _ (hP.sub (ws' := []) [] rfl) (hD.sub (ws' := []) [] (by decide) rfl) hS (Nat.le_of_ble_eq_true rfl) (Nat.le_of_ble_eq_true rfl) d_X9_unit_99 (rfl) ⟨by unfold cu_sun; rw [if_neg hc_3, if_neg hc_5, if_neg c_20, if_neg c_21, if_neg c_22, if_pos (cu_eq3 c_20 c_21 c_22 hc_10 hc_12)]; exact (cu_nsub (a := 999) (by omega)).symm, rfl⟩
              · skip
                refine lv_aload_n hx hb d_X9_unit_81 rfl (lv_at hl 1 rfl) ?_
                refine lv_iload_n hx hb d_X9_unit_82 rfl (lv_at hl 0 rfl) ?_
                refine lv_iload_n hx hb d_X9_unit_83 rfl (lv_at hl 2 rfl) ?_
                refine cu_VR (wc := [(o, .inr (7, [.int 0, .ref m1, .int 0, .int 0, .int 0, .int 0, .int 0, .ref m2, .ref m3, .ref m4, .ref m5, .int 0, .ref m6, .ref m7, .int 0, .ref m8, .ref m9, .long 0, .ref m10, .ref m11, .ref m12, .int 0, .int 0, .int 0, .int 0, .ref m13, .int 0, .ref m14]))]) (rest := []) [.int 0, .int (nI k9)] ⟨hx, hb, hml, hown, hg⟩ (c_X9_lossOf l D cI cZ cQ o m1 m2 m3 m4 m5 m6 m7 m8 m9 m10 m11 m12 m13 m14 0 (nI k9)) hd_X9_lossOf k_920 k_917 k_919 k_33 k_49 ⟨Nat.le_of_ble_eq_true rfl, Nat.le_of_ble_eq_true rfl⟩ ⟨Nat.le_of_ble_eq_true rfl, Nat.le_of_ble_eq_true rfl⟩ hP hK [1] rfl 0 rfl rfl rfl hl.1 rfl (Nat.le_of_ble_eq_true rfl) d_X9_unit_84 (fun r_25 hr_26 => ?_)
                subst hr_26
                refine lv_goto (tgt := 99) hx hb d_X9_unit_87 (by decide) ?_
                exact hret _ _ _ _ [] _ _ _ (hP.sub (ws' := []) [] rfl) (hD.sub (ws' := []) [] (by decide) rfl) hS (Nat.le_of_ble_eq_true rfl) (Nat.le_of_ble_eq_true rfl) d_X9_unit_99 (rfl) ⟨by unfold cu_sun; rw [if_neg hc_3, if_neg hc_5, if_neg c_20, if_neg c_21, if_pos c_22], rfl⟩
            · skip
              refine lv_iload_n hx hb d_X9_unit_72 rfl (lv_at hl 0 rfl) ?_
              refine lv_goto (tgt := 99) hx hb d_X9_unit_73 (by decide) ?_
              exact hret _ _ _ _ [] _ _ _ (hP.sub (ws' := []) [] rfl) (hD.sub (ws' := []) [] (by decide) rfl) hS (Nat.le_of_ble_eq_true rfl) (Nat.le_of_ble_eq_true rfl) d_X9_unit_99 (rfl) ⟨by unfold cu_sun; rw [if_neg hc_3, if_neg hc_5, if_neg c_20, if_pos c_21], rfl⟩
          · skip
            refine lv_iload_n hx hb d_X9_unit_60 rfl (lv_at hl 0 rfl) ?_
            refine cu_SR (wc := []) (rest := []) [.int 0] ⟨hx, hb, hml, hown, hg⟩ (c_X9_ones l D cI cZ cQ ) hd_X9_ones k_851 k_849 k_850 k_49 ⟨Nat.le_of_ble_eq_true rfl, Nat.le_of_ble_eq_true rfl⟩ ⟨Nat.le_of_ble_eq_true rfl, Nat.le_of_ble_eq_true rfl⟩ hP hK [] rfl rfl hl.1 rfl (Nat.le_of_ble_eq_true rfl) d_X9_unit_61 (fun r_27 hr_28 => ?_)
            subst hr_28
            refine lv_goto (tgt := 99) hx hb d_X9_unit_64 (by decide) ?_
            exact hret _ _ _ _ [] _ _ _ (hP.sub (ws' := []) [] rfl) (hD.sub (ws' := []) [] (by decide) rfl) hS (Nat.le_of_ble_eq_true rfl) (Nat.le_of_ble_eq_true rfl) d_X9_unit_99 (rfl) ⟨by unfold cu_sun; rw [if_neg hc_3, if_neg hc_5, if_pos c_20], rfl⟩
set_option maxHeartbeats 4000000 in
set_option maxRecDepth 100000 in
theorem c_X9_lossOfPair (l : Launch) (D : va_G) (cI cZ cQ : ClassId) (o m1 m2 m3 m4 m5 m6 m7 m8 m9 m10 m11 m12 m13 m14 : Nat) (z1 z2 z3 z4 : Int32) (c1 c2 c3 : Int32) : cu_R l D (cu_TY cI cZ cQ) yX9_lossOfPair cX9_lossOfPair 11 .int 0 0 [.ref o, .int c1, .int c2, .int c3] [(o, .inr (7, [.int 0, .ref m1, .int 0, .int 0, .int 0, .int 0, .int 0, .ref m2, .ref m3, .ref m4, .ref m5, .int 0, .ref m6, .ref m7, .int 0, .ref m8, .ref m9, .long 0, .ref m10, .ref m11, .ref m12, .int z1, .int z2, .int z3, .int z4, .ref m13, .int 0, .ref m14]))] (fun r => r = 0) := by
  refine cu_R.intro (by decide) (Nat.le_of_ble_eq_true rfl) ?_
  intro p e s m args below meth c Q ls S hret hP hK hl
  obtain ⟨hx, hb, hml, hown, hg⟩ := S
  have hown : s.vm.findClass RX9 = some m.cls := hown
  have hl : lv_has ls 11 [(0, .ref o), (1, .int c1), (2, .int c2), (3, .int c3)] := hl
  refine lv_iconst (v := 0) hx hb d_X9_lossOfPair_0 (by decide) ?_
  refine lv_istore (lv' := [(4, .int 0), (0, .ref o), (1, .int c1), (2, .int c2), (3, .int c3)]) hx hb d_X9_lossOfPair_1 hl (by decide) rfl (fun ls hl => ?_)
  refine lv_iconst (v := 0) hx hb d_X9_lossOfPair_3 (by decide) ?_
  refine lv_istore (lv' := [(5, .int 0), (4, .int 0), (0, .ref o), (1, .int c1), (2, .int c2), (3, .int c3)]) hx hb d_X9_lossOfPair_4 hl (by decide) rfl (fun ls hl => ?_)
  refine lv_iload hx hb d_X9_lossOfPair_6 (lv_at hl 0 rfl) ?_
  refine lv_aload_n hx hb d_X9_lossOfPair_8 rfl (lv_at hl 2 rfl) ?_
  refine va_get (D := D) (ci := 7) (v := .int 0) (C := RX9) (T := TX9) (N := 28) hx hb hg cu_iX9 hown hK.1 hP 0 rfl rfl 3 (by decide) (hg _ k_687) (fun _ h9 => h9) rfl d_X9_lossOfPair_9 ?_
  refine lv_icmp_ge (tgt := 154) hx hb d_X9_lossOfPair_12 (by decide) (fun _ => ?_) (fun c_1 => absurd (by decide +kernel) c_1)
  refine lv_iload hx hb d_X9_lossOfPair_154 (lv_at hl 1 rfl) ?_
  exact hret _ _ _ d_X9_lossOfPair_156 (rfl) (rfl)
set_option maxHeartbeats 4000000 in
set_option maxRecDepth 100000 in
theorem c_X9_layPair (l : Launch) (D : va_G) (cI cZ cQ : ClassId) (o m1 m2 m3 m4 m5 m6 m7 m8 m9 m10 m11 m12 m13 m14 : Nat) (pp : Nat) (pf : Nat → Int32) : cu_V l D (cu_TY cI cZ cQ) yX9_layPair cX9_layPair 8 1 30 0 0 [.ref o, .ref pp] [(o, .inr (7, [.int 0, .ref m1, .int 0, .int 0, .int 0, .int 0, .int 0, .ref m2, .ref m3, .ref m4, .ref m5, .int 0, .ref m6, .ref m7, .int 0, .ref m8, .ref m9, .long 0, .ref m10, .ref m11, .ref m12, .int 0, .int 0, .int 0, .int 0, .ref m13, .int 0, .ref m14])), (pp, .inl (cI, 30, .inl pf)), (m10, .inl (cI, 1000, .inl (fun _ => 0)))] (fun ww => ww = [(o, .inr (7, [.int 0, .ref m1, .int 0, .int 0, .int 0, .int 0, .int 0, .ref m2, .ref m3, .ref m4, .ref m5, .int 0, .ref m6, .ref m7, .int 0, .ref m8, .ref m9, .long 0, .ref m10, .ref m11, .ref m12, .int 1, .int 2, .int 0, .int 0, .ref m13, .int 0, .ref m14])), (pp, .inl (cI, 30, .inl pf)), (m10, .inl (cI, 1000, .inl (fun _ => 0)))]) := by
  refine cu_V.intro (by decide) (Nat.le_of_ble_eq_true rfl) ?_
  intro p e s m args below meth c Q ls A S hin hret hP hD hS hA hK hl
  obtain ⟨hx, hb, hml, hown, hg⟩ := S
  have hown : s.vm.findClass RX9 = some m.cls := hown
  have hin : meth.name = "layPair" := hin
  have hl : lv_has ls 8 [(0, .ref o), (1, .ref pp)] := hl
  refine lv_aload_n hx hb d_X9_layPair_0 rfl (lv_at hl 0 rfl) ?_
  refine lv_aload_n hx hb d_X9_layPair_1 rfl (lv_at hl 1 rfl) ?_
  refine cu_VV (wc := [(o, .inr (7, [.int 0, .ref m1, .int 0, .int 0, .int 0, .int 0, .int 0, .ref m2, .ref m3, .ref m4, .ref m5, .int 0, .ref m6, .ref m7, .int 0, .ref m8, .ref m9, .long 0, .ref m10, .ref m11, .ref m12, .int 0, .int 0, .int 0, .int 0, .ref m13, .int 0, .ref m14])), (m10, .inl (cI, 1000, .inl (fun _ => 0)))]) (wr := [(pp, .inl (cI, 30, .inl pf))]) (rest := []) [.ref pp] ⟨hx, hb, hml, hown, hg⟩ (c_X9_layFitting l D cI cZ cQ o m1 m2 m3 m4 m5 m6 m7 m8 m9 m10 m11 m12 m13 m14 pp) hd_X9_layFitting k_912 k_909 k_911 k_31 k_49 ⟨Nat.le_of_ble_eq_true rfl, Nat.le_of_ble_eq_true rfl⟩ ⟨Nat.le_of_ble_eq_true rfl, Nat.le_of_ble_eq_true rfl⟩ hP hD hS hA hK [0, 2] [1] rfl rfl (by decide) (by decide) (by decide) 0 rfl rfl rfl hl.1 rfl (Nat.le_of_ble_eq_true rfl) d_X9_layPair_2 (fun w_3 H locs hw_2 hP hD hS => ?_)
  subst hw_2
  have hP : va_P D vwCl [(pp, .inl (cI, 30, .inl pf)), (o, .inr (7, [.int 0, .ref m1, .int 0, .int 0, .int 0, .int 0, .int 0, .ref m2, .ref m3, .ref m4, .ref m5, .int 0, .ref m6, .ref m7, .int 0, .ref m8, .ref m9, .long 0, .ref m10, .ref m11, .ref m12, .int 0, .int 0, .int 0, .int 0, .ref m13, .int 0, .ref m14])), (m10, .inl (cI, 1000, .inl (fun _ => 0)))] H := hP
  have hD : va_D A [(pp, .inl (cI, 30, .inl pf)), (o, .inr (7, [.int 0, .ref m1, .int 0, .int 0, .int 0, .int 0, .int 0, .ref m2, .ref m3, .ref m4, .ref m5, .int 0, .ref m6, .ref m7, .int 0, .ref m8, .ref m9, .long 0, .ref m10, .ref m11, .ref m12, .int 0, .int 0, .int 0, .int 0, .ref m13, .int 0, .ref m14])), (m10, .inl (cI, 1000, .inl (fun _ => 0)))] := hD
  refine lv_aload_n hx hb d_X9_layPair_5 rfl (lv_at hl 0 rfl) ?_
  refine lv_aload_n hx hb d_X9_layPair_6 rfl (lv_at hl 1 rfl) ?_
  refine cu_VR (wc := [(o, .inr (7, [.int 0, .ref m1, .int 0, .int 0, .int 0, .int 0, .int 0, .ref m2, .ref m3, .ref m4, .ref m5, .int 0, .ref m6, .ref m7, .int 0, .ref m8, .ref m9, .long 0, .ref m10, .ref m11, .ref m12, .int 0, .int 0, .int 0, .int 0, .ref m13, .int 0, .ref m14])), (pp, .inl (cI, 30, .inl pf))]) (rest := []) [.ref pp] ⟨hx, hb, hml, hown, hg⟩ (c_X9_open l D cI cZ cQ o m1 m2 m3 m4 m5 m6 m7 m8 m9 m10 m11 m12 m13 m14 0 0 0 0 pp pf) hd_X9_open k_916 k_913 k_915 k_32 k_49 ⟨Nat.le_of_ble_eq_true rfl, Nat.le_of_ble_eq_true rfl⟩ ⟨Nat.le_of_ble_eq_true rfl, Nat.le_of_ble_eq_true rfl⟩ hP hK [1, 0] rfl 0 rfl rfl rfl hl.1 rfl (Nat.le_of_ble_eq_true rfl) d_X9_layPair_7 (fun r_4 hr_5 => ?_)
  subst hr_5
  refine lv_istore_n (lv' := [(2, .int 0), (0, .ref o), (1, .ref pp)]) hx hb d_X9_layPair_10 rfl hl (by decide) rfl (fun ls hl => ?_)
  refine lv_aload_n hx hb d_X9_layPair_11 rfl (lv_at hl 1 rfl) ?_
  refine lv_bipush (v := (-9)) hx hb d_X9_layPair_12 (by decide) ?_
  refine va_put (D := D) (ci := 7) (v := .int (-9)) (ty := .int) (C := RX9) (T := TX9) (N := 28) hx hb hg cu_iX9 tyX9 tyX9_ok nmX9 hown hK.1 hP hD hS 1 rfl rfl 23 (by decide) (hg _ k_707) (fun _ h9 => h9) rfl (by decide +kernel) rfl rfl (Nat.le_of_ble_eq_true rfl) d_X9_layPair_14 (fun H locs hP hD hS => ?_)
  have hP : va_P D vwCl [(pp, .inl (cI, 30, .inl pf)), (o, .inr (7, [.int 0, .ref m1, .int 0, .int 0, .int 0, .int 0, .int 0, .ref m2, .ref m3, .ref m4, .ref m5, .int 0, .ref m6, .ref m7, .int 0, .ref m8, .ref m9, .long 0, .ref m10, .ref m11, .ref m12, .int 0, .int 0, .int (-9), .int 0, .ref m13, .int 0, .ref m14])), (m10, .inl (cI, 1000, .inl (fun _ => 0)))] H := hP
  have hD : va_D A [(pp, .inl (cI, 30, .inl pf)), (o, .inr (7, [.int 0, .ref m1, .int 0, .int 0, .int 0, .int 0, .int 0, .ref m2, .ref m3, .ref m4, .ref m5, .int 0, .ref m6, .ref m7, .int 0, .ref m8, .ref m9, .long 0, .ref m10, .ref m11, .ref m12, .int 0, .int 0, .int (-9), .int 0, .ref m13, .int 0, .ref m14])), (m10, .inl (cI, 1000, .inl (fun _ => 0)))] := hD
  refine lv_aload_n hx hb d_X9_layPair_17 rfl (lv_at hl 1 rfl) ?_
  refine lv_iconst (v := 0) hx hb d_X9_layPair_18 (by decide) ?_
  refine va_put (D := D) (ci := 7) (v := .int 0) (ty := .int) (C := RX9) (T := TX9) (N := 28) hx hb hg cu_iX9 tyX9 tyX9_ok nmX9 hown hK.1 hP hD hS 1 rfl rfl 24 (by decide) (hg _ k_708) (fun _ h9 => h9) rfl (by decide +kernel) rfl rfl (Nat.le_of_ble_eq_true rfl) d_X9_layPair_19 (fun H locs hP hD hS => ?_)
  have hP : va_P D vwCl [(pp, .inl (cI, 30, .inl pf)), (o, .inr (7, [.int 0, .ref m1, .int 0, .int 0, .int 0, .int 0, .int 0, .ref m2, .ref m3, .ref m4, .ref m5, .int 0, .ref m6, .ref m7, .int 0, .ref m8, .ref m9, .long 0, .ref m10, .ref m11, .ref m12, .int 0, .int 0, .int (-9), .int 0, .ref m13, .int 0, .ref m14])), (m10, .inl (cI, 1000, .inl (fun _ => 0)))] H := hP
  have hD : va_D A [(pp, .inl (cI, 30, .inl pf)), (o, .inr (7, [.int 0, .ref m1, .int 0, .int 0, .int 0, .int 0, .int 0, .ref m2, .ref m3, .ref m4, .ref m5, .int 0, .ref m6, .ref m7, .int 0, .ref m8, .ref m9, .long 0, .ref m10, .ref m11, .ref m12, .int 0, .int 0, .int (-9), .int 0, .ref m13, .int 0, .ref m14])), (m10, .inl (cI, 1000, .inl (fun _ => 0)))] := hD
  refine lv_iconst (v := 1) hx hb d_X9_layPair_22 (by decide) ?_
  refine lv_istore_n (lv' := [(3, .int 1), (2, .int 0), (0, .ref o), (1, .ref pp)]) hx hb d_X9_layPair_23 rfl hl (by decide) rfl (fun ls hl => ?_)
  refine lv_iload_n hx hb d_X9_layPair_24 rfl (lv_at hl 0 rfl) ?_
  refine lv_sipush (v := 999) hx hb d_X9_layPair_25 (by decide) ?_
  refine lv_icmp_ge (tgt := 142) hx hb d_X9_layPair_28 (by decide) (fun c_6 => absurd c_6 (by decide +kernel)) (fun _ => ?_)
  refine lv_iload_n hx hb d_X9_layPair_31 rfl (lv_at hl 0 rfl) ?_
  refine lv_iconst (v := 1) hx hb d_X9_layPair_32 (by decide) ?_
  refine lv_iadd hx hb d_X9_layPair_33 ?_
  refine cu_topi (y := 2) (by decide +kernel) ?_
  refine lv_istore (lv' := [(4, .int 2), (3, .int 1), (2, .int 0), (0, .ref o), (1, .ref pp)]) hx hb d_X9_layPair_34 hl (by decide) rfl (fun ls hl => ?_)
  refine lv_iload hx hb d_X9_layPair_36 (lv_at hl 0 rfl) ?_
  refine lv_sipush (v := 999) hx hb d_X9_layPair_38 (by decide) ?_
  refine lv_icmp_gt (tgt := 136) hx hb d_X9_layPair_41 (by decide) (fun c_7 => absurd c_7 (by decide +kernel)) (fun _ => ?_)
  refine lv_aload_n hx hb d_X9_layPair_44 rfl (lv_at hl 3 rfl) ?_
  refine va_get (D := D) (ci := 7) (v := .ref m10) (C := RX9) (T := TX9) (N := 28) hx hb hg cu_iX9 hown hK.1 hP 1 rfl rfl 18 (by decide) (hg _ k_702) (fun _ h9 => h9) rfl d_X9_layPair_45 ?_
  refine lv_iload_n hx hb d_X9_layPair_48 rfl (lv_at hl 1 rfl) ?_
  refine va_iald hx hb hK.1 hP 2 0 rfl rfl (vp_in_nI (n := 1) (N := 1000) (Nat.le_of_ble_eq_true rfl) (by decide)) d_X9_layPair_49 ?_
  refine cu_topi (y := 0) rfl ?_
  refine lv_aload_n hx hb d_X9_layPair_50 rfl (lv_at hl 3 rfl) ?_
  refine va_get (D := D) (ci := 7) (v := .ref m10) (C := RX9) (T := TX9) (N := 28) hx hb hg cu_iX9 hown hK.1 hP 1 rfl rfl 18 (by decide) (hg _ k_702) (fun _ h9 => h9) rfl d_X9_layPair_51 ?_
  refine lv_iload hx hb d_X9_layPair_54 (lv_at hl 0 rfl) ?_
  refine va_iald hx hb hK.1 hP 2 0 rfl rfl (vp_in_nI (n := 2) (N := 1000) (Nat.le_of_ble_eq_true rfl) (by decide)) d_X9_layPair_56 ?_
  refine cu_topi (y := 0) rfl ?_
  refine lv_ior hx hb d_X9_layPair_57 ?_
  refine cu_topi (y := 0) (by decide +kernel) ?_
  refine lv_iload_n hx hb d_X9_layPair_58 rfl (lv_at hl 2 rfl) ?_
  refine lv_iand hx hb d_X9_layPair_59 ?_
  refine cu_topi (y := 0) (by decide +kernel) ?_
  refine lv_istore (lv' := [(5, .int 0), (4, .int 2), (3, .int 1), (2, .int 0), (0, .ref o), (1, .ref pp)]) hx hb d_X9_layPair_60 hl (by decide) rfl (fun ls hl => ?_)
  refine lv_iload hx hb d_X9_layPair_62 (lv_at hl 0 rfl) ?_
  refine cu_SR (wc := []) (rest := []) [.int 0] ⟨hx, hb, hml, hown, hg⟩ (c_X9_ones l D cI cZ cQ ) hd_X9_ones k_851 k_849 k_850 k_49 ⟨Nat.le_of_ble_eq_true rfl, Nat.le_of_ble_eq_true rfl⟩ ⟨Nat.le_of_ble_eq_true rfl, Nat.le_of_ble_eq_true rfl⟩ hP hK [] rfl rfl hl.1 rfl (Nat.le_of_ble_eq_true rfl) d_X9_layPair_64 (fun r_8 hr_9 => ?_)
  subst hr_9
  refine lv_istore (lv' := [(6, .int 0), (5, .int 0), (4, .int 2), (3, .int 1), (2, .int 0), (0, .ref o), (1, .ref pp)]) hx hb d_X9_layPair_67 hl (by decide) rfl (fun ls hl => ?_)
  refine lv_iload hx hb d_X9_layPair_69 (lv_at hl 0 rfl) ?_
  refine lv_aload_n hx hb d_X9_layPair_71 rfl (lv_at hl 5 rfl) ?_
  refine va_get (D := D) (ci := 7) (v := .int (-9)) (C := RX9) (T := TX9) (N := 28) hx hb hg cu_iX9 hown hK.1 hP 1 rfl rfl 23 (by decide) (hg _ k_707) (fun _ h9 => h9) rfl d_X9_layPair_72 ?_
  refine lv_icmp_lt (tgt := 130) hx hb d_X9_layPair_75 (by decide) (fun c_10 => absurd c_10 (by decide +kernel)) (fun _ => ?_)
  refine lv_aload_n hx hb d_X9_layPair_78 rfl (lv_at hl 5 rfl) ?_
  refine lv_iload hx hb d_X9_layPair_79 (lv_at hl 1 rfl) ?_
  refine lv_iload_n hx hb d_X9_layPair_81 rfl (lv_at hl 3 rfl) ?_
  refine lv_iload hx hb d_X9_layPair_82 (lv_at hl 2 rfl) ?_
  refine cu_VR (wc := [(o, .inr (7, [.int 0, .ref m1, .int 0, .int 0, .int 0, .int 0, .int 0, .ref m2, .ref m3, .ref m4, .ref m5, .int 0, .ref m6, .ref m7, .int 0, .ref m8, .ref m9, .long 0, .ref m10, .ref m11, .ref m12, .int 0, .int 0, .int (-9), .int 0, .ref m13, .int 0, .ref m14]))]) (rest := []) [.int 0, .int 1, .int 2] ⟨hx, hb, hml, hown, hg⟩ (c_X9_lossOfPair l D cI cZ cQ o m1 m2 m3 m4 m5 m6 m7 m8 m9 m10 m11 m12 m13 m14 0 0 (-9) 0 0 1 2) hd_X9_lossOfPair k_946 k_943 k_945 k_37 k_49 ⟨Nat.le_of_ble_eq_true rfl, Nat.le_of_ble_eq_true rfl⟩ ⟨Nat.le_of_ble_eq_true rfl, Nat.le_of_ble_eq_true rfl⟩ hP hK [1] rfl 0 rfl rfl rfl hl.1 rfl (Nat.le_of_ble_eq_true rfl) d_X9_layPair_84 (fun r_11 hr_12 => ?_)
  subst hr_12
  refine lv_istore (lv' := [(7, .int 0), (6, .int 0), (5, .int 0), (4, .int 2), (3, .int 1), (2, .int 0), (0, .ref o), (1, .ref pp)]) hx hb d_X9_layPair_87 hl (by decide) rfl (fun ls hl => ?_)
  refine lv_iload hx hb d_X9_layPair_89 (lv_at hl 1 rfl) ?_
  refine lv_aload_n hx hb d_X9_layPair_91 rfl (lv_at hl 6 rfl) ?_
  refine va_get (D := D) (ci := 7) (v := .int (-9)) (C := RX9) (T := TX9) (N := 28) hx hb hg cu_iX9 hown hK.1 hP 1 rfl rfl 23 (by decide) (hg _ k_707) (fun _ h9 => h9) rfl d_X9_layPair_92 ?_
  refine lv_icmp_gt (tgt := 107) hx hb d_X9_layPair_95 (by decide) (fun _ => ?_) (fun c_13 => absurd (by decide +kernel) c_13)
  refine lv_aload_n hx hb d_X9_layPair_107 rfl (lv_at hl 6 rfl) ?_
  refine lv_iload hx hb d_X9_layPair_108 (lv_at hl 1 rfl) ?_
  refine va_put (D := D) (ci := 7) (v := .int 0) (ty := .int) (C := RX9) (T := TX9) (N := 28) hx hb hg cu_iX9 tyX9 tyX9_ok nmX9 hown hK.1 hP hD hS 1 rfl rfl 23 (by decide) (hg _ k_707) (fun _ h9 => h9) rfl (by decide +kernel) rfl rfl (Nat.le_of_ble_eq_true rfl) d_X9_layPair_110 (fun H locs hP hD hS => ?_)
  have hP : va_P D vwCl [(pp, .inl (cI, 30, .inl pf)), (o, .inr (7, [.int 0, .ref m1, .int 0, .int 0, .int 0, .int 0, .int 0, .ref m2, .ref m3, .ref m4, .ref m5, .int 0, .ref m6, .ref m7, .int 0, .ref m8, .ref m9, .long 0, .ref m10, .ref m11, .ref m12, .int 0, .int 0, .int 0, .int 0, .ref m13, .int 0, .ref m14])), (m10, .inl (cI, 1000, .inl (fun _ => 0)))] H := hP
  have hD : va_D A [(pp, .inl (cI, 30, .inl pf)), (o, .inr (7, [.int 0, .ref m1, .int 0, .int 0, .int 0, .int 0, .int 0, .ref m2, .ref m3, .ref m4, .ref m5, .int 0, .ref m6, .ref m7, .int 0, .ref m8, .ref m9, .long 0, .ref m10, .ref m11, .ref m12, .int 0, .int 0, .int 0, .int 0, .ref m13, .int 0, .ref m14])), (m10, .inl (cI, 1000, .inl (fun _ => 0)))] := hD
  refine lv_aload_n hx hb d_X9_layPair_113 rfl (lv_at hl 6 rfl) ?_
  refine lv_iload hx hb d_X9_layPair_114 (lv_at hl 0 rfl) ?_
  refine va_put (D := D) (ci := 7) (v := .int 0) (ty := .int) (C := RX9) (T := TX9) (N := 28) hx hb hg cu_iX9 tyX9 tyX9_ok nmX9 hown hK.1 hP hD hS 1 rfl rfl 24 (by decide) (hg _ k_708) (fun _ h9 => h9) rfl (by decide +kernel) rfl rfl (Nat.le_of_ble_eq_true rfl) d_X9_layPair_116 (fun H locs hP hD hS => ?_)
  have hP : va_P D vwCl [(pp, .inl (cI, 30, .inl pf)), (o, .inr (7, [.int 0, .ref m1, .int 0, .int 0, .int 0, .int 0, .int 0, .ref m2, .ref m3, .ref m4, .ref m5, .int 0, .ref m6, .ref m7, .int 0, .ref m8, .ref m9, .long 0, .ref m10, .ref m11, .ref m12, .int 0, .int 0, .int 0, .int 0, .ref m13, .int 0, .ref m14])), (m10, .inl (cI, 1000, .inl (fun _ => 0)))] H := hP
  have hD : va_D A [(pp, .inl (cI, 30, .inl pf)), (o, .inr (7, [.int 0, .ref m1, .int 0, .int 0, .int 0, .int 0, .int 0, .ref m2, .ref m3, .ref m4, .ref m5, .int 0, .ref m6, .ref m7, .int 0, .ref m8, .ref m9, .long 0, .ref m10, .ref m11, .ref m12, .int 0, .int 0, .int 0, .int 0, .ref m13, .int 0, .ref m14])), (m10, .inl (cI, 1000, .inl (fun _ => 0)))] := hD
  refine lv_aload_n hx hb d_X9_layPair_119 rfl (lv_at hl 6 rfl) ?_
  refine lv_iload_n hx hb d_X9_layPair_120 rfl (lv_at hl 4 rfl) ?_
  refine va_put (D := D) (ci := 7) (v := .int 1) (ty := .int) (C := RX9) (T := TX9) (N := 28) hx hb hg cu_iX9 tyX9 tyX9_ok nmX9 hown hK.1 hP hD hS 1 rfl rfl 21 (by decide) (hg _ k_705) (fun _ h9 => h9) rfl (by decide +kernel) rfl rfl (Nat.le_of_ble_eq_true rfl) d_X9_layPair_121 (fun H locs hP hD hS => ?_)
  have hP : va_P D vwCl [(pp, .inl (cI, 30, .inl pf)), (o, .inr (7, [.int 0, .ref m1, .int 0, .int 0, .int 0, .int 0, .int 0, .ref m2, .ref m3, .ref m4, .ref m5, .int 0, .ref m6, .ref m7, .int 0, .ref m8, .ref m9, .long 0, .ref m10, .ref m11, .ref m12, .int 1, .int 0, .int 0, .int 0, .ref m13, .int 0, .ref m14])), (m10, .inl (cI, 1000, .inl (fun _ => 0)))] H := hP
  have hD : va_D A [(pp, .inl (cI, 30, .inl pf)), (o, .inr (7, [.int 0, .ref m1, .int 0, .int 0, .int 0, .int 0, .int 0, .ref m2, .ref m3, .ref m4, .ref m5, .int 0, .ref m6, .ref m7, .int 0, .ref m8, .ref m9, .long 0, .ref m10, .ref m11, .ref m12, .int 1, .int 0, .int 0, .int 0, .ref m13, .int 0, .ref m14])), (m10, .inl (cI, 1000, .inl (fun _ => 0)))] := hD
  refine lv_aload_n hx hb d_X9_layPair_124 rfl (lv_at hl 6 rfl) ?_
  refine lv_iload hx hb d_X9_layPair_125 (lv_at hl 3 rfl) ?_
  refine va_put (D := D) (ci := 7) (v := .int 2) (ty := .int) (C := RX9) (T := TX9) (N := 28) hx hb hg cu_iX9 tyX9 tyX9_ok nmX9 hown hK.1 hP hD hS 1 rfl rfl 22 (by decide) (hg _ k_706) (fun _ h9 => h9) rfl (by decide +kernel) rfl rfl (Nat.le_of_ble_eq_true rfl) d_X9_layPair_127 (fun H locs hP hD hS => ?_)
  have hP : va_P D vwCl [(pp, .inl (cI, 30, .inl pf)), (o, .inr (7, [.int 0, .ref m1, .int 0, .int 0, .int 0, .int 0, .int 0, .ref m2, .ref m3, .ref m4, .ref m5, .int 0, .ref m6, .ref m7, .int 0, .ref m8, .ref m9, .long 0, .ref m10, .ref m11, .ref m12, .int 1, .int 2, .int 0, .int 0, .ref m13, .int 0, .ref m14])), (m10, .inl (cI, 1000, .inl (fun _ => 0)))] H := hP
  have hD : va_D A [(pp, .inl (cI, 30, .inl pf)), (o, .inr (7, [.int 0, .ref m1, .int 0, .int 0, .int 0, .int 0, .int 0, .ref m2, .ref m3, .ref m4, .ref m5, .int 0, .ref m6, .ref m7, .int 0, .ref m8, .ref m9, .long 0, .ref m10, .ref m11, .ref m12, .int 1, .int 2, .int 0, .int 0, .ref m13, .int 0, .ref m14])), (m10, .inl (cI, 1000, .inl (fun _ => 0)))] := hD
  refine lv_iinc (v := 3) (lv' := [(4, .int 3), (7, .int 0), (6, .int 0), (5, .int 0), (3, .int 1), (2, .int 0), (0, .ref o), (1, .ref pp)]) hx hb d_X9_layPair_130 hl (k := 3) rfl (by decide +kernel) (by decide) rfl (fun ls hl => ?_)
  refine lv_goto (tgt := 36) hx hb d_X9_layPair_133 (by decide) ?_
  have key_14 : ∀ (n_16 j_15 : Nat) (hj_18 : j_15 + n_16 = 1000)  (hi_19 : 3 ≤ j_15) (H : Heap) (locs : List Loc) (ls : Array Slot) (hP : va_P D vwCl [(pp, .inl (cI, 30, .inl pf)), (o, .inr (7, [.int 0, .ref m1, .int 0, .int 0, .int 0, .int 0, .int 0, .ref m2, .ref m3, .ref m4, .ref m5, .int 0, .ref m6, .ref m7, .int 0, .ref m8, .ref m9, .long 0, .ref m10, .ref m11, .ref m12, .int 1, .int 2, .int 0, .int 0, .ref m13, .int 0, .ref m14])), (m10, .inl (cI, 1000, .inl (fun _ => 0)))] H) (hD : va_D A [(pp, .inl (cI, 30, .inl pf)), (o, .inr (7, [.int 0, .ref m1, .int 0, .int 0, .int 0, .int 0, .int 0, .ref m2, .ref m3, .ref m4, .ref m5, .int 0, .ref m6, .ref m7, .int 0, .ref m8, .ref m9, .long 0, .ref m10, .ref m11, .ref m12, .int 1, .int 2, .int 0, .int 0, .ref m13, .int 0, .ref m14])), (m10, .inl (cI, 1000, .inl (fun _ => 0)))]) (hS : va_S A s.heap H locs) (hl : lv_has ls 8 [(4, .int (nI j_15)), (7, .int 0), (6, .int 0), (5, .int 0), (3, .int 1), (2, .int 0), (0, .ref o), (1, .ref pp)]), W p l e (cu_rm 1 30 0 0) s m args below meth c H locs 0 0 Q (F0 m 36 ls []) := by
    intro n_16
    induction n_16 with
    | zero =>
      intro j_15 hj_18  hi_19 H locs ls hP hD hS hl
      obtain rfl : 1000 = j_15 := by omega
      have hl : lv_has ls 8 [(4, .int 1000), (7, .int 0), (6, .int 0), (5, .int 0), (3, .int 1), (2, .int 0), (0, .ref o), (1, .ref pp)] := hl
      have hP : va_P D vwCl [(pp, .inl (cI, 30, .inl pf)), (o, .inr (7, [.int 0, .ref m1, .int 0, .int 0, .int 0, .int 0, .int 0, .ref m2, .ref m3, .ref m4, .ref m5, .int 0, .ref m6, .ref m7, .int 0, .ref m8, .ref m9, .long 0, .ref m10, .ref m11, .ref m12, .int 1, .int 2, .int 0, .int 0, .ref m13, .int 0, .ref m14])), (m10, .inl (cI, 1000, .inl (fun _ => 0)))] H := hP
      have hD : va_D A [(pp, .inl (cI, 30, .inl pf)), (o, .inr (7, [.int 0, .ref m1, .int 0, .int 0, .int 0, .int 0, .int 0, .ref m2, .ref m3, .ref m4, .ref m5, .int 0, .ref m6, .ref m7, .int 0, .ref m8, .ref m9, .long 0, .ref m10, .ref m11, .ref m12, .int 1, .int 2, .int 0, .int 0, .ref m13, .int 0, .ref m14])), (m10, .inl (cI, 1000, .inl (fun _ => 0)))] := hD
      refine lv_iload hx hb d_X9_layPair_36 (lv_at hl 0 rfl) ?_
      refine lv_sipush (v := 999) hx hb d_X9_layPair_38 (by decide) ?_
      refine lv_icmp_gt (tgt := 136) hx hb d_X9_layPair_41 (by decide) (fun _ => ?_) (fun c_20 => absurd (by decide +kernel) c_20)
      refine lv_iinc (v := 2) (lv' := [(3, .int 2), (4, .int 1000), (7, .int 0), (6, .int 0), (5, .int 0), (2, .int 0), (0, .ref o), (1, .ref pp)]) hx hb d_X9_layPair_136 hl (k := 4) rfl (by decide +kernel) (by decide) rfl (fun ls hl => ?_)
      refine lv_goto (tgt := 24) hx hb d_X9_layPair_139 (by decide) ?_
      have key_21 : ∀ (n_23 j_22 : Nat) (hj_25 : j_22 + n_23 = 999)  (hi_26 : 2 ≤ j_22) (H : Heap) (locs : List Loc) (ls : Array Slot) (hP : va_P D vwCl [(pp, .inl (cI, 30, .inl pf)), (o, .inr (7, [.int 0, .ref m1, .int 0, .int 0, .int 0, .int 0, .int 0, .ref m2, .ref m3, .ref m4, .ref m5, .int 0, .ref m6, .ref m7, .int 0, .ref m8, .ref m9, .long 0, .ref m10, .ref m11, .ref m12, .int 1, .int 2, .int 0, .int 0, .ref m13, .int 0, .ref m14])), (m10, .inl (cI, 1000, .inl (fun _ => 0)))] H) (hD : va_D A [(pp, .inl (cI, 30, .inl pf)), (o, .inr (7, [.int 0, .ref m1, .int 0, .int 0, .int 0, .int 0, .int 0, .ref m2, .ref m3, .ref m4, .ref m5, .int 0, .ref m6, .ref m7, .int 0, .ref m8, .ref m9, .long 0, .ref m10, .ref m11, .ref m12, .int 1, .int 2, .int 0, .int 0, .ref m13, .int 0, .ref m14])), (m10, .inl (cI, 1000, .inl (fun _ => 0)))]) (hS : va_S A s.heap H locs) (hl : lv_has ls 8 [(3, .int (nI j_22)), (4, .int 1000), (7, .int 0), (6, .int 0), (5, .int 0), (2, .int 0), (0, .ref o), (1, .ref pp)]), W p l e (cu_rm 1 30 0 0) s m args below meth c H locs 0 0 Q (F0 m 24 ls []) := by
        intro n_23
        induction n_23 with
        | zero =>
          intro j_22 hj_25  hi_26 H locs ls hP hD hS hl
          obtain rfl : 999 = j_22 := by omega
          have hl : lv_has ls 8 [(3, .int 999), (4, .int 1000), (7, .int 0), (6, .int 0), (5, .int 0), (2, .int 0), (0, .ref o), (1, .ref pp)] := hl
          have hP : va_P D vwCl [(pp, .inl (cI, 30, .inl pf)), (o, .inr (7, [.int 0, .ref m1, .int 0, .int 0, .int 0, .int 0, .int 0, .ref m2, .ref m3, .ref m4, .ref m5, .int 0, .ref m6, .ref m7, .int 0, .ref m8, .ref m9, .long 0, .ref m10, .ref m11, .ref m12, .int 1, .int 2, .int 0, .int 0, .ref m13, .int 0, .ref m14])), (m10, .inl (cI, 1000, .inl (fun _ => 0)))] H := hP
          have hD : va_D A [(pp, .inl (cI, 30, .inl pf)), (o, .inr (7, [.int 0, .ref m1, .int 0, .int 0, .int 0, .int 0, .int 0, .ref m2, .ref m3, .ref m4, .ref m5, .int 0, .ref m6, .ref m7, .int 0, .ref m8, .ref m9, .long 0, .ref m10, .ref m11, .ref m12, .int 1, .int 2, .int 0, .int 0, .ref m13, .int 0, .ref m14])), (m10, .inl (cI, 1000, .inl (fun _ => 0)))] := hD
          refine lv_iload_n hx hb d_X9_layPair_24 rfl (lv_at hl 0 rfl) ?_
          refine lv_sipush (v := 999) hx hb d_X9_layPair_25 (by decide) ?_
          refine lv_icmp_ge (tgt := 142) hx hb d_X9_layPair_28 (by decide) (fun _ => ?_) (fun c_27 => absurd (by decide +kernel) c_27)
          exact hret _ _ _ _ [(o, .inr (7, [.int 0, .ref m1, .int 0, .int 0, .int 0, .int 0, .int 0, .ref m2, .ref m3, .ref m4, .ref m5, .int 0, .ref m6, .ref m7, .int 0, .ref m8, .ref m9, .long 0, .ref m10, .ref m11, .ref m12, .int 1, .int 2, .int 0, .int 0, .ref m13, .int 0, .ref m14])), (pp, .inl (cI, 30, .inl pf)), (m10, .inl (cI, 1000, .inl (fun _ => 0)))] _ _ (hP.sub (ws' := [(o, .inr (7, [.int 0, .ref m1, .int 0, .int 0, .int 0, .int 0, .int 0, .ref m2, .ref m3, .ref m4, .ref m5, .int 0, .ref m6, .ref m7, .int 0, .ref m8, .ref m9, .long 0, .ref m10, .ref m11, .ref m12, .int 1, .int 2, .int 0, .int 0, .ref m13, .int 0, .ref m14])), (pp, .inl (cI, 30, .inl pf)), (m10, .inl (cI, 1000, .inl (fun _ => 0)))]) [1, 0, 2] rfl) (hD.sub (ws' := [(o, .inr (7, [.int 0, .ref m1, .int 0, .int 0, .int 0, .int 0, .int 0, .ref m2, .ref m3, .ref m4, .ref m5, .int 0, .ref m6, .ref m7, .int 0, .ref m8, .ref m9, .long 0, .ref m10, .ref m11, .ref m12, .int 1, .int 2, .int 0, .int 0, .ref m13, .int 0, .ref m14])), (pp, .inl (cI, 30, .inl pf)), (m10, .inl (cI, 1000, .inl (fun _ => 0)))]) [1, 0, 2] (by decide) rfl) hS (Nat.le_of_ble_eq_true rfl) (Nat.le_of_ble_eq_true rfl) d_X9_layPair_142 rfl
        | succ n_23 ih_24 =>
          intro j_22 hj_25  hi_26 H locs ls hP hD hS hl
          refine lv_iload_n hx hb d_X9_layPair_24 rfl (lv_at hl 0 rfl) ?_
          refine lv_sipush (v := 999) hx hb d_X9_layPair_25 (by decide) ?_
          refine lv_icmp_ge (tgt := 142) hx hb d_X9_layPair_28 (by decide) (fun c_28 => absurd c_28 (mt (nI_leI (a := 999) (b := j_22) (by omega) (by omega)).mp (by omega))) (fun _ => ?_)
          refine lv_iload_n hx hb d_X9_layPair_31 rfl (lv_at hl 0 rfl) ?_
          refine lv_iconst (v := 1) hx hb d_X9_layPair_32 (by decide) ?_
          refine lv_iadd hx hb d_X9_layPair_33 ?_
          refine cu_topi (y := nI (j_22 + 1)) (nI_add j_22 1) ?_
          refine lv_istore (lv' := [(4, .int (nI (j_22 + 1))), (3, .int (nI j_22)), (7, .int 0), (6, .int 0), (5, .int 0), (2, .int 0), (0, .ref o), (1, .ref pp)]) hx hb d_X9_layPair_34 hl (by decide) rfl (fun ls hl => ?_)
          have key_29 : ∀ (n_31 j_30 : Nat) (hj_33 : j_30 + n_31 = 1000)  (hi_34 : j_22 + 1 ≤ j_30) (H : Heap) (locs : List Loc) (ls : Array Slot) (hP : va_P D vwCl [(pp, .inl (cI, 30, .inl pf)), (o, .inr (7, [.int 0, .ref m1, .int 0, .int 0, .int 0, .int 0, .int 0, .ref m2, .ref m3, .ref m4, .ref m5, .int 0, .ref m6, .ref m7, .int 0, .ref m8, .ref m9, .long 0, .ref m10, .ref m11, .ref m12, .int 1, .int 2, .int 0, .int 0, .ref m13, .int 0, .ref m14])), (m10, .inl (cI, 1000, .inl (fun _ => 0)))] H) (hD : va_D A [(pp, .inl (cI, 30, .inl pf)), (o, .inr (7, [.int 0, .ref m1, .int 0, .int 0, .int 0, .int 0, .int 0, .ref m2, .ref m3, .ref m4, .ref m5, .int 0, .ref m6, .ref m7, .int 0, .ref m8, .ref m9, .long 0, .ref m10, .ref m11, .ref m12, .int 1, .int 2, .int 0, .int 0, .ref m13, .int 0, .ref m14])), (m10, .inl (cI, 1000, .inl (fun _ => 0)))]) (hS : va_S A s.heap H locs) (hl : lv_has ls 8 [(4, .int (nI j_30)), (3, .int (nI j_22)), (7, .int 0), (6, .int 0), (5, .int 0), (2, .int 0), (0, .ref o), (1, .ref pp)]), W p l e (cu_rm 1 30 0 0) s m args below meth c H locs 0 0 Q (F0 m 36 ls []) := by
            intro n_31
            induction n_31 with
            | zero =>
              intro j_30 hj_33  hi_34 H locs ls hP hD hS hl
              obtain rfl : 1000 = j_30 := by omega
              have hl : lv_has ls 8 [(4, .int 1000), (3, .int (nI j_22)), (7, .int 0), (6, .int 0), (5, .int 0), (2, .int 0), (0, .ref o), (1, .ref pp)] := hl
              have hP : va_P D vwCl [(pp, .inl (cI, 30, .inl pf)), (o, .inr (7, [.int 0, .ref m1, .int 0, .int 0, .int 0, .int 0, .int 0, .ref m2, .ref m3, .ref m4, .ref m5, .int 0, .ref m6, .ref m7, .int 0, .ref m8, .ref m9, .long 0, .ref m10, .ref m11, .ref m12, .int 1, .int 2, .int 0, .int 0, .ref m13, .int 0, .ref m14])), (m10, .inl (cI, 1000, .inl (fun _ => 0)))] H := hP
              have hD : va_D A [(pp, .inl (cI, 30, .inl pf)), (o, .inr (7, [.int 0, .ref m1, .int 0, .int 0, .int 0, .int 0, .int 0, .ref m2, .ref m3, .ref m4, .ref m5, .int 0, .ref m6, .ref m7, .int 0, .ref m8, .ref m9, .long 0, .ref m10, .ref m11, .ref m12, .int 1, .int 2, .int 0, .int 0, .ref m13, .int 0, .ref m14])), (m10, .inl (cI, 1000, .inl (fun _ => 0)))] := hD
              refine lv_iload hx hb d_X9_layPair_36 (lv_at hl 0 rfl) ?_
              refine lv_sipush (v := 999) hx hb d_X9_layPair_38 (by decide) ?_
              refine lv_icmp_gt (tgt := 136) hx hb d_X9_layPair_41 (by decide) (fun _ => ?_) (fun c_35 => absurd (by decide +kernel) c_35)
              refine lv_iinc (v := nI (j_22 + 1)) (lv' := [(3, .int (nI (j_22 + 1))), (4, .int 1000), (7, .int 0), (6, .int 0), (5, .int 0), (2, .int 0), (0, .ref o), (1, .ref pp)]) hx hb d_X9_layPair_136 hl (k := 1) rfl (nI_1 j_22) (by decide) rfl (fun ls hl => ?_)
              refine lv_goto (tgt := 24) hx hb d_X9_layPair_139 (by decide) ?_
              exact ih_24 (j_22 + 1) (by first | rfl | omega)  (by omega) _ _ _ hP hD hS (lv_sub hl [0, 1, 2, 3, 4, 5, 6, 7] rfl)
            | succ n_31 ih_32 =>
              intro j_30 hj_33  hi_34 H locs ls hP hD hS hl
              refine lv_iload hx hb d_X9_layPair_36 (lv_at hl 0 rfl) ?_
              refine lv_sipush (v := 999) hx hb d_X9_layPair_38 (by decide) ?_
              refine lv_icmp_gt (tgt := 136) hx hb d_X9_layPair_41 (by decide) (fun c_36 => absurd c_36 (mt (nI_ltI (a := 999) (b := j_30) (by omega) (by omega)).mp (by omega))) (fun _ => ?_)
              refine lv_aload_n hx hb d_X9_layPair_44 rfl (lv_at hl 6 rfl) ?_
              refine va_get (D := D) (ci := 7) (v := .ref m10) (C := RX9) (T := TX9) (N := 28) hx hb hg cu_iX9 hown hK.1 hP 1 rfl rfl 18 (by decide) (hg _ k_702) (fun _ h9 => h9) rfl d_X9_layPair_45 ?_
              refine lv_iload_n hx hb d_X9_layPair_48 rfl (lv_at hl 1 rfl) ?_
              refine va_iald hx hb hK.1 hP 2 0 rfl rfl (vp_in_nI (by omega) (by decide)) d_X9_layPair_49 ?_
              refine cu_topi (y := 0) rfl ?_
              refine lv_aload_n hx hb d_X9_layPair_50 rfl (lv_at hl 6 rfl) ?_
              refine va_get (D := D) (ci := 7) (v := .ref m10) (C := RX9) (T := TX9) (N := 28) hx hb hg cu_iX9 hown hK.1 hP 1 rfl rfl 18 (by decide) (hg _ k_702) (fun _ h9 => h9) rfl d_X9_layPair_51 ?_
              refine lv_iload hx hb d_X9_layPair_54 (lv_at hl 0 rfl) ?_
              refine va_iald hx hb hK.1 hP 2 0 rfl rfl (vp_in_nI (by omega) (by decide)) d_X9_layPair_56 ?_
              refine cu_topi (y := 0) rfl ?_
              refine lv_ior hx hb d_X9_layPair_57 ?_
              refine cu_topi (y := 0) (by decide +kernel) ?_
              refine lv_iload_n hx hb d_X9_layPair_58 rfl (lv_at hl 5 rfl) ?_
              refine lv_iand hx hb d_X9_layPair_59 ?_
              refine cu_topi (y := 0) (by decide +kernel) ?_
              refine lv_istore (lv' := [(5, .int 0), (4, .int (nI j_30)), (3, .int (nI j_22)), (7, .int 0), (6, .int 0), (2, .int 0), (0, .ref o), (1, .ref pp)]) hx hb d_X9_layPair_60 hl (by decide) rfl (fun ls hl => ?_)
              refine lv_iload hx hb d_X9_layPair_62 (lv_at hl 0 rfl) ?_
              refine cu_SR (wc := []) (rest := []) [.int 0] ⟨hx, hb, hml, hown, hg⟩ (c_X9_ones l D cI cZ cQ ) hd_X9_ones k_851 k_849 k_850 k_49 ⟨Nat.le_of_ble_eq_true rfl, Nat.le_of_ble_eq_true rfl⟩ ⟨Nat.le_of_ble_eq_true rfl, Nat.le_of_ble_eq_true rfl⟩ hP hK [] rfl rfl hl.1 rfl (Nat.le_of_ble_eq_true rfl) d_X9_layPair_64 (fun r_37 hr_38 => ?_)
              subst hr_38
              refine lv_istore (lv' := [(6, .int 0), (5, .int 0), (4, .int (nI j_30)), (3, .int (nI j_22)), (7, .int 0), (2, .int 0), (0, .ref o), (1, .ref pp)]) hx hb d_X9_layPair_67 hl (by decide) rfl (fun ls hl => ?_)
              refine lv_iload hx hb d_X9_layPair_69 (lv_at hl 0 rfl) ?_
              refine lv_aload_n hx hb d_X9_layPair_71 rfl (lv_at hl 6 rfl) ?_
              refine va_get (D := D) (ci := 7) (v := .int 0) (C := RX9) (T := TX9) (N := 28) hx hb hg cu_iX9 hown hK.1 hP 1 rfl rfl 23 (by decide) (hg _ k_707) (fun _ h9 => h9) rfl d_X9_layPair_72 ?_
              refine lv_icmp_lt (tgt := 130) hx hb d_X9_layPair_75 (by decide) (fun c_39 => absurd c_39 (by decide +kernel)) (fun _ => ?_)
              refine lv_aload_n hx hb d_X9_layPair_78 rfl (lv_at hl 6 rfl) ?_
              refine lv_iload hx hb d_X9_layPair_79 (lv_at hl 1 rfl) ?_
              refine lv_iload_n hx hb d_X9_layPair_81 rfl (lv_at hl 3 rfl) ?_
              refine lv_iload hx hb d_X9_layPair_82 (lv_at hl 2 rfl) ?_
              refine cu_VR (wc := [(o, .inr (7, [.int 0, .ref m1, .int 0, .int 0, .int 0, .int 0, .int 0, .ref m2, .ref m3, .ref m4, .ref m5, .int 0, .ref m6, .ref m7, .int 0, .ref m8, .ref m9, .long 0, .ref m10, .ref m11, .ref m12, .int 1, .int 2, .int 0, .int 0, .ref m13, .int 0, .ref m14]))]) (rest := []) [.int 0, .int (nI j_22), .int (nI j_30)] ⟨hx, hb, hml, hown, hg⟩ (c_X9_lossOfPair l D cI cZ cQ o m1 m2 m3 m4 m5 m6 m7 m8 m9 m10 m11 m12 m13 m14 1 2 0 0 0 (nI j_22) (nI j_30)) hd_X9_lossOfPair k_946 k_943 k_945 k_37 k_49 ⟨Nat.le_of_ble_eq_true rfl, Nat.le_of_ble_eq_true rfl⟩ ⟨Nat.le_of_ble_eq_true rfl, Nat.le_of_ble_eq_true rfl⟩ hP hK [1] rfl 0 rfl rfl rfl hl.1 rfl (Nat.le_of_ble_eq_true rfl) d_X9_layPair_84 (fun r_40 hr_41 => ?_)
              subst hr_41
              refine lv_istore (lv' := [(7, .int 0), (6, .int 0), (5, .int 0), (4, .int (nI j_30)), (3, .int (nI j_22)), (2, .int 0), (0, .ref o), (1, .ref pp)]) hx hb d_X9_layPair_87 hl (by decide) rfl (fun ls hl => ?_)
              refine lv_iload hx hb d_X9_layPair_89 (lv_at hl 1 rfl) ?_
              refine lv_aload_n hx hb d_X9_layPair_91 rfl (lv_at hl 6 rfl) ?_
              refine va_get (D := D) (ci := 7) (v := .int 0) (C := RX9) (T := TX9) (N := 28) hx hb hg cu_iX9 hown hK.1 hP 1 rfl rfl 23 (by decide) (hg _ k_707) (fun _ h9 => h9) rfl d_X9_layPair_92 ?_
              refine lv_icmp_gt (tgt := 107) hx hb d_X9_layPair_95 (by decide) (fun c_42 => absurd c_42 (by decide +kernel)) (fun _ => ?_)
              refine lv_iload hx hb d_X9_layPair_98 (lv_at hl 0 rfl) ?_
              refine lv_aload_n hx hb d_X9_layPair_100 rfl (lv_at hl 6 rfl) ?_
              refine va_get (D := D) (ci := 7) (v := .int 0) (C := RX9) (T := TX9) (N := 28) hx hb hg cu_iX9 hown hK.1 hP 1 rfl rfl 24 (by decide) (hg _ k_708) (fun _ h9 => h9) rfl d_X9_layPair_101 ?_
              refine lv_icmp_ge (tgt := 130) hx hb d_X9_layPair_104 (by decide) (fun _ => ?_) (fun c_43 => absurd (by decide +kernel) c_43)
              refine lv_iinc (v := nI (j_30 + 1)) (lv' := [(4, .int (nI (j_30 + 1))), (7, .int 0), (6, .int 0), (5, .int 0), (3, .int (nI j_22)), (2, .int 0), (0, .ref o), (1, .ref pp)]) hx hb d_X9_layPair_130 hl (k := 3) rfl (nI_1 j_30) (by decide) rfl (fun ls hl => ?_)
              refine lv_goto (tgt := 36) hx hb d_X9_layPair_133 (by decide) ?_
              exact ih_32 (j_30 + 1) (by first | rfl | omega)  (by omega) _ _ _ hP hD hS (lv_sub hl [0, 4, 1, 2, 3, 5, 6, 7] rfl)
          exact key_29 (999 - j_22) (j_22 + 1) (by first | rfl | omega)  (by omega) _ _ _ hP hD hS (lv_sub hl [0, 1, 2, 3, 4, 5, 6, 7] rfl)
      exact key_21 997 2 (by first | rfl | omega)  (Nat.le_refl _) _ _ _ hP hD hS (lv_sub hl [0, 1, 2, 3, 4, 5, 6, 7] rfl)
    | succ n_16 ih_17 =>
      intro j_15 hj_18  hi_19 H locs ls hP hD hS hl
      refine lv_iload hx hb d_X9_layPair_36 (lv_at hl 0 rfl) ?_
      refine lv_sipush (v := 999) hx hb d_X9_layPair_38 (by decide) ?_
      refine lv_icmp_gt (tgt := 136) hx hb d_X9_layPair_41 (by decide) (fun c_44 => absurd c_44 (mt (nI_ltI (a := 999) (b := j_15) (by omega) (by omega)).mp (by omega))) (fun _ => ?_)
      refine lv_aload_n hx hb d_X9_layPair_44 rfl (lv_at hl 6 rfl) ?_
      refine va_get (D := D) (ci := 7) (v := .ref m10) (C := RX9) (T := TX9) (N := 28) hx hb hg cu_iX9 hown hK.1 hP 1 rfl rfl 18 (by decide) (hg _ k_702) (fun _ h9 => h9) rfl d_X9_layPair_45 ?_
      refine lv_iload_n hx hb d_X9_layPair_48 rfl (lv_at hl 4 rfl) ?_
      refine va_iald hx hb hK.1 hP 2 0 rfl rfl (vp_in_nI (n := 1) (N := 1000) (Nat.le_of_ble_eq_true rfl) (by decide)) d_X9_layPair_49 ?_
      refine cu_topi (y := 0) rfl ?_
      refine lv_aload_n hx hb d_X9_layPair_50 rfl (lv_at hl 6 rfl) ?_
      refine va_get (D := D) (ci := 7) (v := .ref m10) (C := RX9) (T := TX9) (N := 28) hx hb hg cu_iX9 hown hK.1 hP 1 rfl rfl 18 (by decide) (hg _ k_702) (fun _ h9 => h9) rfl d_X9_layPair_51 ?_
      refine lv_iload hx hb d_X9_layPair_54 (lv_at hl 0 rfl) ?_
      refine va_iald hx hb hK.1 hP 2 0 rfl rfl (vp_in_nI (by omega) (by decide)) d_X9_layPair_56 ?_
      refine cu_topi (y := 0) rfl ?_
      refine lv_ior hx hb d_X9_layPair_57 ?_
      refine cu_topi (y := 0) (by decide +kernel) ?_
      refine lv_iload_n hx hb d_X9_layPair_58 rfl (lv_at hl 5 rfl) ?_
      refine lv_iand hx hb d_X9_layPair_59 ?_
      refine cu_topi (y := 0) (by decide +kernel) ?_
      refine lv_istore (lv' := [(5, .int 0), (4, .int (nI j_15)), (7, .int 0), (6, .int 0), (3, .int 1), (2, .int 0), (0, .ref o), (1, .ref pp)]) hx hb d_X9_layPair_60 hl (by decide) rfl (fun ls hl => ?_)
      refine lv_iload hx hb d_X9_layPair_62 (lv_at hl 0 rfl) ?_
      refine cu_SR (wc := []) (rest := []) [.int 0] ⟨hx, hb, hml, hown, hg⟩ (c_X9_ones l D cI cZ cQ ) hd_X9_ones k_851 k_849 k_850 k_49 ⟨Nat.le_of_ble_eq_true rfl, Nat.le_of_ble_eq_true rfl⟩ ⟨Nat.le_of_ble_eq_true rfl, Nat.le_of_ble_eq_true rfl⟩ hP hK [] rfl rfl hl.1 rfl (Nat.le_of_ble_eq_true rfl) d_X9_layPair_64 (fun r_45 hr_46 => ?_)
      subst hr_46
      refine lv_istore (lv' := [(6, .int 0), (5, .int 0), (4, .int (nI j_15)), (7, .int 0), (3, .int 1), (2, .int 0), (0, .ref o), (1, .ref pp)]) hx hb d_X9_layPair_67 hl (by decide) rfl (fun ls hl => ?_)
      refine lv_iload hx hb d_X9_layPair_69 (lv_at hl 0 rfl) ?_
      refine lv_aload_n hx hb d_X9_layPair_71 rfl (lv_at hl 6 rfl) ?_
      refine va_get (D := D) (ci := 7) (v := .int 0) (C := RX9) (T := TX9) (N := 28) hx hb hg cu_iX9 hown hK.1 hP 1 rfl rfl 23 (by decide) (hg _ k_707) (fun _ h9 => h9) rfl d_X9_layPair_72 ?_
      refine lv_icmp_lt (tgt := 130) hx hb d_X9_layPair_75 (by decide) (fun c_47 => absurd c_47 (by decide +kernel)) (fun _ => ?_)
      refine lv_aload_n hx hb d_X9_layPair_78 rfl (lv_at hl 6 rfl) ?_
      refine lv_iload hx hb d_X9_layPair_79 (lv_at hl 1 rfl) ?_
      refine lv_iload_n hx hb d_X9_layPair_81 rfl (lv_at hl 4 rfl) ?_
      refine lv_iload hx hb d_X9_layPair_82 (lv_at hl 2 rfl) ?_
      refine cu_VR (wc := [(o, .inr (7, [.int 0, .ref m1, .int 0, .int 0, .int 0, .int 0, .int 0, .ref m2, .ref m3, .ref m4, .ref m5, .int 0, .ref m6, .ref m7, .int 0, .ref m8, .ref m9, .long 0, .ref m10, .ref m11, .ref m12, .int 1, .int 2, .int 0, .int 0, .ref m13, .int 0, .ref m14]))]) (rest := []) [.int 0, .int 1, .int (nI j_15)] ⟨hx, hb, hml, hown, hg⟩ (c_X9_lossOfPair l D cI cZ cQ o m1 m2 m3 m4 m5 m6 m7 m8 m9 m10 m11 m12 m13 m14 1 2 0 0 0 1 (nI j_15)) hd_X9_lossOfPair k_946 k_943 k_945 k_37 k_49 ⟨Nat.le_of_ble_eq_true rfl, Nat.le_of_ble_eq_true rfl⟩ ⟨Nat.le_of_ble_eq_true rfl, Nat.le_of_ble_eq_true rfl⟩ hP hK [1] rfl 0 rfl rfl rfl hl.1 rfl (Nat.le_of_ble_eq_true rfl) d_X9_layPair_84 (fun r_48 hr_49 => ?_)
      subst hr_49
      refine lv_istore (lv' := [(7, .int 0), (6, .int 0), (5, .int 0), (4, .int (nI j_15)), (3, .int 1), (2, .int 0), (0, .ref o), (1, .ref pp)]) hx hb d_X9_layPair_87 hl (by decide) rfl (fun ls hl => ?_)
      refine lv_iload hx hb d_X9_layPair_89 (lv_at hl 1 rfl) ?_
      refine lv_aload_n hx hb d_X9_layPair_91 rfl (lv_at hl 6 rfl) ?_
      refine va_get (D := D) (ci := 7) (v := .int 0) (C := RX9) (T := TX9) (N := 28) hx hb hg cu_iX9 hown hK.1 hP 1 rfl rfl 23 (by decide) (hg _ k_707) (fun _ h9 => h9) rfl d_X9_layPair_92 ?_
      refine lv_icmp_gt (tgt := 107) hx hb d_X9_layPair_95 (by decide) (fun c_50 => absurd c_50 (by decide +kernel)) (fun _ => ?_)
      refine lv_iload hx hb d_X9_layPair_98 (lv_at hl 0 rfl) ?_
      refine lv_aload_n hx hb d_X9_layPair_100 rfl (lv_at hl 6 rfl) ?_
      refine va_get (D := D) (ci := 7) (v := .int 0) (C := RX9) (T := TX9) (N := 28) hx hb hg cu_iX9 hown hK.1 hP 1 rfl rfl 24 (by decide) (hg _ k_708) (fun _ h9 => h9) rfl d_X9_layPair_101 ?_
      refine lv_icmp_ge (tgt := 130) hx hb d_X9_layPair_104 (by decide) (fun _ => ?_) (fun c_51 => absurd (by decide +kernel) c_51)
      refine lv_iinc (v := nI (j_15 + 1)) (lv' := [(4, .int (nI (j_15 + 1))), (7, .int 0), (6, .int 0), (5, .int 0), (3, .int 1), (2, .int 0), (0, .ref o), (1, .ref pp)]) hx hb d_X9_layPair_130 hl (k := 3) rfl (nI_1 j_15) (by decide) rfl (fun ls hl => ?_)
      refine lv_goto (tgt := 36) hx hb d_X9_layPair_133 (by decide) ?_
      exact ih_17 (j_15 + 1) (by first | rfl | omega)  (by omega) _ _ _ hP hD hS (lv_sub hl [0, 1, 2, 3, 4, 5, 6, 7] rfl)
  exact key_14 997 3 (by first | rfl | omega)  (Nat.le_refl _) _ _ _ hP hD hS (lv_sub hl [0, 1, 2, 3, 4, 5, 6, 7] rfl)
set_option maxHeartbeats 4000000 in
set_option maxRecDepth 100000 in
theorem c_X9_pair (l : Launch) (D : va_G) (cI cZ cQ : ClassId) (o m1 m2 m3 m4 m5 m6 m7 m8 m9 m10 m11 m12 m13 m14 : Nat) (c1 : Int32) : cu_W l D (cu_TY cI cZ cQ) yX9_pair cX9_pair 2 .int 2 57 0 0 [.ref o, .int c1] [(o, .inr (7, [.int 0, .ref m1, .int 0, .int 0, .int 0, .int 0, .int 0, .ref m2, .ref m3, .ref m4, .ref m5, .int 0, .ref m6, .ref m7, .int 0, .ref m8, .ref m9, .long 0, .ref m10, .ref m11, .ref m12, .int 0, .int 0, .int 0, .int 0, .ref m13, .int 0, .ref m14])), (m3, .inl (cI, 30, .inl (upd (fun _ => 0) 28 (1 : Int32)))), (m10, .inl (cI, 1000, .inl (fun _ => 0)))] (fun r ww => (r = cu_spr c1) ∧ ww = []) := by
  refine cu_W.intro (by decide) (Nat.le_of_ble_eq_true rfl) ?_
  intro p e s m args below meth c Q ls A S hret hP hD hS hA hK hl
  obtain ⟨hx, hb, hml, hown, hg⟩ := S
  have hown : s.vm.findClass RX9 = some m.cls := hown
  have hl : lv_has ls 2 [(0, .ref o), (1, .int c1)] := hl
  refine lv_aload_n hx hb d_X9_pair_0 rfl (lv_at hl 0 rfl) ?_
  refine lv_iconst (v := 0) hx hb d_X9_pair_1 (by decide) ?_
  refine va_put (D := D) (ci := 7) (v := .int 0) (ty := .int) (C := RX9) (T := TX9) (N := 28) hx hb hg cu_iX9 tyX9 tyX9_ok nmX9 hown hK.1 hP hD hS 0 rfl rfl 0 (by decide) (hg _ k_684) (fun _ h9 => h9) rfl (by decide +kernel) rfl rfl (Nat.le_of_ble_eq_true rfl) d_X9_pair_2 (fun H locs hP hD hS => ?_)
  have hP : va_P D vwCl [(o, .inr (7, [.int 0, .ref m1, .int 0, .int 0, .int 0, .int 0, .int 0, .ref m2, .ref m3, .ref m4, .ref m5, .int 0, .ref m6, .ref m7, .int 0, .ref m8, .ref m9, .long 0, .ref m10, .ref m11, .ref m12, .int 0, .int 0, .int 0, .int 0, .ref m13, .int 0, .ref m14])), (m3, .inl (cI, 30, .inl (upd (fun _ => 0) 28 (1 : Int32)))), (m10, .inl (cI, 1000, .inl (fun _ => 0)))] H := hP
  have hD : va_D A [(o, .inr (7, [.int 0, .ref m1, .int 0, .int 0, .int 0, .int 0, .int 0, .ref m2, .ref m3, .ref m4, .ref m5, .int 0, .ref m6, .ref m7, .int 0, .ref m8, .ref m9, .long 0, .ref m10, .ref m11, .ref m12, .int 0, .int 0, .int 0, .int 0, .ref m13, .int 0, .ref m14])), (m3, .inl (cI, 30, .inl (upd (fun _ => 0) 28 (1 : Int32)))), (m10, .inl (cI, 1000, .inl (fun _ => 0)))] := hD
  refine lv_iload_n hx hb d_X9_pair_5 rfl (lv_at hl 1 rfl) ?_
  refine lv_i2l (v := c1.toInt64) hx hb d_X9_pair_6 rfl ?_
  refine lv_lconst (v := 0) hx hb d_X9_pair_7 (by decide) ?_
  refine lv_ldc2 (v := 3) hx hb hown (hg _ k_845) d_X9_pair_8 ?_
  refine cu_SR (wc := []) (rest := []) [.long c1.toInt64, .long 0, .long 3] ⟨hx, hb, hml, hown, hg⟩ (c_X9_in l D cI cZ cQ c1.toInt64 0 3) hd_X9_in k_776 k_774 k_775 k_49 ⟨Nat.le_of_ble_eq_true rfl, Nat.le_of_ble_eq_true rfl⟩ ⟨Nat.le_of_ble_eq_true rfl, Nat.le_of_ble_eq_true rfl⟩ hP hK [] rfl rfl hl.1 rfl (Nat.le_of_ble_eq_true rfl) d_X9_pair_11 (fun r_1 hr_2 => ?_)
  replace hr_2 : r_1 = cu_i32 c1 0 3 := by rw [hr_2]; exact cu_inI (by decide) (by decide)
  subst hr_2
  by_cases hc_3 : c1 < 0
  · skip
    refine cu_topi (y := 0) (by unfold cu_i32; rw [if_pos hc_3]) ?_
    refine lv_if_ne (tgt := 20) hx hb d_X9_pair_14 (by decide) (fun c_4 => absurd (by decide +kernel) c_4) (fun _ => ?_)
    refine lv_bipush (v := (-2)) hx hb d_X9_pair_17 (by decide) ?_
    exact hret _ _ _ _ [] _ _ _ (hP.sub (ws' := []) [] rfl) (hD.sub (ws' := []) [] (by decide) rfl) hS (Nat.le_of_ble_eq_true rfl) (Nat.le_of_ble_eq_true rfl) d_X9_pair_19 (rfl) ⟨by unfold cu_spr; rw [if_pos hc_3], rfl⟩
  · skip
    by_cases hc_5 : 3 < c1
    · skip
      refine cu_topi (y := 0) (by unfold cu_i32; rw [if_neg hc_3, if_pos hc_5]) ?_
      refine lv_if_ne (tgt := 20) hx hb d_X9_pair_14 (by decide) (fun c_6 => absurd (by decide +kernel) c_6) (fun _ => ?_)
      refine lv_bipush (v := (-2)) hx hb d_X9_pair_17 (by decide) ?_
      exact hret _ _ _ _ [] _ _ _ (hP.sub (ws' := []) [] rfl) (hD.sub (ws' := []) [] (by decide) rfl) hS (Nat.le_of_ble_eq_true rfl) (Nat.le_of_ble_eq_true rfl) d_X9_pair_19 (rfl) ⟨by unfold cu_spr; rw [if_neg hc_3, if_pos hc_5], rfl⟩
    · skip
      refine cu_topi (y := 1) (by unfold cu_i32; rw [if_neg hc_3, if_neg hc_5]) ?_
      refine lv_if_ne (tgt := 20) hx hb d_X9_pair_14 (by decide) (fun _ => ?_) (fun c_7 => absurd c_7 (by decide +kernel))
      refine lv_aload_n hx hb d_X9_pair_20 rfl (lv_at hl 0 rfl) ?_
      refine lv_aload_n hx hb d_X9_pair_21 rfl (lv_at hl 0 rfl) ?_
      refine va_get (D := D) (ci := 7) (v := .ref m3) (C := RX9) (T := TX9) (N := 28) hx hb hg cu_iX9 hown hK.1 hP 0 rfl rfl 8 (by decide) (hg _ k_692) (fun _ h9 => h9) rfl d_X9_pair_22 ?_
      refine cu_VV (wc := [(o, .inr (7, [.int 0, .ref m1, .int 0, .int 0, .int 0, .int 0, .int 0, .ref m2, .ref m3, .ref m4, .ref m5, .int 0, .ref m6, .ref m7, .int 0, .ref m8, .ref m9, .long 0, .ref m10, .ref m11, .ref m12, .int 0, .int 0, .int 0, .int 0, .ref m13, .int 0, .ref m14])), (m3, .inl (cI, 30, .inl (upd (fun _ => 0) 28 (1 : Int32)))), (m10, .inl (cI, 1000, .inl (fun _ => 0)))]) (wr := []) (rest := []) [.ref m3] ⟨hx, hb, hml, hown, hg⟩ (c_X9_layPair l D cI cZ cQ o m1 m2 m3 m4 m5 m6 m7 m8 m9 m10 m11 m12 m13 m14 m3 (upd (fun _ => 0) 28 (1 : Int32))) hd_X9_layPair k_942 k_939 k_941 k_36 k_49 ⟨Nat.le_of_ble_eq_true rfl, Nat.le_of_ble_eq_true rfl⟩ ⟨Nat.le_of_ble_eq_true rfl, Nat.le_of_ble_eq_true rfl⟩ hP hD hS hA hK [0, 1, 2] [] rfl rfl (by decide) (by decide) (by decide) 0 rfl rfl rfl hl.1 rfl (Nat.le_of_ble_eq_true rfl) d_X9_pair_25 (fun w_10 H locs hw_9 hP hD hS => ?_)
      subst hw_9
      have hP : va_P D vwCl [(o, .inr (7, [.int 0, .ref m1, .int 0, .int 0, .int 0, .int 0, .int 0, .ref m2, .ref m3, .ref m4, .ref m5, .int 0, .ref m6, .ref m7, .int 0, .ref m8, .ref m9, .long 0, .ref m10, .ref m11, .ref m12, .int 1, .int 2, .int 0, .int 0, .ref m13, .int 0, .ref m14])), (m3, .inl (cI, 30, .inl (upd (fun _ => 0) 28 (1 : Int32)))), (m10, .inl (cI, 1000, .inl (fun _ => 0)))] H := hP
      have hD : va_D A [(o, .inr (7, [.int 0, .ref m1, .int 0, .int 0, .int 0, .int 0, .int 0, .ref m2, .ref m3, .ref m4, .ref m5, .int 0, .ref m6, .ref m7, .int 0, .ref m8, .ref m9, .long 0, .ref m10, .ref m11, .ref m12, .int 1, .int 2, .int 0, .int 0, .ref m13, .int 0, .ref m14])), (m3, .inl (cI, 30, .inl (upd (fun _ => 0) 28 (1 : Int32)))), (m10, .inl (cI, 1000, .inl (fun _ => 0)))] := hD
      refine lv_iload_n hx hb d_X9_pair_28 rfl (lv_at hl 1 rfl) ?_
      refine lv_if_ne (tgt := 39) hx hb d_X9_pair_29 (by decide) (fun c_11 => ?_) (fun c_11 => ?_)
      · skip
        refine lv_iload_n hx hb d_X9_pair_39 rfl (lv_at hl 1 rfl) ?_
        refine lv_iconst (v := 1) hx hb d_X9_pair_40 (by decide) ?_
        refine lv_icmp_ne (tgt := 51) hx hb d_X9_pair_41 (by decide) (fun c_12 => ?_) (fun c_12 => ?_)
        · skip
          refine lv_iload_n hx hb d_X9_pair_51 rfl (lv_at hl 1 rfl) ?_
          refine lv_iconst (v := 2) hx hb d_X9_pair_52 (by decide) ?_
          refine lv_icmp_ne (tgt := 87) hx hb d_X9_pair_53 (by decide) (fun c_13 => ?_) (fun c_13 => ?_)
          · skip
            refine lv_aload_n hx hb d_X9_pair_87 rfl (lv_at hl 0 rfl) ?_
            refine va_get (D := D) (ci := 7) (v := .int 0) (C := RX9) (T := TX9) (N := 28) hx hb hg cu_iX9 hown hK.1 hP 0 rfl rfl 24 (by decide) (hg _ k_708) (fun _ h9 => h9) rfl d_X9_pair_88 ?_
            exact hret _ _ _ _ [] _ _ _ (hP.sub (ws' := []) [] rfl) (hD.sub (ws' := []) [] (by decide) rfl) hS (Nat.le_of_ble_eq_true rfl) (Nat.le_of_ble_eq_true rfl) d_X9_pair_91 (rfl) ⟨by unfold cu_spr; rw [if_neg hc_3, if_neg hc_5, if_neg c_11, if_neg c_12, if_neg c_13], rfl⟩
          · skip
            refine lv_aload_n hx hb d_X9_pair_56 rfl (lv_at hl 0 rfl) ?_
            refine va_get (D := D) (ci := 7) (v := .ref m10) (C := RX9) (T := TX9) (N := 28) hx hb hg cu_iX9 hown hK.1 hP 0 rfl rfl 18 (by decide) (hg _ k_702) (fun _ h9 => h9) rfl d_X9_pair_57 ?_
            refine lv_aload_n hx hb d_X9_pair_60 rfl (lv_at hl 0 rfl) ?_
            refine va_get (D := D) (ci := 7) (v := .int 1) (C := RX9) (T := TX9) (N := 28) hx hb hg cu_iX9 hown hK.1 hP 0 rfl rfl 21 (by decide) (hg _ k_705) (fun _ h9 => h9) rfl d_X9_pair_61 ?_
            refine va_iald hx hb hK.1 hP 2 0 rfl rfl (vp_in_nI (n := 1) (N := 1000) (Nat.le_of_ble_eq_true rfl) (by decide)) d_X9_pair_64 ?_
            refine cu_topi (y := 0) rfl ?_
            refine lv_aload_n hx hb d_X9_pair_65 rfl (lv_at hl 0 rfl) ?_
            refine va_get (D := D) (ci := 7) (v := .ref m10) (C := RX9) (T := TX9) (N := 28) hx hb hg cu_iX9 hown hK.1 hP 0 rfl rfl 18 (by decide) (hg _ k_702) (fun _ h9 => h9) rfl d_X9_pair_66 ?_
            refine lv_aload_n hx hb d_X9_pair_69 rfl (lv_at hl 0 rfl) ?_
            refine va_get (D := D) (ci := 7) (v := .int 2) (C := RX9) (T := TX9) (N := 28) hx hb hg cu_iX9 hown hK.1 hP 0 rfl rfl 22 (by decide) (hg _ k_706) (fun _ h9 => h9) rfl d_X9_pair_70 ?_
            refine va_iald hx hb hK.1 hP 2 0 rfl rfl (vp_in_nI (n := 2) (N := 1000) (Nat.le_of_ble_eq_true rfl) (by decide)) d_X9_pair_73 ?_
            refine cu_topi (y := 0) rfl ?_
            refine lv_ior hx hb d_X9_pair_74 ?_
            refine cu_topi (y := 0) (by decide +kernel) ?_
            refine lv_aload_n hx hb d_X9_pair_75 rfl (lv_at hl 0 rfl) ?_
            refine lv_aload_n hx hb d_X9_pair_76 rfl (lv_at hl 0 rfl) ?_
            refine va_get (D := D) (ci := 7) (v := .ref m3) (C := RX9) (T := TX9) (N := 28) hx hb hg cu_iX9 hown hK.1 hP 0 rfl rfl 8 (by decide) (hg _ k_692) (fun _ h9 => h9) rfl d_X9_pair_77 ?_
            refine cu_VR (wc := [(o, .inr (7, [.int 0, .ref m1, .int 0, .int 0, .int 0, .int 0, .int 0, .ref m2, .ref m3, .ref m4, .ref m5, .int 0, .ref m6, .ref m7, .int 0, .ref m8, .ref m9, .long 0, .ref m10, .ref m11, .ref m12, .int 1, .int 2, .int 0, .int 0, .ref m13, .int 0, .ref m14])), (m3, .inl (cI, 30, .inl (upd (fun _ => 0) 28 (1 : Int32))))]) (rest := [.int 0]) [.ref m3] ⟨hx, hb, hml, hown, hg⟩ (c_X9_open l D cI cZ cQ o m1 m2 m3 m4 m5 m6 m7 m8 m9 m10 m11 m12 m13 m14 1 2 0 0 m3 (upd (fun _ => 0) 28 (1 : Int32))) hd_X9_open k_916 k_913 k_915 k_32 k_49 ⟨Nat.le_of_ble_eq_true rfl, Nat.le_of_ble_eq_true rfl⟩ ⟨Nat.le_of_ble_eq_true rfl, Nat.le_of_ble_eq_true rfl⟩ hP hK [0, 1] rfl 0 rfl rfl rfl hl.1 rfl (Nat.le_of_ble_eq_true rfl) d_X9_pair_80 (fun r_14 hr_15 => ?_)
            subst hr_15
            refine lv_iand hx hb d_X9_pair_83 ?_
            refine cu_topi (y := 0) (by decide +kernel) ?_
            refine lv_goto (tgt := 91) hx hb d_X9_pair_84 (by decide) ?_
            exact hret _ _ _ _ [] _ _ _ (hP.sub (ws' := []) [] rfl) (hD.sub (ws' := []) [] (by decide) rfl) hS (Nat.le_of_ble_eq_true rfl) (Nat.le_of_ble_eq_true rfl) d_X9_pair_91 (rfl) ⟨by unfold cu_spr; rw [if_neg hc_3, if_neg hc_5, if_neg c_11, if_neg c_12, if_pos c_13], rfl⟩
        · skip
          refine lv_aload_n hx hb d_X9_pair_44 rfl (lv_at hl 0 rfl) ?_
          refine va_get (D := D) (ci := 7) (v := .int 2) (C := RX9) (T := TX9) (N := 28) hx hb hg cu_iX9 hown hK.1 hP 0 rfl rfl 22 (by decide) (hg _ k_706) (fun _ h9 => h9) rfl d_X9_pair_45 ?_
          refine lv_goto (tgt := 91) hx hb d_X9_pair_48 (by decide) ?_
          exact hret _ _ _ _ [] _ _ _ (hP.sub (ws' := []) [] rfl) (hD.sub (ws' := []) [] (by decide) rfl) hS (Nat.le_of_ble_eq_true rfl) (Nat.le_of_ble_eq_true rfl) d_X9_pair_91 (rfl) ⟨by unfold cu_spr; rw [if_neg hc_3, if_neg hc_5, if_neg c_11, if_pos c_12], rfl⟩
      · skip
        refine lv_aload_n hx hb d_X9_pair_32 rfl (lv_at hl 0 rfl) ?_
        refine va_get (D := D) (ci := 7) (v := .int 1) (C := RX9) (T := TX9) (N := 28) hx hb hg cu_iX9 hown hK.1 hP 0 rfl rfl 21 (by decide) (hg _ k_705) (fun _ h9 => h9) rfl d_X9_pair_33 ?_
        refine lv_goto (tgt := 91) hx hb d_X9_pair_36 (by decide) ?_
        exact hret _ _ _ _ [] _ _ _ (hP.sub (ws' := []) [] rfl) (hD.sub (ws' := []) [] (by decide) rfl) hS (Nat.le_of_ble_eq_true rfl) (Nat.le_of_ble_eq_true rfl) d_X9_pair_91 (rfl) ⟨by unfold cu_spr; rw [if_neg hc_3, if_neg hc_5, if_pos c_11], rfl⟩
set_option maxHeartbeats 4000000 in
set_option maxRecDepth 100000 in
theorem c_X9_which (l : Launch) (D : va_G) (cI cZ cQ : ClassId) (o m1 m2 m3 m4 m5 m6 m7 m8 m9 m10 m11 m12 m13 m14 : Nat) (c1 : Int32) : cu_W l D (cu_TY cI cZ cQ) yX9_which cX9_which 9 .int 1 25 0 0 [.ref o, .int c1] [(o, .inr (7, [.int 0, .ref m1, .int 0, .int 0, .int 0, .int 0, .int 0, .ref m2, .ref m3, .ref m4, .ref m5, .int 0, .ref m6, .ref m7, .int 0, .ref m8, .ref m9, .long 0, .ref m10, .ref m11, .ref m12, .int 0, .int 0, .int 0, .int 0, .ref m13, .int 0, .ref m14]))] (fun r ww => (r = cu_swh c1) ∧ ww = []) := by
  refine cu_W.intro (by decide) (Nat.le_of_ble_eq_true rfl) ?_
  intro p e s m args below meth c Q ls A S hret hP hD hS hA hK hl
  obtain ⟨hx, hb, hml, hown, hg⟩ := S
  have hown : s.vm.findClass RX9 = some m.cls := hown
  have hl : lv_has ls 9 [(0, .ref o), (1, .int c1)] := hl
  refine lv_aload_n hx hb d_X9_which_0 rfl (lv_at hl 0 rfl) ?_
  refine lv_iconst (v := 0) hx hb d_X9_which_1 (by decide) ?_
  refine va_put (D := D) (ci := 7) (v := .int 0) (ty := .int) (C := RX9) (T := TX9) (N := 28) hx hb hg cu_iX9 tyX9 tyX9_ok nmX9 hown hK.1 hP hD hS 0 rfl rfl 0 (by decide) (hg _ k_684) (fun _ h9 => h9) rfl (by decide +kernel) rfl rfl (Nat.le_of_ble_eq_true rfl) d_X9_which_2 (fun H locs hP hD hS => ?_)
  have hP : va_P D vwCl [(o, .inr (7, [.int 0, .ref m1, .int 0, .int 0, .int 0, .int 0, .int 0, .ref m2, .ref m3, .ref m4, .ref m5, .int 0, .ref m6, .ref m7, .int 0, .ref m8, .ref m9, .long 0, .ref m10, .ref m11, .ref m12, .int 0, .int 0, .int 0, .int 0, .ref m13, .int 0, .ref m14]))] H := hP
  have hD : va_D A [(o, .inr (7, [.int 0, .ref m1, .int 0, .int 0, .int 0, .int 0, .int 0, .ref m2, .ref m3, .ref m4, .ref m5, .int 0, .ref m6, .ref m7, .int 0, .ref m8, .ref m9, .long 0, .ref m10, .ref m11, .ref m12, .int 0, .int 0, .int 0, .int 0, .ref m13, .int 0, .ref m14]))] := hD
  refine lv_iload_n hx hb d_X9_which_5 rfl (lv_at hl 1 rfl) ?_
  refine lv_i2l (v := c1.toInt64) hx hb d_X9_which_6 rfl ?_
  refine lv_lconst (v := 0) hx hb d_X9_which_7 (by decide) ?_
  refine lv_ldc2 (v := 2) hx hb hown (hg _ k_886) d_X9_which_8 ?_
  refine cu_SR (wc := []) (rest := []) [.long c1.toInt64, .long 0, .long 2] ⟨hx, hb, hml, hown, hg⟩ (c_X9_in l D cI cZ cQ c1.toInt64 0 2) hd_X9_in k_776 k_774 k_775 k_49 ⟨Nat.le_of_ble_eq_true rfl, Nat.le_of_ble_eq_true rfl⟩ ⟨Nat.le_of_ble_eq_true rfl, Nat.le_of_ble_eq_true rfl⟩ hP hK [] rfl rfl hl.1 rfl (Nat.le_of_ble_eq_true rfl) d_X9_which_11 (fun r_1 hr_2 => ?_)
  replace hr_2 : r_1 = cu_i32 c1 0 2 := by rw [hr_2]; exact cu_inI (by decide) (by decide)
  subst hr_2
  by_cases hc_3 : c1 < 0
  · skip
    refine cu_topi (y := 0) (by unfold cu_i32; rw [if_pos hc_3]) ?_
    refine lv_if_ne (tgt := 20) hx hb d_X9_which_14 (by decide) (fun c_4 => absurd (by decide +kernel) c_4) (fun _ => ?_)
    refine lv_bipush (v := (-2)) hx hb d_X9_which_17 (by decide) ?_
    exact hret _ _ _ _ [] _ _ _ (hP.sub (ws' := []) [] rfl) (hD.sub (ws' := []) [] (by decide) rfl) hS (Nat.le_of_ble_eq_true rfl) (Nat.le_of_ble_eq_true rfl) d_X9_which_19 (rfl) ⟨by unfold cu_swh; rw [if_pos hc_3], rfl⟩
  · skip
    by_cases hc_5 : 2 < c1
    · skip
      refine cu_topi (y := 0) (by unfold cu_i32; rw [if_neg hc_3, if_pos hc_5]) ?_
      refine lv_if_ne (tgt := 20) hx hb d_X9_which_14 (by decide) (fun c_6 => absurd (by decide +kernel) c_6) (fun _ => ?_)
      refine lv_bipush (v := (-2)) hx hb d_X9_which_17 (by decide) ?_
      exact hret _ _ _ _ [] _ _ _ (hP.sub (ws' := []) [] rfl) (hD.sub (ws' := []) [] (by decide) rfl) hS (Nat.le_of_ble_eq_true rfl) (Nat.le_of_ble_eq_true rfl) d_X9_which_19 (rfl) ⟨by unfold cu_swh; rw [if_neg hc_3, if_pos hc_5], rfl⟩
    · skip
      refine cu_topi (y := 1) (by unfold cu_i32; rw [if_neg hc_3, if_neg hc_5]) ?_
      refine lv_if_ne (tgt := 20) hx hb d_X9_which_14 (by decide) (fun _ => ?_) (fun c_7 => absurd c_7 (by decide +kernel))
      refine lv_iconst (v := 0) hx hb d_X9_which_20 (by decide) ?_
      refine lv_istore_n (lv' := [(2, .int 0), (0, .ref o), (1, .int c1)]) hx hb d_X9_which_21 rfl hl (by decide) rfl (fun ls hl => ?_)
      refine lv_bipush (v := (-9)) hx hb d_X9_which_22 (by decide) ?_
      refine lv_istore_n (lv' := [(3, .int (-9)), (2, .int 0), (0, .ref o), (1, .int c1)]) hx hb d_X9_which_24 rfl hl (by decide) rfl (fun ls hl => ?_)
      refine lv_bipush (v := (-9)) hx hb d_X9_which_25 (by decide) ?_
      refine lv_istore (lv' := [(4, .int (-9)), (3, .int (-9)), (2, .int 0), (0, .ref o), (1, .int c1)]) hx hb d_X9_which_27 hl (by decide) rfl (fun ls hl => ?_)
      refine lv_iconst (v := 1) hx hb d_X9_which_29 (by decide) ?_
      refine lv_istore (lv' := [(5, .int 1), (4, .int (-9)), (3, .int (-9)), (2, .int 0), (0, .ref o), (1, .int c1)]) hx hb d_X9_which_30 hl (by decide) rfl (fun ls hl => ?_)
      refine lv_iload hx hb d_X9_which_32 (lv_at hl 0 rfl) ?_
      refine lv_sipush (v := 999) hx hb d_X9_which_34 (by decide) ?_
      refine lv_icmp_gt (tgt := 186) hx hb d_X9_which_37 (by decide) (fun c_8 => absurd c_8 (by decide +kernel)) (fun _ => ?_)
      refine lv_iconst (v := 1) hx hb d_X9_which_40 (by decide) ?_
      refine lv_istore (lv' := [(6, .int 1), (5, .int 1), (4, .int (-9)), (3, .int (-9)), (2, .int 0), (0, .ref o), (1, .int c1)]) hx hb d_X9_which_41 hl (by decide) rfl (fun ls hl => ?_)
      refine lv_iconst (v := 0) hx hb d_X9_which_43 (by decide) ?_
      refine lv_istore (lv' := [(7, .int 0), (6, .int 1), (5, .int 1), (4, .int (-9)), (3, .int (-9)), (2, .int 0), (0, .ref o), (1, .int c1)]) hx hb d_X9_which_44 hl (by decide) rfl (fun ls hl => ?_)
      refine lv_iload hx hb d_X9_which_46 (lv_at hl 0 rfl) ?_
      refine lv_aload_n hx hb d_X9_which_48 rfl (lv_at hl 6 rfl) ?_
      refine va_get (D := D) (ci := 7) (v := .int 0) (C := RX9) (T := TX9) (N := 28) hx hb hg cu_iX9 hown hK.1 hP 0 rfl rfl 14 (by decide) (hg _ k_698) (fun _ h9 => h9) rfl d_X9_which_49 ?_
      refine lv_icmp_ge (tgt := 136) hx hb d_X9_which_52 (by decide) (fun _ => ?_) (fun c_9 => absurd (by decide +kernel) c_9)
      refine lv_iload_n hx hb d_X9_which_136 rfl (lv_at hl 5 rfl) ?_
      refine lv_iload hx hb d_X9_which_137 (lv_at hl 1 rfl) ?_
      refine lv_if_eq (tgt := 146) hx hb d_X9_which_139 (by decide) (fun c_10 => absurd c_10 (by decide +kernel)) (fun _ => ?_)
      refine lv_iconst (v := 1) hx hb d_X9_which_142 (by decide) ?_
      refine lv_goto (tgt := 147) hx hb d_X9_which_143 (by decide) ?_
      refine lv_iadd hx hb d_X9_which_147 ?_
      refine cu_topi (y := 1) (by decide +kernel) ?_
      refine lv_istore_n (lv' := [(2, .int 1), (7, .int 0), (6, .int 1), (5, .int 1), (4, .int (-9)), (3, .int (-9)), (0, .ref o), (1, .int c1)]) hx hb d_X9_which_148 rfl hl (by decide) rfl (fun ls hl => ?_)
      refine lv_iload hx hb d_X9_which_149 (lv_at hl 2 rfl) ?_
      refine lv_if_eq (tgt := 164) hx hb d_X9_which_151 (by decide) (fun c_11 => absurd c_11 (by decide +kernel)) (fun _ => ?_)
      refine lv_iload_n hx hb d_X9_which_154 rfl (lv_at hl 0 rfl) ?_
      refine lv_iconst (v := 1) hx hb d_X9_which_155 (by decide) ?_
      refine lv_icmp_ne (tgt := 164) hx hb d_X9_which_156 (by decide) (fun c_12 => absurd (by decide +kernel) c_12) (fun _ => ?_)
      refine lv_iload hx hb d_X9_which_159 (lv_at hl 3 rfl) ?_
      refine lv_goto (tgt := 165) hx hb d_X9_which_161 (by decide) ?_
      refine lv_istore_n (lv' := [(3, .int 1), (2, .int 1), (7, .int 0), (6, .int 1), (5, .int 1), (4, .int (-9)), (0, .ref o), (1, .int c1)]) hx hb d_X9_which_165 rfl hl (by decide) rfl (fun ls hl => ?_)
      refine lv_iload hx hb d_X9_which_166 (lv_at hl 3 rfl) ?_
      refine lv_if_eq (tgt := 176) hx hb d_X9_which_168 (by decide) (fun c_13 => absurd c_13 (by decide +kernel)) (fun _ => ?_)
      refine lv_iload hx hb d_X9_which_171 (lv_at hl 4 rfl) ?_
      refine lv_goto (tgt := 178) hx hb d_X9_which_173 (by decide) ?_
      refine lv_istore (lv' := [(4, .int 1), (3, .int 1), (2, .int 1), (7, .int 0), (6, .int 1), (5, .int 1), (0, .ref o), (1, .int c1)]) hx hb d_X9_which_178 hl (by decide) rfl (fun ls hl => ?_)
      refine lv_iinc (v := 2) (lv' := [(5, .int 2), (4, .int 1), (3, .int 1), (2, .int 1), (7, .int 0), (6, .int 1), (0, .ref o), (1, .int c1)]) hx hb d_X9_which_180 hl (k := 5) rfl (by decide +kernel) (by decide) rfl (fun ls hl => ?_)
      refine lv_goto (tgt := 32) hx hb d_X9_which_183 (by decide) ?_
      have key_14 : ∀ (n_16 j_15 : Nat) (hj_18 : j_15 + n_16 = 1000)  (hi_19 : 2 ≤ j_15) (H : Heap) (locs : List Loc) (ls : Array Slot) (hP : va_P D vwCl [(o, .inr (7, [.int 0, .ref m1, .int 0, .int 0, .int 0, .int 0, .int 0, .ref m2, .ref m3, .ref m4, .ref m5, .int 0, .ref m6, .ref m7, .int 0, .ref m8, .ref m9, .long 0, .ref m10, .ref m11, .ref m12, .int 0, .int 0, .int 0, .int 0, .ref m13, .int 0, .ref m14]))] H) (hD : va_D A [(o, .inr (7, [.int 0, .ref m1, .int 0, .int 0, .int 0, .int 0, .int 0, .ref m2, .ref m3, .ref m4, .ref m5, .int 0, .ref m6, .ref m7, .int 0, .ref m8, .ref m9, .long 0, .ref m10, .ref m11, .ref m12, .int 0, .int 0, .int 0, .int 0, .ref m13, .int 0, .ref m14]))]) (hS : va_S A s.heap H locs) (hl : lv_has ls 9 [(5, .int (nI j_15)), (4, .int (nI (j_15 - 1))), (3, .int 1), (2, .int (nI (j_15 - 1))), (7, .int 0), (6, .int 1), (0, .ref o), (1, .int c1)]), W p l e (cu_rm 1 25 0 0) s m args below meth c H locs 0 0 Q (F0 m 32 ls []) := by
        intro n_16
        induction n_16 with
        | zero =>
          intro j_15 hj_18  hi_19 H locs ls hP hD hS hl
          obtain rfl : 1000 = j_15 := by omega
          have hl : lv_has ls 9 [(5, .int 1000), (4, .int 999), (3, .int 1), (2, .int 999), (7, .int 0), (6, .int 1), (0, .ref o), (1, .int c1)] := hl
          have hP : va_P D vwCl [(o, .inr (7, [.int 0, .ref m1, .int 0, .int 0, .int 0, .int 0, .int 0, .ref m2, .ref m3, .ref m4, .ref m5, .int 0, .ref m6, .ref m7, .int 0, .ref m8, .ref m9, .long 0, .ref m10, .ref m11, .ref m12, .int 0, .int 0, .int 0, .int 0, .ref m13, .int 0, .ref m14]))] H := hP
          have hD : va_D A [(o, .inr (7, [.int 0, .ref m1, .int 0, .int 0, .int 0, .int 0, .int 0, .ref m2, .ref m3, .ref m4, .ref m5, .int 0, .ref m6, .ref m7, .int 0, .ref m8, .ref m9, .long 0, .ref m10, .ref m11, .ref m12, .int 0, .int 0, .int 0, .int 0, .ref m13, .int 0, .ref m14]))] := hD
          refine lv_iload hx hb d_X9_which_32 (lv_at hl 0 rfl) ?_
          refine lv_sipush (v := 999) hx hb d_X9_which_34 (by decide) ?_
          refine lv_icmp_gt (tgt := 186) hx hb d_X9_which_37 (by decide) (fun _ => ?_) (fun c_20 => absurd (by decide +kernel) c_20)
          refine lv_iload_n hx hb d_X9_which_186 rfl (lv_at hl 7 rfl) ?_
          refine lv_if_ne (tgt := 194) hx hb d_X9_which_187 (by decide) (fun c_21 => ?_) (fun c_21 => ?_)
          · skip
            refine lv_iload_n hx hb d_X9_which_194 rfl (lv_at hl 7 rfl) ?_
            refine lv_iconst (v := 1) hx hb d_X9_which_195 (by decide) ?_
            refine lv_icmp_ne (tgt := 203) hx hb d_X9_which_196 (by decide) (fun c_22 => ?_) (fun c_22 => ?_)
            · skip
              refine lv_iload hx hb d_X9_which_203 (lv_at hl 1 rfl) ?_
              exact hret _ _ _ _ [] _ _ _ (hP.sub (ws' := []) [] rfl) (hD.sub (ws' := []) [] (by decide) rfl) hS (Nat.le_of_ble_eq_true rfl) (Nat.le_of_ble_eq_true rfl) d_X9_which_205 (rfl) ⟨by unfold cu_swh; rw [if_neg hc_3, if_neg hc_5, if_neg c_21, if_neg c_22], rfl⟩
            · skip
              refine lv_iload_n hx hb d_X9_which_199 rfl (lv_at hl 2 rfl) ?_
              refine lv_goto (tgt := 205) hx hb d_X9_which_200 (by decide) ?_
              exact hret _ _ _ _ [] _ _ _ (hP.sub (ws' := []) [] rfl) (hD.sub (ws' := []) [] (by decide) rfl) hS (Nat.le_of_ble_eq_true rfl) (Nat.le_of_ble_eq_true rfl) d_X9_which_205 (rfl) ⟨by unfold cu_swh; rw [if_neg hc_3, if_neg hc_5, if_neg c_21, if_pos c_22], rfl⟩
          · skip
            refine lv_iload_n hx hb d_X9_which_190 rfl (lv_at hl 3 rfl) ?_
            refine lv_goto (tgt := 205) hx hb d_X9_which_191 (by decide) ?_
            exact hret _ _ _ _ [] _ _ _ (hP.sub (ws' := []) [] rfl) (hD.sub (ws' := []) [] (by decide) rfl) hS (Nat.le_of_ble_eq_true rfl) (Nat.le_of_ble_eq_true rfl) d_X9_which_205 (rfl) ⟨by unfold cu_swh; rw [if_neg hc_3, if_neg hc_5, if_pos c_21], rfl⟩
        | succ n_16 ih_17 =>
          intro j_15 hj_18  hi_19 H locs ls hP hD hS hl
          refine lv_iload hx hb d_X9_which_32 (lv_at hl 0 rfl) ?_
          refine lv_sipush (v := 999) hx hb d_X9_which_34 (by decide) ?_
          refine lv_icmp_gt (tgt := 186) hx hb d_X9_which_37 (by decide) (fun c_23 => absurd c_23 (mt (nI_ltI (a := 999) (b := j_15) (by omega) (by omega)).mp (by omega))) (fun _ => ?_)
          refine lv_iconst (v := 1) hx hb d_X9_which_40 (by decide) ?_
          refine lv_istore (lv' := [(6, .int 1), (5, .int (nI j_15)), (4, .int (nI (j_15 - 1))), (3, .int 1), (2, .int (nI (j_15 - 1))), (7, .int 0), (0, .ref o), (1, .int c1)]) hx hb d_X9_which_41 hl (by decide) rfl (fun ls hl => ?_)
          refine lv_iconst (v := 0) hx hb d_X9_which_43 (by decide) ?_
          refine lv_istore (lv' := [(7, .int 0), (6, .int 1), (5, .int (nI j_15)), (4, .int (nI (j_15 - 1))), (3, .int 1), (2, .int (nI (j_15 - 1))), (0, .ref o), (1, .int c1)]) hx hb d_X9_which_44 hl (by decide) rfl (fun ls hl => ?_)
          refine lv_iload hx hb d_X9_which_46 (lv_at hl 0 rfl) ?_
          refine lv_aload_n hx hb d_X9_which_48 rfl (lv_at hl 6 rfl) ?_
          refine va_get (D := D) (ci := 7) (v := .int 0) (C := RX9) (T := TX9) (N := 28) hx hb hg cu_iX9 hown hK.1 hP 0 rfl rfl 14 (by decide) (hg _ k_698) (fun _ h9 => h9) rfl d_X9_which_49 ?_
          refine lv_icmp_ge (tgt := 136) hx hb d_X9_which_52 (by decide) (fun _ => ?_) (fun c_24 => absurd (by decide +kernel) c_24)
          refine lv_iload_n hx hb d_X9_which_136 rfl (lv_at hl 5 rfl) ?_
          refine lv_iload hx hb d_X9_which_137 (lv_at hl 1 rfl) ?_
          refine lv_if_eq (tgt := 146) hx hb d_X9_which_139 (by decide) (fun c_25 => absurd c_25 (by decide +kernel)) (fun _ => ?_)
          refine lv_iconst (v := 1) hx hb d_X9_which_142 (by decide) ?_
          refine lv_goto (tgt := 147) hx hb d_X9_which_143 (by decide) ?_
          refine lv_iadd hx hb d_X9_which_147 ?_
          refine cu_topi (y := nI ((j_15 - 1) + 1)) (nI_add (j_15 - 1) 1) ?_
          refine lv_istore_n (lv' := [(2, .int (nI ((j_15 - 1) + 1))), (7, .int 0), (6, .int 1), (5, .int (nI j_15)), (4, .int (nI (j_15 - 1))), (3, .int 1), (0, .ref o), (1, .int c1)]) hx hb d_X9_which_148 rfl hl (by decide) rfl (fun ls hl => ?_)
          refine lv_iload hx hb d_X9_which_149 (lv_at hl 2 rfl) ?_
          refine lv_if_eq (tgt := 164) hx hb d_X9_which_151 (by decide) (fun c_26 => absurd c_26 (by decide +kernel)) (fun _ => ?_)
          refine lv_iload_n hx hb d_X9_which_154 rfl (lv_at hl 0 rfl) ?_
          refine lv_iconst (v := 1) hx hb d_X9_which_155 (by decide) ?_
          refine lv_icmp_ne (tgt := 164) hx hb d_X9_which_156 (by decide) (fun _ => ?_) (fun c_27 => absurd c_27 (mt (nI_eq (by omega) (b := 1) (by omega)).mp (by omega)))
          refine lv_iload_n hx hb d_X9_which_164 rfl (lv_at hl 5 rfl) ?_
          refine lv_istore_n (lv' := [(3, .int 1), (2, .int (nI ((j_15 - 1) + 1))), (7, .int 0), (6, .int 1), (5, .int (nI j_15)), (4, .int (nI (j_15 - 1))), (0, .ref o), (1, .int c1)]) hx hb d_X9_which_165 rfl hl (by decide) rfl (fun ls hl => ?_)
          refine lv_iload hx hb d_X9_which_166 (lv_at hl 3 rfl) ?_
          refine lv_if_eq (tgt := 176) hx hb d_X9_which_168 (by decide) (fun c_28 => absurd c_28 (by decide +kernel)) (fun _ => ?_)
          refine lv_iload hx hb d_X9_which_171 (lv_at hl 4 rfl) ?_
          refine lv_goto (tgt := 178) hx hb d_X9_which_173 (by decide) ?_
          refine lv_istore (lv' := [(4, .int (nI j_15)), (3, .int 1), (2, .int (nI ((j_15 - 1) + 1))), (7, .int 0), (6, .int 1), (5, .int (nI j_15)), (0, .ref o), (1, .int c1)]) hx hb d_X9_which_178 hl (by decide) rfl (fun ls hl => ?_)
          refine lv_iinc (v := nI (j_15 + 1)) (lv' := [(5, .int (nI (j_15 + 1))), (4, .int (nI j_15)), (3, .int 1), (2, .int (nI ((j_15 - 1) + 1))), (7, .int 0), (6, .int 1), (0, .ref o), (1, .int c1)]) hx hb d_X9_which_180 hl (k := 5) rfl (nI_1 j_15) (by decide) rfl (fun ls hl => ?_)
          refine lv_goto (tgt := 32) hx hb d_X9_which_183 (by decide) ?_
          have he_29 : (nI j_15 : Int32) = nI ((j_15 + 1) - 1) := congrArg nI (by omega)
          rw [he_29] at hl
          have he_30 : (nI ((j_15 - 1) + 1) : Int32) = nI ((j_15 + 1) - 1) := congrArg nI (by omega)
          rw [he_30] at hl
          exact ih_17 (j_15 + 1) (by first | rfl | omega)  (by omega) _ _ _ hP hD hS (lv_sub hl [0, 1, 2, 3, 4, 5, 6, 7] rfl)
      exact key_14 998 2 (by first | rfl | omega)  (Nat.le_refl _) _ _ _ hP hD hS (lv_sub hl [0, 1, 2, 3, 4, 5, 6, 7] rfl)
set_option maxHeartbeats 4000000 in
set_option maxRecDepth 100000 in
theorem c_X9_weigh (l : Launch) (D : va_G) (cI cZ cQ : ClassId) (o m1 m2 m3 m4 m5 m6 m7 m8 m9 m10 m11 m12 m13 m14 : Nat) : cu_V l D (cu_TY cI cZ cQ) yX9_weigh cX9_weigh 6 1 24 0 0 [.ref o] [(o, .inr (7, [.int 0, .ref m1, .int 0, .int 0, .int 0, .int 0, .int 0, .ref m2, .ref m3, .ref m4, .ref m5, .int 0, .ref m6, .ref m7, .int 0, .ref m8, .ref m9, .long 0, .ref m10, .ref m11, .ref m12, .int 0, .int 0, .int 0, .int 0, .ref m13, .int 0, .ref m14])), (m3, .inl (cI, 30, .inl (upd (fun _ => 0) 28 (1 : Int32)))), (m10, .inl (cI, 1000, .inl (fun _ => 0))), (m14, .inl (cI, 256, .inl (fun _ => 0)))] (fun ww => ww = [(o, .inr (7, [.int 0, .ref m1, .int 0, .int 0, .int 0, .int 0, .int 0, .ref m2, .ref m3, .ref m4, .ref m5, .int 0, .ref m6, .ref m7, .int 0, .ref m8, .ref m9, .long 0, .ref m10, .ref m11, .ref m12, .int 0, .int 0, .int 0, .int 0, .ref m13, .int 0, .ref m14])), (m3, .inl (cI, 30, .inl (upd (fun _ => 0) 28 (1 : Int32)))), (m10, .inl (cI, 1000, .inl (fun _ => 0))), (m14, .inl (cI, 256, .inl (fun _ => 0)))]) := by
  refine cu_V.intro (by decide) (Nat.le_of_ble_eq_true rfl) ?_
  intro p e s m args below meth c Q ls A S hin hret hP hD hS hA hK hl
  obtain ⟨hx, hb, hml, hown, hg⟩ := S
  have hown : s.vm.findClass RX9 = some m.cls := hown
  have hin : meth.name = "weigh" := hin
  have hl : lv_has ls 6 [(0, .ref o)] := hl
  refine lv_aload_n hx hb d_X9_weigh_0 rfl (lv_at hl 0 rfl) ?_
  refine lv_aload_n hx hb d_X9_weigh_1 rfl (lv_at hl 0 rfl) ?_
  refine va_get (D := D) (ci := 7) (v := .ref m3) (C := RX9) (T := TX9) (N := 28) hx hb hg cu_iX9 hown hK.1 hP 0 rfl rfl 8 (by decide) (hg _ k_692) (fun _ h9 => h9) rfl d_X9_weigh_2 ?_
  refine cu_VV (wc := [(o, .inr (7, [.int 0, .ref m1, .int 0, .int 0, .int 0, .int 0, .int 0, .ref m2, .ref m3, .ref m4, .ref m5, .int 0, .ref m6, .ref m7, .int 0, .ref m8, .ref m9, .long 0, .ref m10, .ref m11, .ref m12, .int 0, .int 0, .int 0, .int 0, .ref m13, .int 0, .ref m14])), (m10, .inl (cI, 1000, .inl (fun _ => 0)))]) (wr := [(m3, .inl (cI, 30, .inl (upd (fun _ => 0) 28 (1 : Int32)))), (m14, .inl (cI, 256, .inl (fun _ => 0)))]) (rest := []) [.ref m3] ⟨hx, hb, hml, hown, hg⟩ (c_X9_layFitting l D cI cZ cQ o m1 m2 m3 m4 m5 m6 m7 m8 m9 m10 m11 m12 m13 m14 m3) hd_X9_layFitting k_912 k_909 k_911 k_31 k_49 ⟨Nat.le_of_ble_eq_true rfl, Nat.le_of_ble_eq_true rfl⟩ ⟨Nat.le_of_ble_eq_true rfl, Nat.le_of_ble_eq_true rfl⟩ hP hD hS hA hK [0, 2] [1, 3] rfl rfl (by decide) (by decide) (by decide) 0 rfl rfl rfl hl.1 rfl (Nat.le_of_ble_eq_true rfl) d_X9_weigh_5 (fun w_3 H locs hw_2 hP hD hS => ?_)
  subst hw_2
  have hP : va_P D vwCl [(m3, .inl (cI, 30, .inl (upd (fun _ => 0) 28 (1 : Int32)))), (m14, .inl (cI, 256, .inl (fun _ => 0))), (o, .inr (7, [.int 0, .ref m1, .int 0, .int 0, .int 0, .int 0, .int 0, .ref m2, .ref m3, .ref m4, .ref m5, .int 0, .ref m6, .ref m7, .int 0, .ref m8, .ref m9, .long 0, .ref m10, .ref m11, .ref m12, .int 0, .int 0, .int 0, .int 0, .ref m13, .int 0, .ref m14])), (m10, .inl (cI, 1000, .inl (fun _ => 0)))] H := hP
  have hD : va_D A [(m3, .inl (cI, 30, .inl (upd (fun _ => 0) 28 (1 : Int32)))), (m14, .inl (cI, 256, .inl (fun _ => 0))), (o, .inr (7, [.int 0, .ref m1, .int 0, .int 0, .int 0, .int 0, .int 0, .ref m2, .ref m3, .ref m4, .ref m5, .int 0, .ref m6, .ref m7, .int 0, .ref m8, .ref m9, .long 0, .ref m10, .ref m11, .ref m12, .int 0, .int 0, .int 0, .int 0, .ref m13, .int 0, .ref m14])), (m10, .inl (cI, 1000, .inl (fun _ => 0)))] := hD
  refine lv_aload_n hx hb d_X9_weigh_8 rfl (lv_at hl 0 rfl) ?_
  refine lv_iconst (v := 0) hx hb d_X9_weigh_9 (by decide) ?_
  refine va_put (D := D) (ci := 7) (v := .int 0) (ty := .int) (C := RX9) (T := TX9) (N := 28) hx hb hg cu_iX9 tyX9 tyX9_ok nmX9 hown hK.1 hP hD hS 2 rfl rfl 26 (by decide) (hg _ k_710) (fun _ h9 => h9) rfl (by decide +kernel) rfl rfl (Nat.le_of_ble_eq_true rfl) d_X9_weigh_10 (fun H locs hP hD hS => ?_)
  have hP : va_P D vwCl [(m3, .inl (cI, 30, .inl (upd (fun _ => 0) 28 (1 : Int32)))), (m14, .inl (cI, 256, .inl (fun _ => 0))), (o, .inr (7, [.int 0, .ref m1, .int 0, .int 0, .int 0, .int 0, .int 0, .ref m2, .ref m3, .ref m4, .ref m5, .int 0, .ref m6, .ref m7, .int 0, .ref m8, .ref m9, .long 0, .ref m10, .ref m11, .ref m12, .int 0, .int 0, .int 0, .int 0, .ref m13, .int 0, .ref m14])), (m10, .inl (cI, 1000, .inl (fun _ => 0)))] H := hP
  have hD : va_D A [(m3, .inl (cI, 30, .inl (upd (fun _ => 0) 28 (1 : Int32)))), (m14, .inl (cI, 256, .inl (fun _ => 0))), (o, .inr (7, [.int 0, .ref m1, .int 0, .int 0, .int 0, .int 0, .int 0, .ref m2, .ref m3, .ref m4, .ref m5, .int 0, .ref m6, .ref m7, .int 0, .ref m8, .ref m9, .long 0, .ref m10, .ref m11, .ref m12, .int 0, .int 0, .int 0, .int 0, .ref m13, .int 0, .ref m14])), (m10, .inl (cI, 1000, .inl (fun _ => 0)))] := hD
  refine lv_iconst (v := 0) hx hb d_X9_weigh_13 (by decide) ?_
  refine lv_istore_n (lv' := [(1, .int 0), (0, .ref o)]) hx hb d_X9_weigh_14 rfl hl (by decide) rfl (fun ls hl => ?_)
  refine lv_iload_n hx hb d_X9_weigh_15 rfl (lv_at hl 0 rfl) ?_
  refine lv_aload_n hx hb d_X9_weigh_16 rfl (lv_at hl 1 rfl) ?_
  refine va_get (D := D) (ci := 7) (v := .int 0) (C := RX9) (T := TX9) (N := 28) hx hb hg cu_iX9 hown hK.1 hP 2 rfl rfl 3 (by decide) (hg _ k_687) (fun _ h9 => h9) rfl d_X9_weigh_17 ?_
  refine lv_icmp_ge (tgt := 63) hx hb d_X9_weigh_20 (by decide) (fun _ => ?_) (fun c_4 => absurd (by decide +kernel) c_4)
  refine lv_iconst (v := 0) hx hb d_X9_weigh_63 (by decide) ?_
  refine lv_istore_n (lv' := [(1, .int 0), (0, .ref o)]) hx hb d_X9_weigh_64 rfl hl (by decide) rfl (fun ls hl => ?_)
  refine lv_iload_n hx hb d_X9_weigh_65 rfl (lv_at hl 0 rfl) ?_
  refine lv_iconst (v := 1) hx hb d_X9_weigh_66 (by decide) ?_
  refine lv_aload_n hx hb d_X9_weigh_67 rfl (lv_at hl 1 rfl) ?_
  refine va_get (D := D) (ci := 7) (v := .int 0) (C := RX9) (T := TX9) (N := 28) hx hb hg cu_iX9 hown hK.1 hP 2 rfl rfl 26 (by decide) (hg _ k_710) (fun _ h9 => h9) rfl d_X9_weigh_68 ?_
  refine lv_ishl hx hb d_X9_weigh_71 ?_
  refine cu_topi (y := 1) (by decide +kernel) ?_
  refine lv_icmp_ge (tgt := 175) hx hb d_X9_weigh_72 (by decide) (fun c_5 => absurd c_5 (by decide +kernel)) (fun _ => ?_)
  refine lv_iconst (v := 0) hx hb d_X9_weigh_75 (by decide) ?_
  refine lv_istore_n (lv' := [(2, .int 0), (1, .int 0), (0, .ref o)]) hx hb d_X9_weigh_76 rfl hl (by decide) rfl (fun ls hl => ?_)
  refine lv_iconst (v := 0) hx hb d_X9_weigh_77 (by decide) ?_
  refine lv_istore_n (lv' := [(3, .int 0), (2, .int 0), (1, .int 0), (0, .ref o)]) hx hb d_X9_weigh_78 rfl hl (by decide) rfl (fun ls hl => ?_)
  refine lv_iload_n hx hb d_X9_weigh_79 rfl (lv_at hl 0 rfl) ?_
  refine lv_aload_n hx hb d_X9_weigh_80 rfl (lv_at hl 3 rfl) ?_
  refine va_get (D := D) (ci := 7) (v := .int 0) (C := RX9) (T := TX9) (N := 28) hx hb hg cu_iX9 hown hK.1 hP 2 rfl rfl 26 (by decide) (hg _ k_710) (fun _ h9 => h9) rfl d_X9_weigh_81 ?_
  refine lv_icmp_ge (tgt := 116) hx hb d_X9_weigh_84 (by decide) (fun _ => ?_) (fun c_6 => absurd (by decide +kernel) c_6)
  refine lv_iconst (v := 0) hx hb d_X9_weigh_116 (by decide) ?_
  refine lv_istore_n (lv' := [(3, .int 0), (2, .int 0), (1, .int 0), (0, .ref o)]) hx hb d_X9_weigh_117 rfl hl (by decide) rfl (fun ls hl => ?_)
  refine lv_iconst (v := 1) hx hb d_X9_weigh_118 (by decide) ?_
  refine lv_istore (lv' := [(4, .int 1), (3, .int 0), (2, .int 0), (1, .int 0), (0, .ref o)]) hx hb d_X9_weigh_119 hl (by decide) rfl (fun ls hl => ?_)
  have key_7 : ∀ (n_9 j_8 : Nat) (hj_11 : j_8 + n_9 = 1000)  (hi_12 : 1 ≤ j_8) (H : Heap) (locs : List Loc) (ls : Array Slot) (hP : va_P D vwCl [(m3, .inl (cI, 30, .inl (upd (fun _ => 0) 28 (1 : Int32)))), (m14, .inl (cI, 256, .inl (fun _ => 0))), (o, .inr (7, [.int 0, .ref m1, .int 0, .int 0, .int 0, .int 0, .int 0, .ref m2, .ref m3, .ref m4, .ref m5, .int 0, .ref m6, .ref m7, .int 0, .ref m8, .ref m9, .long 0, .ref m10, .ref m11, .ref m12, .int 0, .int 0, .int 0, .int 0, .ref m13, .int 0, .ref m14])), (m10, .inl (cI, 1000, .inl (fun _ => 0)))] H) (hD : va_D A [(m3, .inl (cI, 30, .inl (upd (fun _ => 0) 28 (1 : Int32)))), (m14, .inl (cI, 256, .inl (fun _ => 0))), (o, .inr (7, [.int 0, .ref m1, .int 0, .int 0, .int 0, .int 0, .int 0, .ref m2, .ref m3, .ref m4, .ref m5, .int 0, .ref m6, .ref m7, .int 0, .ref m8, .ref m9, .long 0, .ref m10, .ref m11, .ref m12, .int 0, .int 0, .int 0, .int 0, .ref m13, .int 0, .ref m14])), (m10, .inl (cI, 1000, .inl (fun _ => 0)))]) (hS : va_S A s.heap H locs) (hl : lv_has ls 6 [(4, .int (nI j_8)), (3, .int 0), (2, .int 0), (1, .int 0), (0, .ref o)]), W p l e (cu_rm 1 24 0 0) s m args below meth c H locs 0 0 Q (F0 m 121 ls []) := by
    intro n_9
    induction n_9 with
    | zero =>
      intro j_8 hj_11  hi_12 H locs ls hP hD hS hl
      obtain rfl : 1000 = j_8 := by omega
      have hl : lv_has ls 6 [(4, .int 1000), (3, .int 0), (2, .int 0), (1, .int 0), (0, .ref o)] := hl
      have hP : va_P D vwCl [(m3, .inl (cI, 30, .inl (upd (fun _ => 0) 28 (1 : Int32)))), (m14, .inl (cI, 256, .inl (fun _ => 0))), (o, .inr (7, [.int 0, .ref m1, .int 0, .int 0, .int 0, .int 0, .int 0, .ref m2, .ref m3, .ref m4, .ref m5, .int 0, .ref m6, .ref m7, .int 0, .ref m8, .ref m9, .long 0, .ref m10, .ref m11, .ref m12, .int 0, .int 0, .int 0, .int 0, .ref m13, .int 0, .ref m14])), (m10, .inl (cI, 1000, .inl (fun _ => 0)))] H := hP
      have hD : va_D A [(m3, .inl (cI, 30, .inl (upd (fun _ => 0) 28 (1 : Int32)))), (m14, .inl (cI, 256, .inl (fun _ => 0))), (o, .inr (7, [.int 0, .ref m1, .int 0, .int 0, .int 0, .int 0, .int 0, .ref m2, .ref m3, .ref m4, .ref m5, .int 0, .ref m6, .ref m7, .int 0, .ref m8, .ref m9, .long 0, .ref m10, .ref m11, .ref m12, .int 0, .int 0, .int 0, .int 0, .ref m13, .int 0, .ref m14])), (m10, .inl (cI, 1000, .inl (fun _ => 0)))] := hD
      refine lv_iload hx hb d_X9_weigh_121 (lv_at hl 0 rfl) ?_
      refine lv_sipush (v := 999) hx hb d_X9_weigh_123 (by decide) ?_
      refine lv_icmp_gt (tgt := 162) hx hb d_X9_weigh_126 (by decide) (fun _ => ?_) (fun c_13 => absurd (by decide +kernel) c_13)
      refine lv_aload_n hx hb d_X9_weigh_162 rfl (lv_at hl 4 rfl) ?_
      refine va_get (D := D) (ci := 7) (v := .ref m14) (C := RX9) (T := TX9) (N := 28) hx hb hg cu_iX9 hown hK.1 hP 2 rfl rfl 27 (by decide) (hg _ k_711) (fun _ h9 => h9) rfl d_X9_weigh_163 ?_
      refine lv_iload_n hx hb d_X9_weigh_166 rfl (lv_at hl 3 rfl) ?_
      refine lv_iload_n hx hb d_X9_weigh_167 rfl (lv_at hl 1 rfl) ?_
      refine va_iast hx hb hK.1 hP hD hS 1 0 rfl rfl (vp_in_nI (n := 0) (N := 256) (Nat.le_of_ble_eq_true rfl) (by decide)) d_X9_weigh_168 (fun H locs hP hD hS => ?_)
      have hP : va_P D vwCl [(m3, .inl (cI, 30, .inl (upd (fun _ => 0) 28 (1 : Int32)))), (m14, .inl (cI, 256, .inl (fun _ => 0))), (o, .inr (7, [.int 0, .ref m1, .int 0, .int 0, .int 0, .int 0, .int 0, .ref m2, .ref m3, .ref m4, .ref m5, .int 0, .ref m6, .ref m7, .int 0, .ref m8, .ref m9, .long 0, .ref m10, .ref m11, .ref m12, .int 0, .int 0, .int 0, .int 0, .ref m13, .int 0, .ref m14])), (m10, .inl (cI, 1000, .inl (fun _ => 0)))] H := by rw [cu_updZ] at hP; exact hP
      have hD : va_D A [(m3, .inl (cI, 30, .inl (upd (fun _ => 0) 28 (1 : Int32)))), (m14, .inl (cI, 256, .inl (fun _ => 0))), (o, .inr (7, [.int 0, .ref m1, .int 0, .int 0, .int 0, .int 0, .int 0, .ref m2, .ref m3, .ref m4, .ref m5, .int 0, .ref m6, .ref m7, .int 0, .ref m8, .ref m9, .long 0, .ref m10, .ref m11, .ref m12, .int 0, .int 0, .int 0, .int 0, .ref m13, .int 0, .ref m14])), (m10, .inl (cI, 1000, .inl (fun _ => 0)))] := by rw [cu_updZ] at hD; exact hD
      refine lv_iinc (v := 1) (lv' := [(1, .int 1), (4, .int 1000), (3, .int 0), (2, .int 0), (0, .ref o)]) hx hb d_X9_weigh_169 hl (k := 3) rfl (by decide +kernel) (by decide) rfl (fun ls hl => ?_)
      refine lv_goto (tgt := 65) hx hb d_X9_weigh_172 (by decide) ?_
      refine lv_iload_n hx hb d_X9_weigh_65 rfl (lv_at hl 0 rfl) ?_
      refine lv_iconst (v := 1) hx hb d_X9_weigh_66 (by decide) ?_
      refine lv_aload_n hx hb d_X9_weigh_67 rfl (lv_at hl 4 rfl) ?_
      refine va_get (D := D) (ci := 7) (v := .int 0) (C := RX9) (T := TX9) (N := 28) hx hb hg cu_iX9 hown hK.1 hP 2 rfl rfl 26 (by decide) (hg _ k_710) (fun _ h9 => h9) rfl d_X9_weigh_68 ?_
      refine lv_ishl hx hb d_X9_weigh_71 ?_
      refine cu_topi (y := 1) (by decide +kernel) ?_
      refine lv_icmp_ge (tgt := 175) hx hb d_X9_weigh_72 (by decide) (fun _ => ?_) (fun c_14 => absurd (by decide +kernel) c_14)
      exact hret _ _ _ _ [(o, .inr (7, [.int 0, .ref m1, .int 0, .int 0, .int 0, .int 0, .int 0, .ref m2, .ref m3, .ref m4, .ref m5, .int 0, .ref m6, .ref m7, .int 0, .ref m8, .ref m9, .long 0, .ref m10, .ref m11, .ref m12, .int 0, .int 0, .int 0, .int 0, .ref m13, .int 0, .ref m14])), (m3, .inl (cI, 30, .inl (upd (fun _ => 0) 28 (1 : Int32)))), (m10, .inl (cI, 1000, .inl (fun _ => 0))), (m14, .inl (cI, 256, .inl (fun _ => 0)))] _ _ (hP.sub (ws' := [(o, .inr (7, [.int 0, .ref m1, .int 0, .int 0, .int 0, .int 0, .int 0, .ref m2, .ref m3, .ref m4, .ref m5, .int 0, .ref m6, .ref m7, .int 0, .ref m8, .ref m9, .long 0, .ref m10, .ref m11, .ref m12, .int 0, .int 0, .int 0, .int 0, .ref m13, .int 0, .ref m14])), (m3, .inl (cI, 30, .inl (upd (fun _ => 0) 28 (1 : Int32)))), (m10, .inl (cI, 1000, .inl (fun _ => 0))), (m14, .inl (cI, 256, .inl (fun _ => 0)))]) [2, 0, 3, 1] rfl) (hD.sub (ws' := [(o, .inr (7, [.int 0, .ref m1, .int 0, .int 0, .int 0, .int 0, .int 0, .ref m2, .ref m3, .ref m4, .ref m5, .int 0, .ref m6, .ref m7, .int 0, .ref m8, .ref m9, .long 0, .ref m10, .ref m11, .ref m12, .int 0, .int 0, .int 0, .int 0, .ref m13, .int 0, .ref m14])), (m3, .inl (cI, 30, .inl (upd (fun _ => 0) 28 (1 : Int32)))), (m10, .inl (cI, 1000, .inl (fun _ => 0))), (m14, .inl (cI, 256, .inl (fun _ => 0)))]) [2, 0, 3, 1] (by decide) rfl) hS (Nat.le_of_ble_eq_true rfl) (Nat.le_of_ble_eq_true rfl) d_X9_weigh_175 rfl
    | succ n_9 ih_10 =>
      intro j_8 hj_11  hi_12 H locs ls hP hD hS hl
      refine lv_iload hx hb d_X9_weigh_121 (lv_at hl 0 rfl) ?_
      refine lv_sipush (v := 999) hx hb d_X9_weigh_123 (by decide) ?_
      refine lv_icmp_gt (tgt := 162) hx hb d_X9_weigh_126 (by decide) (fun c_15 => absurd c_15 (mt (nI_ltI (a := 999) (b := j_8) (by omega) (by omega)).mp (by omega))) (fun _ => ?_)
      refine lv_aload_n hx hb d_X9_weigh_129 rfl (lv_at hl 4 rfl) ?_
      refine va_get (D := D) (ci := 7) (v := .ref m10) (C := RX9) (T := TX9) (N := 28) hx hb hg cu_iX9 hown hK.1 hP 2 rfl rfl 18 (by decide) (hg _ k_702) (fun _ h9 => h9) rfl d_X9_weigh_130 ?_
      refine lv_iload hx hb d_X9_weigh_133 (lv_at hl 0 rfl) ?_
      refine va_iald hx hb hK.1 hP 3 0 rfl rfl (vp_in_nI (by omega) (by decide)) d_X9_weigh_135 ?_
      refine cu_topi (y := 0) rfl ?_
      refine lv_iload_n hx hb d_X9_weigh_136 rfl (lv_at hl 2 rfl) ?_
      refine lv_iand hx hb d_X9_weigh_137 ?_
      refine cu_topi (y := 0) (by decide +kernel) ?_
      refine cu_SR (wc := []) (rest := []) [.int 0] ⟨hx, hb, hml, hown, hg⟩ (c_X9_ones l D cI cZ cQ ) hd_X9_ones k_851 k_849 k_850 k_49 ⟨Nat.le_of_ble_eq_true rfl, Nat.le_of_ble_eq_true rfl⟩ ⟨Nat.le_of_ble_eq_true rfl, Nat.le_of_ble_eq_true rfl⟩ hP hK [] rfl rfl hl.1 rfl (Nat.le_of_ble_eq_true rfl) d_X9_weigh_138 (fun r_16 hr_17 => ?_)
      subst hr_17
      refine lv_istore (lv' := [(5, .int 0), (4, .int (nI j_8)), (3, .int 0), (2, .int 0), (1, .int 0), (0, .ref o)]) hx hb d_X9_weigh_141 hl (by decide) rfl (fun ls hl => ?_)
      refine lv_iload hx hb d_X9_weigh_143 (lv_at hl 0 rfl) ?_
      refine lv_iload_n hx hb d_X9_weigh_145 rfl (lv_at hl 2 rfl) ?_
      refine lv_icmp_le (tgt := 154) hx hb d_X9_weigh_146 (by decide) (fun _ => ?_) (fun c_18 => absurd (by decide +kernel) c_18)
      refine lv_iload_n hx hb d_X9_weigh_154 rfl (lv_at hl 2 rfl) ?_
      refine lv_istore_n (lv' := [(3, .int 0), (5, .int 0), (4, .int (nI j_8)), (2, .int 0), (1, .int 0), (0, .ref o)]) hx hb d_X9_weigh_155 rfl hl (by decide) rfl (fun ls hl => ?_)
      refine lv_iinc (v := nI (j_8 + 1)) (lv' := [(4, .int (nI (j_8 + 1))), (3, .int 0), (5, .int 0), (2, .int 0), (1, .int 0), (0, .ref o)]) hx hb d_X9_weigh_156 hl (k := 2) rfl (nI_1 j_8) (by decide) rfl (fun ls hl => ?_)
      refine lv_goto (tgt := 121) hx hb d_X9_weigh_159 (by decide) ?_
      exact ih_10 (j_8 + 1) (by first | rfl | omega)  (by omega) _ _ _ hP hD hS (lv_sub hl [0, 1, 3, 4, 5] rfl)
  exact key_7 999 1 (by first | rfl | omega)  (Nat.le_refl _) _ _ _ hP hD hS (lv_sub hl [0, 1, 2, 3, 4] rfl)
set_option maxHeartbeats 4000000 in
set_option maxRecDepth 100000 in
theorem c_X9_power (l : Launch) (D : va_G) (cI cZ cQ : ClassId) (c1 : Int32) : cu_R l D (cu_TY cI cZ cQ) yX9_power cX9_power 4 .int 0 0 [.int c1, .int 0] [] (fun r => r = 1) := by
  refine cu_R.intro (by decide) (Nat.le_of_ble_eq_true rfl) ?_
  intro p e s m args below meth c Q ls S hret hP hK hl
  obtain ⟨hx, hb, hml, hown, hg⟩ := S
  have hown : s.vm.findClass RX9 = some m.cls := hown
  have hl : lv_has ls 4 [(0, .int c1), (1, .int 0)] := hl
  refine lv_iconst (v := 1) hx hb d_X9_power_0 (by decide) ?_
  refine lv_istore_n (lv' := [(2, .int 1), (0, .int c1), (1, .int 0)]) hx hb d_X9_power_1 rfl hl (by decide) rfl (fun ls hl => ?_)
  refine lv_iconst (v := 0) hx hb d_X9_power_2 (by decide) ?_
  refine lv_istore_n (lv' := [(3, .int 0), (2, .int 1), (0, .int c1), (1, .int 0)]) hx hb d_X9_power_3 rfl hl (by decide) rfl (fun ls hl => ?_)
  refine lv_iload_n hx hb d_X9_power_4 rfl (lv_at hl 0 rfl) ?_
  refine lv_iload_n hx hb d_X9_power_5 rfl (lv_at hl 3 rfl) ?_
  refine lv_icmp_ge (tgt := 19) hx hb d_X9_power_6 (by decide) (fun _ => ?_) (fun c_1 => absurd (by decide +kernel) c_1)
  refine lv_iload_n hx hb d_X9_power_19 rfl (lv_at hl 1 rfl) ?_
  exact hret _ _ _ d_X9_power_20 (rfl) (rfl)
set_option maxHeartbeats 4000000 in
set_option maxRecDepth 100000 in
theorem c_X9_divisor (l : Launch) (D : va_G) (cI cZ cQ : ClassId) : cu_R l D (cu_TY cI cZ cQ) yX9_divisor cX9_divisor 5 .int 0 0 [.int 1, .int 1] [] (fun r => r = 1) := by
  refine cu_R.intro (by decide) (Nat.le_of_ble_eq_true rfl) ?_
  intro p e s m args below meth c Q ls S hret hP hK hl
  obtain ⟨hx, hb, hml, hown, hg⟩ := S
  have hown : s.vm.findClass RX9 = some m.cls := hown
  have hl : lv_has ls 5 [(0, .int 1), (1, .int 1)] := hl
  refine lv_iload_n hx hb d_X9_divisor_0 rfl (lv_at hl 0 rfl) ?_
  refine lv_if_ge (tgt := 9) hx hb d_X9_divisor_1 (by decide) (fun _ => ?_) (fun c_1 => absurd (by decide +kernel) c_1)
  refine lv_iload_n hx hb d_X9_divisor_9 rfl (lv_at hl 0 rfl) ?_
  refine lv_istore_n (lv' := [(2, .int 1), (0, .int 1), (1, .int 1)]) hx hb d_X9_divisor_10 rfl hl (by decide) rfl (fun ls hl => ?_)
  refine lv_iload_n hx hb d_X9_divisor_11 rfl (lv_at hl 2 rfl) ?_
  refine lv_istore_n (lv' := [(3, .int 1), (2, .int 1), (0, .int 1), (1, .int 1)]) hx hb d_X9_divisor_12 rfl hl (by decide) rfl (fun ls hl => ?_)
  refine lv_iload_n hx hb d_X9_divisor_13 rfl (lv_at hl 0 rfl) ?_
  refine lv_if_eq (tgt := 30) hx hb d_X9_divisor_14 (by decide) (fun c_2 => absurd c_2 (by decide +kernel)) (fun _ => ?_)
  refine lv_iload_n hx hb d_X9_divisor_17 rfl (lv_at hl 1 rfl) ?_
  refine lv_iload_n hx hb d_X9_divisor_18 rfl (lv_at hl 0 rfl) ?_
  refine lv_irem hx hb d_X9_divisor_19 (by decide) ?_
  refine cu_topi (y := 0) (by decide +kernel) ?_
  refine lv_istore (lv' := [(4, .int 0), (3, .int 1), (2, .int 1), (0, .int 1), (1, .int 1)]) hx hb d_X9_divisor_20 hl (by decide) rfl (fun ls hl => ?_)
  refine lv_iload_n hx hb d_X9_divisor_22 rfl (lv_at hl 1 rfl) ?_
  refine lv_istore_n (lv' := [(2, .int 1), (4, .int 0), (3, .int 1), (0, .int 1), (1, .int 1)]) hx hb d_X9_divisor_23 rfl hl (by decide) rfl (fun ls hl => ?_)
  refine lv_iload hx hb d_X9_divisor_24 (lv_at hl 1 rfl) ?_
  refine lv_istore_n (lv' := [(3, .int 0), (2, .int 1), (4, .int 0), (0, .int 1), (1, .int 1)]) hx hb d_X9_divisor_26 rfl hl (by decide) rfl (fun ls hl => ?_)
  refine lv_goto (tgt := 13) hx hb d_X9_divisor_27 (by decide) ?_
  refine lv_iload_n hx hb d_X9_divisor_13 rfl (lv_at hl 0 rfl) ?_
  refine lv_if_eq (tgt := 30) hx hb d_X9_divisor_14 (by decide) (fun _ => ?_) (fun c_3 => absurd (by decide +kernel) c_3)
  refine lv_iload_n hx hb d_X9_divisor_30 rfl (lv_at hl 1 rfl) ?_
  exact hret _ _ _ d_X9_divisor_31 (rfl) (rfl)
set_option maxHeartbeats 4000000 in
set_option maxRecDepth 100000 in
theorem c_X9_fraction (l : Launch) (D : va_G) (cI cZ cQ : ClassId) (c1 : Int32) : cu_R l D (cu_TY cI cZ cQ) yX9_fraction cX9_fraction 4 .int 1 24 [.int 1, .int 1, .int c1] [] (fun r => r = 1) := by
  refine cu_R.intro (by decide) (Nat.le_of_ble_eq_true rfl) ?_
  intro p e s m args below meth c Q ls S hret hP hK hl
  obtain ⟨hx, hb, hml, hown, hg⟩ := S
  have hown : s.vm.findClass RX9 = some m.cls := hown
  have hl : lv_has ls 4 [(0, .int 1), (1, .int 1), (2, .int c1)] := hl
  refine lv_iload_n hx hb d_X9_fraction_0 rfl (lv_at hl 0 rfl) ?_
  refine lv_iload_n hx hb d_X9_fraction_1 rfl (lv_at hl 1 rfl) ?_
  refine cu_SR (wc := []) (rest := []) [.int 1, .int 1] ⟨hx, hb, hml, hown, hg⟩ (c_X9_divisor l D cI cZ cQ ) hd_X9_divisor k_992 k_990 k_991 k_49 ⟨Nat.le_of_ble_eq_true rfl, Nat.le_of_ble_eq_true rfl⟩ ⟨Nat.le_of_ble_eq_true rfl, Nat.le_of_ble_eq_true rfl⟩ hP hK [] rfl rfl hl.1 rfl (Nat.le_of_ble_eq_true rfl) d_X9_fraction_2 (fun r_1 hr_2 => ?_)
  subst hr_2
  refine lv_istore_n (lv' := [(3, .int 1), (0, .int 1), (1, .int 1), (2, .int c1)]) hx hb d_X9_fraction_5 rfl hl (by decide) rfl (fun ls hl => ?_)
  refine lv_iload_n hx hb d_X9_fraction_6 rfl (lv_at hl 3 rfl) ?_
  refine lv_if_eq (tgt := 16) hx hb d_X9_fraction_7 (by decide) (fun c_3 => ?_) (fun c_3 => ?_)
  · skip
    refine lv_iload_n hx hb d_X9_fraction_16 rfl (lv_at hl 2 rfl) ?_
    refine lv_iload_n hx hb d_X9_fraction_17 rfl (lv_at hl 0 rfl) ?_
    refine lv_idiv hx hb d_X9_fraction_18 (by decide) ?_
    refine cu_topi (y := 1) (by decide +kernel) ?_
    exact hret _ _ _ d_X9_fraction_19 (rfl) (rfl)
  · skip
    refine lv_iload_n hx hb d_X9_fraction_10 rfl (lv_at hl 1 rfl) ?_
    refine lv_iload_n hx hb d_X9_fraction_11 rfl (lv_at hl 0 rfl) ?_
    refine lv_idiv hx hb d_X9_fraction_12 (by decide) ?_
    refine cu_topi (y := 1) (by decide +kernel) ?_
    refine lv_goto (tgt := 19) hx hb d_X9_fraction_13 (by decide) ?_
    exact hret _ _ _ d_X9_fraction_19 (rfl) (rfl)
set_option maxHeartbeats 4000000 in
set_option maxRecDepth 100000 in
theorem c_X9_lost (l : Launch) (D : va_G) (cI cZ cQ : ClassId) (o m1 m2 m3 m4 m5 m6 m7 m8 m9 m10 m11 m12 m13 m14 : Nat) (c1 c2 : Int32) : cu_W l D (cu_TY cI cZ cQ) yX9_lost cX9_lost 6 .int 2 49 0 0 [.ref o, .int c1, .int c2] [(o, .inr (7, [.int 0, .ref m1, .int 0, .int 0, .int 0, .int 0, .int 0, .ref m2, .ref m3, .ref m4, .ref m5, .int 0, .ref m6, .ref m7, .int 0, .ref m8, .ref m9, .long 0, .ref m10, .ref m11, .ref m12, .int 0, .int 0, .int 0, .int 0, .ref m13, .int 0, .ref m14])), (m3, .inl (cI, 30, .inl (upd (fun _ => 0) 28 (1 : Int32)))), (m10, .inl (cI, 1000, .inl (fun _ => 0))), (m14, .inl (cI, 256, .inl (fun _ => 0)))] (fun r ww => (r = cu_slo c1) ∧ ww = []) := by
  refine cu_W.intro (by decide) (Nat.le_of_ble_eq_true rfl) ?_
  intro p e s m args below meth c Q ls A S hret hP hD hS hA hK hl
  obtain ⟨hx, hb, hml, hown, hg⟩ := S
  have hown : s.vm.findClass RX9 = some m.cls := hown
  have hl : lv_has ls 6 [(0, .ref o), (1, .int c1), (2, .int c2)] := hl
  refine lv_aload_n hx hb d_X9_lost_0 rfl (lv_at hl 0 rfl) ?_
  refine lv_iconst (v := 0) hx hb d_X9_lost_1 (by decide) ?_
  refine va_put (D := D) (ci := 7) (v := .int 0) (ty := .int) (C := RX9) (T := TX9) (N := 28) hx hb hg cu_iX9 tyX9 tyX9_ok nmX9 hown hK.1 hP hD hS 0 rfl rfl 0 (by decide) (hg _ k_684) (fun _ h9 => h9) rfl (by decide +kernel) rfl rfl (Nat.le_of_ble_eq_true rfl) d_X9_lost_2 (fun H locs hP hD hS => ?_)
  have hP : va_P D vwCl [(o, .inr (7, [.int 0, .ref m1, .int 0, .int 0, .int 0, .int 0, .int 0, .ref m2, .ref m3, .ref m4, .ref m5, .int 0, .ref m6, .ref m7, .int 0, .ref m8, .ref m9, .long 0, .ref m10, .ref m11, .ref m12, .int 0, .int 0, .int 0, .int 0, .ref m13, .int 0, .ref m14])), (m3, .inl (cI, 30, .inl (upd (fun _ => 0) 28 (1 : Int32)))), (m10, .inl (cI, 1000, .inl (fun _ => 0))), (m14, .inl (cI, 256, .inl (fun _ => 0)))] H := hP
  have hD : va_D A [(o, .inr (7, [.int 0, .ref m1, .int 0, .int 0, .int 0, .int 0, .int 0, .ref m2, .ref m3, .ref m4, .ref m5, .int 0, .ref m6, .ref m7, .int 0, .ref m8, .ref m9, .long 0, .ref m10, .ref m11, .ref m12, .int 0, .int 0, .int 0, .int 0, .ref m13, .int 0, .ref m14])), (m3, .inl (cI, 30, .inl (upd (fun _ => 0) 28 (1 : Int32)))), (m10, .inl (cI, 1000, .inl (fun _ => 0))), (m14, .inl (cI, 256, .inl (fun _ => 0)))] := hD
  refine lv_iload_n hx hb d_X9_lost_5 rfl (lv_at hl 1 rfl) ?_
  refine lv_i2l (v := c1.toInt64) hx hb d_X9_lost_6 rfl ?_
  refine lv_lconst (v := 0) hx hb d_X9_lost_7 (by decide) ?_
  refine lv_ldc2 (v := 10) hx hb hown (hg _ k_997) d_X9_lost_8 ?_
  refine cu_SR (wc := []) (rest := []) [.long c1.toInt64, .long 0, .long 10] ⟨hx, hb, hml, hown, hg⟩ (c_X9_in l D cI cZ cQ c1.toInt64 0 10) hd_X9_in k_776 k_774 k_775 k_49 ⟨Nat.le_of_ble_eq_true rfl, Nat.le_of_ble_eq_true rfl⟩ ⟨Nat.le_of_ble_eq_true rfl, Nat.le_of_ble_eq_true rfl⟩ hP hK [] rfl rfl hl.1 rfl (Nat.le_of_ble_eq_true rfl) d_X9_lost_11 (fun r_1 hr_2 => ?_)
  replace hr_2 : r_1 = cu_i32 c1 0 10 := by rw [hr_2]; exact cu_inI (by decide) (by decide)
  subst hr_2
  by_cases hc_3 : c1 < 0
  · skip
    refine cu_topi (y := 0) (by unfold cu_i32; rw [if_pos hc_3]) ?_
    refine lv_if_ne (tgt := 20) hx hb d_X9_lost_14 (by decide) (fun c_4 => absurd (by decide +kernel) c_4) (fun _ => ?_)
    refine lv_bipush (v := (-2)) hx hb d_X9_lost_17 (by decide) ?_
    exact hret _ _ _ _ [] _ _ _ (hP.sub (ws' := []) [] rfl) (hD.sub (ws' := []) [] (by decide) rfl) hS (Nat.le_of_ble_eq_true rfl) (Nat.le_of_ble_eq_true rfl) d_X9_lost_19 (rfl) ⟨by unfold cu_slo; rw [if_pos hc_3], rfl⟩
  · skip
    by_cases hc_5 : 10 < c1
    · skip
      refine cu_topi (y := 0) (by unfold cu_i32; rw [if_neg hc_3, if_pos hc_5]) ?_
      refine lv_if_ne (tgt := 20) hx hb d_X9_lost_14 (by decide) (fun c_6 => absurd (by decide +kernel) c_6) (fun _ => ?_)
      refine lv_bipush (v := (-2)) hx hb d_X9_lost_17 (by decide) ?_
      exact hret _ _ _ _ [] _ _ _ (hP.sub (ws' := []) [] rfl) (hD.sub (ws' := []) [] (by decide) rfl) hS (Nat.le_of_ble_eq_true rfl) (Nat.le_of_ble_eq_true rfl) d_X9_lost_19 (rfl) ⟨by unfold cu_slo; rw [if_neg hc_3, if_pos hc_5], rfl⟩
    · skip
      refine cu_topi (y := 1) (by unfold cu_i32; rw [if_neg hc_3, if_neg hc_5]) ?_
      refine lv_if_ne (tgt := 20) hx hb d_X9_lost_14 (by decide) (fun _ => ?_) (fun c_7 => absurd c_7 (by decide +kernel))
      refine lv_aload_n hx hb d_X9_lost_20 rfl (lv_at hl 0 rfl) ?_
      refine lv_aload_n hx hb d_X9_lost_21 rfl (lv_at hl 0 rfl) ?_
      refine va_get (D := D) (ci := 7) (v := .ref m3) (C := RX9) (T := TX9) (N := 28) hx hb hg cu_iX9 hown hK.1 hP 0 rfl rfl 8 (by decide) (hg _ k_692) (fun _ h9 => h9) rfl d_X9_lost_22 ?_
      refine cu_VR (wc := [(o, .inr (7, [.int 0, .ref m1, .int 0, .int 0, .int 0, .int 0, .int 0, .ref m2, .ref m3, .ref m4, .ref m5, .int 0, .ref m6, .ref m7, .int 0, .ref m8, .ref m9, .long 0, .ref m10, .ref m11, .ref m12, .int 0, .int 0, .int 0, .int 0, .ref m13, .int 0, .ref m14])), (m3, .inl (cI, 30, .inl (upd (fun _ => 0) 28 (1 : Int32))))]) (rest := []) [.ref m3] ⟨hx, hb, hml, hown, hg⟩ (c_X9_open l D cI cZ cQ o m1 m2 m3 m4 m5 m6 m7 m8 m9 m10 m11 m12 m13 m14 0 0 0 0 m3 (upd (fun _ => 0) 28 (1 : Int32))) hd_X9_open k_916 k_913 k_915 k_32 k_49 ⟨Nat.le_of_ble_eq_true rfl, Nat.le_of_ble_eq_true rfl⟩ ⟨Nat.le_of_ble_eq_true rfl, Nat.le_of_ble_eq_true rfl⟩ hP hK [0, 1] rfl 0 rfl rfl rfl hl.1 rfl (Nat.le_of_ble_eq_true rfl) d_X9_lost_25 (fun r_8 hr_9 => ?_)
      subst hr_9
      refine cu_SR (wc := []) (rest := []) [.int 0] ⟨hx, hb, hml, hown, hg⟩ (c_X9_ones l D cI cZ cQ ) hd_X9_ones k_851 k_849 k_850 k_49 ⟨Nat.le_of_ble_eq_true rfl, Nat.le_of_ble_eq_true rfl⟩ ⟨Nat.le_of_ble_eq_true rfl, Nat.le_of_ble_eq_true rfl⟩ hP hK [] rfl rfl hl.1 rfl (Nat.le_of_ble_eq_true rfl) d_X9_lost_28 (fun r_10 hr_11 => ?_)
      subst hr_11
      refine lv_bipush (v := 8) hx hb d_X9_lost_31 (by decide) ?_
      refine lv_icmp_le (tgt := 39) hx hb d_X9_lost_33 (by decide) (fun _ => ?_) (fun c_12 => absurd (by decide +kernel) c_12)
      refine lv_aload_n hx hb d_X9_lost_39 rfl (lv_at hl 0 rfl) ?_
      refine cu_VV (wc := [(o, .inr (7, [.int 0, .ref m1, .int 0, .int 0, .int 0, .int 0, .int 0, .ref m2, .ref m3, .ref m4, .ref m5, .int 0, .ref m6, .ref m7, .int 0, .ref m8, .ref m9, .long 0, .ref m10, .ref m11, .ref m12, .int 0, .int 0, .int 0, .int 0, .ref m13, .int 0, .ref m14])), (m3, .inl (cI, 30, .inl (upd (fun _ => 0) 28 (1 : Int32)))), (m10, .inl (cI, 1000, .inl (fun _ => 0))), (m14, .inl (cI, 256, .inl (fun _ => 0)))]) (wr := []) (rest := []) [] ⟨hx, hb, hml, hown, hg⟩ (c_X9_weigh l D cI cZ cQ o m1 m2 m3 m4 m5 m6 m7 m8 m9 m10 m11 m12 m13 m14) hd_X9_weigh k_983 k_980 k_982 k_40 k_49 ⟨Nat.le_of_ble_eq_true rfl, Nat.le_of_ble_eq_true rfl⟩ ⟨Nat.le_of_ble_eq_true rfl, Nat.le_of_ble_eq_true rfl⟩ hP hD hS hA hK [0, 1, 2, 3] [] rfl rfl (by decide) (by decide) (by decide) 0 rfl rfl rfl hl.1 rfl (Nat.le_of_ble_eq_true rfl) d_X9_lost_40 (fun w_15 H locs hw_14 hP hD hS => ?_)
      subst hw_14
      have hP : va_P D vwCl [(o, .inr (7, [.int 0, .ref m1, .int 0, .int 0, .int 0, .int 0, .int 0, .ref m2, .ref m3, .ref m4, .ref m5, .int 0, .ref m6, .ref m7, .int 0, .ref m8, .ref m9, .long 0, .ref m10, .ref m11, .ref m12, .int 0, .int 0, .int 0, .int 0, .ref m13, .int 0, .ref m14])), (m3, .inl (cI, 30, .inl (upd (fun _ => 0) 28 (1 : Int32)))), (m10, .inl (cI, 1000, .inl (fun _ => 0))), (m14, .inl (cI, 256, .inl (fun _ => 0)))] H := hP
      have hD : va_D A [(o, .inr (7, [.int 0, .ref m1, .int 0, .int 0, .int 0, .int 0, .int 0, .ref m2, .ref m3, .ref m4, .ref m5, .int 0, .ref m6, .ref m7, .int 0, .ref m8, .ref m9, .long 0, .ref m10, .ref m11, .ref m12, .int 0, .int 0, .int 0, .int 0, .ref m13, .int 0, .ref m14])), (m3, .inl (cI, 30, .inl (upd (fun _ => 0) 28 (1 : Int32)))), (m10, .inl (cI, 1000, .inl (fun _ => 0))), (m14, .inl (cI, 256, .inl (fun _ => 0)))] := hD
      refine lv_iconst (v := 0) hx hb d_X9_lost_43 (by decide) ?_
      refine lv_istore_n (lv' := [(3, .int 0), (0, .ref o), (1, .int c1), (2, .int c2)]) hx hb d_X9_lost_44 rfl hl (by decide) rfl (fun ls hl => ?_)
      refine lv_iconst (v := 0) hx hb d_X9_lost_45 (by decide) ?_
      refine lv_istore (lv' := [(4, .int 0), (3, .int 0), (0, .ref o), (1, .int c1), (2, .int c2)]) hx hb d_X9_lost_46 hl (by decide) rfl (fun ls hl => ?_)
      refine lv_iload hx hb d_X9_lost_48 (lv_at hl 0 rfl) ?_
      refine lv_iconst (v := 1) hx hb d_X9_lost_50 (by decide) ?_
      refine lv_aload_n hx hb d_X9_lost_51 rfl (lv_at hl 2 rfl) ?_
      refine va_get (D := D) (ci := 7) (v := .int 0) (C := RX9) (T := TX9) (N := 28) hx hb hg cu_iX9 hown hK.1 hP 0 rfl rfl 26 (by decide) (hg _ k_710) (fun _ h9 => h9) rfl d_X9_lost_52 ?_
      refine lv_ishl hx hb d_X9_lost_55 ?_
      refine cu_topi (y := 1) (by decide +kernel) ?_
      refine lv_icmp_ge (tgt := 112) hx hb d_X9_lost_56 (by decide) (fun c_16 => absurd c_16 (by decide +kernel)) (fun _ => ?_)
      refine lv_iload hx hb d_X9_lost_59 (lv_at hl 0 rfl) ?_
      refine cu_SR (wc := []) (rest := []) [.int 0] ⟨hx, hb, hml, hown, hg⟩ (c_X9_ones l D cI cZ cQ ) hd_X9_ones k_851 k_849 k_850 k_49 ⟨Nat.le_of_ble_eq_true rfl, Nat.le_of_ble_eq_true rfl⟩ ⟨Nat.le_of_ble_eq_true rfl, Nat.le_of_ble_eq_true rfl⟩ hP hK [] rfl rfl hl.1 rfl (Nat.le_of_ble_eq_true rfl) d_X9_lost_61 (fun r_17 hr_18 => ?_)
      subst hr_18
      refine lv_istore (lv' := [(5, .int 0), (4, .int 0), (3, .int 0), (0, .ref o), (1, .int c1), (2, .int c2)]) hx hb d_X9_lost_64 hl (by decide) rfl (fun ls hl => ?_)
      refine lv_iload_n hx hb d_X9_lost_66 rfl (lv_at hl 2 rfl) ?_
      refine lv_aload_n hx hb d_X9_lost_67 rfl (lv_at hl 3 rfl) ?_
      refine va_get (D := D) (ci := 7) (v := .ref m14) (C := RX9) (T := TX9) (N := 28) hx hb hg cu_iX9 hown hK.1 hP 0 rfl rfl 27 (by decide) (hg _ k_711) (fun _ h9 => h9) rfl d_X9_lost_68 ?_
      refine lv_iload hx hb d_X9_lost_71 (lv_at hl 1 rfl) ?_
      refine va_iald hx hb hK.1 hP 3 0 rfl rfl (vp_in_nI (n := 0) (N := 256) (Nat.le_of_ble_eq_true rfl) (by decide)) d_X9_lost_73 ?_
      refine cu_topi (y := 0) rfl ?_
      refine lv_iload hx hb d_X9_lost_74 (lv_at hl 0 rfl) ?_
      refine lv_icmp_ne (tgt := 103) hx hb d_X9_lost_76 (by decide) (fun c_19 => absurd (by decide +kernel) c_19) (fun _ => ?_)
      refine lv_bipush (v := 10) hx hb d_X9_lost_79 (by decide) ?_
      refine lv_iload_n hx hb d_X9_lost_81 rfl (lv_at hl 4 rfl) ?_
      refine lv_isub hx hb d_X9_lost_82 ?_
      refine lv_iload hx hb d_X9_lost_83 (lv_at hl 0 rfl) ?_
      refine cu_SR (wc := []) (rest := [.int 0]) [.int (10 - c1), .int 0] ⟨hx, hb, hml, hown, hg⟩ (c_X9_power l D cI cZ cQ (10 - c1)) hd_X9_power k_1000 k_998 k_999 k_49 ⟨Nat.le_of_ble_eq_true rfl, Nat.le_of_ble_eq_true rfl⟩ ⟨Nat.le_of_ble_eq_true rfl, Nat.le_of_ble_eq_true rfl⟩ hP hK [] rfl rfl hl.1 rfl (Nat.le_of_ble_eq_true rfl) d_X9_lost_85 (fun r_20 hr_21 => ?_)
      subst hr_21
      refine lv_iload_n hx hb d_X9_lost_88 rfl (lv_at hl 4 rfl) ?_
      refine lv_aload_n hx hb d_X9_lost_89 rfl (lv_at hl 3 rfl) ?_
      refine va_get (D := D) (ci := 7) (v := .int 0) (C := RX9) (T := TX9) (N := 28) hx hb hg cu_iX9 hown hK.1 hP 0 rfl rfl 26 (by decide) (hg _ k_710) (fun _ h9 => h9) rfl d_X9_lost_90 ?_
      refine lv_iload hx hb d_X9_lost_93 (lv_at hl 0 rfl) ?_
      refine lv_isub hx hb d_X9_lost_95 ?_
      refine cu_topi (y := 0) (by decide +kernel) ?_
      refine cu_SR (wc := []) (rest := [.int 1, .int 0]) [.int c1, .int 0] ⟨hx, hb, hml, hown, hg⟩ (c_X9_power l D cI cZ cQ c1) hd_X9_power k_1000 k_998 k_999 k_49 ⟨Nat.le_of_ble_eq_true rfl, Nat.le_of_ble_eq_true rfl⟩ ⟨Nat.le_of_ble_eq_true rfl, Nat.le_of_ble_eq_true rfl⟩ hP hK [] rfl rfl hl.1 rfl (Nat.le_of_ble_eq_true rfl) d_X9_lost_96 (fun r_22 hr_23 => ?_)
      subst hr_23
      refine lv_imul hx hb d_X9_lost_99 ?_
      refine cu_topi (y := 1) (by decide +kernel) ?_
      refine lv_goto (tgt := 104) hx hb d_X9_lost_100 (by decide) ?_
      refine lv_iadd hx hb d_X9_lost_104 ?_
      refine cu_topi (y := 1) (by decide +kernel) ?_
      refine lv_istore_n (lv' := [(3, .int 1), (5, .int 0), (4, .int 0), (0, .ref o), (1, .int c1), (2, .int c2)]) hx hb d_X9_lost_105 rfl hl (by decide) rfl (fun ls hl => ?_)
      refine lv_iinc (v := 1) (lv' := [(4, .int 1), (3, .int 1), (5, .int 0), (0, .ref o), (1, .int c1), (2, .int c2)]) hx hb d_X9_lost_106 hl (k := 2) rfl (by decide +kernel) (by decide) rfl (fun ls hl => ?_)
      refine lv_goto (tgt := 48) hx hb d_X9_lost_109 (by decide) ?_
      refine lv_iload hx hb d_X9_lost_48 (lv_at hl 0 rfl) ?_
      refine lv_iconst (v := 1) hx hb d_X9_lost_50 (by decide) ?_
      refine lv_aload_n hx hb d_X9_lost_51 rfl (lv_at hl 3 rfl) ?_
      refine va_get (D := D) (ci := 7) (v := .int 0) (C := RX9) (T := TX9) (N := 28) hx hb hg cu_iX9 hown hK.1 hP 0 rfl rfl 26 (by decide) (hg _ k_710) (fun _ h9 => h9) rfl d_X9_lost_52 ?_
      refine lv_ishl hx hb d_X9_lost_55 ?_
      refine cu_topi (y := 1) (by decide +kernel) ?_
      refine lv_icmp_ge (tgt := 112) hx hb d_X9_lost_56 (by decide) (fun _ => ?_) (fun c_24 => absurd (by decide +kernel) c_24)
      refine lv_iload_n hx hb d_X9_lost_112 rfl (lv_at hl 1 rfl) ?_
      refine lv_bipush (v := 10) hx hb d_X9_lost_113 (by decide) ?_
      refine lv_aload_n hx hb d_X9_lost_115 rfl (lv_at hl 3 rfl) ?_
      refine va_get (D := D) (ci := 7) (v := .int 0) (C := RX9) (T := TX9) (N := 28) hx hb hg cu_iX9 hown hK.1 hP 0 rfl rfl 26 (by decide) (hg _ k_710) (fun _ h9 => h9) rfl d_X9_lost_116 ?_
      refine cu_SR (wc := []) (rest := [.int 1]) [.int 10, .int 0] ⟨hx, hb, hml, hown, hg⟩ (c_X9_power l D cI cZ cQ 10) hd_X9_power k_1000 k_998 k_999 k_49 ⟨Nat.le_of_ble_eq_true rfl, Nat.le_of_ble_eq_true rfl⟩ ⟨Nat.le_of_ble_eq_true rfl, Nat.le_of_ble_eq_true rfl⟩ hP hK [] rfl rfl hl.1 rfl (Nat.le_of_ble_eq_true rfl) d_X9_lost_119 (fun r_25 hr_26 => ?_)
      subst hr_26
      refine lv_iload_n hx hb d_X9_lost_122 rfl (lv_at hl 5 rfl) ?_
      refine cu_SR (wc := []) (rest := []) [.int 1, .int 1, .int c2] ⟨hx, hb, hml, hown, hg⟩ (c_X9_fraction l D cI cZ cQ c2) hd_X9_fraction k_989 k_987 k_988 k_49 ⟨Nat.le_of_ble_eq_true rfl, Nat.le_of_ble_eq_true rfl⟩ ⟨Nat.le_of_ble_eq_true rfl, Nat.le_of_ble_eq_true rfl⟩ hP hK [] rfl rfl hl.1 rfl (Nat.le_of_ble_eq_true rfl) d_X9_lost_123 (fun r_27 hr_28 => ?_)
      subst hr_28
      exact hret _ _ _ _ [] _ _ _ (hP.sub (ws' := []) [] rfl) (hD.sub (ws' := []) [] (by decide) rfl) hS (Nat.le_of_ble_eq_true rfl) (Nat.le_of_ble_eq_true rfl) d_X9_lost_126 (rfl) ⟨by unfold cu_slo; rw [if_neg hc_3, if_neg hc_5], rfl⟩
set_option maxHeartbeats 4000000 in
set_option maxRecDepth 100000 in
theorem c_X9_init (l : Launch) (D : va_G) (cI cZ cQ : ClassId) (o : Nat) : cu_V l D (cu_TY cI cZ cQ) yX9_init cX9_init 1 1 12 14 14977 [.ref o] [(o, .inr (7, [.int 0, .null, .int 0, .int 0, .int 0, .int 0, .int 0, .null, .null, .null, .null, .int 0, .null, .null, .int 0, .null, .null, .long 0, .null, .null, .null, .int 0, .int 0, .int 0, .int 0, .null, .int 0, .null]))] (fun ww => ∃ m1 : Nat, ∃ m2 : Nat, ∃ m3 : Nat, ∃ m4 : Nat, ∃ m5 : Nat, ∃ m6 : Nat, ∃ m7 : Nat, ∃ m8 : Nat, ∃ m9 : Nat, ∃ m10 : Nat, ∃ m11 : Nat, ∃ m12 : Nat, ∃ m13 : Nat, ∃ m14 : Nat, ww = [(o, .inr (7, [.int 0, .ref m1, .int 0, .int 0, .int 0, .int 0, .int 0, .ref m2, .ref m3, .ref m4, .ref m5, .int 0, .ref m6, .ref m7, .int 0, .ref m8, .ref m9, .long 0, .ref m10, .ref m11, .ref m12, .int 0, .int 0, .int 0, .int 0, .ref m13, .int 0, .ref m14])), (m1, .inl (cI, 130, .inl (fun _ => 0))), (m2, .inl (cI, 30, .inl (fun _ => 0))), (m3, .inl (cI, 30, .inl (upd (fun _ => 0) 28 (1 : Int32)))), (m4, .inl (cI, 30, .inl (fun _ => 0))), (m5, .inl (cI, 420, .inl (fun _ => 0))), (m6, .inl (cI, 60, .inl (fun _ => 0))), (m7, .inl (cZ, 2, .inl (fun _ => 0))), (m10, .inl (cI, 1000, .inl (fun _ => 0))), (m12, .inl (cI, 999, .inl (fun _ => 0))), (m14, .inl (cI, 256, .inl (fun _ => 0)))]) := by
  refine cu_V.intro (by decide) (Nat.le_of_ble_eq_true rfl) ?_
  intro p e s m args below meth c Q ls A S hin hret hP hD hS hA hK hl
  obtain ⟨hx, hb, hml, hown, hg⟩ := S
  have hown : s.vm.findClass RX9 = some m.cls := hown
  have hin : meth.name = "<init>" := hin
  have hl : lv_has ls 1 [(0, .ref o)] := hl
  refine lv_aload_n hx hb d_X9_init_0 rfl (lv_at hl 0 rfl) ?_
  refine W.objInit hx hb hown (hg _ k_683) (hg _ k_61) (hg _ k_62) rfl (by rw [hml]; exact hl.1) rfl d_X9_init_1 (Nat.le_of_ble_eq_true rfl) (Nat.le_of_ble_eq_true rfl) ?_
  refine W.eq (g2 := F0 m 4 ls []) rfl ?_
  refine lv_aload_n hx hb d_X9_init_4 rfl (lv_at hl 0 rfl) ?_
  refine lv_sipush (v := 130) hx hb d_X9_init_5 (by decide) ?_
  refine cu_newI 130 hx hb (hg _ k_77) hK hP hD hS hA (by decide) (by decide +kernel) (Nat.le_of_ble_eq_true rfl) (Nat.le_of_ble_eq_true rfl) (Nat.le_of_ble_eq_true rfl) d_X9_init_8 (fun q_1 H hP hD hS => ?_)
  have hP : va_P D vwCl [(o, .inr (7, [.int 0, .null, .int 0, .int 0, .int 0, .int 0, .int 0, .null, .null, .null, .null, .int 0, .null, .null, .int 0, .null, .null, .long 0, .null, .null, .null, .int 0, .int 0, .int 0, .int 0, .null, .int 0, .null])), (q_1, .inl (cI, 130, .inl (fun _ => 0)))] H := hP
  have hD : va_D A [(o, .inr (7, [.int 0, .null, .int 0, .int 0, .int 0, .int 0, .int 0, .null, .null, .null, .null, .int 0, .null, .null, .int 0, .null, .null, .long 0, .null, .null, .null, .int 0, .int 0, .int 0, .int 0, .null, .int 0, .null])), (q_1, .inl (cI, 130, .inl (fun _ => 0)))] := hD
  refine W.widen (k := 1) (n := 130) (Nat.le_of_ble_eq_true rfl) (Nat.le_of_ble_eq_true rfl) ?_
  refine va_putF (D := D) (ci := 7) (v := .ref q_1) (ty := .array .int) (C := RX9) (T := TX9) (N := 28) hx hb hg cu_iX9 tyX9 tyX9_ok nmX9 hown hK.1 hP hD hS 0 rfl rfl 1 (by decide) (hg _ k_685) (fun _ h9 => h9) rfl hin rfl (by decide +kernel) rfl rfl (Nat.le_of_ble_eq_true rfl) d_X9_init_10 (fun H locs hP hD hS => ?_)
  have hP : va_P D vwCl [(o, .inr (7, [.int 0, .ref q_1, .int 0, .int 0, .int 0, .int 0, .int 0, .null, .null, .null, .null, .int 0, .null, .null, .int 0, .null, .null, .long 0, .null, .null, .null, .int 0, .int 0, .int 0, .int 0, .null, .int 0, .null])), (q_1, .inl (cI, 130, .inl (fun _ => 0)))] H := hP
  have hD : va_D A [(o, .inr (7, [.int 0, .ref q_1, .int 0, .int 0, .int 0, .int 0, .int 0, .null, .null, .null, .null, .int 0, .null, .null, .int 0, .null, .null, .long 0, .null, .null, .null, .int 0, .int 0, .int 0, .int 0, .null, .int 0, .null])), (q_1, .inl (cI, 130, .inl (fun _ => 0)))] := hD
  refine lv_aload_n hx hb d_X9_init_13 rfl (lv_at hl 0 rfl) ?_
  refine lv_bipush (v := 30) hx hb d_X9_init_14 (by decide) ?_
  refine cu_newI 30 hx hb (hg _ k_77) hK hP hD hS hA (by decide) (by decide +kernel) (Nat.le_of_ble_eq_true rfl) (Nat.le_of_ble_eq_true rfl) (Nat.le_of_ble_eq_true rfl) d_X9_init_16 (fun q_2 H hP hD hS => ?_)
  have hP : va_P D vwCl [(o, .inr (7, [.int 0, .ref q_1, .int 0, .int 0, .int 0, .int 0, .int 0, .null, .null, .null, .null, .int 0, .null, .null, .int 0, .null, .null, .long 0, .null, .null, .null, .int 0, .int 0, .int 0, .int 0, .null, .int 0, .null])), (q_1, .inl (cI, 130, .inl (fun _ => 0))), (q_2, .inl (cI, 30, .inl (fun _ => 0)))] H := hP
  have hD : va_D A [(o, .inr (7, [.int 0, .ref q_1, .int 0, .int 0, .int 0, .int 0, .int 0, .null, .null, .null, .null, .int 0, .null, .null, .int 0, .null, .null, .long 0, .null, .null, .null, .int 0, .int 0, .int 0, .int 0, .null, .int 0, .null])), (q_1, .inl (cI, 130, .inl (fun _ => 0))), (q_2, .inl (cI, 30, .inl (fun _ => 0)))] := hD
  refine W.widen (k := 2) (n := 160) (Nat.le_of_ble_eq_true rfl) (Nat.le_of_ble_eq_true rfl) ?_
  refine va_putF (D := D) (ci := 7) (v := .ref q_2) (ty := .array .int) (C := RX9) (T := TX9) (N := 28) hx hb hg cu_iX9 tyX9 tyX9_ok nmX9 hown hK.1 hP hD hS 0 rfl rfl 7 (by decide) (hg _ k_691) (fun _ h9 => h9) rfl hin rfl (by decide +kernel) rfl rfl (Nat.le_of_ble_eq_true rfl) d_X9_init_18 (fun H locs hP hD hS => ?_)
  have hP : va_P D vwCl [(o, .inr (7, [.int 0, .ref q_1, .int 0, .int 0, .int 0, .int 0, .int 0, .ref q_2, .null, .null, .null, .int 0, .null, .null, .int 0, .null, .null, .long 0, .null, .null, .null, .int 0, .int 0, .int 0, .int 0, .null, .int 0, .null])), (q_1, .inl (cI, 130, .inl (fun _ => 0))), (q_2, .inl (cI, 30, .inl (fun _ => 0)))] H := hP
  have hD : va_D A [(o, .inr (7, [.int 0, .ref q_1, .int 0, .int 0, .int 0, .int 0, .int 0, .ref q_2, .null, .null, .null, .int 0, .null, .null, .int 0, .null, .null, .long 0, .null, .null, .null, .int 0, .int 0, .int 0, .int 0, .null, .int 0, .null])), (q_1, .inl (cI, 130, .inl (fun _ => 0))), (q_2, .inl (cI, 30, .inl (fun _ => 0)))] := hD
  refine lv_aload_n hx hb d_X9_init_21 rfl (lv_at hl 0 rfl) ?_
  refine lv_bipush (v := 30) hx hb d_X9_init_22 (by decide) ?_
  refine cu_newI 30 hx hb (hg _ k_77) hK hP hD hS hA (by decide) (by decide +kernel) (Nat.le_of_ble_eq_true rfl) (Nat.le_of_ble_eq_true rfl) (Nat.le_of_ble_eq_true rfl) d_X9_init_24 (fun q_3 H hP hD hS => ?_)
  have hP : va_P D vwCl [(o, .inr (7, [.int 0, .ref q_1, .int 0, .int 0, .int 0, .int 0, .int 0, .ref q_2, .null, .null, .null, .int 0, .null, .null, .int 0, .null, .null, .long 0, .null, .null, .null, .int 0, .int 0, .int 0, .int 0, .null, .int 0, .null])), (q_1, .inl (cI, 130, .inl (fun _ => 0))), (q_2, .inl (cI, 30, .inl (fun _ => 0))), (q_3, .inl (cI, 30, .inl (fun _ => 0)))] H := hP
  have hD : va_D A [(o, .inr (7, [.int 0, .ref q_1, .int 0, .int 0, .int 0, .int 0, .int 0, .ref q_2, .null, .null, .null, .int 0, .null, .null, .int 0, .null, .null, .long 0, .null, .null, .null, .int 0, .int 0, .int 0, .int 0, .null, .int 0, .null])), (q_1, .inl (cI, 130, .inl (fun _ => 0))), (q_2, .inl (cI, 30, .inl (fun _ => 0))), (q_3, .inl (cI, 30, .inl (fun _ => 0)))] := hD
  refine W.widen (k := 3) (n := 190) (Nat.le_of_ble_eq_true rfl) (Nat.le_of_ble_eq_true rfl) ?_
  refine va_putF (D := D) (ci := 7) (v := .ref q_3) (ty := .array .int) (C := RX9) (T := TX9) (N := 28) hx hb hg cu_iX9 tyX9 tyX9_ok nmX9 hown hK.1 hP hD hS 0 rfl rfl 8 (by decide) (hg _ k_692) (fun _ h9 => h9) rfl hin rfl (by decide +kernel) rfl rfl (Nat.le_of_ble_eq_true rfl) d_X9_init_26 (fun H locs hP hD hS => ?_)
  have hP : va_P D vwCl [(o, .inr (7, [.int 0, .ref q_1, .int 0, .int 0, .int 0, .int 0, .int 0, .ref q_2, .ref q_3, .null, .null, .int 0, .null, .null, .int 0, .null, .null, .long 0, .null, .null, .null, .int 0, .int 0, .int 0, .int 0, .null, .int 0, .null])), (q_1, .inl (cI, 130, .inl (fun _ => 0))), (q_2, .inl (cI, 30, .inl (fun _ => 0))), (q_3, .inl (cI, 30, .inl (fun _ => 0)))] H := hP
  have hD : va_D A [(o, .inr (7, [.int 0, .ref q_1, .int 0, .int 0, .int 0, .int 0, .int 0, .ref q_2, .ref q_3, .null, .null, .int 0, .null, .null, .int 0, .null, .null, .long 0, .null, .null, .null, .int 0, .int 0, .int 0, .int 0, .null, .int 0, .null])), (q_1, .inl (cI, 130, .inl (fun _ => 0))), (q_2, .inl (cI, 30, .inl (fun _ => 0))), (q_3, .inl (cI, 30, .inl (fun _ => 0)))] := hD
  refine lv_aload_n hx hb d_X9_init_29 rfl (lv_at hl 0 rfl) ?_
  refine lv_bipush (v := 30) hx hb d_X9_init_30 (by decide) ?_
  refine cu_newI 30 hx hb (hg _ k_77) hK hP hD hS hA (by decide) (by decide +kernel) (Nat.le_of_ble_eq_true rfl) (Nat.le_of_ble_eq_true rfl) (Nat.le_of_ble_eq_true rfl) d_X9_init_32 (fun q_4 H hP hD hS => ?_)
  have hP : va_P D vwCl [(o, .inr (7, [.int 0, .ref q_1, .int 0, .int 0, .int 0, .int 0, .int 0, .ref q_2, .ref q_3, .null, .null, .int 0, .null, .null, .int 0, .null, .null, .long 0, .null, .null, .null, .int 0, .int 0, .int 0, .int 0, .null, .int 0, .null])), (q_1, .inl (cI, 130, .inl (fun _ => 0))), (q_2, .inl (cI, 30, .inl (fun _ => 0))), (q_3, .inl (cI, 30, .inl (fun _ => 0))), (q_4, .inl (cI, 30, .inl (fun _ => 0)))] H := hP
  have hD : va_D A [(o, .inr (7, [.int 0, .ref q_1, .int 0, .int 0, .int 0, .int 0, .int 0, .ref q_2, .ref q_3, .null, .null, .int 0, .null, .null, .int 0, .null, .null, .long 0, .null, .null, .null, .int 0, .int 0, .int 0, .int 0, .null, .int 0, .null])), (q_1, .inl (cI, 130, .inl (fun _ => 0))), (q_2, .inl (cI, 30, .inl (fun _ => 0))), (q_3, .inl (cI, 30, .inl (fun _ => 0))), (q_4, .inl (cI, 30, .inl (fun _ => 0)))] := hD
  refine W.widen (k := 4) (n := 220) (Nat.le_of_ble_eq_true rfl) (Nat.le_of_ble_eq_true rfl) ?_
  refine va_putF (D := D) (ci := 7) (v := .ref q_4) (ty := .array .int) (C := RX9) (T := TX9) (N := 28) hx hb hg cu_iX9 tyX9 tyX9_ok nmX9 hown hK.1 hP hD hS 0 rfl rfl 9 (by decide) (hg _ k_693) (fun _ h9 => h9) rfl hin rfl (by decide +kernel) rfl rfl (Nat.le_of_ble_eq_true rfl) d_X9_init_34 (fun H locs hP hD hS => ?_)
  have hP : va_P D vwCl [(o, .inr (7, [.int 0, .ref q_1, .int 0, .int 0, .int 0, .int 0, .int 0, .ref q_2, .ref q_3, .ref q_4, .null, .int 0, .null, .null, .int 0, .null, .null, .long 0, .null, .null, .null, .int 0, .int 0, .int 0, .int 0, .null, .int 0, .null])), (q_1, .inl (cI, 130, .inl (fun _ => 0))), (q_2, .inl (cI, 30, .inl (fun _ => 0))), (q_3, .inl (cI, 30, .inl (fun _ => 0))), (q_4, .inl (cI, 30, .inl (fun _ => 0)))] H := hP
  have hD : va_D A [(o, .inr (7, [.int 0, .ref q_1, .int 0, .int 0, .int 0, .int 0, .int 0, .ref q_2, .ref q_3, .ref q_4, .null, .int 0, .null, .null, .int 0, .null, .null, .long 0, .null, .null, .null, .int 0, .int 0, .int 0, .int 0, .null, .int 0, .null])), (q_1, .inl (cI, 130, .inl (fun _ => 0))), (q_2, .inl (cI, 30, .inl (fun _ => 0))), (q_3, .inl (cI, 30, .inl (fun _ => 0))), (q_4, .inl (cI, 30, .inl (fun _ => 0)))] := hD
  refine lv_aload_n hx hb d_X9_init_37 rfl (lv_at hl 0 rfl) ?_
  refine lv_sipush (v := 420) hx hb d_X9_init_38 (by decide) ?_
  refine cu_newI 420 hx hb (hg _ k_77) hK hP hD hS hA (by decide) (by decide +kernel) (Nat.le_of_ble_eq_true rfl) (Nat.le_of_ble_eq_true rfl) (Nat.le_of_ble_eq_true rfl) d_X9_init_41 (fun q_5 H hP hD hS => ?_)
  have hP : va_P D vwCl [(o, .inr (7, [.int 0, .ref q_1, .int 0, .int 0, .int 0, .int 0, .int 0, .ref q_2, .ref q_3, .ref q_4, .null, .int 0, .null, .null, .int 0, .null, .null, .long 0, .null, .null, .null, .int 0, .int 0, .int 0, .int 0, .null, .int 0, .null])), (q_1, .inl (cI, 130, .inl (fun _ => 0))), (q_2, .inl (cI, 30, .inl (fun _ => 0))), (q_3, .inl (cI, 30, .inl (fun _ => 0))), (q_4, .inl (cI, 30, .inl (fun _ => 0))), (q_5, .inl (cI, 420, .inl (fun _ => 0)))] H := hP
  have hD : va_D A [(o, .inr (7, [.int 0, .ref q_1, .int 0, .int 0, .int 0, .int 0, .int 0, .ref q_2, .ref q_3, .ref q_4, .null, .int 0, .null, .null, .int 0, .null, .null, .long 0, .null, .null, .null, .int 0, .int 0, .int 0, .int 0, .null, .int 0, .null])), (q_1, .inl (cI, 130, .inl (fun _ => 0))), (q_2, .inl (cI, 30, .inl (fun _ => 0))), (q_3, .inl (cI, 30, .inl (fun _ => 0))), (q_4, .inl (cI, 30, .inl (fun _ => 0))), (q_5, .inl (cI, 420, .inl (fun _ => 0)))] := hD
  refine W.widen (k := 5) (n := 640) (Nat.le_of_ble_eq_true rfl) (Nat.le_of_ble_eq_true rfl) ?_
  refine va_putF (D := D) (ci := 7) (v := .ref q_5) (ty := .array .int) (C := RX9) (T := TX9) (N := 28) hx hb hg cu_iX9 tyX9 tyX9_ok nmX9 hown hK.1 hP hD hS 0 rfl rfl 10 (by decide) (hg _ k_694) (fun _ h9 => h9) rfl hin rfl (by decide +kernel) rfl rfl (Nat.le_of_ble_eq_true rfl) d_X9_init_43 (fun H locs hP hD hS => ?_)
  have hP : va_P D vwCl [(o, .inr (7, [.int 0, .ref q_1, .int 0, .int 0, .int 0, .int 0, .int 0, .ref q_2, .ref q_3, .ref q_4, .ref q_5, .int 0, .null, .null, .int 0, .null, .null, .long 0, .null, .null, .null, .int 0, .int 0, .int 0, .int 0, .null, .int 0, .null])), (q_1, .inl (cI, 130, .inl (fun _ => 0))), (q_2, .inl (cI, 30, .inl (fun _ => 0))), (q_3, .inl (cI, 30, .inl (fun _ => 0))), (q_4, .inl (cI, 30, .inl (fun _ => 0))), (q_5, .inl (cI, 420, .inl (fun _ => 0)))] H := hP
  have hD : va_D A [(o, .inr (7, [.int 0, .ref q_1, .int 0, .int 0, .int 0, .int 0, .int 0, .ref q_2, .ref q_3, .ref q_4, .ref q_5, .int 0, .null, .null, .int 0, .null, .null, .long 0, .null, .null, .null, .int 0, .int 0, .int 0, .int 0, .null, .int 0, .null])), (q_1, .inl (cI, 130, .inl (fun _ => 0))), (q_2, .inl (cI, 30, .inl (fun _ => 0))), (q_3, .inl (cI, 30, .inl (fun _ => 0))), (q_4, .inl (cI, 30, .inl (fun _ => 0))), (q_5, .inl (cI, 420, .inl (fun _ => 0)))] := hD
  refine lv_aload_n hx hb d_X9_init_46 rfl (lv_at hl 0 rfl) ?_
  refine lv_bipush (v := 60) hx hb d_X9_init_47 (by decide) ?_
  refine cu_newI 60 hx hb (hg _ k_77) hK hP hD hS hA (by decide) (by decide +kernel) (Nat.le_of_ble_eq_true rfl) (Nat.le_of_ble_eq_true rfl) (Nat.le_of_ble_eq_true rfl) d_X9_init_49 (fun q_6 H hP hD hS => ?_)
  have hP : va_P D vwCl [(o, .inr (7, [.int 0, .ref q_1, .int 0, .int 0, .int 0, .int 0, .int 0, .ref q_2, .ref q_3, .ref q_4, .ref q_5, .int 0, .null, .null, .int 0, .null, .null, .long 0, .null, .null, .null, .int 0, .int 0, .int 0, .int 0, .null, .int 0, .null])), (q_1, .inl (cI, 130, .inl (fun _ => 0))), (q_2, .inl (cI, 30, .inl (fun _ => 0))), (q_3, .inl (cI, 30, .inl (fun _ => 0))), (q_4, .inl (cI, 30, .inl (fun _ => 0))), (q_5, .inl (cI, 420, .inl (fun _ => 0))), (q_6, .inl (cI, 60, .inl (fun _ => 0)))] H := hP
  have hD : va_D A [(o, .inr (7, [.int 0, .ref q_1, .int 0, .int 0, .int 0, .int 0, .int 0, .ref q_2, .ref q_3, .ref q_4, .ref q_5, .int 0, .null, .null, .int 0, .null, .null, .long 0, .null, .null, .null, .int 0, .int 0, .int 0, .int 0, .null, .int 0, .null])), (q_1, .inl (cI, 130, .inl (fun _ => 0))), (q_2, .inl (cI, 30, .inl (fun _ => 0))), (q_3, .inl (cI, 30, .inl (fun _ => 0))), (q_4, .inl (cI, 30, .inl (fun _ => 0))), (q_5, .inl (cI, 420, .inl (fun _ => 0))), (q_6, .inl (cI, 60, .inl (fun _ => 0)))] := hD
  refine W.widen (k := 6) (n := 700) (Nat.le_of_ble_eq_true rfl) (Nat.le_of_ble_eq_true rfl) ?_
  refine va_putF (D := D) (ci := 7) (v := .ref q_6) (ty := .array .int) (C := RX9) (T := TX9) (N := 28) hx hb hg cu_iX9 tyX9 tyX9_ok nmX9 hown hK.1 hP hD hS 0 rfl rfl 12 (by decide) (hg _ k_696) (fun _ h9 => h9) rfl hin rfl (by decide +kernel) rfl rfl (Nat.le_of_ble_eq_true rfl) d_X9_init_51 (fun H locs hP hD hS => ?_)
  have hP : va_P D vwCl [(o, .inr (7, [.int 0, .ref q_1, .int 0, .int 0, .int 0, .int 0, .int 0, .ref q_2, .ref q_3, .ref q_4, .ref q_5, .int 0, .ref q_6, .null, .int 0, .null, .null, .long 0, .null, .null, .null, .int 0, .int 0, .int 0, .int 0, .null, .int 0, .null])), (q_1, .inl (cI, 130, .inl (fun _ => 0))), (q_2, .inl (cI, 30, .inl (fun _ => 0))), (q_3, .inl (cI, 30, .inl (fun _ => 0))), (q_4, .inl (cI, 30, .inl (fun _ => 0))), (q_5, .inl (cI, 420, .inl (fun _ => 0))), (q_6, .inl (cI, 60, .inl (fun _ => 0)))] H := hP
  have hD : va_D A [(o, .inr (7, [.int 0, .ref q_1, .int 0, .int 0, .int 0, .int 0, .int 0, .ref q_2, .ref q_3, .ref q_4, .ref q_5, .int 0, .ref q_6, .null, .int 0, .null, .null, .long 0, .null, .null, .null, .int 0, .int 0, .int 0, .int 0, .null, .int 0, .null])), (q_1, .inl (cI, 130, .inl (fun _ => 0))), (q_2, .inl (cI, 30, .inl (fun _ => 0))), (q_3, .inl (cI, 30, .inl (fun _ => 0))), (q_4, .inl (cI, 30, .inl (fun _ => 0))), (q_5, .inl (cI, 420, .inl (fun _ => 0))), (q_6, .inl (cI, 60, .inl (fun _ => 0)))] := hD
  refine lv_aload_n hx hb d_X9_init_54 rfl (lv_at hl 0 rfl) ?_
  refine lv_iconst (v := 2) hx hb d_X9_init_55 (by decide) ?_
  refine cu_newZ 2 hx hb (hg _ k_177) hK hP hD hS hA (by decide) (by decide +kernel) (Nat.le_of_ble_eq_true rfl) (Nat.le_of_ble_eq_true rfl) (Nat.le_of_ble_eq_true rfl) d_X9_init_56 (fun q_7 H hP hD hS => ?_)
  have hP : va_P D vwCl [(o, .inr (7, [.int 0, .ref q_1, .int 0, .int 0, .int 0, .int 0, .int 0, .ref q_2, .ref q_3, .ref q_4, .ref q_5, .int 0, .ref q_6, .null, .int 0, .null, .null, .long 0, .null, .null, .null, .int 0, .int 0, .int 0, .int 0, .null, .int 0, .null])), (q_1, .inl (cI, 130, .inl (fun _ => 0))), (q_2, .inl (cI, 30, .inl (fun _ => 0))), (q_3, .inl (cI, 30, .inl (fun _ => 0))), (q_4, .inl (cI, 30, .inl (fun _ => 0))), (q_5, .inl (cI, 420, .inl (fun _ => 0))), (q_6, .inl (cI, 60, .inl (fun _ => 0))), (q_7, .inl (cZ, 2, .inl (fun _ => 0)))] H := hP
  have hD : va_D A [(o, .inr (7, [.int 0, .ref q_1, .int 0, .int 0, .int 0, .int 0, .int 0, .ref q_2, .ref q_3, .ref q_4, .ref q_5, .int 0, .ref q_6, .null, .int 0, .null, .null, .long 0, .null, .null, .null, .int 0, .int 0, .int 0, .int 0, .null, .int 0, .null])), (q_1, .inl (cI, 130, .inl (fun _ => 0))), (q_2, .inl (cI, 30, .inl (fun _ => 0))), (q_3, .inl (cI, 30, .inl (fun _ => 0))), (q_4, .inl (cI, 30, .inl (fun _ => 0))), (q_5, .inl (cI, 420, .inl (fun _ => 0))), (q_6, .inl (cI, 60, .inl (fun _ => 0))), (q_7, .inl (cZ, 2, .inl (fun _ => 0)))] := hD
  refine W.widen (k := 7) (n := 702) (Nat.le_of_ble_eq_true rfl) (Nat.le_of_ble_eq_true rfl) ?_
  refine va_putF (D := D) (ci := 7) (v := .ref q_7) (ty := .array .boolean) (C := RX9) (T := TX9) (N := 28) hx hb hg cu_iX9 tyX9 tyX9_ok nmX9 hown hK.1 hP hD hS 0 rfl rfl 13 (by decide) (hg _ k_697) (fun _ h9 => h9) rfl hin rfl (by decide +kernel) rfl rfl (Nat.le_of_ble_eq_true rfl) d_X9_init_58 (fun H locs hP hD hS => ?_)
  have hP : va_P D vwCl [(o, .inr (7, [.int 0, .ref q_1, .int 0, .int 0, .int 0, .int 0, .int 0, .ref q_2, .ref q_3, .ref q_4, .ref q_5, .int 0, .ref q_6, .ref q_7, .int 0, .null, .null, .long 0, .null, .null, .null, .int 0, .int 0, .int 0, .int 0, .null, .int 0, .null])), (q_1, .inl (cI, 130, .inl (fun _ => 0))), (q_2, .inl (cI, 30, .inl (fun _ => 0))), (q_3, .inl (cI, 30, .inl (fun _ => 0))), (q_4, .inl (cI, 30, .inl (fun _ => 0))), (q_5, .inl (cI, 420, .inl (fun _ => 0))), (q_6, .inl (cI, 60, .inl (fun _ => 0))), (q_7, .inl (cZ, 2, .inl (fun _ => 0)))] H := hP
  have hD : va_D A [(o, .inr (7, [.int 0, .ref q_1, .int 0, .int 0, .int 0, .int 0, .int 0, .ref q_2, .ref q_3, .ref q_4, .ref q_5, .int 0, .ref q_6, .ref q_7, .int 0, .null, .null, .long 0, .null, .null, .null, .int 0, .int 0, .int 0, .int 0, .null, .int 0, .null])), (q_1, .inl (cI, 130, .inl (fun _ => 0))), (q_2, .inl (cI, 30, .inl (fun _ => 0))), (q_3, .inl (cI, 30, .inl (fun _ => 0))), (q_4, .inl (cI, 30, .inl (fun _ => 0))), (q_5, .inl (cI, 420, .inl (fun _ => 0))), (q_6, .inl (cI, 60, .inl (fun _ => 0))), (q_7, .inl (cZ, 2, .inl (fun _ => 0)))] := hD
  refine lv_aload_n hx hb d_X9_init_61 rfl (lv_at hl 0 rfl) ?_
  refine lv_bipush (v := 6) hx hb d_X9_init_62 (by decide) ?_
  refine cu_newI 6 hx hb (hg _ k_77) hK hP hD hS hA (by decide) (by decide +kernel) (Nat.le_of_ble_eq_true rfl) (Nat.le_of_ble_eq_true rfl) (Nat.le_of_ble_eq_true rfl) d_X9_init_64 (fun q_8 H hP hD hS => ?_)
  have hP : va_P D vwCl [(o, .inr (7, [.int 0, .ref q_1, .int 0, .int 0, .int 0, .int 0, .int 0, .ref q_2, .ref q_3, .ref q_4, .ref q_5, .int 0, .ref q_6, .ref q_7, .int 0, .null, .null, .long 0, .null, .null, .null, .int 0, .int 0, .int 0, .int 0, .null, .int 0, .null])), (q_1, .inl (cI, 130, .inl (fun _ => 0))), (q_2, .inl (cI, 30, .inl (fun _ => 0))), (q_3, .inl (cI, 30, .inl (fun _ => 0))), (q_4, .inl (cI, 30, .inl (fun _ => 0))), (q_5, .inl (cI, 420, .inl (fun _ => 0))), (q_6, .inl (cI, 60, .inl (fun _ => 0))), (q_7, .inl (cZ, 2, .inl (fun _ => 0))), (q_8, .inl (cI, 6, .inl (fun _ => 0)))] H := hP
  have hD : va_D A [(o, .inr (7, [.int 0, .ref q_1, .int 0, .int 0, .int 0, .int 0, .int 0, .ref q_2, .ref q_3, .ref q_4, .ref q_5, .int 0, .ref q_6, .ref q_7, .int 0, .null, .null, .long 0, .null, .null, .null, .int 0, .int 0, .int 0, .int 0, .null, .int 0, .null])), (q_1, .inl (cI, 130, .inl (fun _ => 0))), (q_2, .inl (cI, 30, .inl (fun _ => 0))), (q_3, .inl (cI, 30, .inl (fun _ => 0))), (q_4, .inl (cI, 30, .inl (fun _ => 0))), (q_5, .inl (cI, 420, .inl (fun _ => 0))), (q_6, .inl (cI, 60, .inl (fun _ => 0))), (q_7, .inl (cZ, 2, .inl (fun _ => 0))), (q_8, .inl (cI, 6, .inl (fun _ => 0)))] := hD
  refine W.widen (k := 8) (n := 708) (Nat.le_of_ble_eq_true rfl) (Nat.le_of_ble_eq_true rfl) ?_
  refine va_putF (D := D) (ci := 7) (v := .ref q_8) (ty := .array .int) (C := RX9) (T := TX9) (N := 28) hx hb hg cu_iX9 tyX9 tyX9_ok nmX9 hown hK.1 hP hD hS 0 rfl rfl 15 (by decide) (hg _ k_699) (fun _ h9 => h9) rfl hin rfl (by decide +kernel) rfl rfl (Nat.le_of_ble_eq_true rfl) d_X9_init_66 (fun H locs hP hD hS => ?_)
  have hP : va_P D vwCl [(o, .inr (7, [.int 0, .ref q_1, .int 0, .int 0, .int 0, .int 0, .int 0, .ref q_2, .ref q_3, .ref q_4, .ref q_5, .int 0, .ref q_6, .ref q_7, .int 0, .ref q_8, .null, .long 0, .null, .null, .null, .int 0, .int 0, .int 0, .int 0, .null, .int 0, .null])), (q_1, .inl (cI, 130, .inl (fun _ => 0))), (q_2, .inl (cI, 30, .inl (fun _ => 0))), (q_3, .inl (cI, 30, .inl (fun _ => 0))), (q_4, .inl (cI, 30, .inl (fun _ => 0))), (q_5, .inl (cI, 420, .inl (fun _ => 0))), (q_6, .inl (cI, 60, .inl (fun _ => 0))), (q_7, .inl (cZ, 2, .inl (fun _ => 0))), (q_8, .inl (cI, 6, .inl (fun _ => 0)))] H := hP
  have hD : va_D A [(o, .inr (7, [.int 0, .ref q_1, .int 0, .int 0, .int 0, .int 0, .int 0, .ref q_2, .ref q_3, .ref q_4, .ref q_5, .int 0, .ref q_6, .ref q_7, .int 0, .ref q_8, .null, .long 0, .null, .null, .null, .int 0, .int 0, .int 0, .int 0, .null, .int 0, .null])), (q_1, .inl (cI, 130, .inl (fun _ => 0))), (q_2, .inl (cI, 30, .inl (fun _ => 0))), (q_3, .inl (cI, 30, .inl (fun _ => 0))), (q_4, .inl (cI, 30, .inl (fun _ => 0))), (q_5, .inl (cI, 420, .inl (fun _ => 0))), (q_6, .inl (cI, 60, .inl (fun _ => 0))), (q_7, .inl (cZ, 2, .inl (fun _ => 0))), (q_8, .inl (cI, 6, .inl (fun _ => 0)))] := hD
  refine lv_aload_n hx hb d_X9_init_69 rfl (lv_at hl 0 rfl) ?_
  refine lv_bipush (v := 6) hx hb d_X9_init_70 (by decide) ?_
  refine cu_newI 6 hx hb (hg _ k_77) hK hP hD hS hA (by decide) (by decide +kernel) (Nat.le_of_ble_eq_true rfl) (Nat.le_of_ble_eq_true rfl) (Nat.le_of_ble_eq_true rfl) d_X9_init_72 (fun q_9 H hP hD hS => ?_)
  have hP : va_P D vwCl [(o, .inr (7, [.int 0, .ref q_1, .int 0, .int 0, .int 0, .int 0, .int 0, .ref q_2, .ref q_3, .ref q_4, .ref q_5, .int 0, .ref q_6, .ref q_7, .int 0, .ref q_8, .null, .long 0, .null, .null, .null, .int 0, .int 0, .int 0, .int 0, .null, .int 0, .null])), (q_1, .inl (cI, 130, .inl (fun _ => 0))), (q_2, .inl (cI, 30, .inl (fun _ => 0))), (q_3, .inl (cI, 30, .inl (fun _ => 0))), (q_4, .inl (cI, 30, .inl (fun _ => 0))), (q_5, .inl (cI, 420, .inl (fun _ => 0))), (q_6, .inl (cI, 60, .inl (fun _ => 0))), (q_7, .inl (cZ, 2, .inl (fun _ => 0))), (q_8, .inl (cI, 6, .inl (fun _ => 0))), (q_9, .inl (cI, 6, .inl (fun _ => 0)))] H := hP
  have hD : va_D A [(o, .inr (7, [.int 0, .ref q_1, .int 0, .int 0, .int 0, .int 0, .int 0, .ref q_2, .ref q_3, .ref q_4, .ref q_5, .int 0, .ref q_6, .ref q_7, .int 0, .ref q_8, .null, .long 0, .null, .null, .null, .int 0, .int 0, .int 0, .int 0, .null, .int 0, .null])), (q_1, .inl (cI, 130, .inl (fun _ => 0))), (q_2, .inl (cI, 30, .inl (fun _ => 0))), (q_3, .inl (cI, 30, .inl (fun _ => 0))), (q_4, .inl (cI, 30, .inl (fun _ => 0))), (q_5, .inl (cI, 420, .inl (fun _ => 0))), (q_6, .inl (cI, 60, .inl (fun _ => 0))), (q_7, .inl (cZ, 2, .inl (fun _ => 0))), (q_8, .inl (cI, 6, .inl (fun _ => 0))), (q_9, .inl (cI, 6, .inl (fun _ => 0)))] := hD
  refine W.widen (k := 9) (n := 714) (Nat.le_of_ble_eq_true rfl) (Nat.le_of_ble_eq_true rfl) ?_
  refine va_putF (D := D) (ci := 7) (v := .ref q_9) (ty := .array .int) (C := RX9) (T := TX9) (N := 28) hx hb hg cu_iX9 tyX9 tyX9_ok nmX9 hown hK.1 hP hD hS 0 rfl rfl 16 (by decide) (hg _ k_700) (fun _ h9 => h9) rfl hin rfl (by decide +kernel) rfl rfl (Nat.le_of_ble_eq_true rfl) d_X9_init_74 (fun H locs hP hD hS => ?_)
  have hP : va_P D vwCl [(o, .inr (7, [.int 0, .ref q_1, .int 0, .int 0, .int 0, .int 0, .int 0, .ref q_2, .ref q_3, .ref q_4, .ref q_5, .int 0, .ref q_6, .ref q_7, .int 0, .ref q_8, .ref q_9, .long 0, .null, .null, .null, .int 0, .int 0, .int 0, .int 0, .null, .int 0, .null])), (q_1, .inl (cI, 130, .inl (fun _ => 0))), (q_2, .inl (cI, 30, .inl (fun _ => 0))), (q_3, .inl (cI, 30, .inl (fun _ => 0))), (q_4, .inl (cI, 30, .inl (fun _ => 0))), (q_5, .inl (cI, 420, .inl (fun _ => 0))), (q_6, .inl (cI, 60, .inl (fun _ => 0))), (q_7, .inl (cZ, 2, .inl (fun _ => 0))), (q_8, .inl (cI, 6, .inl (fun _ => 0))), (q_9, .inl (cI, 6, .inl (fun _ => 0)))] H := hP
  have hD : va_D A [(o, .inr (7, [.int 0, .ref q_1, .int 0, .int 0, .int 0, .int 0, .int 0, .ref q_2, .ref q_3, .ref q_4, .ref q_5, .int 0, .ref q_6, .ref q_7, .int 0, .ref q_8, .ref q_9, .long 0, .null, .null, .null, .int 0, .int 0, .int 0, .int 0, .null, .int 0, .null])), (q_1, .inl (cI, 130, .inl (fun _ => 0))), (q_2, .inl (cI, 30, .inl (fun _ => 0))), (q_3, .inl (cI, 30, .inl (fun _ => 0))), (q_4, .inl (cI, 30, .inl (fun _ => 0))), (q_5, .inl (cI, 420, .inl (fun _ => 0))), (q_6, .inl (cI, 60, .inl (fun _ => 0))), (q_7, .inl (cZ, 2, .inl (fun _ => 0))), (q_8, .inl (cI, 6, .inl (fun _ => 0))), (q_9, .inl (cI, 6, .inl (fun _ => 0)))] := hD
  refine lv_aload_n hx hb d_X9_init_77 rfl (lv_at hl 0 rfl) ?_
  refine lv_sipush (v := 1000) hx hb d_X9_init_78 (by decide) ?_
  refine cu_newI 1000 hx hb (hg _ k_77) hK hP hD hS hA (by decide) (by decide +kernel) (Nat.le_of_ble_eq_true rfl) (Nat.le_of_ble_eq_true rfl) (Nat.le_of_ble_eq_true rfl) d_X9_init_81 (fun q_10 H hP hD hS => ?_)
  have hP : va_P D vwCl [(o, .inr (7, [.int 0, .ref q_1, .int 0, .int 0, .int 0, .int 0, .int 0, .ref q_2, .ref q_3, .ref q_4, .ref q_5, .int 0, .ref q_6, .ref q_7, .int 0, .ref q_8, .ref q_9, .long 0, .null, .null, .null, .int 0, .int 0, .int 0, .int 0, .null, .int 0, .null])), (q_1, .inl (cI, 130, .inl (fun _ => 0))), (q_2, .inl (cI, 30, .inl (fun _ => 0))), (q_3, .inl (cI, 30, .inl (fun _ => 0))), (q_4, .inl (cI, 30, .inl (fun _ => 0))), (q_5, .inl (cI, 420, .inl (fun _ => 0))), (q_6, .inl (cI, 60, .inl (fun _ => 0))), (q_7, .inl (cZ, 2, .inl (fun _ => 0))), (q_8, .inl (cI, 6, .inl (fun _ => 0))), (q_9, .inl (cI, 6, .inl (fun _ => 0))), (q_10, .inl (cI, 1000, .inl (fun _ => 0)))] H := hP
  have hD : va_D A [(o, .inr (7, [.int 0, .ref q_1, .int 0, .int 0, .int 0, .int 0, .int 0, .ref q_2, .ref q_3, .ref q_4, .ref q_5, .int 0, .ref q_6, .ref q_7, .int 0, .ref q_8, .ref q_9, .long 0, .null, .null, .null, .int 0, .int 0, .int 0, .int 0, .null, .int 0, .null])), (q_1, .inl (cI, 130, .inl (fun _ => 0))), (q_2, .inl (cI, 30, .inl (fun _ => 0))), (q_3, .inl (cI, 30, .inl (fun _ => 0))), (q_4, .inl (cI, 30, .inl (fun _ => 0))), (q_5, .inl (cI, 420, .inl (fun _ => 0))), (q_6, .inl (cI, 60, .inl (fun _ => 0))), (q_7, .inl (cZ, 2, .inl (fun _ => 0))), (q_8, .inl (cI, 6, .inl (fun _ => 0))), (q_9, .inl (cI, 6, .inl (fun _ => 0))), (q_10, .inl (cI, 1000, .inl (fun _ => 0)))] := hD
  refine W.widen (k := 10) (n := 1714) (Nat.le_of_ble_eq_true rfl) (Nat.le_of_ble_eq_true rfl) ?_
  refine va_putF (D := D) (ci := 7) (v := .ref q_10) (ty := .array .int) (C := RX9) (T := TX9) (N := 28) hx hb hg cu_iX9 tyX9 tyX9_ok nmX9 hown hK.1 hP hD hS 0 rfl rfl 18 (by decide) (hg _ k_702) (fun _ h9 => h9) rfl hin rfl (by decide +kernel) rfl rfl (Nat.le_of_ble_eq_true rfl) d_X9_init_83 (fun H locs hP hD hS => ?_)
  have hP : va_P D vwCl [(o, .inr (7, [.int 0, .ref q_1, .int 0, .int 0, .int 0, .int 0, .int 0, .ref q_2, .ref q_3, .ref q_4, .ref q_5, .int 0, .ref q_6, .ref q_7, .int 0, .ref q_8, .ref q_9, .long 0, .ref q_10, .null, .null, .int 0, .int 0, .int 0, .int 0, .null, .int 0, .null])), (q_1, .inl (cI, 130, .inl (fun _ => 0))), (q_2, .inl (cI, 30, .inl (fun _ => 0))), (q_3, .inl (cI, 30, .inl (fun _ => 0))), (q_4, .inl (cI, 30, .inl (fun _ => 0))), (q_5, .inl (cI, 420, .inl (fun _ => 0))), (q_6, .inl (cI, 60, .inl (fun _ => 0))), (q_7, .inl (cZ, 2, .inl (fun _ => 0))), (q_8, .inl (cI, 6, .inl (fun _ => 0))), (q_9, .inl (cI, 6, .inl (fun _ => 0))), (q_10, .inl (cI, 1000, .inl (fun _ => 0)))] H := hP
  have hD : va_D A [(o, .inr (7, [.int 0, .ref q_1, .int 0, .int 0, .int 0, .int 0, .int 0, .ref q_2, .ref q_3, .ref q_4, .ref q_5, .int 0, .ref q_6, .ref q_7, .int 0, .ref q_8, .ref q_9, .long 0, .ref q_10, .null, .null, .int 0, .int 0, .int 0, .int 0, .null, .int 0, .null])), (q_1, .inl (cI, 130, .inl (fun _ => 0))), (q_2, .inl (cI, 30, .inl (fun _ => 0))), (q_3, .inl (cI, 30, .inl (fun _ => 0))), (q_4, .inl (cI, 30, .inl (fun _ => 0))), (q_5, .inl (cI, 420, .inl (fun _ => 0))), (q_6, .inl (cI, 60, .inl (fun _ => 0))), (q_7, .inl (cZ, 2, .inl (fun _ => 0))), (q_8, .inl (cI, 6, .inl (fun _ => 0))), (q_9, .inl (cI, 6, .inl (fun _ => 0))), (q_10, .inl (cI, 1000, .inl (fun _ => 0)))] := hD
  refine lv_aload_n hx hb d_X9_init_86 rfl (lv_at hl 0 rfl) ?_
  refine lv_sipush (v := 12000) hx hb d_X9_init_87 (by decide) ?_
  refine cu_newI 12000 hx hb (hg _ k_77) hK hP hD hS hA (by decide) (by decide +kernel) (Nat.le_of_ble_eq_true rfl) (Nat.le_of_ble_eq_true rfl) (Nat.le_of_ble_eq_true rfl) d_X9_init_90 (fun q_11 H hP hD hS => ?_)
  have hP : va_P D vwCl [(o, .inr (7, [.int 0, .ref q_1, .int 0, .int 0, .int 0, .int 0, .int 0, .ref q_2, .ref q_3, .ref q_4, .ref q_5, .int 0, .ref q_6, .ref q_7, .int 0, .ref q_8, .ref q_9, .long 0, .ref q_10, .null, .null, .int 0, .int 0, .int 0, .int 0, .null, .int 0, .null])), (q_1, .inl (cI, 130, .inl (fun _ => 0))), (q_2, .inl (cI, 30, .inl (fun _ => 0))), (q_3, .inl (cI, 30, .inl (fun _ => 0))), (q_4, .inl (cI, 30, .inl (fun _ => 0))), (q_5, .inl (cI, 420, .inl (fun _ => 0))), (q_6, .inl (cI, 60, .inl (fun _ => 0))), (q_7, .inl (cZ, 2, .inl (fun _ => 0))), (q_8, .inl (cI, 6, .inl (fun _ => 0))), (q_9, .inl (cI, 6, .inl (fun _ => 0))), (q_10, .inl (cI, 1000, .inl (fun _ => 0))), (q_11, .inl (cI, 12000, .inl (fun _ => 0)))] H := hP
  have hD : va_D A [(o, .inr (7, [.int 0, .ref q_1, .int 0, .int 0, .int 0, .int 0, .int 0, .ref q_2, .ref q_3, .ref q_4, .ref q_5, .int 0, .ref q_6, .ref q_7, .int 0, .ref q_8, .ref q_9, .long 0, .ref q_10, .null, .null, .int 0, .int 0, .int 0, .int 0, .null, .int 0, .null])), (q_1, .inl (cI, 130, .inl (fun _ => 0))), (q_2, .inl (cI, 30, .inl (fun _ => 0))), (q_3, .inl (cI, 30, .inl (fun _ => 0))), (q_4, .inl (cI, 30, .inl (fun _ => 0))), (q_5, .inl (cI, 420, .inl (fun _ => 0))), (q_6, .inl (cI, 60, .inl (fun _ => 0))), (q_7, .inl (cZ, 2, .inl (fun _ => 0))), (q_8, .inl (cI, 6, .inl (fun _ => 0))), (q_9, .inl (cI, 6, .inl (fun _ => 0))), (q_10, .inl (cI, 1000, .inl (fun _ => 0))), (q_11, .inl (cI, 12000, .inl (fun _ => 0)))] := hD
  refine W.widen (k := 11) (n := 13714) (Nat.le_of_ble_eq_true rfl) (Nat.le_of_ble_eq_true rfl) ?_
  refine va_putF (D := D) (ci := 7) (v := .ref q_11) (ty := .array .int) (C := RX9) (T := TX9) (N := 28) hx hb hg cu_iX9 tyX9 tyX9_ok nmX9 hown hK.1 hP hD hS 0 rfl rfl 19 (by decide) (hg _ k_703) (fun _ h9 => h9) rfl hin rfl (by decide +kernel) rfl rfl (Nat.le_of_ble_eq_true rfl) d_X9_init_92 (fun H locs hP hD hS => ?_)
  have hP : va_P D vwCl [(o, .inr (7, [.int 0, .ref q_1, .int 0, .int 0, .int 0, .int 0, .int 0, .ref q_2, .ref q_3, .ref q_4, .ref q_5, .int 0, .ref q_6, .ref q_7, .int 0, .ref q_8, .ref q_9, .long 0, .ref q_10, .ref q_11, .null, .int 0, .int 0, .int 0, .int 0, .null, .int 0, .null])), (q_1, .inl (cI, 130, .inl (fun _ => 0))), (q_2, .inl (cI, 30, .inl (fun _ => 0))), (q_3, .inl (cI, 30, .inl (fun _ => 0))), (q_4, .inl (cI, 30, .inl (fun _ => 0))), (q_5, .inl (cI, 420, .inl (fun _ => 0))), (q_6, .inl (cI, 60, .inl (fun _ => 0))), (q_7, .inl (cZ, 2, .inl (fun _ => 0))), (q_8, .inl (cI, 6, .inl (fun _ => 0))), (q_9, .inl (cI, 6, .inl (fun _ => 0))), (q_10, .inl (cI, 1000, .inl (fun _ => 0))), (q_11, .inl (cI, 12000, .inl (fun _ => 0)))] H := hP
  have hD : va_D A [(o, .inr (7, [.int 0, .ref q_1, .int 0, .int 0, .int 0, .int 0, .int 0, .ref q_2, .ref q_3, .ref q_4, .ref q_5, .int 0, .ref q_6, .ref q_7, .int 0, .ref q_8, .ref q_9, .long 0, .ref q_10, .ref q_11, .null, .int 0, .int 0, .int 0, .int 0, .null, .int 0, .null])), (q_1, .inl (cI, 130, .inl (fun _ => 0))), (q_2, .inl (cI, 30, .inl (fun _ => 0))), (q_3, .inl (cI, 30, .inl (fun _ => 0))), (q_4, .inl (cI, 30, .inl (fun _ => 0))), (q_5, .inl (cI, 420, .inl (fun _ => 0))), (q_6, .inl (cI, 60, .inl (fun _ => 0))), (q_7, .inl (cZ, 2, .inl (fun _ => 0))), (q_8, .inl (cI, 6, .inl (fun _ => 0))), (q_9, .inl (cI, 6, .inl (fun _ => 0))), (q_10, .inl (cI, 1000, .inl (fun _ => 0))), (q_11, .inl (cI, 12000, .inl (fun _ => 0)))] := hD
  refine lv_aload_n hx hb d_X9_init_95 rfl (lv_at hl 0 rfl) ?_
  refine lv_sipush (v := 999) hx hb d_X9_init_96 (by decide) ?_
  refine cu_newI 999 hx hb (hg _ k_77) hK hP hD hS hA (by decide) (by decide +kernel) (Nat.le_of_ble_eq_true rfl) (Nat.le_of_ble_eq_true rfl) (Nat.le_of_ble_eq_true rfl) d_X9_init_99 (fun q_12 H hP hD hS => ?_)
  have hP : va_P D vwCl [(o, .inr (7, [.int 0, .ref q_1, .int 0, .int 0, .int 0, .int 0, .int 0, .ref q_2, .ref q_3, .ref q_4, .ref q_5, .int 0, .ref q_6, .ref q_7, .int 0, .ref q_8, .ref q_9, .long 0, .ref q_10, .ref q_11, .null, .int 0, .int 0, .int 0, .int 0, .null, .int 0, .null])), (q_1, .inl (cI, 130, .inl (fun _ => 0))), (q_2, .inl (cI, 30, .inl (fun _ => 0))), (q_3, .inl (cI, 30, .inl (fun _ => 0))), (q_4, .inl (cI, 30, .inl (fun _ => 0))), (q_5, .inl (cI, 420, .inl (fun _ => 0))), (q_6, .inl (cI, 60, .inl (fun _ => 0))), (q_7, .inl (cZ, 2, .inl (fun _ => 0))), (q_8, .inl (cI, 6, .inl (fun _ => 0))), (q_9, .inl (cI, 6, .inl (fun _ => 0))), (q_10, .inl (cI, 1000, .inl (fun _ => 0))), (q_11, .inl (cI, 12000, .inl (fun _ => 0))), (q_12, .inl (cI, 999, .inl (fun _ => 0)))] H := hP
  have hD : va_D A [(o, .inr (7, [.int 0, .ref q_1, .int 0, .int 0, .int 0, .int 0, .int 0, .ref q_2, .ref q_3, .ref q_4, .ref q_5, .int 0, .ref q_6, .ref q_7, .int 0, .ref q_8, .ref q_9, .long 0, .ref q_10, .ref q_11, .null, .int 0, .int 0, .int 0, .int 0, .null, .int 0, .null])), (q_1, .inl (cI, 130, .inl (fun _ => 0))), (q_2, .inl (cI, 30, .inl (fun _ => 0))), (q_3, .inl (cI, 30, .inl (fun _ => 0))), (q_4, .inl (cI, 30, .inl (fun _ => 0))), (q_5, .inl (cI, 420, .inl (fun _ => 0))), (q_6, .inl (cI, 60, .inl (fun _ => 0))), (q_7, .inl (cZ, 2, .inl (fun _ => 0))), (q_8, .inl (cI, 6, .inl (fun _ => 0))), (q_9, .inl (cI, 6, .inl (fun _ => 0))), (q_10, .inl (cI, 1000, .inl (fun _ => 0))), (q_11, .inl (cI, 12000, .inl (fun _ => 0))), (q_12, .inl (cI, 999, .inl (fun _ => 0)))] := hD
  refine W.widen (k := 12) (n := 14713) (Nat.le_of_ble_eq_true rfl) (Nat.le_of_ble_eq_true rfl) ?_
  refine va_putF (D := D) (ci := 7) (v := .ref q_12) (ty := .array .int) (C := RX9) (T := TX9) (N := 28) hx hb hg cu_iX9 tyX9 tyX9_ok nmX9 hown hK.1 hP hD hS 0 rfl rfl 20 (by decide) (hg _ k_704) (fun _ h9 => h9) rfl hin rfl (by decide +kernel) rfl rfl (Nat.le_of_ble_eq_true rfl) d_X9_init_101 (fun H locs hP hD hS => ?_)
  have hP : va_P D vwCl [(o, .inr (7, [.int 0, .ref q_1, .int 0, .int 0, .int 0, .int 0, .int 0, .ref q_2, .ref q_3, .ref q_4, .ref q_5, .int 0, .ref q_6, .ref q_7, .int 0, .ref q_8, .ref q_9, .long 0, .ref q_10, .ref q_11, .ref q_12, .int 0, .int 0, .int 0, .int 0, .null, .int 0, .null])), (q_1, .inl (cI, 130, .inl (fun _ => 0))), (q_2, .inl (cI, 30, .inl (fun _ => 0))), (q_3, .inl (cI, 30, .inl (fun _ => 0))), (q_4, .inl (cI, 30, .inl (fun _ => 0))), (q_5, .inl (cI, 420, .inl (fun _ => 0))), (q_6, .inl (cI, 60, .inl (fun _ => 0))), (q_7, .inl (cZ, 2, .inl (fun _ => 0))), (q_8, .inl (cI, 6, .inl (fun _ => 0))), (q_9, .inl (cI, 6, .inl (fun _ => 0))), (q_10, .inl (cI, 1000, .inl (fun _ => 0))), (q_11, .inl (cI, 12000, .inl (fun _ => 0))), (q_12, .inl (cI, 999, .inl (fun _ => 0)))] H := hP
  have hD : va_D A [(o, .inr (7, [.int 0, .ref q_1, .int 0, .int 0, .int 0, .int 0, .int 0, .ref q_2, .ref q_3, .ref q_4, .ref q_5, .int 0, .ref q_6, .ref q_7, .int 0, .ref q_8, .ref q_9, .long 0, .ref q_10, .ref q_11, .ref q_12, .int 0, .int 0, .int 0, .int 0, .null, .int 0, .null])), (q_1, .inl (cI, 130, .inl (fun _ => 0))), (q_2, .inl (cI, 30, .inl (fun _ => 0))), (q_3, .inl (cI, 30, .inl (fun _ => 0))), (q_4, .inl (cI, 30, .inl (fun _ => 0))), (q_5, .inl (cI, 420, .inl (fun _ => 0))), (q_6, .inl (cI, 60, .inl (fun _ => 0))), (q_7, .inl (cZ, 2, .inl (fun _ => 0))), (q_8, .inl (cI, 6, .inl (fun _ => 0))), (q_9, .inl (cI, 6, .inl (fun _ => 0))), (q_10, .inl (cI, 1000, .inl (fun _ => 0))), (q_11, .inl (cI, 12000, .inl (fun _ => 0))), (q_12, .inl (cI, 999, .inl (fun _ => 0)))] := hD
  refine lv_aload_n hx hb d_X9_init_104 rfl (lv_at hl 0 rfl) ?_
  refine lv_bipush (v := 8) hx hb d_X9_init_105 (by decide) ?_
  refine cu_newI 8 hx hb (hg _ k_77) hK hP hD hS hA (by decide) (by decide +kernel) (Nat.le_of_ble_eq_true rfl) (Nat.le_of_ble_eq_true rfl) (Nat.le_of_ble_eq_true rfl) d_X9_init_107 (fun q_13 H hP hD hS => ?_)
  have hP : va_P D vwCl [(o, .inr (7, [.int 0, .ref q_1, .int 0, .int 0, .int 0, .int 0, .int 0, .ref q_2, .ref q_3, .ref q_4, .ref q_5, .int 0, .ref q_6, .ref q_7, .int 0, .ref q_8, .ref q_9, .long 0, .ref q_10, .ref q_11, .ref q_12, .int 0, .int 0, .int 0, .int 0, .null, .int 0, .null])), (q_1, .inl (cI, 130, .inl (fun _ => 0))), (q_2, .inl (cI, 30, .inl (fun _ => 0))), (q_3, .inl (cI, 30, .inl (fun _ => 0))), (q_4, .inl (cI, 30, .inl (fun _ => 0))), (q_5, .inl (cI, 420, .inl (fun _ => 0))), (q_6, .inl (cI, 60, .inl (fun _ => 0))), (q_7, .inl (cZ, 2, .inl (fun _ => 0))), (q_8, .inl (cI, 6, .inl (fun _ => 0))), (q_9, .inl (cI, 6, .inl (fun _ => 0))), (q_10, .inl (cI, 1000, .inl (fun _ => 0))), (q_11, .inl (cI, 12000, .inl (fun _ => 0))), (q_12, .inl (cI, 999, .inl (fun _ => 0))), (q_13, .inl (cI, 8, .inl (fun _ => 0)))] H := hP
  have hD : va_D A [(o, .inr (7, [.int 0, .ref q_1, .int 0, .int 0, .int 0, .int 0, .int 0, .ref q_2, .ref q_3, .ref q_4, .ref q_5, .int 0, .ref q_6, .ref q_7, .int 0, .ref q_8, .ref q_9, .long 0, .ref q_10, .ref q_11, .ref q_12, .int 0, .int 0, .int 0, .int 0, .null, .int 0, .null])), (q_1, .inl (cI, 130, .inl (fun _ => 0))), (q_2, .inl (cI, 30, .inl (fun _ => 0))), (q_3, .inl (cI, 30, .inl (fun _ => 0))), (q_4, .inl (cI, 30, .inl (fun _ => 0))), (q_5, .inl (cI, 420, .inl (fun _ => 0))), (q_6, .inl (cI, 60, .inl (fun _ => 0))), (q_7, .inl (cZ, 2, .inl (fun _ => 0))), (q_8, .inl (cI, 6, .inl (fun _ => 0))), (q_9, .inl (cI, 6, .inl (fun _ => 0))), (q_10, .inl (cI, 1000, .inl (fun _ => 0))), (q_11, .inl (cI, 12000, .inl (fun _ => 0))), (q_12, .inl (cI, 999, .inl (fun _ => 0))), (q_13, .inl (cI, 8, .inl (fun _ => 0)))] := hD
  refine W.widen (k := 13) (n := 14721) (Nat.le_of_ble_eq_true rfl) (Nat.le_of_ble_eq_true rfl) ?_
  refine va_putF (D := D) (ci := 7) (v := .ref q_13) (ty := .array .int) (C := RX9) (T := TX9) (N := 28) hx hb hg cu_iX9 tyX9 tyX9_ok nmX9 hown hK.1 hP hD hS 0 rfl rfl 25 (by decide) (hg _ k_709) (fun _ h9 => h9) rfl hin rfl (by decide +kernel) rfl rfl (Nat.le_of_ble_eq_true rfl) d_X9_init_109 (fun H locs hP hD hS => ?_)
  have hP : va_P D vwCl [(o, .inr (7, [.int 0, .ref q_1, .int 0, .int 0, .int 0, .int 0, .int 0, .ref q_2, .ref q_3, .ref q_4, .ref q_5, .int 0, .ref q_6, .ref q_7, .int 0, .ref q_8, .ref q_9, .long 0, .ref q_10, .ref q_11, .ref q_12, .int 0, .int 0, .int 0, .int 0, .ref q_13, .int 0, .null])), (q_1, .inl (cI, 130, .inl (fun _ => 0))), (q_2, .inl (cI, 30, .inl (fun _ => 0))), (q_3, .inl (cI, 30, .inl (fun _ => 0))), (q_4, .inl (cI, 30, .inl (fun _ => 0))), (q_5, .inl (cI, 420, .inl (fun _ => 0))), (q_6, .inl (cI, 60, .inl (fun _ => 0))), (q_7, .inl (cZ, 2, .inl (fun _ => 0))), (q_8, .inl (cI, 6, .inl (fun _ => 0))), (q_9, .inl (cI, 6, .inl (fun _ => 0))), (q_10, .inl (cI, 1000, .inl (fun _ => 0))), (q_11, .inl (cI, 12000, .inl (fun _ => 0))), (q_12, .inl (cI, 999, .inl (fun _ => 0))), (q_13, .inl (cI, 8, .inl (fun _ => 0)))] H := hP
  have hD : va_D A [(o, .inr (7, [.int 0, .ref q_1, .int 0, .int 0, .int 0, .int 0, .int 0, .ref q_2, .ref q_3, .ref q_4, .ref q_5, .int 0, .ref q_6, .ref q_7, .int 0, .ref q_8, .ref q_9, .long 0, .ref q_10, .ref q_11, .ref q_12, .int 0, .int 0, .int 0, .int 0, .ref q_13, .int 0, .null])), (q_1, .inl (cI, 130, .inl (fun _ => 0))), (q_2, .inl (cI, 30, .inl (fun _ => 0))), (q_3, .inl (cI, 30, .inl (fun _ => 0))), (q_4, .inl (cI, 30, .inl (fun _ => 0))), (q_5, .inl (cI, 420, .inl (fun _ => 0))), (q_6, .inl (cI, 60, .inl (fun _ => 0))), (q_7, .inl (cZ, 2, .inl (fun _ => 0))), (q_8, .inl (cI, 6, .inl (fun _ => 0))), (q_9, .inl (cI, 6, .inl (fun _ => 0))), (q_10, .inl (cI, 1000, .inl (fun _ => 0))), (q_11, .inl (cI, 12000, .inl (fun _ => 0))), (q_12, .inl (cI, 999, .inl (fun _ => 0))), (q_13, .inl (cI, 8, .inl (fun _ => 0)))] := hD
  refine lv_aload_n hx hb d_X9_init_112 rfl (lv_at hl 0 rfl) ?_
  refine lv_sipush (v := 256) hx hb d_X9_init_113 (by decide) ?_
  refine cu_newI 256 hx hb (hg _ k_77) hK hP hD hS hA (by decide) (by decide +kernel) (Nat.le_of_ble_eq_true rfl) (Nat.le_of_ble_eq_true rfl) (Nat.le_of_ble_eq_true rfl) d_X9_init_116 (fun q_14 H hP hD hS => ?_)
  have hP : va_P D vwCl [(o, .inr (7, [.int 0, .ref q_1, .int 0, .int 0, .int 0, .int 0, .int 0, .ref q_2, .ref q_3, .ref q_4, .ref q_5, .int 0, .ref q_6, .ref q_7, .int 0, .ref q_8, .ref q_9, .long 0, .ref q_10, .ref q_11, .ref q_12, .int 0, .int 0, .int 0, .int 0, .ref q_13, .int 0, .null])), (q_1, .inl (cI, 130, .inl (fun _ => 0))), (q_2, .inl (cI, 30, .inl (fun _ => 0))), (q_3, .inl (cI, 30, .inl (fun _ => 0))), (q_4, .inl (cI, 30, .inl (fun _ => 0))), (q_5, .inl (cI, 420, .inl (fun _ => 0))), (q_6, .inl (cI, 60, .inl (fun _ => 0))), (q_7, .inl (cZ, 2, .inl (fun _ => 0))), (q_8, .inl (cI, 6, .inl (fun _ => 0))), (q_9, .inl (cI, 6, .inl (fun _ => 0))), (q_10, .inl (cI, 1000, .inl (fun _ => 0))), (q_11, .inl (cI, 12000, .inl (fun _ => 0))), (q_12, .inl (cI, 999, .inl (fun _ => 0))), (q_13, .inl (cI, 8, .inl (fun _ => 0))), (q_14, .inl (cI, 256, .inl (fun _ => 0)))] H := hP
  have hD : va_D A [(o, .inr (7, [.int 0, .ref q_1, .int 0, .int 0, .int 0, .int 0, .int 0, .ref q_2, .ref q_3, .ref q_4, .ref q_5, .int 0, .ref q_6, .ref q_7, .int 0, .ref q_8, .ref q_9, .long 0, .ref q_10, .ref q_11, .ref q_12, .int 0, .int 0, .int 0, .int 0, .ref q_13, .int 0, .null])), (q_1, .inl (cI, 130, .inl (fun _ => 0))), (q_2, .inl (cI, 30, .inl (fun _ => 0))), (q_3, .inl (cI, 30, .inl (fun _ => 0))), (q_4, .inl (cI, 30, .inl (fun _ => 0))), (q_5, .inl (cI, 420, .inl (fun _ => 0))), (q_6, .inl (cI, 60, .inl (fun _ => 0))), (q_7, .inl (cZ, 2, .inl (fun _ => 0))), (q_8, .inl (cI, 6, .inl (fun _ => 0))), (q_9, .inl (cI, 6, .inl (fun _ => 0))), (q_10, .inl (cI, 1000, .inl (fun _ => 0))), (q_11, .inl (cI, 12000, .inl (fun _ => 0))), (q_12, .inl (cI, 999, .inl (fun _ => 0))), (q_13, .inl (cI, 8, .inl (fun _ => 0))), (q_14, .inl (cI, 256, .inl (fun _ => 0)))] := hD
  refine W.widen (k := 14) (n := 14977) (Nat.le_of_ble_eq_true rfl) (Nat.le_of_ble_eq_true rfl) ?_
  refine va_putF (D := D) (ci := 7) (v := .ref q_14) (ty := .array .int) (C := RX9) (T := TX9) (N := 28) hx hb hg cu_iX9 tyX9 tyX9_ok nmX9 hown hK.1 hP hD hS 0 rfl rfl 27 (by decide) (hg _ k_711) (fun _ h9 => h9) rfl hin rfl (by decide +kernel) rfl rfl (Nat.le_of_ble_eq_true rfl) d_X9_init_118 (fun H locs hP hD hS => ?_)
  have hP : va_P D vwCl [(o, .inr (7, [.int 0, .ref q_1, .int 0, .int 0, .int 0, .int 0, .int 0, .ref q_2, .ref q_3, .ref q_4, .ref q_5, .int 0, .ref q_6, .ref q_7, .int 0, .ref q_8, .ref q_9, .long 0, .ref q_10, .ref q_11, .ref q_12, .int 0, .int 0, .int 0, .int 0, .ref q_13, .int 0, .ref q_14])), (q_1, .inl (cI, 130, .inl (fun _ => 0))), (q_2, .inl (cI, 30, .inl (fun _ => 0))), (q_3, .inl (cI, 30, .inl (fun _ => 0))), (q_4, .inl (cI, 30, .inl (fun _ => 0))), (q_5, .inl (cI, 420, .inl (fun _ => 0))), (q_6, .inl (cI, 60, .inl (fun _ => 0))), (q_7, .inl (cZ, 2, .inl (fun _ => 0))), (q_8, .inl (cI, 6, .inl (fun _ => 0))), (q_9, .inl (cI, 6, .inl (fun _ => 0))), (q_10, .inl (cI, 1000, .inl (fun _ => 0))), (q_11, .inl (cI, 12000, .inl (fun _ => 0))), (q_12, .inl (cI, 999, .inl (fun _ => 0))), (q_13, .inl (cI, 8, .inl (fun _ => 0))), (q_14, .inl (cI, 256, .inl (fun _ => 0)))] H := hP
  have hD : va_D A [(o, .inr (7, [.int 0, .ref q_1, .int 0, .int 0, .int 0, .int 0, .int 0, .ref q_2, .ref q_3, .ref q_4, .ref q_5, .int 0, .ref q_6, .ref q_7, .int 0, .ref q_8, .ref q_9, .long 0, .ref q_10, .ref q_11, .ref q_12, .int 0, .int 0, .int 0, .int 0, .ref q_13, .int 0, .ref q_14])), (q_1, .inl (cI, 130, .inl (fun _ => 0))), (q_2, .inl (cI, 30, .inl (fun _ => 0))), (q_3, .inl (cI, 30, .inl (fun _ => 0))), (q_4, .inl (cI, 30, .inl (fun _ => 0))), (q_5, .inl (cI, 420, .inl (fun _ => 0))), (q_6, .inl (cI, 60, .inl (fun _ => 0))), (q_7, .inl (cZ, 2, .inl (fun _ => 0))), (q_8, .inl (cI, 6, .inl (fun _ => 0))), (q_9, .inl (cI, 6, .inl (fun _ => 0))), (q_10, .inl (cI, 1000, .inl (fun _ => 0))), (q_11, .inl (cI, 12000, .inl (fun _ => 0))), (q_12, .inl (cI, 999, .inl (fun _ => 0))), (q_13, .inl (cI, 8, .inl (fun _ => 0))), (q_14, .inl (cI, 256, .inl (fun _ => 0)))] := hD
  refine lv_aload_n hx hb d_X9_init_121 rfl (lv_at hl 0 rfl) ?_
  refine va_get (D := D) (ci := 7) (v := .ref q_3) (C := RX9) (T := TX9) (N := 28) hx hb hg cu_iX9 hown hK.1 hP 0 rfl rfl 8 (by decide) (hg _ k_692) (fun _ h9 => h9) rfl d_X9_init_122 ?_
  refine lv_bipush (v := 28) hx hb d_X9_init_125 (by decide) ?_
  refine lv_iconst (v := 1) hx hb d_X9_init_127 (by decide) ?_
  refine va_iast hx hb hK.1 hP hD hS 3 0 rfl rfl (vp_in_nI (n := 28) (N := 30) (Nat.le_of_ble_eq_true rfl) (by decide)) d_X9_init_128 (fun H locs hP hD hS => ?_)
  have hP : va_P D vwCl [(o, .inr (7, [.int 0, .ref q_1, .int 0, .int 0, .int 0, .int 0, .int 0, .ref q_2, .ref q_3, .ref q_4, .ref q_5, .int 0, .ref q_6, .ref q_7, .int 0, .ref q_8, .ref q_9, .long 0, .ref q_10, .ref q_11, .ref q_12, .int 0, .int 0, .int 0, .int 0, .ref q_13, .int 0, .ref q_14])), (q_1, .inl (cI, 130, .inl (fun _ => 0))), (q_2, .inl (cI, 30, .inl (fun _ => 0))), (q_3, .inl (cI, 30, .inl (upd (fun _ => 0) 28 (1 : Int32)))), (q_4, .inl (cI, 30, .inl (fun _ => 0))), (q_5, .inl (cI, 420, .inl (fun _ => 0))), (q_6, .inl (cI, 60, .inl (fun _ => 0))), (q_7, .inl (cZ, 2, .inl (fun _ => 0))), (q_8, .inl (cI, 6, .inl (fun _ => 0))), (q_9, .inl (cI, 6, .inl (fun _ => 0))), (q_10, .inl (cI, 1000, .inl (fun _ => 0))), (q_11, .inl (cI, 12000, .inl (fun _ => 0))), (q_12, .inl (cI, 999, .inl (fun _ => 0))), (q_13, .inl (cI, 8, .inl (fun _ => 0))), (q_14, .inl (cI, 256, .inl (fun _ => 0)))] H := hP
  have hD : va_D A [(o, .inr (7, [.int 0, .ref q_1, .int 0, .int 0, .int 0, .int 0, .int 0, .ref q_2, .ref q_3, .ref q_4, .ref q_5, .int 0, .ref q_6, .ref q_7, .int 0, .ref q_8, .ref q_9, .long 0, .ref q_10, .ref q_11, .ref q_12, .int 0, .int 0, .int 0, .int 0, .ref q_13, .int 0, .ref q_14])), (q_1, .inl (cI, 130, .inl (fun _ => 0))), (q_2, .inl (cI, 30, .inl (fun _ => 0))), (q_3, .inl (cI, 30, .inl (upd (fun _ => 0) 28 (1 : Int32)))), (q_4, .inl (cI, 30, .inl (fun _ => 0))), (q_5, .inl (cI, 420, .inl (fun _ => 0))), (q_6, .inl (cI, 60, .inl (fun _ => 0))), (q_7, .inl (cZ, 2, .inl (fun _ => 0))), (q_8, .inl (cI, 6, .inl (fun _ => 0))), (q_9, .inl (cI, 6, .inl (fun _ => 0))), (q_10, .inl (cI, 1000, .inl (fun _ => 0))), (q_11, .inl (cI, 12000, .inl (fun _ => 0))), (q_12, .inl (cI, 999, .inl (fun _ => 0))), (q_13, .inl (cI, 8, .inl (fun _ => 0))), (q_14, .inl (cI, 256, .inl (fun _ => 0)))] := hD
  exact hret _ _ _ _ [(o, .inr (7, [.int 0, .ref q_1, .int 0, .int 0, .int 0, .int 0, .int 0, .ref q_2, .ref q_3, .ref q_4, .ref q_5, .int 0, .ref q_6, .ref q_7, .int 0, .ref q_8, .ref q_9, .long 0, .ref q_10, .ref q_11, .ref q_12, .int 0, .int 0, .int 0, .int 0, .ref q_13, .int 0, .ref q_14])), (q_1, .inl (cI, 130, .inl (fun _ => 0))), (q_2, .inl (cI, 30, .inl (fun _ => 0))), (q_3, .inl (cI, 30, .inl (upd (fun _ => 0) 28 (1 : Int32)))), (q_4, .inl (cI, 30, .inl (fun _ => 0))), (q_5, .inl (cI, 420, .inl (fun _ => 0))), (q_6, .inl (cI, 60, .inl (fun _ => 0))), (q_7, .inl (cZ, 2, .inl (fun _ => 0))), (q_10, .inl (cI, 1000, .inl (fun _ => 0))), (q_12, .inl (cI, 999, .inl (fun _ => 0))), (q_14, .inl (cI, 256, .inl (fun _ => 0)))] _ _ (hP.sub (ws' := [(o, .inr (7, [.int 0, .ref q_1, .int 0, .int 0, .int 0, .int 0, .int 0, .ref q_2, .ref q_3, .ref q_4, .ref q_5, .int 0, .ref q_6, .ref q_7, .int 0, .ref q_8, .ref q_9, .long 0, .ref q_10, .ref q_11, .ref q_12, .int 0, .int 0, .int 0, .int 0, .ref q_13, .int 0, .ref q_14])), (q_1, .inl (cI, 130, .inl (fun _ => 0))), (q_2, .inl (cI, 30, .inl (fun _ => 0))), (q_3, .inl (cI, 30, .inl (upd (fun _ => 0) 28 (1 : Int32)))), (q_4, .inl (cI, 30, .inl (fun _ => 0))), (q_5, .inl (cI, 420, .inl (fun _ => 0))), (q_6, .inl (cI, 60, .inl (fun _ => 0))), (q_7, .inl (cZ, 2, .inl (fun _ => 0))), (q_10, .inl (cI, 1000, .inl (fun _ => 0))), (q_12, .inl (cI, 999, .inl (fun _ => 0))), (q_14, .inl (cI, 256, .inl (fun _ => 0)))]) [0, 1, 2, 3, 4, 5, 6, 7, 10, 12, 14] rfl) (hD.sub (ws' := [(o, .inr (7, [.int 0, .ref q_1, .int 0, .int 0, .int 0, .int 0, .int 0, .ref q_2, .ref q_3, .ref q_4, .ref q_5, .int 0, .ref q_6, .ref q_7, .int 0, .ref q_8, .ref q_9, .long 0, .ref q_10, .ref q_11, .ref q_12, .int 0, .int 0, .int 0, .int 0, .ref q_13, .int 0, .ref q_14])), (q_1, .inl (cI, 130, .inl (fun _ => 0))), (q_2, .inl (cI, 30, .inl (fun _ => 0))), (q_3, .inl (cI, 30, .inl (upd (fun _ => 0) 28 (1 : Int32)))), (q_4, .inl (cI, 30, .inl (fun _ => 0))), (q_5, .inl (cI, 420, .inl (fun _ => 0))), (q_6, .inl (cI, 60, .inl (fun _ => 0))), (q_7, .inl (cZ, 2, .inl (fun _ => 0))), (q_10, .inl (cI, 1000, .inl (fun _ => 0))), (q_12, .inl (cI, 999, .inl (fun _ => 0))), (q_14, .inl (cI, 256, .inl (fun _ => 0)))]) [0, 1, 2, 3, 4, 5, 6, 7, 10, 12, 14] (by decide) rfl) hS (Nat.le_of_ble_eq_true rfl) (Nat.le_of_ble_eq_true rfl) d_X9_init_129 ⟨q_1, q_2, q_3, q_4, q_5, q_6, q_7, q_8, q_9, q_10, q_11, q_12, q_13, q_14, rfl⟩
