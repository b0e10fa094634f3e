theorem d_X3_hasCoin_0 : decode cX3_hasCoin 0 = .ok (.iload_n 1, 1) := by decide +kernel
theorem d_X3_hasCoin_1 : decode cX3_hasCoin 1 = .ok (.ifCond .lt 15, 3) := by decide +kernel
theorem d_X3_hasCoin_16 : decode cX3_hasCoin 16 = .ok (.iconst 0, 1) := by decide +kernel
theorem d_X3_hasCoin_17 : decode cX3_hasCoin 17 = .ok (.ireturn, 1) := by decide +kernel
theorem d_X3_hasCoin_4 : decode cX3_hasCoin 4 = .ok (.iload_n 1, 1) := by decide +kernel
theorem d_X3_hasCoin_5 : decode cX3_hasCoin 5 = .ok (.aload_n 0, 1) := by decide +kernel
theorem d_X3_hasCoin_6 : decode cX3_hasCoin 6 = .ok (.getfield 28, 3) := by decide +kernel
theorem k_94 : (.fieldLink RX3 28 "CommonUnits$Hoard" "coins" "I" : Cond) ∈ cu_G := cu_mem 94 (by decide +kernel) (by decide +kernel)
theorem d_X3_hasCoin_9 : decode cX3_hasCoin 9 = .ok (.if_icmp .ge 7, 3) := by decide +kernel
theorem d_X3_hasMint_0 : decode cX3_hasMint 0 = .ok (.iload_n 1, 1) := by decide +kernel
theorem d_X3_hasMint_1 : decode cX3_hasMint 1 = .ok (.ifCond .lt 15, 3) := by decide +kernel
theorem d_X3_hasMint_16 : decode cX3_hasMint 16 = .ok (.iconst 0, 1) := by decide +kernel
theorem d_X3_hasMint_17 : decode cX3_hasMint 17 = .ok (.ireturn, 1) := by decide +kernel
theorem d_X3_hasMint_4 : decode cX3_hasMint 4 = .ok (.iload_n 1, 1) := by decide +kernel
theorem d_X3_hasMint_5 : decode cX3_hasMint 5 = .ok (.aload_n 0, 1) := by decide +kernel
theorem d_X3_hasMint_6 : decode cX3_hasMint 6 = .ok (.getfield 31, 3) := by decide +kernel
theorem k_97 : (.fieldLink RX3 31 "CommonUnits$Hoard" "mints" "I" : Cond) ∈ cu_G := cu_mem 97 (by decide +kernel) (by decide +kernel)
theorem d_X3_hasMint_9 : decode cX3_hasMint 9 = .ok (.if_icmp .ge 7, 3) := by decide +kernel
theorem d_X3_counts_0 : decode cX3_counts 0 = .ok (.aload_n 0, 1) := by decide +kernel
theorem d_X3_counts_1 : decode cX3_counts 1 = .ok (.iload_n 1, 1) := by decide +kernel
theorem d_X3_counts_2 : decode cX3_counts 2 = .ok (.invokevirtual 37, 3) := by decide +kernel
theorem hd_X3_hasCoin : cu_hd yX3_hasCoin 1 := by decide +kernel
theorem k_281 : (.code yX3_hasCoin cX3_hasCoin 2 (some .boolean) : Cond) ∈ cu_G := cu_mem 281 (by decide +kernel) (by decide +kernel)
theorem k_45 : (.initialized RX3 : Cond) ∈ cu_G := cu_mem 45 (by decide +kernel) (by decide +kernel)
theorem k_286 : (.methodLink RX3 37 yX3_hasCoin : Cond) ∈ cu_G := cu_mem 286 (by decide +kernel) (by decide +kernel)
theorem k_279 : (.instanceMethod yX3_hasCoin : Cond) ∈ cu_G := cu_mem 279 (by decide +kernel) (by decide +kernel)
theorem k_280 : (.selects RX3 yX3_hasCoin yX3_hasCoin : Cond) ∈ cu_G := cu_mem 280 (by decide +kernel) (by decide +kernel)
theorem d_X3_counts_5 : decode cX3_counts 5 = .ok (.ifCond .eq 16, 3) := by decide +kernel
theorem d_X3_counts_21 : decode cX3_counts 21 = .ok (.iconst 0, 1) := by decide +kernel
theorem d_X3_counts_22 : decode cX3_counts 22 = .ok (.ireturn, 1) := by decide +kernel
theorem d_X3_placeOf_0 : decode cX3_placeOf 0 = .ok (.iconst 0, 1) := by decide +kernel
theorem d_X3_placeOf_1 : decode cX3_placeOf 1 = .ok (.istore_n 2, 1) := by decide +kernel
theorem d_X3_placeOf_2 : decode cX3_placeOf 2 = .ok (.iconst 0, 1) := by decide +kernel
theorem d_X3_placeOf_3 : decode cX3_placeOf 3 = .ok (.istore_n 3, 1) := by decide +kernel
theorem d_X3_placeOf_4 : decode cX3_placeOf 4 = .ok (.iload_n 3, 1) := by decide +kernel
theorem d_X3_placeOf_5 : decode cX3_placeOf 5 = .ok (.aload_n 0, 1) := by decide +kernel
theorem d_X3_placeOf_6 : decode cX3_placeOf 6 = .ok (.getfield 28, 3) := by decide +kernel
theorem d_X3_placeOf_9 : decode cX3_placeOf 9 = .ok (.if_icmp .ge 25, 3) := by decide +kernel
theorem d_X3_placeOf_34 : decode cX3_placeOf 34 = .ok (.iload_n 2, 1) := by decide +kernel
theorem d_X3_placeOf_35 : decode cX3_placeOf 35 = .ok (.ireturn, 1) := by decide +kernel
theorem d_X3_counted_0 : decode cX3_counted 0 = .ok (.aload_n 0, 1) := by decide +kernel
theorem d_X3_counted_1 : decode cX3_counted 1 = .ok (.aload_n 0, 1) := by decide +kernel
theorem d_X3_counted_2 : decode cX3_counted 2 = .ok (.getfield 28, 3) := by decide +kernel
theorem d_X3_counted_5 : decode cX3_counted 5 = .ok (.invokevirtual 41, 3) := by decide +kernel
theorem hd_X3_placeOf : cu_hd yX3_placeOf 1 := by decide +kernel
theorem k_601 : (.code yX3_placeOf cX3_placeOf 4 (some .int) : Cond) ∈ cu_G := cu_mem 601 (by decide +kernel) (by decide +kernel)
theorem k_598 : (.methodLink RX3 41 yX3_placeOf : Cond) ∈ cu_G := cu_mem 598 (by decide +kernel) (by decide +kernel)
theorem k_599 : (.instanceMethod yX3_placeOf : Cond) ∈ cu_G := cu_mem 599 (by decide +kernel) (by decide +kernel)
theorem k_600 : (.selects RX3 yX3_placeOf yX3_placeOf : Cond) ∈ cu_G := cu_mem 600 (by decide +kernel) (by decide +kernel)
theorem d_X3_counted_8 : decode cX3_counted 8 = .ok (.ireturn, 1) := by decide +kernel
theorem d_X3_setAside_0 : decode cX3_setAside 0 = .ok (.iconst 0, 1) := by decide +kernel
theorem d_X3_setAside_1 : decode cX3_setAside 1 = .ok (.istore_n 1, 1) := by decide +kernel
theorem d_X3_setAside_2 : decode cX3_setAside 2 = .ok (.iconst 0, 1) := by decide +kernel
theorem d_X3_setAside_3 : decode cX3_setAside 3 = .ok (.istore_n 2, 1) := by decide +kernel
theorem d_X3_setAside_4 : decode cX3_setAside 4 = .ok (.iload_n 2, 1) := by decide +kernel
theorem d_X3_setAside_5 : decode cX3_setAside 5 = .ok (.aload_n 0, 1) := by decide +kernel
theorem d_X3_setAside_6 : decode cX3_setAside 6 = .ok (.getfield 28, 3) := by decide +kernel
theorem d_X3_setAside_9 : decode cX3_setAside 9 = .ok (.if_icmp .ge 20, 3) := by decide +kernel
theorem d_X3_setAside_29 : decode cX3_setAside 29 = .ok (.iload_n 1, 1) := by decide +kernel
theorem d_X3_setAside_30 : decode cX3_setAside 30 = .ok (.ireturn, 1) := by decide +kernel
theorem d_X3_setOfMint_0 : decode cX3_setOfMint 0 = .ok (.iconst 0, 1) := by decide +kernel
theorem d_X3_setOfMint_1 : decode cX3_setOfMint 1 = .ok (.istore_n 2, 1) := by decide +kernel
theorem d_X3_setOfMint_2 : decode cX3_setOfMint 2 = .ok (.iconst 0, 1) := by decide +kernel
theorem d_X3_setOfMint_3 : decode cX3_setOfMint 3 = .ok (.istore_n 3, 1) := by decide +kernel
theorem d_X3_setOfMint_4 : decode cX3_setOfMint 4 = .ok (.iload_n 3, 1) := by decide +kernel
theorem d_X3_setOfMint_5 : decode cX3_setOfMint 5 = .ok (.aload_n 0, 1) := by decide +kernel
theorem d_X3_setOfMint_6 : decode cX3_setOfMint 6 = .ok (.getfield 28, 3) := by decide +kernel
theorem d_X3_setOfMint_9 : decode cX3_setOfMint 9 = .ok (.if_icmp .ge 32, 3) := by decide +kernel
theorem d_X3_setOfMint_41 : decode cX3_setOfMint 41 = .ok (.iload_n 2, 1) := by decide +kernel
theorem d_X3_setOfMint_42 : decode cX3_setOfMint 42 = .ok (.ireturn, 1) := by decide +kernel
theorem d_X3_explainedBy_0 : decode cX3_explainedBy 0 = .ok (.iconst 0, 1) := by decide +kernel
theorem d_X3_explainedBy_1 : decode cX3_explainedBy 1 = .ok (.istore_n 2, 1) := by decide +kernel
theorem d_X3_explainedBy_2 : decode cX3_explainedBy 2 = .ok (.iconst 0, 1) := by decide +kernel
theorem d_X3_explainedBy_3 : decode cX3_explainedBy 3 = .ok (.istore_n 3, 1) := by decide +kernel
theorem d_X3_explainedBy_4 : decode cX3_explainedBy 4 = .ok (.iload_n 3, 1) := by decide +kernel
theorem d_X3_explainedBy_5 : decode cX3_explainedBy 5 = .ok (.aload_n 0, 1) := by decide +kernel
theorem d_X3_explainedBy_6 : decode cX3_explainedBy 6 = .ok (.getfield 28, 3) := by decide +kernel
theorem d_X3_explainedBy_9 : decode cX3_explainedBy 9 = .ok (.if_icmp .ge 34, 3) := by decide +kernel
theorem d_X3_explainedBy_43 : decode cX3_explainedBy 43 = .ok (.iload_n 2, 1) := by decide +kernel
theorem d_X3_explainedBy_44 : decode cX3_explainedBy 44 = .ok (.ireturn, 1) := by decide +kernel
theorem d_X3_lossesOf_0 : decode cX3_lossesOf 0 = .ok (.iconst 0, 1) := by decide +kernel
theorem d_X3_lossesOf_1 : decode cX3_lossesOf 1 = .ok (.istore_n 3, 1) := by decide +kernel
theorem d_X3_lossesOf_2 : decode cX3_lossesOf 2 = .ok (.iconst 0, 1) := by decide +kernel
theorem d_X3_lossesOf_3 : decode cX3_lossesOf 3 = .ok (.istore 4, 2) := by decide +kernel
theorem d_X3_lossesOf_5 : decode cX3_lossesOf 5 = .ok (.iload 4, 2) := by decide +kernel
theorem d_X3_lossesOf_7 : decode cX3_lossesOf 7 = .ok (.aload_n 0, 1) := by decide +kernel
theorem d_X3_lossesOf_8 : decode cX3_lossesOf 8 = .ok (.getfield 28, 3) := by decide +kernel
theorem d_X3_lossesOf_11 : decode cX3_lossesOf 11 = .ok (.if_icmp .ge 29, 3) := by decide +kernel
theorem d_X3_lossesOf_40 : decode cX3_lossesOf 40 = .ok (.iload_n 3, 1) := by decide +kernel
theorem d_X3_lossesOf_41 : decode cX3_lossesOf 41 = .ok (.ireturn, 1) := by decide +kernel
theorem d_X3_lackOf_0 : decode cX3_lackOf 0 = .ok (.iconst 0, 1) := by decide +kernel
theorem d_X3_lackOf_1 : decode cX3_lackOf 1 = .ok (.istore_n 3, 1) := by decide +kernel
theorem d_X3_lackOf_2 : decode cX3_lackOf 2 = .ok (.iconst 0, 1) := by decide +kernel
theorem d_X3_lackOf_3 : decode cX3_lackOf 3 = .ok (.istore 4, 2) := by decide +kernel
theorem d_X3_lackOf_5 : decode cX3_lackOf 5 = .ok (.iload 4, 2) := by decide +kernel
theorem d_X3_lackOf_7 : decode cX3_lackOf 7 = .ok (.aload_n 0, 1) := by decide +kernel
theorem d_X3_lackOf_8 : decode cX3_lackOf 8 = .ok (.getfield 28, 3) := by decide +kernel
theorem d_X3_lackOf_11 : decode cX3_lackOf 11 = .ok (.if_icmp .ge 43, 3) := by decide +kernel
theorem d_X3_lackOf_54 : decode cX3_lackOf 54 = .ok (.iload_n 3, 1) := by decide +kernel
theorem d_X3_lackOf_55 : decode cX3_lackOf 55 = .ok (.ireturn, 1) := by decide +kernel
theorem d_X3_recognizes_0 : decode cX3_recognizes 0 = .ok (.aload_n 0, 1) := by decide +kernel
theorem d_X3_recognizes_1 : decode cX3_recognizes 1 = .ok (.getfield 31, 3) := by decide +kernel
theorem d_X3_recognizes_4 : decode cX3_recognizes 4 = .ok (.iconst 1, 1) := by decide +kernel
theorem d_X3_recognizes_5 : decode cX3_recognizes 5 = .ok (.if_icmp .ge 8, 3) := by decide +kernel
theorem d_X3_recognizes_8 : decode cX3_recognizes 8 = .ok (.bipush (-9), 2) := by decide +kernel
theorem d_X3_recognizes_10 : decode cX3_recognizes 10 = .ok (.goto 9, 3) := by decide +kernel
theorem d_X3_recognizes_19 : decode cX3_recognizes 19 = .ok (.istore_n 2, 1) := by decide +kernel
theorem d_X3_recognizes_20 : decode cX3_recognizes 20 = .ok (.aload_n 0, 1) := by decide +kernel
theorem d_X3_recognizes_21 : decode cX3_recognizes 21 = .ok (.iload_n 2, 1) := by decide +kernel
theorem d_X3_recognizes_22 : decode cX3_recognizes 22 = .ok (.invokevirtual 81, 3) := by decide +kernel
theorem hd_X3_hasMint : cu_hd yX3_hasMint 1 := by decide +kernel
theorem k_321 : (.code yX3_hasMint cX3_hasMint 2 (some .boolean) : Cond) ∈ cu_G := cu_mem 321 (by decide +kernel) (by decide +kernel)
theorem k_660 : (.methodLink RX3 81 yX3_hasMint : Cond) ∈ cu_G := cu_mem 660 (by decide +kernel) (by decide +kernel)
theorem k_319 : (.instanceMethod yX3_hasMint : Cond) ∈ cu_G := cu_mem 319 (by decide +kernel) (by decide +kernel)
theorem k_320 : (.selects RX3 yX3_hasMint yX3_hasMint : Cond) ∈ cu_G := cu_mem 320 (by decide +kernel) (by decide +kernel)
theorem d_X3_recognizes_25 : decode cX3_recognizes 25 = .ok (.ifCond .ne 5, 3) := by decide +kernel
theorem d_X3_recognizes_28 : decode cX3_recognizes 28 = .ok (.iconst 0, 1) := by decide +kernel
theorem d_X3_recognizes_29 : decode cX3_recognizes 29 = .ok (.ireturn, 1) := by decide +kernel
set_option maxHeartbeats 4000000 in
set_option maxRecDepth 100000 in
theorem c_X3_hasCoin (l : Launch) (D : va_G) (cI cZ cQ : ClassId) (h w y a u : Nat) (rt lw : Int32) (c1 : Int32) : cu_R l D (cu_TY cI cZ cQ) yX3_hasCoin cX3_hasCoin 2 .boolean 0 0 [.ref h, .int c1] [(h, .inr (2, [.ref w, .ref y, .ref a, .ref u, .int 0, .int 0, .int rt, .int lw]))] (fun r => r = 0) := by
  refine cu_R.intro (by decide) (Nat.le_of_ble_eq_true rfl) ?_
  intro p e s m args below meth c Q ls S hret hP hK hl
  obtain ⟨hx, hb, hml, hown, hg⟩ := S
  have hown : s.vm.findClass RX3 = some m.cls := hown
  have hl : lv_has ls 2 [(0, .ref h), (1, .int c1)] := hl
  refine lv_iload_n hx hb d_X3_hasCoin_0 rfl (lv_at hl 1 rfl) ?_
  refine lv_if_lt (tgt := 16) hx hb d_X3_hasCoin_1 (by decide) (fun c_1 => ?_) (fun c_1 => ?_)
  · skip
    refine lv_iconst (v := 0) hx hb d_X3_hasCoin_16 (by decide) ?_
    exact hret _ _ _ d_X3_hasCoin_17 (by decide +kernel) (rfl)
  · skip
    refine lv_iload_n hx hb d_X3_hasCoin_4 rfl (lv_at hl 1 rfl) ?_
    refine lv_aload_n hx hb d_X3_hasCoin_5 rfl (lv_at hl 0 rfl) ?_
    refine va_get (D := D) (ci := 2) (v := .int 0) (C := RX3) (T := TX3) (N := 8) hx hb hg cu_iX3 hown hK.1 hP 0 rfl rfl 4 (by decide) (hg _ k_94) (fun _ h9 => h9) rfl d_X3_hasCoin_6 ?_
    refine lv_icmp_ge (tgt := 16) hx hb d_X3_hasCoin_9 (by decide) (fun _ => ?_) (fun c_2 => absurd (Int32.not_lt.mp c_1) c_2)
    refine lv_iconst (v := 0) hx hb d_X3_hasCoin_16 (by decide) ?_
    exact hret _ _ _ d_X3_hasCoin_17 (by decide +kernel) (rfl)
set_option maxHeartbeats 4000000 in
set_option maxRecDepth 100000 in
theorem c_X3_hasMint (l : Launch) (D : va_G) (cI cZ cQ : ClassId) (h w y a u : Nat) (rt lw : Int32) (c1 : Int32) : cu_R l D (cu_TY cI cZ cQ) yX3_hasMint cX3_hasMint 2 .boolean 0 0 [.ref h, .int c1] [(h, .inr (2, [.ref w, .ref y, .ref a, .ref u, .int 0, .int 0, .int rt, .int lw]))] (fun r => r = 0) := by
  refine cu_R.intro (by decide) (Nat.le_of_ble_eq_true rfl) ?_
  intro p e s m args below meth c Q ls S hret hP hK hl
  obtain ⟨hx, hb, hml, hown, hg⟩ := S
  have hown : s.vm.findClass RX3 = some m.cls := hown
  have hl : lv_has ls 2 [(0, .ref h), (1, .int c1)] := hl
  refine lv_iload_n hx hb d_X3_hasMint_0 rfl (lv_at hl 1 rfl) ?_
  refine lv_if_lt (tgt := 16) hx hb d_X3_hasMint_1 (by decide) (fun c_1 => ?_) (fun c_1 => ?_)
  · skip
    refine lv_iconst (v := 0) hx hb d_X3_hasMint_16 (by decide) ?_
    exact hret _ _ _ d_X3_hasMint_17 (by decide +kernel) (rfl)
  · skip
    refine lv_iload_n hx hb d_X3_hasMint_4 rfl (lv_at hl 1 rfl) ?_
    refine lv_aload_n hx hb d_X3_hasMint_5 rfl (lv_at hl 0 rfl) ?_
    refine va_get (D := D) (ci := 2) (v := .int 0) (C := RX3) (T := TX3) (N := 8) hx hb hg cu_iX3 hown hK.1 hP 0 rfl rfl 5 (by decide) (hg _ k_97) (fun _ h9 => h9) rfl d_X3_hasMint_6 ?_
    refine lv_icmp_ge (tgt := 16) hx hb d_X3_hasMint_9 (by decide) (fun _ => ?_) (fun c_2 => absurd (Int32.not_lt.mp c_1) c_2)
    refine lv_iconst (v := 0) hx hb d_X3_hasMint_16 (by decide) ?_
    exact hret _ _ _ d_X3_hasMint_17 (by decide +kernel) (rfl)
set_option maxHeartbeats 4000000 in
set_option maxRecDepth 100000 in
theorem c_X3_counts (l : Launch) (D : va_G) (cI cZ cQ : ClassId) (h w y a u : Nat) (rt lw : Int32) (c1 : Int32) : cu_R l D (cu_TY cI cZ cQ) yX3_counts cX3_counts 2 .boolean 1 21 [.ref h, .int c1] [(h, .inr (2, [.ref w, .ref y, .ref a, .ref u, .int 0, .int 0, .int rt, .int lw]))] (fun r => r = 0) := by
  refine cu_R.intro (by decide) (Nat.le_of_ble_eq_true rfl) ?_
  intro p e s m args below meth c Q ls S hret hP hK hl
  obtain ⟨hx, hb, hml, hown, hg⟩ := S
  have hown : s.vm.findClass RX3 = some m.cls := hown
  have hl : lv_has ls 2 [(0, .ref h), (1, .int c1)] := hl
  refine lv_aload_n hx hb d_X3_counts_0 rfl (lv_at hl 0 rfl) ?_
  refine lv_iload_n hx hb d_X3_counts_1 rfl (lv_at hl 1 rfl) ?_
  refine cu_VR (wc := [(h, .inr (2, [.ref w, .ref y, .ref a, .ref u, .int 0, .int 0, .int rt, .int lw]))]) (rest := []) [.int c1] ⟨hx, hb, hml, hown, hg⟩ (c_X3_hasCoin l D cI cZ cQ h w y a u rt lw c1) hd_X3_hasCoin k_281 k_286 k_279 k_280 k_45 ⟨Nat.le_of_ble_eq_true rfl, Nat.le_of_ble_eq_true rfl⟩ ⟨Nat.le_of_ble_eq_true rfl, Nat.le_of_ble_eq_true rfl⟩ hP hK [0] rfl 0 rfl rfl rfl hl.1 rfl (Nat.le_of_ble_eq_true rfl) d_X3_counts_2 (fun r_1 hr_2 => ?_)
  subst hr_2
  refine lv_if_eq (tgt := 21) hx hb d_X3_counts_5 (by decide) (fun _ => ?_) (fun c_3 => absurd (by decide +kernel) c_3)
  refine lv_iconst (v := 0) hx hb d_X3_counts_21 (by decide) ?_
  exact hret _ _ _ d_X3_counts_22 (by decide +kernel) (rfl)
set_option maxHeartbeats 4000000 in
set_option maxRecDepth 100000 in
theorem c_X3_placeOf (l : Launch) (D : va_G) (cI cZ cQ : ClassId) (h w y a u : Nat) (rt lw : Int32) : cu_R l D (cu_TY cI cZ cQ) yX3_placeOf cX3_placeOf 4 .int 0 0 [.ref h, .int 0] [(h, .inr (2, [.ref w, .ref y, .ref a, .ref u, .int 0, .int 0, .int rt, .int lw]))] (fun r => r = 0) := by
  refine cu_R.intro (by decide) (Nat.le_of_ble_eq_true rfl) ?_
  intro p e s m args below meth c Q ls S hret hP hK hl
  obtain ⟨hx, hb, hml, hown, hg⟩ := S
  have hown : s.vm.findClass RX3 = some m.cls := hown
  have hl : lv_has ls 4 [(0, .ref h), (1, .int 0)] := hl
  refine lv_iconst (v := 0) hx hb d_X3_placeOf_0 (by decide) ?_
  refine lv_istore_n (lv' := [(2, .int 0), (0, .ref h), (1, .int 0)]) hx hb d_X3_placeOf_1 rfl hl (by decide) rfl (fun ls hl => ?_)
  refine lv_iconst (v := 0) hx hb d_X3_placeOf_2 (by decide) ?_
  refine lv_istore_n (lv' := [(3, .int 0), (2, .int 0), (0, .ref h), (1, .int 0)]) hx hb d_X3_placeOf_3 rfl hl (by decide) rfl (fun ls hl => ?_)
  refine lv_iload_n hx hb d_X3_placeOf_4 rfl (lv_at hl 0 rfl) ?_
  refine lv_aload_n hx hb d_X3_placeOf_5 rfl (lv_at hl 2 rfl) ?_
  refine va_get (D := D) (ci := 2) (v := .int 0) (C := RX3) (T := TX3) (N := 8) hx hb hg cu_iX3 hown hK.1 hP 0 rfl rfl 4 (by decide) (hg _ k_94) (fun _ h9 => h9) rfl d_X3_placeOf_6 ?_
  refine lv_icmp_ge (tgt := 34) hx hb d_X3_placeOf_9 (by decide) (fun _ => ?_) (fun c_1 => absurd (by decide +kernel) c_1)
  refine lv_iload_n hx hb d_X3_placeOf_34 rfl (lv_at hl 1 rfl) ?_
  exact hret _ _ _ d_X3_placeOf_35 (rfl) (rfl)
set_option maxHeartbeats 4000000 in
set_option maxRecDepth 100000 in
theorem c_X3_counted (l : Launch) (D : va_G) (cI cZ cQ : ClassId) (h w y a u : Nat) (rt lw : Int32) : cu_R l D (cu_TY cI cZ cQ) yX3_counted cX3_counted 1 .int 1 23 [.ref h] [(h, .inr (2, [.ref w, .ref y, .ref a, .ref u, .int 0, .int 0, .int rt, .int lw]))] (fun r => r = 0) := by
  refine cu_R.intro (by decide) (Nat.le_of_ble_eq_true rfl) ?_
  intro p e s m args below meth c Q ls S hret hP hK hl
  obtain ⟨hx, hb, hml, hown, hg⟩ := S
  have hown : s.vm.findClass RX3 = some m.cls := hown
  have hl : lv_has ls 1 [(0, .ref h)] := hl
  refine lv_aload_n hx hb d_X3_counted_0 rfl (lv_at hl 0 rfl) ?_
  refine lv_aload_n hx hb d_X3_counted_1 rfl (lv_at hl 0 rfl) ?_
  refine va_get (D := D) (ci := 2) (v := .int 0) (C := RX3) (T := TX3) (N := 8) hx hb hg cu_iX3 hown hK.1 hP 0 rfl rfl 4 (by decide) (hg _ k_94) (fun _ h9 => h9) rfl d_X3_counted_2 ?_
  refine cu_VR (wc := [(h, .inr (2, [.ref w, .ref y, .ref a, .ref u, .int 0, .int 0, .int rt, .int lw]))]) (rest := []) [.int 0] ⟨hx, hb, hml, hown, hg⟩ (c_X3_placeOf l D cI cZ cQ h w y a u rt lw) hd_X3_placeOf k_601 k_598 k_599 k_600 k_45 ⟨Nat.le_of_ble_eq_true rfl, Nat.le_of_ble_eq_true rfl⟩ ⟨Nat.le_of_ble_eq_true rfl, Nat.le_of_ble_eq_true rfl⟩ hP hK [0] rfl 0 rfl rfl rfl hl.1 rfl (Nat.le_of_ble_eq_true rfl) d_X3_counted_5 (fun r_1 hr_2 => ?_)
  subst hr_2
  exact hret _ _ _ d_X3_counted_8 (rfl) (rfl)
set_option maxHeartbeats 4000000 in
set_option maxRecDepth 100000 in
theorem c_X3_setAside (l : Launch) (D : va_G) (cI cZ cQ : ClassId) (h w y a u : Nat) (rt lw : Int32) : cu_R l D (cu_TY cI cZ cQ) yX3_setAside cX3_setAside 3 .int 0 0 [.ref h] [(h, .inr (2, [.ref w, .ref y, .ref a, .ref u, .int 0, .int 0, .int rt, .int lw]))] (fun r => r = 0) := by
  refine cu_R.intro (by decide) (Nat.le_of_ble_eq_true rfl) ?_
  intro p e s m args below meth c Q ls S hret hP hK hl
  obtain ⟨hx, hb, hml, hown, hg⟩ := S
  have hown : s.vm.findClass RX3 = some m.cls := hown
  have hl : lv_has ls 3 [(0, .ref h)] := hl
  refine lv_iconst (v := 0) hx hb d_X3_setAside_0 (by decide) ?_
  refine lv_istore_n (lv' := [(1, .int 0), (0, .ref h)]) hx hb d_X3_setAside_1 rfl hl (by decide) rfl (fun ls hl => ?_)
  refine lv_iconst (v := 0) hx hb d_X3_setAside_2 (by decide) ?_
  refine lv_istore_n (lv' := [(2, .int 0), (1, .int 0), (0, .ref h)]) hx hb d_X3_setAside_3 rfl hl (by decide) rfl (fun ls hl => ?_)
  refine lv_iload_n hx hb d_X3_setAside_4 rfl (lv_at hl 0 rfl) ?_
  refine lv_aload_n hx hb d_X3_setAside_5 rfl (lv_at hl 2 rfl) ?_
  refine va_get (D := D) (ci := 2) (v := .int 0) (C := RX3) (T := TX3) (N := 8) hx hb hg cu_iX3 hown hK.1 hP 0 rfl rfl 4 (by decide) (hg _ k_94) (fun _ h9 => h9) rfl d_X3_setAside_6 ?_
  refine lv_icmp_ge (tgt := 29) hx hb d_X3_setAside_9 (by decide) (fun _ => ?_) (fun c_1 => absurd (by decide +kernel) c_1)
  refine lv_iload_n hx hb d_X3_setAside_29 rfl (lv_at hl 1 rfl) ?_
  exact hret _ _ _ d_X3_setAside_30 (rfl) (rfl)
set_option maxHeartbeats 4000000 in
set_option maxRecDepth 100000 in
theorem c_X3_setOfMint (l : Launch) (D : va_G) (cI cZ cQ : ClassId) (h w y a u : Nat) (rt lw : Int32) (c1 : Int32) : cu_R l D (cu_TY cI cZ cQ) yX3_setOfMint cX3_setOfMint 4 .int 0 0 [.ref h, .int c1] [(h, .inr (2, [.ref w, .ref y, .ref a, .ref u, .int 0, .int 0, .int rt, .int lw]))] (fun r => r = 0) := by
  refine cu_R.intro (by decide) (Nat.le_of_ble_eq_true rfl) ?_
  intro p e s m args below meth c Q ls S hret hP hK hl
  obtain ⟨hx, hb, hml, hown, hg⟩ := S
  have hown : s.vm.findClass RX3 = some m.cls := hown
  have hl : lv_has ls 4 [(0, .ref h), (1, .int c1)] := hl
  refine lv_iconst (v := 0) hx hb d_X3_setOfMint_0 (by decide) ?_
  refine lv_istore_n (lv' := [(2, .int 0), (0, .ref h), (1, .int c1)]) hx hb d_X3_setOfMint_1 rfl hl (by decide) rfl (fun ls hl => ?_)
  refine lv_iconst (v := 0) hx hb d_X3_setOfMint_2 (by decide) ?_
  refine lv_istore_n (lv' := [(3, .int 0), (2, .int 0), (0, .ref h), (1, .int c1)]) hx hb d_X3_setOfMint_3 rfl hl (by decide) rfl (fun ls hl => ?_)
  refine lv_iload_n hx hb d_X3_setOfMint_4 rfl (lv_at hl 0 rfl) ?_
  refine lv_aload_n hx hb d_X3_setOfMint_5 rfl (lv_at hl 2 rfl) ?_
  refine va_get (D := D) (ci := 2) (v := .int 0) (C := RX3) (T := TX3) (N := 8) hx hb hg cu_iX3 hown hK.1 hP 0 rfl rfl 4 (by decide) (hg _ k_94) (fun _ h9 => h9) rfl d_X3_setOfMint_6 ?_
  refine lv_icmp_ge (tgt := 41) hx hb d_X3_setOfMint_9 (by decide) (fun _ => ?_) (fun c_1 => absurd (by decide +kernel) c_1)
  refine lv_iload_n hx hb d_X3_setOfMint_41 rfl (lv_at hl 1 rfl) ?_
  exact hret _ _ _ d_X3_setOfMint_42 (rfl) (rfl)
set_option maxHeartbeats 4000000 in
set_option maxRecDepth 100000 in
theorem c_X3_explainedBy (l : Launch) (D : va_G) (cI cZ cQ : ClassId) (h w y a u : Nat) (rt lw : Int32) (c1 : Int32) : cu_R l D (cu_TY cI cZ cQ) yX3_explainedBy cX3_explainedBy 4 .int 0 0 [.ref h, .int c1] [(h, .inr (2, [.ref w, .ref y, .ref a, .ref u, .int 0, .int 0, .int rt, .int lw]))] (fun r => r = 0) := by
  refine cu_R.intro (by decide) (Nat.le_of_ble_eq_true rfl) ?_
  intro p e s m args below meth c Q ls S hret hP hK hl
  obtain ⟨hx, hb, hml, hown, hg⟩ := S
  have hown : s.vm.findClass RX3 = some m.cls := hown
  have hl : lv_has ls 4 [(0, .ref h), (1, .int c1)] := hl
  refine lv_iconst (v := 0) hx hb d_X3_explainedBy_0 (by decide) ?_
  refine lv_istore_n (lv' := [(2, .int 0), (0, .ref h), (1, .int c1)]) hx hb d_X3_explainedBy_1 rfl hl (by decide) rfl (fun ls hl => ?_)
  refine lv_iconst (v := 0) hx hb d_X3_explainedBy_2 (by decide) ?_
  refine lv_istore_n (lv' := [(3, .int 0), (2, .int 0), (0, .ref h), (1, .int c1)]) hx hb d_X3_explainedBy_3 rfl hl (by decide) rfl (fun ls hl => ?_)
  refine lv_iload_n hx hb d_X3_explainedBy_4 rfl (lv_at hl 0 rfl) ?_
  refine lv_aload_n hx hb d_X3_explainedBy_5 rfl (lv_at hl 2 rfl) ?_
  refine va_get (D := D) (ci := 2) (v := .int 0) (C := RX3) (T := TX3) (N := 8) hx hb hg cu_iX3 hown hK.1 hP 0 rfl rfl 4 (by decide) (hg _ k_94) (fun _ h9 => h9) rfl d_X3_explainedBy_6 ?_
  refine lv_icmp_ge (tgt := 43) hx hb d_X3_explainedBy_9 (by decide) (fun _ => ?_) (fun c_1 => absurd (by decide +kernel) c_1)
  refine lv_iload_n hx hb d_X3_explainedBy_43 rfl (lv_at hl 1 rfl) ?_
  exact hret _ _ _ d_X3_explainedBy_44 (rfl) (rfl)
set_option maxHeartbeats 4000000 in
set_option maxRecDepth 100000 in
theorem c_X3_lossesOf (l : Launch) (D : va_G) (cI cZ cQ : ClassId) (h w y a u : Nat) (rt lw : Int32) (c1 c2 : Int32) : cu_R l D (cu_TY cI cZ cQ) yX3_lossesOf cX3_lossesOf 5 .int 0 0 [.ref h, .int c1, .int c2] [(h, .inr (2, [.ref w, .ref y, .ref a, .ref u, .int 0, .int 0, .int rt, .int lw]))] (fun r => r = 0) := by
  refine cu_R.intro (by decide) (Nat.le_of_ble_eq_true rfl) ?_
  intro p e s m args below meth c Q ls S hret hP hK hl
  obtain ⟨hx, hb, hml, hown, hg⟩ := S
  have hown : s.vm.findClass RX3 = some m.cls := hown
  have hl : lv_has ls 5 [(0, .ref h), (1, .int c1), (2, .int c2)] := hl
  refine lv_iconst (v := 0) hx hb d_X3_lossesOf_0 (by decide) ?_
  refine lv_istore_n (lv' := [(3, .int 0), (0, .ref h), (1, .int c1), (2, .int c2)]) hx hb d_X3_lossesOf_1 rfl hl (by decide) rfl (fun ls hl => ?_)
  refine lv_iconst (v := 0) hx hb d_X3_lossesOf_2 (by decide) ?_
  refine lv_istore (lv' := [(4, .int 0), (3, .int 0), (0, .ref h), (1, .int c1), (2, .int c2)]) hx hb d_X3_lossesOf_3 hl (by decide) rfl (fun ls hl => ?_)
  refine lv_iload hx hb d_X3_lossesOf_5 (lv_at hl 0 rfl) ?_
  refine lv_aload_n hx hb d_X3_lossesOf_7 rfl (lv_at hl 2 rfl) ?_
  refine va_get (D := D) (ci := 2) (v := .int 0) (C := RX3) (T := TX3) (N := 8) hx hb hg cu_iX3 hown hK.1 hP 0 rfl rfl 4 (by decide) (hg _ k_94) (fun _ h9 => h9) rfl d_X3_lossesOf_8 ?_
  refine lv_icmp_ge (tgt := 40) hx hb d_X3_lossesOf_11 (by decide) (fun _ => ?_) (fun c_1 => absurd (by decide +kernel) c_1)
  refine lv_iload_n hx hb d_X3_lossesOf_40 rfl (lv_at hl 1 rfl) ?_
  exact hret _ _ _ d_X3_lossesOf_41 (rfl) (rfl)
set_option maxHeartbeats 4000000 in
set_option maxRecDepth 100000 in
theorem c_X3_lackOf (l : Launch) (D : va_G) (cI cZ cQ : ClassId) (h w y a u : Nat) (rt lw : Int32) (c1 c2 : Int32) : cu_R l D (cu_TY cI cZ cQ) yX3_lackOf cX3_lackOf 5 .int 0 0 [.ref h, .int c1, .int c2] [(h, .inr (2, [.ref w, .ref y, .ref a, .ref u, .int 0, .int 0, .int rt, .int lw]))] (fun r => r = 0) := by
  refine cu_R.intro (by decide) (Nat.le_of_ble_eq_true rfl) ?_
  intro p e s m args below meth c Q ls S hret hP hK hl
  obtain ⟨hx, hb, hml, hown, hg⟩ := S
  have hown : s.vm.findClass RX3 = some m.cls := hown
  have hl : lv_has ls 5 [(0, .ref h), (1, .int c1), (2, .int c2)] := hl
  refine lv_iconst (v := 0) hx hb d_X3_lackOf_0 (by decide) ?_
  refine lv_istore_n (lv' := [(3, .int 0), (0, .ref h), (1, .int c1), (2, .int c2)]) hx hb d_X3_lackOf_1 rfl hl (by decide) rfl (fun ls hl => ?_)
  refine lv_iconst (v := 0) hx hb d_X3_lackOf_2 (by decide) ?_
  refine lv_istore (lv' := [(4, .int 0), (3, .int 0), (0, .ref h), (1, .int c1), (2, .int c2)]) hx hb d_X3_lackOf_3 hl (by decide) rfl (fun ls hl => ?_)
  refine lv_iload hx hb d_X3_lackOf_5 (lv_at hl 0 rfl) ?_
  refine lv_aload_n hx hb d_X3_lackOf_7 rfl (lv_at hl 2 rfl) ?_
  refine va_get (D := D) (ci := 2) (v := .int 0) (C := RX3) (T := TX3) (N := 8) hx hb hg cu_iX3 hown hK.1 hP 0 rfl rfl 4 (by decide) (hg _ k_94) (fun _ h9 => h9) rfl d_X3_lackOf_8 ?_
  refine lv_icmp_ge (tgt := 54) hx hb d_X3_lackOf_11 (by decide) (fun _ => ?_) (fun c_1 => absurd (by decide +kernel) c_1)
  refine lv_iload_n hx hb d_X3_lackOf_54 rfl (lv_at hl 1 rfl) ?_
  exact hret _ _ _ d_X3_lackOf_55 (rfl) (rfl)
set_option maxHeartbeats 4000000 in
set_option maxRecDepth 100000 in
theorem c_X3_recognizes (l : Launch) (D : va_G) (cI cZ cQ : ClassId) (h w y a u : Nat) (rt lw : Int32) (c1 : Int32) : cu_R l D (cu_TY cI cZ cQ) yX3_recognizes cX3_recognizes 6 .boolean 1 21 [.ref h, .int c1] [(h, .inr (2, [.ref w, .ref y, .ref a, .ref u, .int 0, .int 0, .int rt, .int lw]))] (fun r => r = 0) := by
  refine cu_R.intro (by decide) (Nat.le_of_ble_eq_true rfl) ?_
  intro p e s m args below meth c Q ls S hret hP hK hl
  obtain ⟨hx, hb, hml, hown, hg⟩ := S
  have hown : s.vm.findClass RX3 = some m.cls := hown
  have hl : lv_has ls 6 [(0, .ref h), (1, .int c1)] := hl
  refine lv_aload_n hx hb d_X3_recognizes_0 rfl (lv_at hl 0 rfl) ?_
  refine va_get (D := D) (ci := 2) (v := .int 0) (C := RX3) (T := TX3) (N := 8) hx hb hg cu_iX3 hown hK.1 hP 0 rfl rfl 5 (by decide) (hg _ k_97) (fun _ h9 => h9) rfl d_X3_recognizes_1 ?_
  refine lv_iconst (v := 1) hx hb d_X3_recognizes_4 (by decide) ?_
  refine lv_icmp_ge (tgt := 13) hx hb d_X3_recognizes_5 (by decide) (fun c_1 => absurd c_1 (by decide +kernel)) (fun _ => ?_)
  refine lv_bipush (v := (-9)) hx hb d_X3_recognizes_8 (by decide) ?_
  refine lv_goto (tgt := 19) hx hb d_X3_recognizes_10 (by decide) ?_
  refine lv_istore_n (lv' := [(2, .int (-9)), (0, .ref h), (1, .int c1)]) hx hb d_X3_recognizes_19 rfl hl (by decide) rfl (fun ls hl => ?_)
  refine lv_aload_n hx hb d_X3_recognizes_20 rfl (lv_at hl 1 rfl) ?_
  refine lv_iload_n hx hb d_X3_recognizes_21 rfl (lv_at hl 0 rfl) ?_
  refine cu_VR (wc := [(h, .inr (2, [.ref w, .ref y, .ref a, .ref u, .int 0, .int 0, .int rt, .int lw]))]) (rest := []) [.int (-9)] ⟨hx, hb, hml, hown, hg⟩ (c_X3_hasMint l D cI cZ cQ h w y a u rt lw (-9)) hd_X3_hasMint k_321 k_660 k_319 k_320 k_45 ⟨Nat.le_of_ble_eq_true rfl, Nat.le_of_ble_eq_true rfl⟩ ⟨Nat.le_of_ble_eq_true rfl, Nat.le_of_ble_eq_true rfl⟩ hP hK [0] rfl 0 rfl rfl rfl hl.1 rfl (Nat.le_of_ble_eq_true rfl) d_X3_recognizes_22 (fun r_2 hr_3 => ?_)
  subst hr_3
  refine lv_if_ne (tgt := 30) hx hb d_X3_recognizes_25 (by decide) (fun c_4 => absurd (by decide +kernel) c_4) (fun _ => ?_)
  refine lv_iconst (v := 0) hx hb d_X3_recognizes_28 (by decide) ?_
  exact hret _ _ _ d_X3_recognizes_29 (by decide +kernel) (rfl)
