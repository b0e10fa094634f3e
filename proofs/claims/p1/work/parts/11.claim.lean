
set_option maxHeartbeats 4000000 in
set_option maxRecDepth 100000 in
theorem whole_start {p : Program} {e : Env} {s : State} {m : MethodId} {below : List Frame} {meth : Method} {c : Code} (l : Launch) (hflags : l.flags = flags0) {b L : Nat} {xs : Nat → Int32} (hL : L ≤ 4) (C0 : lw_At p s m meth c b L xs) : W p l e room_1 s m #[Value.ref b] below meth c s.heap [] 0 0 (lw_Z below #[Value.ref b] s) (entryFrame m ([Value.ref b] : List Value).toArray 4) := by
  obtain ⟨hx, hb, hr, hml, hown, hts, hX, hbl, hlocks, hgv⟩ := id C0
  have hg : ∀ w ∈ cu_G, w.before #[Value.ref b] s = true := fun w h => hts w (List.mem_filter.mp h).1
  obtain ⟨D, cI, cZ, cQ, hK⟩ := law_K hts hg
  obtain ⟨A, hAe⟩ : ∃ A : Nat → Prop, A = fun q : Nat => s.heap.size ≤ q := ⟨_, rfl⟩
  have hA : ∀ q : Nat, s.heap.size ≤ q → A q := fun q h => by rw [hAe]; exact h
  have hAs : ∀ q : Nat, A q → s.heap.size ≤ q := fun q h => by rw [hAe] at h; exact h
  have hbA : ¬ A b := fun h => Nat.not_le.mpr hbl (hAs b h)
  have hS : va_S A s.heap s.heap [] := va_S.rf
  have hP : va_P D vwCl [] s.heap := fun k q h => by simp at h
  have hD : va_D A [] := ⟨fun i j p q h => by simp at h, fun k q h => by simp at h⟩
  have hb : c.code = cL_law := hb
  have hown : s.vm.findClass RL = some m.cls := hown
  have hl := lv_entry ([.ref b]) (n := 4) (Nat.le_of_ble_eq_true rfl)
  rw [lg_entry_eq]
  generalize (lg_sl ([.ref b]) ++ List.replicate (4 - (lg_sl ([.ref b])).length) Slot.unset).toArray = ls at hl ⊢
  have hl : lv_has ls 4 [(0, .ref b)] := hl
  refine va_new (ci := 6) (fs := [.null, .null, .null, .null, .null, .null, .null, .null, .null, .long 0]) (C := RX8) (T := TX8) (N := 10) hx hb hg cu_iX8 tyX8 tyX8_ok hown (hg _ k_55) (hg _ k_56) (hg _ k_43) hK.1 hP hD hS hA rfl (fun j hj => by rcases (show j = 0 ∨ j = 1 ∨ j = 2 ∨ j = 3 ∨ j = 4 ∨ j = 5 ∨ j = 6 ∨ j = 7 ∨ j = 8 ∨ j = 9 by omega) with rfl | rfl | rfl | rfl | rfl | rfl | rfl | rfl | rfl | rfl <;> rfl) (Nat.le_of_ble_eq_true rfl) (Nat.le_of_ble_eq_true rfl) d_L_law_0 (fun q_1 H hP hD hS => ?_)
  have hP : va_P D vwCl [(q_1, .inr (6, [.null, .null, .null, .null, .null, .null, .null, .null, .null, .long 0]))] H := hP
  have hD : va_D A [(q_1, .inr (6, [.null, .null, .null, .null, .null, .null, .null, .null, .null, .long 0]))] := hD
  refine W.widen (k := 1) (n := 10) (Nat.le_of_ble_eq_true rfl) (Nat.le_of_ble_eq_true rfl) ?_
  refine lv_dup hx hb d_L_law_3 rfl ?_
  refine cu_IV (wc := [(q_1, .inr (6, [.null, .null, .null, .null, .null, .null, .null, .null, .null, .long 0]))]) (wr := []) (rest := [.ref q_1]) [] ⟨hx, hb, hml, hown, hg⟩ (c_X8_init l D cI cZ cQ q_1) hd_X8_init k_59 k_57 k_58 k_43 rfl ⟨Nat.le_of_ble_eq_true rfl, Nat.le_of_ble_eq_true rfl⟩ ⟨Nat.le_of_ble_eq_true rfl, Nat.le_of_ble_eq_true rfl⟩ hP hD hS hA hK [0] [] rfl rfl (by decide) (by decide) (by decide) rfl hl.1 rfl (Nat.le_of_ble_eq_true rfl) d_L_law_4 (fun w_4 H locs hw_3 hP hD hS => ?_)
  obtain ⟨tx_5, nw_6, sp_7, ac_8, cr_9, sg_10, sl_11, fl_12, ts_13, n1_14, n2_15, n3_16, n4_17, p1_18, p2_19, p3_20, p4_21, k1_22, k2_23, k3_24, vs_25, g1_26, g2_27, h0_28, h1_29, a1_30, a2_31, a3_32, a4_33, b1_34, b2_35, b3_36, b4_37, rfl⟩ := hw_3
  have hP : va_P D vwCl [(q_1, .inr (6, [.ref tx_5, .ref nw_6, .ref sp_7, .ref ac_8, .ref cr_9, .ref sg_10, .ref sl_11, .ref fl_12, .null, .long 0])), (tx_5, .inr (5, [.ref ts_13, .int 0])), (ts_13, .inl (cI, 130, .inl (fun _ => 0))), (nw_6, .inr (2, [.ref n1_14, .ref n2_15, .ref n3_16, .ref n4_17, .int 0, .int 0, .int 1, .int 0])), (n1_14, .inl (cI, 12, .inl (fun _ => 0))), (n2_15, .inl (cI, 12, .inl (fun _ => 0))), (n3_16, .inl (cI, 12, .inl (fun _ => 0))), (n4_17, .inl (cI, 3, .inl (fun _ => 0))), (sp_7, .inr (2, [.ref p1_18, .ref p2_19, .ref p3_20, .ref p4_21, .int 0, .int 0, .int 1, .int 0])), (p1_18, .inl (cI, 12, .inl (fun _ => 0))), (p2_19, .inl (cI, 12, .inl (fun _ => 0))), (p3_20, .inl (cI, 12, .inl (fun _ => 0))), (p4_21, .inl (cI, 3, .inl (fun _ => 0))), (ac_8, .inr (0, [.ref k1_22, .ref k2_23, .ref k3_24, .int 0, .int 0])), (k1_22, .inl (cI, 14, .inl (fun _ => 0))), (k2_23, .inl (cI, 14, .inl (fun _ => 0))), (k3_24, .inl (cI, 14, .inl (fun _ => 0))), (cr_9, .inr (1, [.ref vs_25, .int 0, .int 0])), (vs_25, .inl (cI, 256, .inl (fun _ => 0))), (sg_10, .inr (3, [.ref g1_26, .ref g2_27, .int 0])), (sl_11, .inl (cQ, 2, .inr (.inr (.inr (.inr (va_up (va_up (fun _ => none) 0 (some h0_28)) 1 (some h1_29))))))), (h0_28, .inr (2, [.ref a1_30, .ref a2_31, .ref a3_32, .ref a4_33, .int 0, .int 0, .int 1, .int 0])), (a1_30, .inl (cI, 12, .inl (fun _ => 0))), (a2_31, .inl (cI, 12, .inl (fun _ => 0))), (a3_32, .inl (cI, 12, .inl (fun _ => 0))), (a4_33, .inl (cI, 3, .inl (fun _ => 0))), (h1_29, .inr (2, [.ref b1_34, .ref b2_35, .ref b3_36, .ref b4_37, .int 0, .int 0, .int 1, .int 0])), (b1_34, .inl (cI, 12, .inl (fun _ => 0))), (b2_35, .inl (cI, 12, .inl (fun _ => 0))), (b3_36, .inl (cI, 12, .inl (fun _ => 0))), (b4_37, .inl (cI, 3, .inl (fun _ => 0))), (fl_12, .inl (cZ, 2, .inl (fun _ => 0)))] H := hP
  have hD : va_D A [(q_1, .inr (6, [.ref tx_5, .ref nw_6, .ref sp_7, .ref ac_8, .ref cr_9, .ref sg_10, .ref sl_11, .ref fl_12, .null, .long 0])), (tx_5, .inr (5, [.ref ts_13, .int 0])), (ts_13, .inl (cI, 130, .inl (fun _ => 0))), (nw_6, .inr (2, [.ref n1_14, .ref n2_15, .ref n3_16, .ref n4_17, .int 0, .int 0, .int 1, .int 0])), (n1_14, .inl (cI, 12, .inl (fun _ => 0))), (n2_15, .inl (cI, 12, .inl (fun _ => 0))), (n3_16, .inl (cI, 12, .inl (fun _ => 0))), (n4_17, .inl (cI, 3, .inl (fun _ => 0))), (sp_7, .inr (2, [.ref p1_18, .ref p2_19, .ref p3_20, .ref p4_21, .int 0, .int 0, .int 1, .int 0])), (p1_18, .inl (cI, 12, .inl (fun _ => 0))), (p2_19, .inl (cI, 12, .inl (fun _ => 0))), (p3_20, .inl (cI, 12, .inl (fun _ => 0))), (p4_21, .inl (cI, 3, .inl (fun _ => 0))), (ac_8, .inr (0, [.ref k1_22, .ref k2_23, .ref k3_24, .int 0, .int 0])), (k1_22, .inl (cI, 14, .inl (fun _ => 0))), (k2_23, .inl (cI, 14, .inl (fun _ => 0))), (k3_24, .inl (cI, 14, .inl (fun _ => 0))), (cr_9, .inr (1, [.ref vs_25, .int 0, .int 0])), (vs_25, .inl (cI, 256, .inl (fun _ => 0))), (sg_10, .inr (3, [.ref g1_26, .ref g2_27, .int 0])), (sl_11, .inl (cQ, 2, .inr (.inr (.inr (.inr (va_up (va_up (fun _ => none) 0 (some h0_28)) 1 (some h1_29))))))), (h0_28, .inr (2, [.ref a1_30, .ref a2_31, .ref a3_32, .ref a4_33, .int 0, .int 0, .int 1, .int 0])), (a1_30, .inl (cI, 12, .inl (fun _ => 0))), (a2_31, .inl (cI, 12, .inl (fun _ => 0))), (a3_32, .inl (cI, 12, .inl (fun _ => 0))), (a4_33, .inl (cI, 3, .inl (fun _ => 0))), (h1_29, .inr (2, [.ref b1_34, .ref b2_35, .ref b3_36, .ref b4_37, .int 0, .int 0, .int 1, .int 0])), (b1_34, .inl (cI, 12, .inl (fun _ => 0))), (b2_35, .inl (cI, 12, .inl (fun _ => 0))), (b3_36, .inl (cI, 12, .inl (fun _ => 0))), (b4_37, .inl (cI, 3, .inl (fun _ => 0))), (fl_12, .inl (cZ, 2, .inl (fun _ => 0)))] := hD
  refine W.widen (k := 34) (n := 655) (Nat.le_of_ble_eq_true rfl) (Nat.le_of_ble_eq_true rfl) ?_
  refine lv_astore_n (lv' := [(1, .ref q_1), (0, .ref b)]) hx hb d_L_law_7 rfl hl (by decide) rfl (fun ls hl => ?_)
  refine va_new (ci := 7) (fs := [.int 0, .null, .int 0, .int 0, .int 0, .int 0, .int 0, .null, .null, .null, .null, .int 0, .null, .null, .int 0, .null, .null, .long 0, .null, .null, .null, .int 0, .int 0, .int 0, .int 0, .null, .int 0, .null]) (C := RX9) (T := TX9) (N := 28) hx hb hg cu_iX9 tyX9 tyX9_ok hown (hg _ k_678) (hg _ k_679) (hg _ k_49) hK.1 hP hD hS hA rfl (fun j hj => by rcases (show j = 0 ∨ j = 1 ∨ j = 2 ∨ j = 3 ∨ j = 4 ∨ j = 5 ∨ j = 6 ∨ j = 7 ∨ j = 8 ∨ j = 9 ∨ j = 10 ∨ j = 11 ∨ j = 12 ∨ j = 13 ∨ j = 14 ∨ j = 15 ∨ j = 16 ∨ j = 17 ∨ j = 18 ∨ j = 19 ∨ j = 20 ∨ j = 21 ∨ j = 22 ∨ j = 23 ∨ j = 24 ∨ j = 25 ∨ j = 26 ∨ j = 27 by omega) with rfl | rfl | rfl | rfl | rfl | rfl | rfl | rfl | rfl | rfl | rfl | rfl | rfl | rfl | rfl | rfl | rfl | rfl | rfl | rfl | rfl | rfl | rfl | rfl | rfl | rfl | rfl | rfl <;> rfl) (Nat.le_of_ble_eq_true rfl) (Nat.le_of_ble_eq_true rfl) d_L_law_8 (fun q_38 H hP hD hS => ?_)
  have hP : va_P D vwCl [(q_1, .inr (6, [.ref tx_5, .ref nw_6, .ref sp_7, .ref ac_8, .ref cr_9, .ref sg_10, .ref sl_11, .ref fl_12, .null, .long 0])), (tx_5, .inr (5, [.ref ts_13, .int 0])), (ts_13, .inl (cI, 130, .inl (fun _ => 0))), (nw_6, .inr (2, [.ref n1_14, .ref n2_15, .ref n3_16, .ref n4_17, .int 0, .int 0, .int 1, .int 0])), (n1_14, .inl (cI, 12, .inl (fun _ => 0))), (n2_15, .inl (cI, 12, .inl (fun _ => 0))), (n3_16, .inl (cI, 12, .inl (fun _ => 0))), (n4_17, .inl (cI, 3, .inl (fun _ => 0))), (sp_7, .inr (2, [.ref p1_18, .ref p2_19, .ref p3_20, .ref p4_21, .int 0, .int 0, .int 1, .int 0])), (p1_18, .inl (cI, 12, .inl (fun _ => 0))), (p2_19, .inl (cI, 12, .inl (fun _ => 0))), (p3_20, .inl (cI, 12, .inl (fun _ => 0))), (p4_21, .inl (cI, 3, .inl (fun _ => 0))), (ac_8, .inr (0, [.ref k1_22, .ref k2_23, .ref k3_24, .int 0, .int 0])), (k1_22, .inl (cI, 14, .inl (fun _ => 0))), (k2_23, .inl (cI, 14, .inl (fun _ => 0))), (k3_24, .inl (cI, 14, .inl (fun _ => 0))), (cr_9, .inr (1, [.ref vs_25, .int 0, .int 0])), (vs_25, .inl (cI, 256, .inl (fun _ => 0))), (sg_10, .inr (3, [.ref g1_26, .ref g2_27, .int 0])), (sl_11, .inl (cQ, 2, .inr (.inr (.inr (.inr (va_up (va_up (fun _ => none) 0 (some h0_28)) 1 (some h1_29))))))), (h0_28, .inr (2, [.ref a1_30, .ref a2_31, .ref a3_32, .ref a4_33, .int 0, .int 0, .int 1, .int 0])), (a1_30, .inl (cI, 12, .inl (fun _ => 0))), (a2_31, .inl (cI, 12, .inl (fun _ => 0))), (a3_32, .inl (cI, 12, .inl (fun _ => 0))), (a4_33, .inl (cI, 3, .inl (fun _ => 0))), (h1_29, .inr (2, [.ref b1_34, .ref b2_35, .ref b3_36, .ref b4_37, .int 0, .int 0, .int 1, .int 0])), (b1_34, .inl (cI, 12, .inl (fun _ => 0))), (b2_35, .inl (cI, 12, .inl (fun _ => 0))), (b3_36, .inl (cI, 12, .inl (fun _ => 0))), (b4_37, .inl (cI, 3, .inl (fun _ => 0))), (fl_12, .inl (cZ, 2, .inl (fun _ => 0))), (q_38, .inr (7, [.int 0, .null, .int 0, .int 0, .int 0, .int 0, .int 0, .null, .null, .null, .null, .int 0, .null, .null, .int 0, .null, .null, .long 0, .null, .null, .null, .int 0, .int 0, .int 0, .int 0, .null, .int 0, .null]))] H := hP
  have hD : va_D A [(q_1, .inr (6, [.ref tx_5, .ref nw_6, .ref sp_7, .ref ac_8, .ref cr_9, .ref sg_10, .ref sl_11, .ref fl_12, .null, .long 0])), (tx_5, .inr (5, [.ref ts_13, .int 0])), (ts_13, .inl (cI, 130, .inl (fun _ => 0))), (nw_6, .inr (2, [.ref n1_14, .ref n2_15, .ref n3_16, .ref n4_17, .int 0, .int 0, .int 1, .int 0])), (n1_14, .inl (cI, 12, .inl (fun _ => 0))), (n2_15, .inl (cI, 12, .inl (fun _ => 0))), (n3_16, .inl (cI, 12, .inl (fun _ => 0))), (n4_17, .inl (cI, 3, .inl (fun _ => 0))), (sp_7, .inr (2, [.ref p1_18, .ref p2_19, .ref p3_20, .ref p4_21, .int 0, .int 0, .int 1, .int 0])), (p1_18, .inl (cI, 12, .inl (fun _ => 0))), (p2_19, .inl (cI, 12, .inl (fun _ => 0))), (p3_20, .inl (cI, 12, .inl (fun _ => 0))), (p4_21, .inl (cI, 3, .inl (fun _ => 0))), (ac_8, .inr (0, [.ref k1_22, .ref k2_23, .ref k3_24, .int 0, .int 0])), (k1_22, .inl (cI, 14, .inl (fun _ => 0))), (k2_23, .inl (cI, 14, .inl (fun _ => 0))), (k3_24, .inl (cI, 14, .inl (fun _ => 0))), (cr_9, .inr (1, [.ref vs_25, .int 0, .int 0])), (vs_25, .inl (cI, 256, .inl (fun _ => 0))), (sg_10, .inr (3, [.ref g1_26, .ref g2_27, .int 0])), (sl_11, .inl (cQ, 2, .inr (.inr (.inr (.inr (va_up (va_up (fun _ => none) 0 (some h0_28)) 1 (some h1_29))))))), (h0_28, .inr (2, [.ref a1_30, .ref a2_31, .ref a3_32, .ref a4_33, .int 0, .int 0, .int 1, .int 0])), (a1_30, .inl (cI, 12, .inl (fun _ => 0))), (a2_31, .inl (cI, 12, .inl (fun _ => 0))), (a3_32, .inl (cI, 12, .inl (fun _ => 0))), (a4_33, .inl (cI, 3, .inl (fun _ => 0))), (h1_29, .inr (2, [.ref b1_34, .ref b2_35, .ref b3_36, .ref b4_37, .int 0, .int 0, .int 1, .int 0])), (b1_34, .inl (cI, 12, .inl (fun _ => 0))), (b2_35, .inl (cI, 12, .inl (fun _ => 0))), (b3_36, .inl (cI, 12, .inl (fun _ => 0))), (b4_37, .inl (cI, 3, .inl (fun _ => 0))), (fl_12, .inl (cZ, 2, .inl (fun _ => 0))), (q_38, .inr (7, [.int 0, .null, .int 0, .int 0, .int 0, .int 0, .int 0, .null, .null, .null, .null, .int 0, .null, .null, .int 0, .null, .null, .long 0, .null, .null, .null, .int 0, .int 0, .int 0, .int 0, .null, .int 0, .null]))] := hD
  refine W.widen (k := 35) (n := 683) (Nat.le_of_ble_eq_true rfl) (Nat.le_of_ble_eq_true rfl) ?_
  refine lv_dup hx hb d_L_law_11 rfl ?_
  refine cu_IV (wc := [(q_38, .inr (7, [.int 0, .null, .int 0, .int 0, .int 0, .int 0, .int 0, .null, .null, .null, .null, .int 0, .null, .null, .int 0, .null, .null, .long 0, .null, .null, .null, .int 0, .int 0, .int 0, .int 0, .null, .int 0, .null]))]) (wr := [(q_1, .inr (6, [.ref tx_5, .ref nw_6, .ref sp_7, .ref ac_8, .ref cr_9, .ref sg_10, .ref sl_11, .ref fl_12, .null, .long 0])), (tx_5, .inr (5, [.ref ts_13, .int 0])), (ts_13, .inl (cI, 130, .inl (fun _ => 0))), (nw_6, .inr (2, [.ref n1_14, .ref n2_15, .ref n3_16, .ref n4_17, .int 0, .int 0, .int 1, .int 0])), (n1_14, .inl (cI, 12, .inl (fun _ => 0))), (n2_15, .inl (cI, 12, .inl (fun _ => 0))), (n3_16, .inl (cI, 12, .inl (fun _ => 0))), (n4_17, .inl (cI, 3, .inl (fun _ => 0))), (sp_7, .inr (2, [.ref p1_18, .ref p2_19, .ref p3_20, .ref p4_21, .int 0, .int 0, .int 1, .int 0])), (p1_18, .inl (cI, 12, .inl (fun _ => 0))), (p2_19, .inl (cI, 12, .inl (fun _ => 0))), (p3_20, .inl (cI, 12, .inl (fun _ => 0))), (p4_21, .inl (cI, 3, .inl (fun _ => 0))), (ac_8, .inr (0, [.ref k1_22, .ref k2_23, .ref k3_24, .int 0, .int 0])), (k1_22, .inl (cI, 14, .inl (fun _ => 0))), (k2_23, .inl (cI, 14, .inl (fun _ => 0))), (k3_24, .inl (cI, 14, .inl (fun _ => 0))), (cr_9, .inr (1, [.ref vs_25, .int 0, .int 0])), (vs_25, .inl (cI, 256, .inl (fun _ => 0))), (sg_10, .inr (3, [.ref g1_26, .ref g2_27, .int 0])), (sl_11, .inl (cQ, 2, .inr (.inr (.inr (.inr (va_up (va_up (fun _ => none) 0 (some h0_28)) 1 (some h1_29))))))), (h0_28, .inr (2, [.ref a1_30, .ref a2_31, .ref a3_32, .ref a4_33, .int 0, .int 0, .int 1, .int 0])), (a1_30, .inl (cI, 12, .inl (fun _ => 0))), (a2_31, .inl (cI, 12, .inl (fun _ => 0))), (a3_32, .inl (cI, 12, .inl (fun _ => 0))), (a4_33, .inl (cI, 3, .inl (fun _ => 0))), (h1_29, .inr (2, [.ref b1_34, .ref b2_35, .ref b3_36, .ref b4_37, .int 0, .int 0, .int 1, .int 0])), (b1_34, .inl (cI, 12, .inl (fun _ => 0))), (b2_35, .inl (cI, 12, .inl (fun _ => 0))), (b3_36, .inl (cI, 12, .inl (fun _ => 0))), (b4_37, .inl (cI, 3, .inl (fun _ => 0))), (fl_12, .inl (cZ, 2, .inl (fun _ => 0)))]) (rest := [.ref q_38]) [] ⟨hx, hb, hml, hown, hg⟩ (c_X9_init l D cI cZ cQ q_38) hd_X9_init k_682 k_680 k_681 k_49 rfl ⟨Nat.le_of_ble_eq_true rfl, Nat.le_of_ble_eq_true rfl⟩ ⟨Nat.le_of_ble_eq_true rfl, Nat.le_of_ble_eq_true rfl⟩ hP hD hS hA hK [32] [0, 1, 2, 3, 4, 5, 6, 7, 8, 9, 10, 11, 12, 13, 14, 15, 16, 17, 18, 19, 20, 21, 22, 23, 24, 25, 26, 27, 28, 29, 30, 31] rfl rfl (by decide) (by decide) (by decide) rfl hl.1 rfl (Nat.le_of_ble_eq_true rfl) d_L_law_12 (fun w_41 H locs hw_40 hP hD hS => ?_)
  obtain ⟨m1_42, m2_43, m3_44, m4_45, m5_46, m6_47, m7_48, m8_49, m9_50, m10_51, m11_52, m12_53, m13_54, m14_55, rfl⟩ := hw_40
  have hP : va_P D vwCl [(q_1, .inr (6, [.ref tx_5, .ref nw_6, .ref sp_7, .ref ac_8, .ref cr_9, .ref sg_10, .ref sl_11, .ref fl_12, .null, .long 0])), (tx_5, .inr (5, [.ref ts_13, .int 0])), (ts_13, .inl (cI, 130, .inl (fun _ => 0))), (nw_6, .inr (2, [.ref n1_14, .ref n2_15, .ref n3_16, .ref n4_17, .int 0, .int 0, .int 1, .int 0])), (n1_14, .inl (cI, 12, .inl (fun _ => 0))), (n2_15, .inl (cI, 12, .inl (fun _ => 0))), (n3_16, .inl (cI, 12, .inl (fun _ => 0))), (n4_17, .inl (cI, 3, .inl (fun _ => 0))), (sp_7, .inr (2, [.ref p1_18, .ref p2_19, .ref p3_20, .ref p4_21, .int 0, .int 0, .int 1, .int 0])), (p1_18, .inl (cI, 12, .inl (fun _ => 0))), (p2_19, .inl (cI, 12, .inl (fun _ => 0))), (p3_20, .inl (cI, 12, .inl (fun _ => 0))), (p4_21, .inl (cI, 3, .inl (fun _ => 0))), (ac_8, .inr (0, [.ref k1_22, .ref k2_23, .ref k3_24, .int 0, .int 0])), (k1_22, .inl (cI, 14, .inl (fun _ => 0))), (k2_23, .inl (cI, 14, .inl (fun _ => 0))), (k3_24, .inl (cI, 14, .inl (fun _ => 0))), (cr_9, .inr (1, [.ref vs_25, .int 0, .int 0])), (vs_25, .inl (cI, 256, .inl (fun _ => 0))), (sg_10, .inr (3, [.ref g1_26, .ref g2_27, .int 0])), (sl_11, .inl (cQ, 2, .inr (.inr (.inr (.inr (va_up (va_up (fun _ => none) 0 (some h0_28)) 1 (some h1_29))))))), (h0_28, .inr (2, [.ref a1_30, .ref a2_31, .ref a3_32, .ref a4_33, .int 0, .int 0, .int 1, .int 0])), (a1_30, .inl (cI, 12, .inl (fun _ => 0))), (a2_31, .inl (cI, 12, .inl (fun _ => 0))), (a3_32, .inl (cI, 12, .inl (fun _ => 0))), (a4_33, .inl (cI, 3, .inl (fun _ => 0))), (h1_29, .inr (2, [.ref b1_34, .ref b2_35, .ref b3_36, .ref b4_37, .int 0, .int 0, .int 1, .int 0])), (b1_34, .inl (cI, 12, .inl (fun _ => 0))), (b2_35, .inl (cI, 12, .inl (fun _ => 0))), (b3_36, .inl (cI, 12, .inl (fun _ => 0))), (b4_37, .inl (cI, 3, .inl (fun _ => 0))), (fl_12, .inl (cZ, 2, .inl (fun _ => 0))), (q_38, .inr (7, [.int 0, .ref m1_42, .int 0, .int 0, .int 0, .int 0, .int 0, .ref m2_43, .ref m3_44, .ref m4_45, .ref m5_46, .int 0, .ref m6_47, .ref m7_48, .int 0, .ref m8_49, .ref m9_50, .long 0, .ref m10_51, .ref m11_52, .ref m12_53, .int 0, .int 0, .int 0, .int 0, .ref m13_54, .int 0, .ref m14_55])), (m1_42, .inl (cI, 130, .inl (fun _ => 0))), (m2_43, .inl (cI, 30, .inl (fun _ => 0))), (m3_44, .inl (cI, 30, .inl (upd (fun _ => 0) 28 (1 : Int32)))), (m4_45, .inl (cI, 30, .inl (fun _ => 0))), (m5_46, .inl (cI, 420, .inl (fun _ => 0))), (m6_47, .inl (cI, 60, .inl (fun _ => 0))), (m7_48, .inl (cZ, 2, .inl (fun _ => 0))), (m10_51, .inl (cI, 1000, .inl (fun _ => 0))), (m12_53, .inl (cI, 999, .inl (fun _ => 0))), (m14_55, .inl (cI, 256, .inl (fun _ => 0)))] H := hP
  have hD : va_D A [(q_1, .inr (6, [.ref tx_5, .ref nw_6, .ref sp_7, .ref ac_8, .ref cr_9, .ref sg_10, .ref sl_11, .ref fl_12, .null, .long 0])), (tx_5, .inr (5, [.ref ts_13, .int 0])), (ts_13, .inl (cI, 130, .inl (fun _ => 0))), (nw_6, .inr (2, [.ref n1_14, .ref n2_15, .ref n3_16, .ref n4_17, .int 0, .int 0, .int 1, .int 0])), (n1_14, .inl (cI, 12, .inl (fun _ => 0))), (n2_15, .inl (cI, 12, .inl (fun _ => 0))), (n3_16, .inl (cI, 12, .inl (fun _ => 0))), (n4_17, .inl (cI, 3, .inl (fun _ => 0))), (sp_7, .inr (2, [.ref p1_18, .ref p2_19, .ref p3_20, .ref p4_21, .int 0, .int 0, .int 1, .int 0])), (p1_18, .inl (cI, 12, .inl (fun _ => 0))), (p2_19, .inl (cI, 12, .inl (fun _ => 0))), (p3_20, .inl (cI, 12, .inl (fun _ => 0))), (p4_21, .inl (cI, 3, .inl (fun _ => 0))), (ac_8, .inr (0, [.ref k1_22, .ref k2_23, .ref k3_24, .int 0, .int 0])), (k1_22, .inl (cI, 14, .inl (fun _ => 0))), (k2_23, .inl (cI, 14, .inl (fun _ => 0))), (k3_24, .inl (cI, 14, .inl (fun _ => 0))), (cr_9, .inr (1, [.ref vs_25, .int 0, .int 0])), (vs_25, .inl (cI, 256, .inl (fun _ => 0))), (sg_10, .inr (3, [.ref g1_26, .ref g2_27, .int 0])), (sl_11, .inl (cQ, 2, .inr (.inr (.inr (.inr (va_up (va_up (fun _ => none) 0 (some h0_28)) 1 (some h1_29))))))), (h0_28, .inr (2, [.ref a1_30, .ref a2_31, .ref a3_32, .ref a4_33, .int 0, .int 0, .int 1, .int 0])), (a1_30, .inl (cI, 12, .inl (fun _ => 0))), (a2_31, .inl (cI, 12, .inl (fun _ => 0))), (a3_32, .inl (cI, 12, .inl (fun _ => 0))), (a4_33, .inl (cI, 3, .inl (fun _ => 0))), (h1_29, .inr (2, [.ref b1_34, .ref b2_35, .ref b3_36, .ref b4_37, .int 0, .int 0, .int 1, .int 0])), (b1_34, .inl (cI, 12, .inl (fun _ => 0))), (b2_35, .inl (cI, 12, .inl (fun _ => 0))), (b3_36, .inl (cI, 12, .inl (fun _ => 0))), (b4_37, .inl (cI, 3, .inl (fun _ => 0))), (fl_12, .inl (cZ, 2, .inl (fun _ => 0))), (q_38, .inr (7, [.int 0, .ref m1_42, .int 0, .int 0, .int 0, .int 0, .int 0, .ref m2_43, .ref m3_44, .ref m4_45, .ref m5_46, .int 0, .ref m6_47, .ref m7_48, .int 0, .ref m8_49, .ref m9_50, .long 0, .ref m10_51, .ref m11_52, .ref m12_53, .int 0, .int 0, .int 0, .int 0, .ref m13_54, .int 0, .ref m14_55])), (m1_42, .inl (cI, 130, .inl (fun _ => 0))), (m2_43, .inl (cI, 30, .inl (fun _ => 0))), (m3_44, .inl (cI, 30, .inl (upd (fun _ => 0) 28 (1 : Int32)))), (m4_45, .inl (cI, 30, .inl (fun _ => 0))), (m5_46, .inl (cI, 420, .inl (fun _ => 0))), (m6_47, .inl (cI, 60, .inl (fun _ => 0))), (m7_48, .inl (cZ, 2, .inl (fun _ => 0))), (m10_51, .inl (cI, 1000, .inl (fun _ => 0))), (m12_53, .inl (cI, 999, .inl (fun _ => 0))), (m14_55, .inl (cI, 256, .inl (fun _ => 0)))] := hD
  refine W.widen (k := 49) (n := 15660) (Nat.le_of_ble_eq_true rfl) (Nat.le_of_ble_eq_true rfl) ?_
  refine lv_astore_n (lv' := [(2, .ref q_38), (1, .ref q_1), (0, .ref b)]) hx hb d_L_law_15 rfl hl (by decide) rfl (fun ls hl => ?_)
  refine lv_iconst (v := 0) hx hb d_L_law_16 (by decide) ?_
  refine lv_istore_n (lv' := [(3, .int 0), (2, .ref q_38), (1, .ref q_1), (0, .ref b)]) hx hb d_L_law_17 rfl hl (by decide) rfl (fun ls hl => ?_)
  rcases (show L = 0 ∨ L = 1 ∨ L = 2 ∨ L = 3 ∨ L = 4 by omega) with e9 | e9 | e9 | e9 | e9
  · skip
    subst e9
    refine lv_iload_n hx hb d_L_law_18 rfl (lv_at hl 0 rfl) ?_
    refine lv_aload_n hx hb d_L_law_19 rfl (lv_at hl 3 rfl) ?_
    refine va_slen hx hb hX hbl hbA hS d_L_law_20 ?_
    refine cu_topi (y := 0) rfl ?_
    refine lv_iconst (v := 4) hx hb d_L_law_21 (by decide) ?_
    refine lv_isub hx hb d_L_law_22 ?_
    refine cu_topi (y := (-4)) (by decide +kernel) ?_
    refine lv_icmp_gt (tgt := 1010) hx hb d_L_law_23 (by decide) (fun _ => ?_) (fun c_56 => absurd (by decide +kernel) c_56)
    refine lv_iconst (v := 1) hx hb d_L_law_1010 (by decide) ?_
    refine va_forget (fun q hq => hAs _ (hS.2.2 q hq)) ?_
    refine W.widen (k := 600000) (n := 7302250) (Nat.le_of_ble_eq_true rfl) (Nat.le_of_ble_eq_true rfl) ?_
    exact lw_ret hx hb hr hlocks d_L_law_1011
  · skip
    subst e9
    refine lv_iload_n hx hb d_L_law_18 rfl (lv_at hl 0 rfl) ?_
    refine lv_aload_n hx hb d_L_law_19 rfl (lv_at hl 3 rfl) ?_
    refine va_slen hx hb hX hbl hbA hS d_L_law_20 ?_
    refine cu_topi (y := 1) rfl ?_
    refine lv_iconst (v := 4) hx hb d_L_law_21 (by decide) ?_
    refine lv_isub hx hb d_L_law_22 ?_
    refine cu_topi (y := (-3)) (by decide +kernel) ?_
    refine lv_icmp_gt (tgt := 1010) hx hb d_L_law_23 (by decide) (fun _ => ?_) (fun c_57 => absurd (by decide +kernel) c_57)
    refine lv_iconst (v := 1) hx hb d_L_law_1010 (by decide) ?_
    refine va_forget (fun q hq => hAs _ (hS.2.2 q hq)) ?_
    refine W.widen (k := 600000) (n := 7302250) (Nat.le_of_ble_eq_true rfl) (Nat.le_of_ble_eq_true rfl) ?_
    exact lw_ret hx hb hr hlocks d_L_law_1011
  · skip
    subst e9
    refine lv_iload_n hx hb d_L_law_18 rfl (lv_at hl 0 rfl) ?_
    refine lv_aload_n hx hb d_L_law_19 rfl (lv_at hl 3 rfl) ?_
    refine va_slen hx hb hX hbl hbA hS d_L_law_20 ?_
    refine cu_topi (y := 2) rfl ?_
    refine lv_iconst (v := 4) hx hb d_L_law_21 (by decide) ?_
    refine lv_isub hx hb d_L_law_22 ?_
    refine cu_topi (y := (-2)) (by decide +kernel) ?_
    refine lv_icmp_gt (tgt := 1010) hx hb d_L_law_23 (by decide) (fun _ => ?_) (fun c_58 => absurd (by decide +kernel) c_58)
    refine lv_iconst (v := 1) hx hb d_L_law_1010 (by decide) ?_
    refine va_forget (fun q hq => hAs _ (hS.2.2 q hq)) ?_
    refine W.widen (k := 600000) (n := 7302250) (Nat.le_of_ble_eq_true rfl) (Nat.le_of_ble_eq_true rfl) ?_
    exact lw_ret hx hb hr hlocks d_L_law_1011
  · skip
    subst e9
    refine lv_iload_n hx hb d_L_law_18 rfl (lv_at hl 0 rfl) ?_
    refine lv_aload_n hx hb d_L_law_19 rfl (lv_at hl 3 rfl) ?_
    refine va_slen hx hb hX hbl hbA hS d_L_law_20 ?_
    refine cu_topi (y := 3) rfl ?_
    refine lv_iconst (v := 4) hx hb d_L_law_21 (by decide) ?_
    refine lv_isub hx hb d_L_law_22 ?_
    refine cu_topi (y := (-1)) (by decide +kernel) ?_
    refine lv_icmp_gt (tgt := 1010) hx hb d_L_law_23 (by decide) (fun _ => ?_) (fun c_59 => absurd (by decide +kernel) c_59)
    refine lv_iconst (v := 1) hx hb d_L_law_1010 (by decide) ?_
    refine va_forget (fun q hq => hAs _ (hS.2.2 q hq)) ?_
    refine W.widen (k := 600000) (n := 7302250) (Nat.le_of_ble_eq_true rfl) (Nat.le_of_ble_eq_true rfl) ?_
    exact lw_ret hx hb hr hlocks d_L_law_1011
  · skip
    subst e9
    refine lv_iload_n hx hb d_L_law_18 rfl (lv_at hl 0 rfl) ?_
    refine lv_aload_n hx hb d_L_law_19 rfl (lv_at hl 3 rfl) ?_
    refine va_slen hx hb hX hbl hbA hS d_L_law_20 ?_
    refine cu_topi (y := 4) rfl ?_
    refine lv_iconst (v := 4) hx hb d_L_law_21 (by decide) ?_
    refine lv_isub hx hb d_L_law_22 ?_
    refine cu_topi (y := 0) (by decide +kernel) ?_
    refine lv_icmp_gt (tgt := 1010) hx hb d_L_law_23 (by decide) (fun c_60 => absurd c_60 (by decide +kernel)) (fun _ => ?_)
    refine lv_aload_n hx hb d_L_law_26 rfl (lv_at hl 3 rfl) ?_
    refine lv_iload_n hx hb d_L_law_27 rfl (lv_at hl 0 rfl) ?_
    refine va_sld hx hb hX hbl hbA hS (vp_in_nI (n := 0) (N := 4) (Nat.le_of_ble_eq_true rfl) (by decide)) d_L_law_28 ?_
    refine cu_topi (y := xs 0) rfl ?_
    refine lv_bipush (v := 31) hx hb d_L_law_29 (by decide) ?_
    refine lv_iand hx hb d_L_law_31 ?_
    rcases cu_and31 (xs 0) with ⟨k9, hk9, e9⟩
    rcases (show k9 = 0 ∨ k9 = 1 ∨ k9 = 2 ∨ k9 = 3 ∨ k9 = 4 ∨ k9 = 5 ∨ k9 = 6 ∨ k9 = 7 ∨ k9 = 8 ∨ k9 = 9 ∨ k9 = 10 ∨ k9 = 11 ∨ k9 = 12 ∨ k9 = 13 ∨ k9 = 14 ∨ k9 = 15 ∨ k9 = 16 ∨ k9 = 17 ∨ k9 = 18 ∨ k9 = 19 ∨ k9 = 20 ∨ k9 = 21 ∨ k9 = 22 ∨ k9 = 23 ∨ k9 = 24 ∨ k9 = 25 ∨ k9 = 26 ∨ k9 = 27 ∨ k9 = 28 ∨ 29 ≤ k9 by omega) with hD9 | hD9 | hD9 | hD9 | hD9 | hD9 | hD9 | hD9 | hD9 | hD9 | hD9 | hD9 | hD9 | hD9 | hD9 | hD9 | hD9 | hD9 | hD9 | hD9 | hD9 | hD9 | hD9 | hD9 | hD9 | hD9 | hD9 | hD9 | hD9 | hD9
    · skip
      refine cu_topi (y := 0) (by rw [e9, hD9]; rfl) ?_
      refine lv_tableIn (off := 132) (tgt := 164) hx hb d_L_law_32 (by decide) (by decide) (by decide +kernel) (by decide) ?_
      exact law_c0 l D cI cZ cQ hx hb hr hml hown hg hX hbl hlocks A hAs hA hbA hK q_1 tx_5 nw_6 sp_7 ac_8 cr_9 sg_10 sl_11 fl_12 ts_13 n1_14 n2_15 n3_16 n4_17 p1_18 p2_19 p3_20 p4_21 k1_22 k2_23 k3_24 vs_25 g1_26 g2_27 h0_28 a1_30 a2_31 a3_32 a4_33 h1_29 b1_34 b2_35 b3_36 b4_37 q_38 m1_42 m2_43 m3_44 m4_45 m5_46 m6_47 m7_48 m8_49 m9_50 m10_51 m11_52 m12_53 m13_54 m14_55 hP hD hS (lv_sub hl [3, 2, 1, 0] rfl)
    · skip
      refine cu_topi (y := 1) (by rw [e9, hD9]; rfl) ?_
      refine lv_tableIn (off := 155) (tgt := 187) hx hb d_L_law_32 (by decide) (by decide) (by decide +kernel) (by decide) ?_
      exact law_c1 l D cI cZ cQ hx hb hr hml hown hg hX hbl hlocks A hAs hA hbA hK q_1 tx_5 nw_6 sp_7 ac_8 cr_9 sg_10 sl_11 fl_12 ts_13 n1_14 n2_15 n3_16 n4_17 p1_18 p2_19 p3_20 p4_21 k1_22 k2_23 k3_24 vs_25 g1_26 g2_27 h0_28 a1_30 a2_31 a3_32 a4_33 h1_29 b1_34 b2_35 b3_36 b4_37 q_38 m1_42 m2_43 m3_44 m4_45 m5_46 m6_47 m7_48 m8_49 m9_50 m10_51 m11_52 m12_53 m13_54 m14_55 hP hD hS (lv_sub hl [3, 2, 1, 0] rfl)
    · skip
      refine cu_topi (y := 2) (by rw [e9, hD9]; rfl) ?_
      refine lv_tableIn (off := 168) (tgt := 200) hx hb d_L_law_32 (by decide) (by decide) (by decide +kernel) (by decide) ?_
      exact law_c2 l D cI cZ cQ hx hb hr hml hown hg hX hbl hlocks A hAs hA hbA hK q_1 tx_5 nw_6 sp_7 ac_8 cr_9 sg_10 sl_11 fl_12 ts_13 n1_14 n2_15 n3_16 n4_17 p1_18 p2_19 p3_20 p4_21 k1_22 k2_23 k3_24 vs_25 g1_26 g2_27 h0_28 a1_30 a2_31 a3_32 a4_33 h1_29 b1_34 b2_35 b3_36 b4_37 q_38 m1_42 m2_43 m3_44 m4_45 m5_46 m6_47 m7_48 m8_49 m9_50 m10_51 m11_52 m12_53 m13_54 m14_55 hP hD hS (lv_sub hl [3, 2, 1, 0] rfl)
    · skip
      refine cu_topi (y := 3) (by rw [e9, hD9]; rfl) ?_
      refine lv_tableIn (off := 181) (tgt := 213) hx hb d_L_law_32 (by decide) (by decide) (by decide +kernel) (by decide) ?_
      exact law_c3 l D cI cZ cQ hx hb hr hml hown hg hX hbl hlocks A hAs hA hbA hK q_1 tx_5 nw_6 sp_7 ac_8 cr_9 sg_10 sl_11 fl_12 ts_13 n1_14 n2_15 n3_16 n4_17 p1_18 p2_19 p3_20 p4_21 k1_22 k2_23 k3_24 vs_25 g1_26 g2_27 h0_28 a1_30 a2_31 a3_32 a4_33 h1_29 b1_34 b2_35 b3_36 b4_37 q_38 m1_42 m2_43 m3_44 m4_45 m5_46 m6_47 m7_48 m8_49 m9_50 m10_51 m11_52 m12_53 m13_54 m14_55 hP hD hS (lv_sub hl [3, 2, 1, 0] rfl)
    · skip
      refine cu_topi (y := 4) (by rw [e9, hD9]; rfl) ?_
      refine lv_tableIn (off := 194) (tgt := 226) hx hb d_L_law_32 (by decide) (by decide) (by decide +kernel) (by decide) ?_
      exact law_c4 l D cI cZ cQ hx hb hr hml hown hg hX hbl hlocks A hAs hA hbA hK q_1 tx_5 nw_6 sp_7 ac_8 cr_9 sg_10 sl_11 fl_12 ts_13 n1_14 n2_15 n3_16 n4_17 p1_18 p2_19 p3_20 p4_21 k1_22 k2_23 k3_24 vs_25 g1_26 g2_27 h0_28 a1_30 a2_31 a3_32 a4_33 h1_29 b1_34 b2_35 b3_36 b4_37 q_38 m1_42 m2_43 m3_44 m4_45 m5_46 m6_47 m7_48 m8_49 m9_50 m10_51 m11_52 m12_53 m13_54 m14_55 hP hD hS (lv_sub hl [3, 2, 1, 0] rfl)
    · skip
      refine cu_topi (y := 5) (by rw [e9, hD9]; rfl) ?_
      refine lv_tableIn (off := 227) (tgt := 259) hx hb d_L_law_32 (by decide) (by decide) (by decide +kernel) (by decide) ?_
      exact law_c5 l D cI cZ cQ hx hb hr hml hown hg hX hbl hlocks A hAs hA hbA hK q_1 tx_5 nw_6 sp_7 ac_8 cr_9 sg_10 sl_11 fl_12 ts_13 n1_14 n2_15 n3_16 n4_17 p1_18 p2_19 p3_20 p4_21 k1_22 k2_23 k3_24 vs_25 g1_26 g2_27 h0_28 a1_30 a2_31 a3_32 a4_33 h1_29 b1_34 b2_35 b3_36 b4_37 q_38 m1_42 m2_43 m3_44 m4_45 m5_46 m6_47 m7_48 m8_49 m9_50 m10_51 m11_52 m12_53 m13_54 m14_55 hP hD hS (lv_sub hl [3, 2, 1, 0] rfl)
    · skip
      refine cu_topi (y := 6) (by rw [e9, hD9]; rfl) ?_
      refine lv_tableIn (off := 260) (tgt := 292) hx hb d_L_law_32 (by decide) (by decide) (by decide +kernel) (by decide) ?_
      exact law_c6 l D cI cZ cQ hx hb hr hml hown hg hX hbl hlocks A hAs hA hbA hK q_1 tx_5 nw_6 sp_7 ac_8 cr_9 sg_10 sl_11 fl_12 ts_13 n1_14 n2_15 n3_16 n4_17 p1_18 p2_19 p3_20 p4_21 k1_22 k2_23 k3_24 vs_25 g1_26 g2_27 h0_28 a1_30 a2_31 a3_32 a4_33 h1_29 b1_34 b2_35 b3_36 b4_37 q_38 m1_42 m2_43 m3_44 m4_45 m5_46 m6_47 m7_48 m8_49 m9_50 m10_51 m11_52 m12_53 m13_54 m14_55 hP hD hS (lv_sub hl [3, 2, 1, 0] rfl)
    · skip
      refine cu_topi (y := 7) (by rw [e9, hD9]; rfl) ?_
      refine lv_tableIn (off := 293) (tgt := 325) hx hb d_L_law_32 (by decide) (by decide) (by decide +kernel) (by decide) ?_
      exact law_c7 l D cI cZ cQ hx hb hr hml hown hg hX hbl hlocks A hAs hA hbA hK q_1 tx_5 nw_6 sp_7 ac_8 cr_9 sg_10 sl_11 fl_12 ts_13 n1_14 n2_15 n3_16 n4_17 p1_18 p2_19 p3_20 p4_21 k1_22 k2_23 k3_24 vs_25 g1_26 g2_27 h0_28 a1_30 a2_31 a3_32 a4_33 h1_29 b1_34 b2_35 b3_36 b4_37 q_38 m1_42 m2_43 m3_44 m4_45 m5_46 m6_47 m7_48 m8_49 m9_50 m10_51 m11_52 m12_53 m13_54 m14_55 hP hD hS (lv_sub hl [3, 2, 1, 0] rfl)
    · skip
      refine cu_topi (y := 8) (by rw [e9, hD9]; rfl) ?_
      refine lv_tableIn (off := 326) (tgt := 358) hx hb d_L_law_32 (by decide) (by decide) (by decide +kernel) (by decide) ?_
      exact law_c8 l D cI cZ cQ hx hb hr hml hown hg hX hbl hlocks A hAs hA hbA hK q_1 tx_5 nw_6 sp_7 ac_8 cr_9 sg_10 sl_11 fl_12 ts_13 n1_14 n2_15 n3_16 n4_17 p1_18 p2_19 p3_20 p4_21 k1_22 k2_23 k3_24 vs_25 g1_26 g2_27 h0_28 a1_30 a2_31 a3_32 a4_33 h1_29 b1_34 b2_35 b3_36 b4_37 q_38 m1_42 m2_43 m3_44 m4_45 m5_46 m6_47 m7_48 m8_49 m9_50 m10_51 m11_52 m12_53 m13_54 m14_55 hP hD hS (lv_sub hl [3, 2, 1, 0] rfl)
    · skip
      refine cu_topi (y := 9) (by rw [e9, hD9]; rfl) ?_
      refine lv_tableIn (off := 349) (tgt := 381) hx hb d_L_law_32 (by decide) (by decide) (by decide +kernel) (by decide) ?_
      exact law_c9 l D cI cZ cQ hx hb hr hml hown hg hX hbl hlocks A hAs hA hbA hK q_1 tx_5 nw_6 sp_7 ac_8 cr_9 sg_10 sl_11 fl_12 ts_13 n1_14 n2_15 n3_16 n4_17 p1_18 p2_19 p3_20 p4_21 k1_22 k2_23 k3_24 vs_25 g1_26 g2_27 h0_28 a1_30 a2_31 a3_32 a4_33 h1_29 b1_34 b2_35 b3_36 b4_37 q_38 m1_42 m2_43 m3_44 m4_45 m5_46 m6_47 m7_48 m8_49 m9_50 m10_51 m11_52 m12_53 m13_54 m14_55 hP hD hS (lv_sub hl [3, 2, 1, 0] rfl)
    · skip
      refine cu_topi (y := 10) (by rw [e9, hD9]; rfl) ?_
      refine lv_tableIn (off := 382) (tgt := 414) hx hb d_L_law_32 (by decide) (by decide) (by decide +kernel) (by decide) ?_
      exact law_c10 l D cI cZ cQ hx hb hr hml hown hg hX hbl hlocks A hAs hA hbA hK q_1 tx_5 nw_6 sp_7 ac_8 cr_9 sg_10 sl_11 fl_12 ts_13 n1_14 n2_15 n3_16 n4_17 p1_18 p2_19 p3_20 p4_21 k1_22 k2_23 k3_24 vs_25 g1_26 g2_27 h0_28 a1_30 a2_31 a3_32 a4_33 h1_29 b1_34 b2_35 b3_36 b4_37 q_38 m1_42 m2_43 m3_44 m4_45 m5_46 m6_47 m7_48 m8_49 m9_50 m10_51 m11_52 m12_53 m13_54 m14_55 hP hD hS (lv_sub hl [3, 2, 1, 0] rfl)
    · skip
      refine cu_topi (y := 11) (by rw [e9, hD9]; rfl) ?_
      refine lv_tableIn (off := 405) (tgt := 437) hx hb d_L_law_32 (by decide) (by decide) (by decide +kernel) (by decide) ?_
      exact law_c11 l D cI cZ cQ hx hb hr hml hown hg hX hbl hlocks A hAs hA hbA hK q_1 tx_5 nw_6 sp_7 ac_8 cr_9 sg_10 sl_11 fl_12 ts_13 n1_14 n2_15 n3_16 n4_17 p1_18 p2_19 p3_20 p4_21 k1_22 k2_23 k3_24 vs_25 g1_26 g2_27 h0_28 a1_30 a2_31 a3_32 a4_33 h1_29 b1_34 b2_35 b3_36 b4_37 q_38 m1_42 m2_43 m3_44 m4_45 m5_46 m6_47 m7_48 m8_49 m9_50 m10_51 m11_52 m12_53 m13_54 m14_55 hP hD hS (lv_sub hl [3, 2, 1, 0] rfl)
    · skip
      refine cu_topi (y := 12) (by rw [e9, hD9]; rfl) ?_
      refine lv_tableIn (off := 428) (tgt := 460) hx hb d_L_law_32 (by decide) (by decide) (by decide +kernel) (by decide) ?_
      exact law_c12 l D cI cZ cQ hx hb hr hml hown hg hX hbl hlocks A hAs hA hbA hK q_1 tx_5 nw_6 sp_7 ac_8 cr_9 sg_10 sl_11 fl_12 ts_13 n1_14 n2_15 n3_16 n4_17 p1_18 p2_19 p3_20 p4_21 k1_22 k2_23 k3_24 vs_25 g1_26 g2_27 h0_28 a1_30 a2_31 a3_32 a4_33 h1_29 b1_34 b2_35 b3_36 b4_37 q_38 m1_42 m2_43 m3_44 m4_45 m5_46 m6_47 m7_48 m8_49 m9_50 m10_51 m11_52 m12_53 m13_54 m14_55 hP hD hS (lv_sub hl [3, 2, 1, 0] rfl)
    · skip
      refine cu_topi (y := 13) (by rw [e9, hD9]; rfl) ?_
      refine lv_tableIn (off := 441) (tgt := 473) hx hb d_L_law_32 (by decide) (by decide) (by decide +kernel) (by decide) ?_
      exact law_c13 l D cI cZ cQ hx hb hr hml hown hg hX hbl hlocks A hAs hA hbA hK q_1 tx_5 nw_6 sp_7 ac_8 cr_9 sg_10 sl_11 fl_12 ts_13 n1_14 n2_15 n3_16 n4_17 p1_18 p2_19 p3_20 p4_21 k1_22 k2_23 k3_24 vs_25 g1_26 g2_27 h0_28 a1_30 a2_31 a3_32 a4_33 h1_29 b1_34 b2_35 b3_36 b4_37 q_38 m1_42 m2_43 m3_44 m4_45 m5_46 m6_47 m7_48 m8_49 m9_50 m10_51 m11_52 m12_53 m13_54 m14_55 hP hD hS (lv_sub hl [3, 2, 1, 0] rfl)
    · skip
      refine cu_topi (y := 14) (by rw [e9, hD9]; rfl) ?_
      refine lv_tableIn (off := 484) (tgt := 516) hx hb d_L_law_32 (by decide) (by decide) (by decide +kernel) (by decide) ?_
      exact law_c14 l D cI cZ cQ hx hb hr hml hown hg hX hbl hlocks A hAs hA hbA hK q_1 tx_5 nw_6 sp_7 ac_8 cr_9 sg_10 sl_11 fl_12 ts_13 n1_14 n2_15 n3_16 n4_17 p1_18 p2_19 p3_20 p4_21 k1_22 k2_23 k3_24 vs_25 g1_26 g2_27 h0_28 a1_30 a2_31 a3_32 a4_33 h1_29 b1_34 b2_35 b3_36 b4_37 q_38 m1_42 m2_43 m3_44 m4_45 m5_46 m6_47 m7_48 m8_49 m9_50 m10_51 m11_52 m12_53 m13_54 m14_55 hP hD hS (lv_sub hl [3, 2, 1, 0] rfl)
    · skip
      refine cu_topi (y := 15) (by rw [e9, hD9]; rfl) ?_
      refine lv_tableIn (off := 517) (tgt := 549) hx hb d_L_law_32 (by decide) (by decide) (by decide +kernel) (by decide) ?_
      exact law_c15 l D cI cZ cQ hx hb hr hml hown hg hX hbl hlocks A hAs hA hbA hK q_1 tx_5 nw_6 sp_7 ac_8 cr_9 sg_10 sl_11 fl_12 ts_13 n1_14 n2_15 n3_16 n4_17 p1_18 p2_19 p3_20 p4_21 k1_22 k2_23 k3_24 vs_25 g1_26 g2_27 h0_28 a1_30 a2_31 a3_32 a4_33 h1_29 b1_34 b2_35 b3_36 b4_37 q_38 m1_42 m2_43 m3_44 m4_45 m5_46 m6_47 m7_48 m8_49 m9_50 m10_51 m11_52 m12_53 m13_54 m14_55 hP hD hS (lv_sub hl [3, 2, 1, 0] rfl)
    · skip
      refine cu_topi (y := 16) (by rw [e9, hD9]; rfl) ?_
      refine lv_tableIn (off := 550) (tgt := 582) hx hb d_L_law_32 (by decide) (by decide) (by decide +kernel) (by decide) ?_
      exact law_c16 l D cI cZ cQ hx hb hr hml hown hg hX hbl hlocks A hAs hA hbA hK q_1 tx_5 nw_6 sp_7 ac_8 cr_9 sg_10 sl_11 fl_12 ts_13 n1_14 n2_15 n3_16 n4_17 p1_18 p2_19 p3_20 p4_21 k1_22 k2_23 k3_24 vs_25 g1_26 g2_27 h0_28 a1_30 a2_31 a3_32 a4_33 h1_29 b1_34 b2_35 b3_36 b4_37 q_38 m1_42 m2_43 m3_44 m4_45 m5_46 m6_47 m7_48 m8_49 m9_50 m10_51 m11_52 m12_53 m13_54 m14_55 hP hD hS (lv_sub hl [3, 2, 1, 0] rfl)
    · skip
      refine cu_topi (y := 17) (by rw [e9, hD9]; rfl) ?_
      refine lv_tableIn (off := 573) (tgt := 605) hx hb d_L_law_32 (by decide) (by decide) (by decide +kernel) (by decide) ?_
      exact law_c17 l D cI cZ cQ hx hb hr hml hown hg hX hbl hlocks A hAs hA hbA hK q_1 tx_5 nw_6 sp_7 ac_8 cr_9 sg_10 sl_11 fl_12 ts_13 n1_14 n2_15 n3_16 n4_17 p1_18 p2_19 p3_20 p4_21 k1_22 k2_23 k3_24 vs_25 g1_26 g2_27 h0_28 a1_30 a2_31 a3_32 a4_33 h1_29 b1_34 b2_35 b3_36 b4_37 q_38 m1_42 m2_43 m3_44 m4_45 m5_46 m6_47 m7_48 m8_49 m9_50 m10_51 m11_52 m12_53 m13_54 m14_55 hP hD hS (lv_sub hl [3, 2, 1, 0] rfl)
    · skip
      refine cu_topi (y := 18) (by rw [e9, hD9]; rfl) ?_
      refine lv_tableIn (off := 596) (tgt := 628) hx hb d_L_law_32 (by decide) (by decide) (by decide +kernel) (by decide) ?_
      exact law_c18 l D cI cZ cQ hx hb hr hml hown hg hX hbl hlocks A hAs hA hbA hK q_1 tx_5 nw_6 sp_7 ac_8 cr_9 sg_10 sl_11 fl_12 ts_13 n1_14 n2_15 n3_16 n4_17 p1_18 p2_19 p3_20 p4_21 k1_22 k2_23 k3_24 vs_25 g1_26 g2_27 h0_28 a1_30 a2_31 a3_32 a4_33 h1_29 b1_34 b2_35 b3_36 b4_37 q_38 m1_42 m2_43 m3_44 m4_45 m5_46 m6_47 m7_48 m8_49 m9_50 m10_51 m11_52 m12_53 m13_54 m14_55 hP hD hS (lv_sub hl [3, 2, 1, 0] rfl)
    · skip
      refine cu_topi (y := 19) (by rw [e9, hD9]; rfl) ?_
      refine lv_tableIn (off := 659) (tgt := 691) hx hb d_L_law_32 (by decide) (by decide) (by decide +kernel) (by decide) ?_
      exact law_c19 l D cI cZ cQ hx hb hr hml hown hg hX hbl hlocks A hAs hA hbA hK q_1 tx_5 nw_6 sp_7 ac_8 cr_9 sg_10 sl_11 fl_12 ts_13 n1_14 n2_15 n3_16 n4_17 p1_18 p2_19 p3_20 p4_21 k1_22 k2_23 k3_24 vs_25 g1_26 g2_27 h0_28 a1_30 a2_31 a3_32 a4_33 h1_29 b1_34 b2_35 b3_36 b4_37 q_38 m1_42 m2_43 m3_44 m4_45 m5_46 m6_47 m7_48 m8_49 m9_50 m10_51 m11_52 m12_53 m13_54 m14_55 hP hD hS (lv_sub hl [3, 2, 1, 0] rfl)
    · skip
      refine cu_topi (y := 20) (by rw [e9, hD9]; rfl) ?_
      refine lv_tableIn (off := 692) (tgt := 724) hx hb d_L_law_32 (by decide) (by decide) (by decide +kernel) (by decide) ?_
      exact law_c20 l D cI cZ cQ hx hb hr hml hown hg hX hbl hlocks A hAs hA hbA hK q_1 tx_5 nw_6 sp_7 ac_8 cr_9 sg_10 sl_11 fl_12 ts_13 n1_14 n2_15 n3_16 n4_17 p1_18 p2_19 p3_20 p4_21 k1_22 k2_23 k3_24 vs_25 g1_26 g2_27 h0_28 a1_30 a2_31 a3_32 a4_33 h1_29 b1_34 b2_35 b3_36 b4_37 q_38 m1_42 m2_43 m3_44 m4_45 m5_46 m6_47 m7_48 m8_49 m9_50 m10_51 m11_52 m12_53 m13_54 m14_55 hP hD hS (lv_sub hl [3, 2, 1, 0] rfl)
    · skip
      refine cu_topi (y := 21) (by rw [e9, hD9]; rfl) ?_
      refine lv_tableIn (off := 705) (tgt := 737) hx hb d_L_law_32 (by decide) (by decide) (by decide +kernel) (by decide) ?_
      exact law_c21 l D cI cZ cQ hx hb hr hml hown hg hX hbl hlocks A hAs hA hbA hK q_1 tx_5 nw_6 sp_7 ac_8 cr_9 sg_10 sl_11 fl_12 ts_13 n1_14 n2_15 n3_16 n4_17 p1_18 p2_19 p3_20 p4_21 k1_22 k2_23 k3_24 vs_25 g1_26 g2_27 h0_28 a1_30 a2_31 a3_32 a4_33 h1_29 b1_34 b2_35 b3_36 b4_37 q_38 m1_42 m2_43 m3_44 m4_45 m5_46 m6_47 m7_48 m8_49 m9_50 m10_51 m11_52 m12_53 m13_54 m14_55 hP hD hS (lv_sub hl [3, 2, 1, 0] rfl)
    · skip
      refine cu_topi (y := 22) (by rw [e9, hD9]; rfl) ?_
      refine lv_tableIn (off := 728) (tgt := 760) hx hb d_L_law_32 (by decide) (by decide) (by decide +kernel) (by decide) ?_
      exact law_c22 l D cI cZ cQ hx hb hr hml hown hg hX hbl hlocks A hAs hA hbA hK q_1 tx_5 nw_6 sp_7 ac_8 cr_9 sg_10 sl_11 fl_12 ts_13 n1_14 n2_15 n3_16 n4_17 p1_18 p2_19 p3_20 p4_21 k1_22 k2_23 k3_24 vs_25 g1_26 g2_27 h0_28 a1_30 a2_31 a3_32 a4_33 h1_29 b1_34 b2_35 b3_36 b4_37 q_38 m1_42 m2_43 m3_44 m4_45 m5_46 m6_47 m7_48 m8_49 m9_50 m10_51 m11_52 m12_53 m13_54 m14_55 hP hD hS (lv_sub hl [3, 2, 1, 0] rfl)
    · skip
      refine cu_topi (y := 23) (by rw [e9, hD9]; rfl) ?_
      refine lv_tableIn (off := 777) (tgt := 809) hx hb d_L_law_32 (by decide) (by decide) (by decide +kernel) (by decide) ?_
      exact law_c23 l D cI cZ cQ hx hb hr hml hown hg hX hbl hlocks A hAs hA hbA hK q_1 tx_5 nw_6 sp_7 ac_8 cr_9 sg_10 sl_11 fl_12 ts_13 n1_14 n2_15 n3_16 n4_17 p1_18 p2_19 p3_20 p4_21 k1_22 k2_23 k3_24 vs_25 g1_26 g2_27 h0_28 a1_30 a2_31 a3_32 a4_33 h1_29 b1_34 b2_35 b3_36 b4_37 q_38 m1_42 m2_43 m3_44 m4_45 m5_46 m6_47 m7_48 m8_49 m9_50 m10_51 m11_52 m12_53 m13_54 m14_55 hP hD hS (lv_sub hl [3, 2, 1, 0] rfl)
    · skip
      refine cu_topi (y := 24) (by rw [e9, hD9]; rfl) ?_
      refine lv_tableIn (off := 826) (tgt := 858) hx hb d_L_law_32 (by decide) (by decide) (by decide +kernel) (by decide) ?_
      exact law_c24 l D cI cZ cQ hx hb hr hml hown hg hX hbl hlocks A hAs hA hbA hK q_1 tx_5 nw_6 sp_7 ac_8 cr_9 sg_10 sl_11 fl_12 ts_13 n1_14 n2_15 n3_16 n4_17 p1_18 p2_19 p3_20 p4_21 k1_22 k2_23 k3_24 vs_25 g1_26 g2_27 h0_28 a1_30 a2_31 a3_32 a4_33 h1_29 b1_34 b2_35 b3_36 b4_37 q_38 m1_42 m2_43 m3_44 m4_45 m5_46 m6_47 m7_48 m8_49 m9_50 m10_51 m11_52 m12_53 m13_54 m14_55 hP hD hS (lv_sub hl [3, 2, 1, 0] rfl)
    · skip
      refine cu_topi (y := 25) (by rw [e9, hD9]; rfl) ?_
      refine lv_tableIn (off := 880) (tgt := 912) hx hb d_L_law_32 (by decide) (by decide) (by decide +kernel) (by decide) ?_
      exact law_c25 l D cI cZ cQ hx hb hr hml hown hg hX hbl hlocks A hAs hA hbA hK q_1 tx_5 nw_6 sp_7 ac_8 cr_9 sg_10 sl_11 fl_12 ts_13 n1_14 n2_15 n3_16 n4_17 p1_18 p2_19 p3_20 p4_21 k1_22 k2_23 k3_24 vs_25 g1_26 g2_27 h0_28 a1_30 a2_31 a3_32 a4_33 h1_29 b1_34 b2_35 b3_36 b4_37 q_38 m1_42 m2_43 m3_44 m4_45 m5_46 m6_47 m7_48 m8_49 m9_50 m10_51 m11_52 m12_53 m13_54 m14_55 hP hD hS (lv_sub hl [3, 2, 1, 0] rfl)
    · skip
      refine cu_topi (y := 26) (by rw [e9, hD9]; rfl) ?_
      refine lv_tableIn (off := 903) (tgt := 935) hx hb d_L_law_32 (by decide) (by decide) (by decide +kernel) (by decide) ?_
      exact law_c26 l D cI cZ cQ hx hb hr hml hown hg hX hbl hlocks A hAs hA hbA hK q_1 tx_5 nw_6 sp_7 ac_8 cr_9 sg_10 sl_11 fl_12 ts_13 n1_14 n2_15 n3_16 n4_17 p1_18 p2_19 p3_20 p4_21 k1_22 k2_23 k3_24 vs_25 g1_26 g2_27 h0_28 a1_30 a2_31 a3_32 a4_33 h1_29 b1_34 b2_35 b3_36 b4_37 q_38 m1_42 m2_43 m3_44 m4_45 m5_46 m6_47 m7_48 m8_49 m9_50 m10_51 m11_52 m12_53 m13_54 m14_55 hP hD hS (lv_sub hl [3, 2, 1, 0] rfl)
    · skip
      refine cu_topi (y := 27) (by rw [e9, hD9]; rfl) ?_
      refine lv_tableIn (off := 926) (tgt := 958) hx hb d_L_law_32 (by decide) (by decide) (by decide +kernel) (by decide) ?_
      exact law_c27 l D cI cZ cQ hx hb hr hml hown hg hX hbl hlocks A hAs hA hbA hK q_1 tx_5 nw_6 sp_7 ac_8 cr_9 sg_10 sl_11 fl_12 ts_13 n1_14 n2_15 n3_16 n4_17 p1_18 p2_19 p3_20 p4_21 k1_22 k2_23 k3_24 vs_25 g1_26 g2_27 h0_28 a1_30 a2_31 a3_32 a4_33 h1_29 b1_34 b2_35 b3_36 b4_37 q_38 m1_42 m2_43 m3_44 m4_45 m5_46 m6_47 m7_48 m8_49 m9_50 m10_51 m11_52 m12_53 m13_54 m14_55 hP hD hS (lv_sub hl [3, 2, 1, 0] rfl)
    · skip
      refine cu_topi (y := 28) (by rw [e9, hD9]; rfl) ?_
      refine lv_tableIn (off := 949) (tgt := 981) hx hb d_L_law_32 (by decide) (by decide) (by decide +kernel) (by decide) ?_
      exact law_c28 l D cI cZ cQ hx hb hr hml hown hg hX hbl hlocks A hAs hA hbA hK q_1 tx_5 nw_6 sp_7 ac_8 cr_9 sg_10 sl_11 fl_12 ts_13 n1_14 n2_15 n3_16 n4_17 p1_18 p2_19 p3_20 p4_21 k1_22 k2_23 k3_24 vs_25 g1_26 g2_27 h0_28 a1_30 a2_31 a3_32 a4_33 h1_29 b1_34 b2_35 b3_36 b4_37 q_38 m1_42 m2_43 m3_44 m4_45 m5_46 m6_47 m7_48 m8_49 m9_50 m10_51 m11_52 m12_53 m13_54 m14_55 hP hD hS (lv_sub hl [3, 2, 1, 0] rfl)
    · skip
      have hout : (xs 0 &&& 31).toInt < 0 ∨ 28 < (xs 0 &&& 31).toInt := by rw [e9, nI_toInt (by omega)]; omega
      refine lv_tableOut (tgt := 1004) hx hb d_L_law_32 hout (by decide) ?_
      refine lv_iinc (v := 4) (lv' := [(3, .int 4), (2, .ref q_38), (1, .ref q_1), (0, .ref b)]) hx hb d_L_law_1004 hl (k := 0) rfl (by decide +kernel) (by decide) rfl (fun ls hl => ?_)
      refine lv_goto (tgt := 18) hx hb d_L_law_1007 (by decide) ?_
      refine lv_iload_n hx hb d_L_law_18 rfl (lv_at hl 0 rfl) ?_
      refine lv_aload_n hx hb d_L_law_19 rfl (lv_at hl 3 rfl) ?_
      refine va_slen hx hb hX hbl hbA hS d_L_law_20 ?_
      refine cu_topi (y := 4) rfl ?_
      refine lv_iconst (v := 4) hx hb d_L_law_21 (by decide) ?_
      refine lv_isub hx hb d_L_law_22 ?_
      refine cu_topi (y := 0) (by decide +kernel) ?_
      refine lv_icmp_gt (tgt := 1010) hx hb d_L_law_23 (by decide) (fun _ => ?_) (fun c_61 => absurd (by decide +kernel) c_61)
      refine lv_iconst (v := 1) hx hb d_L_law_1010 (by decide) ?_
      refine va_forget (fun q hq => hAs _ (hS.2.2 q hq)) ?_
      refine W.widen (k := 600000) (n := 7302250) (Nat.le_of_ble_eq_true rfl) (Nat.le_of_ble_eq_true rfl) ?_
      exact lw_ret hx hb hr hlocks d_L_law_1011
-- ===== YOUR PART ENDS =====
set_option maxHeartbeats 4000000 in
theorem lw_walk (l : Launch) (hflags : l.flags = flags0) (b : Addr) (xs : List Int32) : MetFree l x (headSpec (Jvm.Cond.code x code maxLocals ret :: tables_1) room_1) (lw_P b xs) (fun _ _ _ _ _ => True) lw_Q := by
  refine MetFree.of_bodyS (code := code) (maxLocals := maxLocals) (ret := ret) (by decide) ?_ ?_
  · intro args s m h hn
    obtain ⟨meth, c, h1, h2, h3, h4, h5, h6, -, -⟩ := Cond.code_spec hn (atoms_spec (ws := Jvm.Cond.code x code maxLocals ret :: tables_1) h _ List.mem_cons_self)
    exact ⟨meth, c, h1, h2, h3, h4, h5, h6⟩
  · intro p e s m args below meth c s₁ B hml0 hP _
    obtain ⟨rfl, hx, hbd, hgv⟩ := hP
    obtain ⟨scr, harrAt, hlist, hof, hsmall⟩ := hx
    obtain ⟨hcb, hkn, -, -⟩ := State.arrayAt?_spec harrAt
    have hown : s.vm.findClass R_law = some m.cls := findClass_of_methodNamed B.named
    have hts0 : ∀ c ∈ (Jvm.Cond.code x code maxLocals ret :: tables_1), c.before #[Value.ref b] s = true := atoms_spec (ws := Jvm.Cond.code x code maxLocals ret :: tables_1) B.pre
    have hts : ∀ w ∈ lw_tbl, w.before #[Value.ref b] s = true := k2_hts_sels lw_privs (fun w hw => hts0 w (List.mem_cons_of_mem _ hw)) lw_privs_ok
    have hml : c.maxLocals = 4 := B.maxLocals_eq (hts0 _ List.mem_cons_self)
    have X₀ : Stand p l e room_1 s m #[Value.ref b] below meth c s₁ [] 0 0 := Stand.of_body B
    have hh0 : s₁.heap = s.heap := by rw [B.state]; rfl
    have hsz : scr.slots.size = xs.length := by rw [← Array.length_toList, hlist, List.length_map]
    have hval : ∀ j : Nat, j < xs.length → scr.slots[j]? = some (.int (xs.getD j 0)) := fun j hj => by
      rw [← Array.getElem?_toList, hlist]
      simp [hj]
    have hbl : b < s.heap.size := (Array.getElem?_eq_some_iff.mp hcb).1
    have hX : va_X b xs.length (fun j => xs.getD j 0) s s.heap := ⟨scr, hcb, hof, hkn, hsz, hval⟩
    have K : W p l e room_1 s m #[Value.ref b] below meth c s₁.heap [] 0 0 (lw_Z below #[Value.ref b] s) (entryFrame m ([Value.ref b] : List Value).toArray 4) := by
      rw [hh0]
      exact whole_start l hflags hbd ⟨B.exec, B.bytes, B.returns, hml, hown, hts, hX, hbl, B.notSynchronized, hgv⟩
    obtain ⟨t, a1, o, b1, b2, b3⟩ := K s₁ rfl X₀
    exact ⟨t, o, a1, b1, b2, b3⟩
theorem lw_pre_spec {args : Array Value} {s : State} (h : (Jvm.Cond.and given_1 narrow_1).before args s = true) (hr : rest_1_c.before args s = true) : ∃ (b : Addr) (xs : List Int32), lw_P b xs args s := by
  have hs := flat_of_before _ h
  have hq := flat_of_before _ hr
  have hc : (Cond.count 1).before args s = true := hs _ (by decide +kernel)
  have harr : (Cond.arrayOf (.arg 0) .int).before args s = true := hs _ (by decide +kernel)
  have hle : (Cond.le (.length (.arg 0)) (.int 4)).before args s = true := hs _ (by decide +kernel)
  have hlen : (Cond.isInt (.length (.arg 0))).before args s = true := hq _ (by decide +kernel)
  have hall : (Cond.all (.arg 0) (.isInt (.elem (.arg 0) (.index 0)))).before args s = true := hq _ (by decide +kernel)
  obtain ⟨b, xs, hb, hx⟩ := State.ints_of_pre rfl harr hlen hall
  have hsm : xs.length < 2 ^ 31 := hx.choose_spec.2.2.2
  have hev : (Term.length (.arg 0)).eval args s none [] s = some (.int xs.length.toInt32) := hx.length_eval hb
  have hv := Cond.le_ints hev (show (Term.int 4).eval args s none [] s = some (.int 4) from rfl)
  have hd : xs.length.toInt32 ≤ 4 := by
    simpa [Cond.before, Cond.holds, hv] using hle
  have hN : xs.length ≤ 4 := (Int32.ofNat_le_ofNat hsm (by decide)).mp (show Int32.ofNat xs.length ≤ Int32.ofNat 4 from hd)
  exact ⟨b, xs, Cond.one_arg hc (show args[0]? = some (.ref b) from hb), hx, hN, h⟩
theorem lw_comes (l : Launch) (hflags : l.flags = flags0) : Comes l x (Jvm.Cond.code x code maxLocals ret :: tables_1) room_1 (fun tb e args s => Calls_1 tb e args s ∧ rest_1 tb e args s ∧ Pre_1 tb e args s)
    (fun _ _ args s o t => lw_Q args s o t) := by
  intro p e ha hc hk s m args below hf hfit hheap happ hpre
  obtain ⟨b, xs, hP⟩ := lw_pre_spec hpre.2.2 hpre.2.1
  obtain ⟨k, o, h1, h2, h3, hQ⟩ := lw_walk l hflags b xs p e ha hc hk s m args below hf ((Spec.applies_iff_loose hf).mp happ).1 hP trivial
  exact ⟨k, o, h1, h2, h3, hQ⟩
theorem lw_frame {s t : State} {o : Outcome} {args : Array Value} (h : Framed s o t [] 600000 7302250) :
    Framed s o t (fieldLocs frame_1_writes args s ++ arrayLocs frame_1_arrays args s ++ staticLocs frame_1_statics s) 600000 7302250 := h
theorem lw_limb (L : Cond) (hL : ∀ (args : Array Value) (s t : State), L.after args s (.returned (some (.int 1))) t = true) :
    ArmFor flags0 classFile x code maxLocals ret World_1 tables_1 room_1 Calls_1 rest_1 Pre_1
      (fun tb e a s o t => postC L tb e a s o t ∧ Framed s o t (fieldLocs frame_1_writes a s ++ arrayLocs frame_1_arrays a s ++ staticLocs frame_1_statics s) 600000 7302250) := by
  intro l hflags _ _ p e ha hc hk s m args below hf hfit hheap happ hpre
  obtain ⟨k, o, h1, h2, h3, rfl, hF⟩ := lw_comes l hflags p e ha hc hk s m args below hf hfit hheap happ hpre
  exact ⟨k, _, h1, h2, h3, hL args s _, lw_frame hF⟩
theorem i_vc : Claimed_1_1 ∧ Claimed_1_2 := ⟨lw_limb limb_1_1 (fun args s t => by simp [limb_1_1, Cond.after, Cond.holds, Cond.value]), lw_limb limb_1_2 (fun args s t => Cond.after_iff.mpr (by
  first | (rw [show limb_1_2 = Cond.eq .result (.int 1) from rfl, Cond.eq_ints (x := 1) (y := 1) rfl rfl]; simp; done) | (simp [limb_1_2, Cond.value, Term.eval]; done)))⟩
