theorem dX8_begin_0 : decode cX8_begin 0 = .ok (.aload_n 0, 1) := by decide +kernel
theorem dX8_begin_1 : decode cX8_begin 1 = .ok (.iload_n 1, 1) := by decide +kernel
theorem dX8_begin_2 : decode cX8_begin 2 = .ok (.putfield 33, 3) := by decide +kernel
theorem dX8_begin_5 : decode cX8_begin 5 = .ok (.aload_n 0, 1) := by decide +kernel
theorem dX8_begin_6 : decode cX8_begin 6 = .ok (.iconst 0, 1) := by decide +kernel
theorem dX8_begin_7 : decode cX8_begin 7 = .ok (.putfield 9, 3) := by decide +kernel
theorem dX8_begin_10 : decode cX8_begin 10 = .ok (.aload_n 0, 1) := by decide +kernel
theorem dX8_begin_11 : decode cX8_begin 11 = .ok (.iconst 0, 1) := by decide +kernel
theorem dX8_begin_12 : decode cX8_begin 12 = .ok (.putfield 15, 3) := by decide +kernel
theorem dX8_begin_15 : decode cX8_begin 15 = .ok (.aload_n 0, 1) := by decide +kernel
theorem dX8_begin_16 : decode cX8_begin 16 = .ok (.iconst 0, 1) := by decide +kernel
theorem dX8_begin_17 : decode cX8_begin 17 = .ok (.putfield 18, 3) := by decide +kernel
theorem dX8_begin_20 : decode cX8_begin 20 = .ok (.aload_n 0, 1) := by decide +kernel
theorem dX8_begin_21 : decode cX8_begin 21 = .ok (.iconst (-1), 1) := by decide +kernel
theorem dX8_begin_22 : decode cX8_begin 22 = .ok (.putfield 21, 3) := by decide +kernel
theorem dX8_begin_25 : decode cX8_begin 25 = .ok (.aload_n 0, 1) := by decide +kernel
theorem dX8_begin_26 : decode cX8_begin 26 = .ok (.getfield 26, 3) := by decide +kernel
theorem dX8_begin_29 : decode cX8_begin 29 = .ok (.iconst 0, 1) := by decide +kernel
theorem dX8_begin_30 : decode cX8_begin 30 = .ok (.aaload, 1) := by decide +kernel
theorem dX8_begin_31 : decode cX8_begin 31 = .ok (.aload_n 0, 1) := by decide +kernel
theorem dX8_begin_32 : decode cX8_begin 32 = .ok (.getfield 40, 3) := by decide +kernel
theorem dX8_begin_35 : decode cX8_begin 35 = .ok (.invokevirtual 49, 3) := by decide +kernel
theorem dX8_begin_38 : decode cX8_begin 38 = .ok (.invokevirtual 55, 3) := by decide +kernel
theorem dX8_begin_41 : decode cX8_begin 41 = .ok (.aload_n 0, 1) := by decide +kernel
theorem dX8_begin_42 : decode cX8_begin 42 = .ok (.getfield 30, 3) := by decide +kernel
theorem dX8_begin_45 : decode cX8_begin 45 = .ok (.iconst 0, 1) := by decide +kernel
theorem dX8_begin_46 : decode cX8_begin 46 = .ok (.aaload, 1) := by decide +kernel
theorem dX8_begin_47 : decode cX8_begin 47 = .ok (.aload_n 0, 1) := by decide +kernel
theorem dX8_begin_48 : decode cX8_begin 48 = .ok (.getfield 40, 3) := by decide +kernel
theorem dX8_begin_51 : decode cX8_begin 51 = .ok (.invokevirtual 49, 3) := by decide +kernel
theorem dX8_begin_54 : decode cX8_begin 54 = .ok (.invokevirtual 55, 3) := by decide +kernel
theorem dX8_begin_57 : decode cX8_begin 57 = .ok (.return_, 1) := by decide +kernel
def rm_X8_begin : Room := { frames := 1, cells := 0, slots := 0, locals := 21 }
abbrev wS_X8_begin : List (Nat × Nat) := [(5, 0), (5, 1), (5, 2), (5, 3), (5, 4), (5, 5), (5, 6), (9, 0), (9, 1), (9, 2), (9, 3), (9, 9)]
set_option maxRecDepth 100000 in
set_option maxHeartbeats 4000000 in
theorem c_X8_begin (l : Launch) (E : zE) (hV : zV E) (H0 : Heap) (hT0 : HT E H0) (h0 : Nat) (kh0 : eK E h0 = 9) (p0 : Int32) : Met l yX8_begin (zws yX8_begin cX8_begin 2 none) rm_X8_begin (zP E H0 [.ref h0, .int p0]) (zQV E E wS_X8_begin (fun H1 => True)) 0 0 (zfr E) := by
  refine zEnt (by decide) (Nat.le_of_ble_eq_true rfl) (fun p e s m args below meth c ls Q B hr hlk hh hQ hl => ?_)
  have hx := B.1
  have hb := B.2.1
  have hG0 : zG E wS_X8_begin H0 H0 [] := zG.rf hT0
  have hl : lv_has ls 2 [(0, .ref h0), (1, .int p0)] := hl
  refine lv_aload_n hx hb dX8_begin_0 rfl (lv_at hl 0 rfl) ?_
  refine lv_iload_n hx hb dX8_begin_1 rfl (lv_at hl 1 rfl) ?_
  refine g_putI B fp_RX8_33 hV hG0 kh0 rfl rfl rfl rfl rfl (z_rng _).1 (z_rng _).2 rfl dX8_begin_2 (fun H1 lc1 gH1 uH1 => ?_)
  refine lv_aload_n hx hb dX8_begin_5 rfl (lv_at hl 0 rfl) ?_
  refine lv_iconst (v := 0) hx hb dX8_begin_6 (by decide) ?_
  have := kl_0
  refine g_putI B fp_RX8_9 hV gH1 kh0 rfl rfl rfl rfl rfl (z_rng _).1 (z_rng _).2 rfl dX8_begin_7 (fun H2 lc2 gH2 uH2 => ?_)
  refine lv_aload_n hx hb dX8_begin_10 rfl (lv_at hl 0 rfl) ?_
  refine lv_iconst (v := 0) hx hb dX8_begin_11 (by decide) ?_
  have := kl_0
  refine g_putI B fp_RX8_15 hV gH2 kh0 rfl rfl rfl rfl rfl (z_rng _).1 (z_rng _).2 rfl dX8_begin_12 (fun H3 lc3 gH3 uH3 => ?_)
  refine lv_aload_n hx hb dX8_begin_15 rfl (lv_at hl 0 rfl) ?_
  refine lv_iconst (v := 0) hx hb dX8_begin_16 (by decide) ?_
  have := kl_0
  refine g_putI B fp_RX8_18 hV gH3 kh0 rfl rfl rfl rfl rfl (z_rng _).1 (z_rng _).2 rfl dX8_begin_17 (fun H4 lc4 gH4 uH4 => ?_)
  refine lv_aload_n hx hb dX8_begin_20 rfl (lv_at hl 0 rfl) ?_
  refine lv_iconst (v := (-1)) hx hb dX8_begin_21 (by decide) ?_
  have := kl_m1
  refine g_putI B fp_RX8_21 hV gH4 kh0 rfl rfl rfl rfl rfl (z_rng _).1 (z_rng _).2 rfl dX8_begin_22 (fun H5 lc5 gH5 uH5 => ?_)
  refine lv_aload_n hx hb dX8_begin_25 rfl (lv_at hl 0 rfl) ?_
  refine g_getR B fl_RX8_26 gH5.1 kh0 rfl rfl rfl rfl rfl dX8_begin_26 (fun q_6 s_6 k_q_6 => ?_)
  refine lv_iconst (v := 0) hx hb dX8_begin_29 (by decide) ?_
  have := kl_0
  refine g_aaldI (i := 0) (N := 11) B gH5.1 k_q_6 rfl rfl rfl rfl rfl (by omega) (by omega) rfl dX8_begin_30 (fun q_7 s_7 k_q_7 => ?_)
  refine lv_aload_n hx hb dX8_begin_31 rfl (lv_at hl 0 rfl) ?_
  refine g_getR B fl_RX8_40 gH5.1 kh0 rfl rfl rfl rfl rfl dX8_begin_32 (fun q_8 s_8 k_q_8 => ?_)
  refine zkPR (zrV (rest := [.ref q_7]) B (c_X3_start l E hV H5 gH5.1 q_8 k_q_8) cl_RX8_49 gH5.1 k_q_8 rfl rfl rfl rfl hl.1 rfl (Nat.le_of_ble_eq_true rfl) dX8_begin_35 rfl rfl ⟨rfl, rfl⟩ ⟨Nat.zero_le _, Nat.zero_le _⟩ (zO.of gH5 hh)) (fun q_9 hp_9 => ?_)
  refine zkV (zrV (rest := []) B (c_X4_copyOf l E hV H5 gH5.1 q_7 k_q_7 q_9 hp_9) cl_RX8_55 gH5.1 k_q_7 rfl rfl rfl rfl hl.1 rfl (Nat.le_of_ble_eq_true rfl) dX8_begin_38 rfl rfl ⟨rfl, rfl⟩ ⟨Nat.zero_le _, Nat.zero_le _⟩ (zO.of gH5 hh)) gH5 rfl (fun H10 lc10 hp_10 gH10 rH10 => ?_)
  have s_11 := rH10.keepA k_q_6 rfl s_7
  have s_12 := rH10.keep hV kh0 rfl s_8
  refine lv_aload_n hx hb dX8_begin_41 rfl (lv_at hl 0 rfl) ?_
  refine g_getR B fl_RX8_30 gH10.1 kh0 rfl rfl rfl rfl rfl dX8_begin_42 (fun q_13 s_13 k_q_13 => ?_)
  refine lv_iconst (v := 0) hx hb dX8_begin_45 (by decide) ?_
  have := kl_0
  refine g_aaldI (i := 0) (N := 11) B gH10.1 k_q_13 rfl rfl rfl rfl rfl (by omega) (by omega) rfl dX8_begin_46 (fun q_14 s_14 k_q_14 => ?_)
  refine lv_aload_n hx hb dX8_begin_47 rfl (lv_at hl 0 rfl) ?_
  refine g_get B fl_RX8_40 gH10.1 kh0 rfl rfl rfl dX8_begin_48 s_12 ?_
  refine zkPR (zrV (rest := [.ref q_14]) B (c_X3_start l E hV H10 gH10.1 q_8 k_q_8) cl_RX8_49 gH10.1 k_q_8 rfl rfl rfl rfl hl.1 rfl (Nat.le_of_ble_eq_true rfl) dX8_begin_51 rfl rfl ⟨rfl, rfl⟩ ⟨Nat.zero_le _, Nat.zero_le _⟩ (zO.of gH10 hh)) (fun q_15 hp_15 => ?_)
  refine zkV (zrV (rest := []) B (c_X4_copyOf l E hV H10 gH10.1 q_14 k_q_14 q_15 hp_15) cl_RX8_55 gH10.1 k_q_14 rfl rfl rfl rfl hl.1 rfl (Nat.le_of_ble_eq_true rfl) dX8_begin_54 rfl rfl ⟨rfl, rfl⟩ ⟨Nat.zero_le _, Nat.zero_le _⟩ (zO.of gH10 hh)) gH10 rfl (fun H16 lc16 hp_16 gH16 rH16 => ?_)
  exact rtV B hr hlk hh hQ gH16 trivial dX8_begin_57

theorem dX8_add_0 : decode cX8_add 0 = .ok (.iload_n 2, 1) := by decide +kernel
theorem dX8_add_1 : decode cX8_add 1 = .ok (.iconst (-1), 1) := by decide +kernel
theorem dX8_add_2 : decode cX8_add 2 = .ok (.ixor, 1) := by decide +kernel
theorem dX8_add_3 : decode cX8_add 3 = .ok (.iconst 1, 1) := by decide +kernel
theorem dX8_add_4 : decode cX8_add 4 = .ok (.iload_n 1, 1) := by decide +kernel
theorem dX8_add_5 : decode cX8_add 5 = .ok (.ishl, 1) := by decide +kernel
theorem dX8_add_6 : decode cX8_add 6 = .ok (.iconst 1, 1) := by decide +kernel
theorem dX8_add_7 : decode cX8_add 7 = .ok (.isub, 1) := by decide +kernel
theorem dX8_add_8 : decode cX8_add 8 = .ok (.iand, 1) := by decide +kernel
theorem dX8_add_9 : decode cX8_add 9 = .ok (.istore_n 3, 1) := by decide +kernel
theorem dX8_add_10 : decode cX8_add 10 = .ok (.iload_n 2, 1) := by decide +kernel
theorem dX8_add_11 : decode cX8_add 11 = .ok (.invokestatic 97, 3) := by decide +kernel
theorem dX8_add_14 : decode cX8_add 14 = .ok (.istore 4, 2) := by decide +kernel
theorem dX8_add_16 : decode cX8_add 16 = .ok (.aload_n 0, 1) := by decide +kernel
theorem dX8_add_17 : decode cX8_add 17 = .ok (.aload_n 0, 1) := by decide +kernel
theorem dX8_add_18 : decode cX8_add 18 = .ok (.getfield 9, 3) := by decide +kernel
theorem dX8_add_21 : decode cX8_add 21 = .ok (.ifCond .ne 7, 3) := by decide +kernel
theorem dX8_add_24 : decode cX8_add 24 = .ok (.iload_n 2, 1) := by decide +kernel
theorem dX8_add_25 : decode cX8_add 25 = .ok (.goto 9, 3) := by decide +kernel
theorem dX8_add_28 : decode cX8_add 28 = .ok (.aload_n 0, 1) := by decide +kernel
theorem dX8_add_29 : decode cX8_add 29 = .ok (.getfield 15, 3) := by decide +kernel
theorem dX8_add_32 : decode cX8_add 32 = .ok (.iload_n 2, 1) := by decide +kernel
theorem dX8_add_33 : decode cX8_add 33 = .ok (.iand, 1) := by decide +kernel
theorem dX8_add_34 : decode cX8_add 34 = .ok (.putfield 15, 3) := by decide +kernel
theorem dX8_add_37 : decode cX8_add 37 = .ok (.aload_n 0, 1) := by decide +kernel
theorem dX8_add_38 : decode cX8_add 38 = .ok (.aload_n 0, 1) := by decide +kernel
theorem dX8_add_39 : decode cX8_add 39 = .ok (.getfield 9, 3) := by decide +kernel
theorem dX8_add_42 : decode cX8_add 42 = .ok (.ifCond .ne 7, 3) := by decide +kernel
theorem dX8_add_45 : decode cX8_add 45 = .ok (.iload_n 3, 1) := by decide +kernel
theorem dX8_add_46 : decode cX8_add 46 = .ok (.goto 9, 3) := by decide +kernel
theorem dX8_add_49 : decode cX8_add 49 = .ok (.aload_n 0, 1) := by decide +kernel
theorem dX8_add_50 : decode cX8_add 50 = .ok (.getfield 18, 3) := by decide +kernel
theorem dX8_add_53 : decode cX8_add 53 = .ok (.iload_n 3, 1) := by decide +kernel
theorem dX8_add_54 : decode cX8_add 54 = .ok (.iand, 1) := by decide +kernel
theorem dX8_add_55 : decode cX8_add 55 = .ok (.putfield 18, 3) := by decide +kernel
theorem dX8_add_58 : decode cX8_add 58 = .ok (.aload_n 0, 1) := by decide +kernel
theorem dX8_add_59 : decode cX8_add 59 = .ok (.aload_n 0, 1) := by decide +kernel
theorem dX8_add_60 : decode cX8_add 60 = .ok (.getfield 9, 3) := by decide +kernel
theorem dX8_add_63 : decode cX8_add 63 = .ok (.ifCond .ne 8, 3) := by decide +kernel
theorem dX8_add_66 : decode cX8_add 66 = .ok (.iload 4, 2) := by decide +kernel
theorem dX8_add_68 : decode cX8_add 68 = .ok (.goto 12, 3) := by decide +kernel
theorem dX8_add_71 : decode cX8_add 71 = .ok (.aload_n 0, 1) := by decide +kernel
theorem dX8_add_72 : decode cX8_add 72 = .ok (.getfield 21, 3) := by decide +kernel
theorem dX8_add_75 : decode cX8_add 75 = .ok (.iload 4, 2) := by decide +kernel
theorem dX8_add_77 : decode cX8_add 77 = .ok (.invokestatic 103, 3) := by decide +kernel
theorem dX8_add_80 : decode cX8_add 80 = .ok (.putfield 21, 3) := by decide +kernel
theorem dX8_add_83 : decode cX8_add 83 = .ok (.aload_n 0, 1) := by decide +kernel
theorem dX8_add_84 : decode cX8_add 84 = .ok (.dup, 1) := by decide +kernel
theorem dX8_add_85 : decode cX8_add 85 = .ok (.getfield 9, 3) := by decide +kernel
theorem dX8_add_88 : decode cX8_add 88 = .ok (.iconst 1, 1) := by decide +kernel
theorem dX8_add_89 : decode cX8_add 89 = .ok (.iadd, 1) := by decide +kernel
theorem dX8_add_90 : decode cX8_add 90 = .ok (.putfield 9, 3) := by decide +kernel
theorem dX8_add_93 : decode cX8_add 93 = .ok (.return_, 1) := by decide +kernel
def rm_X8_add : Room := { frames := 1, cells := 0, slots := 0, locals := 21 }
abbrev wS_X8_add : List (Nat × Nat) := [(9, 0), (9, 1), (9, 2), (9, 3)]
set_option maxRecDepth 100000 in
set_option maxHeartbeats 4000000 in
theorem c_X8_add (l : Launch) (E : zE) (hV : zV E) (H0 : Heap) (hT0 : HT E H0) (h0 : Nat) (kh0 : eK E h0 = 9) (p0 : Int32) (p1 : Int32) : Met l yX8_add (zws yX8_add cX8_add 5 none) rm_X8_add (zP E H0 [.ref h0, .int p0, .int p1]) (zQV E E wS_X8_add (fun H1 => True)) 0 0 (zfr E) := by
  refine zEnt (by decide) (Nat.le_of_ble_eq_true rfl) (fun p e s m args below meth c ls Q B hr hlk hh hQ hl => ?_)
  have hx := B.1
  have hb := B.2.1
  have hG0 : zG E wS_X8_add H0 H0 [] := zG.rf hT0
  have hl : lv_has ls 5 [(0, .ref h0), (1, .int p0), (2, .int p1)] := hl
  have b80 : ∀ (H80 : Heap) (lc80 : List Loc) (ls : Array Slot) (w80_0 : Int32) (u80_h0_0 : Int32), zG E wS_X8_add H0 H80 lc80 → lv_has ls 5 [(0, .ref h0)] → w80_0.toInt ≤ 63 → sl H80 h0 (zix E 9 0) = some (.int u80_h0_0) → W p l e rm_X8_add s m args below meth c H80 lc80 0 0 Q (F0 m 80 ls [.int w80_0, .ref h0]) := by
    intro H80 lc80 ls w80_0 u80_h0_0 gH80 hl f80_1 s80_u80_h0_0
    refine g_putI B fp_RX8_21 hV gH80 kh0 rfl rfl rfl rfl rfl (z_rng _).1 (z_rng _).2 rfl dX8_add_80 (fun H1 lc1 gH1 uH1 => ?_)
    have s_2 := uH1.keep (Or.inr (j_ne hV rfl rfl rfl rfl)) s80_u80_h0_0
    refine lv_aload_n hx hb dX8_add_83 rfl (lv_at hl 0 rfl) ?_
    refine lv_dup hx hb dX8_add_84 rfl ?_
    refine g_get B fl_RX8_9 gH1.1 kh0 rfl rfl rfl dX8_add_85 s_2 ?_
    refine lv_iconst (v := 1) hx hb dX8_add_88 (by decide) ?_
    refine lv_iadd hx hb dX8_add_89 ?_
    refine lv_topi (fun x_3 e_3 => ?_)
    refine g_putI B fp_RX8_9 hV gH1 kh0 rfl rfl rfl rfl rfl (z_rng _).1 (z_rng _).2 rfl dX8_add_90 (fun H4 lc4 gH4 uH4 => ?_)
    exact rtV B hr hlk hh hQ gH4 trivial dX8_add_93
  have b55 : ∀ (H55 : Heap) (lc55 : List Loc) (ls : Array Slot) (v55_4 : Int32) (w55_0 : Int32) (u55_h0_0 : Int32), zG E wS_X8_add H0 H55 lc55 → lv_has ls 5 [(0, .ref h0), (4, .int v55_4)] → 0 ≤ v55_4.toInt → v55_4.toInt ≤ 63 → sl H55 h0 (zix E 9 0) = some (.int u55_h0_0) → W p l e rm_X8_add s m args below meth c H55 lc55 0 0 Q (F0 m 55 ls [.int w55_0, .ref h0]) := by
    intro H55 lc55 ls v55_4 w55_0 u55_h0_0 gH55 hl f55_1 f55_2 s55_u55_h0_0
    refine g_putI B fp_RX8_18 hV gH55 kh0 rfl rfl rfl rfl rfl (z_rng _).1 (z_rng _).2 rfl dX8_add_55 (fun H5 lc5 gH5 uH5 => ?_)
    have s_6 := uH5.keep (Or.inr (j_ne hV rfl rfl rfl rfl)) s55_u55_h0_0
    refine lv_aload_n hx hb dX8_add_58 rfl (lv_at hl 0 rfl) ?_
    refine lv_aload_n hx hb dX8_add_59 rfl (lv_at hl 0 rfl) ?_
    refine g_get B fl_RX8_9 gH5.1 kh0 rfl rfl rfl dX8_add_60 s_6 ?_
    refine lv_if_ne (tgt := 71) hx hb dX8_add_63 (by decide) (fun c_7 => ?_) (fun c_7 => ?_)
    · have f_7 := z_ne c_7 rfl kl_0
      refine lv_aload_n hx hb dX8_add_71 rfl (lv_at hl 0 rfl) ?_
      refine g_getI B fl_RX8_21 gH5.1 kh0 rfl rfl rfl rfl rfl dX8_add_72 (fun x_8 s_8 a_8 b_8 => ?_)
      refine lv_iload hx hb dX8_add_75 (lv_at hl 1 rfl) ?_
      refine va_mmin hx hb (B.2.2.1.trans hl.1.symm) B.2.2.2.1 (B.2.2.2.2.1 _ (mc_wsL_law_r51 _ (List.mem_of_getElem? (i := 3) rfl))) (B.2.2.2.2.1 _ (mc_wsL_law_r17 _ (List.mem_of_getElem? (i := 9) rfl))) (B.2.2.2.2.1 _ (mc_wsL_law_r17 _ (List.mem_of_getElem? (i := 10) rfl))) (B.2.2.2.2.1 _ (mc_wsL_law_r17 _ (List.mem_of_getElem? (i := 11) rfl))) (Nat.le_of_ble_eq_true rfl) (Nat.le_of_ble_eq_true rfl) (Nat.zero_le _) (Nat.zero_le _) dX8_add_77 ?_
      refine lv_topi (fun x_9 e_9 => ?_)
      have t_9 := z_min e_9 rfl rfl
      exact b80 H5 lc5 ls x_9 u55_h0_0 gH5 (lv_sub hl [0] rfl) (by omega) s_6
    · have f_7 := z_eq c_7 rfl kl_0
      refine lv_iload hx hb dX8_add_66 (lv_at hl 1 rfl) ?_
      refine lv_goto (tgt := 80) hx hb dX8_add_68 (by decide) ?_
      exact b80 H5 lc5 ls v55_4 u55_h0_0 gH5 (lv_sub hl [0] rfl) (by omega) s_6
  have b34 : ∀ (ls : Array Slot) (v34_3 : Int32) (v34_4 : Int32) (w34_0 : Int32) (u34_h0_0 : Int32), lv_has ls 5 [(0, .ref h0), (3, .int v34_3), (4, .int v34_4)] → 0 ≤ v34_4.toInt → v34_4.toInt ≤ 63 → sl H0 h0 (zix E 9 0) = some (.int u34_h0_0) → W p l e rm_X8_add s m args below meth c H0 [] 0 0 Q (F0 m 34 ls [.int w34_0, .ref h0]) := by
    intro ls v34_3 v34_4 w34_0 u34_h0_0 hl f34_1 f34_2 s34_u34_h0_0
    refine g_putI B fp_RX8_15 hV hG0 kh0 rfl rfl rfl rfl rfl (z_rng _).1 (z_rng _).2 rfl dX8_add_34 (fun H10 lc10 gH10 uH10 => ?_)
    have s_11 := uH10.keep (Or.inr (j_ne hV rfl rfl rfl rfl)) s34_u34_h0_0
    refine lv_aload_n hx hb dX8_add_37 rfl (lv_at hl 0 rfl) ?_
    refine lv_aload_n hx hb dX8_add_38 rfl (lv_at hl 0 rfl) ?_
    refine g_get B fl_RX8_9 gH10.1 kh0 rfl rfl rfl dX8_add_39 s_11 ?_
    refine lv_if_ne (tgt := 49) hx hb dX8_add_42 (by decide) (fun c_12 => ?_) (fun c_12 => ?_)
    · have f_12 := z_ne c_12 rfl kl_0
      refine lv_aload_n hx hb dX8_add_49 rfl (lv_at hl 0 rfl) ?_
      refine g_getI B fl_RX8_18 gH10.1 kh0 rfl rfl rfl rfl rfl dX8_add_50 (fun x_13 s_13 a_13 b_13 => ?_)
      refine lv_iload_n hx hb dX8_add_53 rfl (lv_at hl 1 rfl) ?_
      refine lv_iand hx hb dX8_add_54 ?_
      refine lv_topi (fun x_14 e_14 => ?_)
      exact b55 H10 lc10 ls v34_4 x_14 u34_h0_0 gH10 (lv_sub hl [0, 2] rfl) (by omega) (by omega) s_11
    · have f_12 := z_eq c_12 rfl kl_0
      refine lv_iload_n hx hb dX8_add_45 rfl (lv_at hl 1 rfl) ?_
      refine lv_goto (tgt := 55) hx hb dX8_add_46 (by decide) ?_
      exact b55 H10 lc10 ls v34_4 v34_3 u34_h0_0 gH10 (lv_sub hl [0, 2] rfl) (by omega) (by omega) s_11
  refine lv_iload_n hx hb dX8_add_0 rfl (lv_at hl 2 rfl) ?_
  refine lv_iconst (v := (-1)) hx hb dX8_add_1 (by decide) ?_
  refine lv_ixor hx hb dX8_add_2 ?_
  refine lv_topi (fun x_15 e_15 => ?_)
  refine lv_iconst (v := 1) hx hb dX8_add_3 (by decide) ?_
  refine lv_iload_n hx hb dX8_add_4 rfl (lv_at hl 1 rfl) ?_
  refine lv_ishl hx hb dX8_add_5 ?_
  refine lv_topi (fun x_16 e_16 => ?_)
  refine lv_iconst (v := 1) hx hb dX8_add_6 (by decide) ?_
  refine lv_isub hx hb dX8_add_7 ?_
  refine lv_topi (fun x_17 e_17 => ?_)
  refine lv_iand hx hb dX8_add_8 ?_
  refine lv_topi (fun x_18 e_18 => ?_)
  refine lv_istore_n (lv' := [(3, .int x_18), (0, .ref h0), (1, .int p0), (2, .int p1)]) hx hb dX8_add_9 rfl hl (by decide) rfl (fun ls hl => ?_)
  refine lv_iload_n hx hb dX8_add_10 rfl (lv_at hl 3 rfl) ?_
  refine zkPI (zrS (rest := []) B (c_J6_bitCount_0f7a4 l E hV H0 hT0 p1) cs_RX8_97 rfl hl.1 rfl (Nat.le_of_ble_eq_true rfl) dX8_add_11 rfl rfl ⟨rfl, rfl⟩ ⟨Nat.zero_le _, Nat.zero_le _⟩ (zO.of hG0 hh)) (fun x_19 hp_19 => ?_)
  obtain ⟨hp_19_1, hp_19_2⟩ := hp_19
  refine lv_istore (lv' := [(4, .int x_19), (3, .int x_18), (0, .ref h0), (1, .int p0), (2, .int p1)]) hx hb dX8_add_14 hl (by decide) rfl (fun ls hl => ?_)
  refine lv_aload_n hx hb dX8_add_16 rfl (lv_at hl 2 rfl) ?_
  refine lv_aload_n hx hb dX8_add_17 rfl (lv_at hl 2 rfl) ?_
  refine g_getI B fl_RX8_9 hT0 kh0 rfl rfl rfl rfl rfl dX8_add_18 (fun x_20 s_20 a_20 b_20 => ?_)
  refine lv_if_ne (tgt := 28) hx hb dX8_add_21 (by decide) (fun c_21 => ?_) (fun c_21 => ?_)
  · have f_21 := z_ne c_21 rfl kl_0
    refine lv_aload_n hx hb dX8_add_28 rfl (lv_at hl 2 rfl) ?_
    refine g_getI B fl_RX8_15 hT0 kh0 rfl rfl rfl rfl rfl dX8_add_29 (fun x_22 s_22 a_22 b_22 => ?_)
    refine lv_iload_n hx hb dX8_add_32 rfl (lv_at hl 4 rfl) ?_
    refine lv_iand hx hb dX8_add_33 ?_
    refine lv_topi (fun x_23 e_23 => ?_)
    exact b34 ls x_18 x_19 x_23 x_20 (lv_sub hl [2, 1, 0] rfl) (by omega) (by omega) s_20
  · have f_21 := z_eq c_21 rfl kl_0
    refine lv_iload_n hx hb dX8_add_24 rfl (lv_at hl 4 rfl) ?_
    refine lv_goto (tgt := 34) hx hb dX8_add_25 (by decide) ?_
    exact b34 ls x_18 x_19 p1 x_20 (lv_sub hl [2, 1, 0] rfl) (by omega) (by omega) s_20

theorem dX8_canHappen_0 : decode cX8_canHappen 0 = .ok (.aload_n 0, 1) := by decide +kernel
theorem dX8_canHappen_1 : decode cX8_canHappen 1 = .ok (.getfield 40, 3) := by decide +kernel
theorem dX8_canHappen_4 : decode cX8_canHappen 4 = .ok (.getfield 62, 3) := by decide +kernel
theorem dX8_canHappen_7 : decode cX8_canHappen 7 = .ok (.iload_n 1, 1) := by decide +kernel
theorem dX8_canHappen_8 : decode cX8_canHappen 8 = .ok (.iaload, 1) := by decide +kernel
theorem dX8_canHappen_9 : decode cX8_canHappen 9 = .ok (.istore 4, 2) := by decide +kernel
theorem dX8_canHappen_11 : decode cX8_canHappen 11 = .ok (.iload 4, 2) := by decide +kernel
theorem dX8_canHappen_13 : decode cX8_canHappen 13 = .ok (.iconst (-1), 1) := by decide +kernel
theorem dX8_canHappen_14 : decode cX8_canHappen 14 = .ok (.if_icmp .eq 94, 3) := by decide +kernel
theorem dX8_canHappen_17 : decode cX8_canHappen 17 = .ok (.aload_n 0, 1) := by decide +kernel
theorem dX8_canHappen_18 : decode cX8_canHappen 18 = .ok (.getfield 40, 3) := by decide +kernel
theorem dX8_canHappen_21 : decode cX8_canHappen 21 = .ok (.getfield 82, 3) := by decide +kernel
theorem dX8_canHappen_24 : decode cX8_canHappen 24 = .ok (.iload_n 1, 1) := by decide +kernel
theorem dX8_canHappen_25 : decode cX8_canHappen 25 = .ok (.iaload, 1) := by decide +kernel
theorem dX8_canHappen_26 : decode cX8_canHappen 26 = .ok (.istore 5, 2) := by decide +kernel
theorem dX8_canHappen_28 : decode cX8_canHappen 28 = .ok (.iload 4, 2) := by decide +kernel
theorem dX8_canHappen_30 : decode cX8_canHappen 30 = .ok (.ifCond .ne 12, 3) := by decide +kernel
theorem dX8_canHappen_33 : decode cX8_canHappen 33 = .ok (.aload_n 0, 1) := by decide +kernel
theorem dX8_canHappen_34 : decode cX8_canHappen 34 = .ok (.getfield 26, 3) := by decide +kernel
theorem dX8_canHappen_37 : decode cX8_canHappen 37 = .ok (.iload_n 2, 1) := by decide +kernel
theorem dX8_canHappen_38 : decode cX8_canHappen 38 = .ok (.aaload, 1) := by decide +kernel
theorem dX8_canHappen_39 : decode cX8_canHappen 39 = .ok (.goto 9, 3) := by decide +kernel
theorem dX8_canHappen_42 : decode cX8_canHappen 42 = .ok (.aload_n 0, 1) := by decide +kernel
theorem dX8_canHappen_43 : decode cX8_canHappen 43 = .ok (.getfield 30, 3) := by decide +kernel
theorem dX8_canHappen_46 : decode cX8_canHappen 46 = .ok (.iload_n 2, 1) := by decide +kernel
theorem dX8_canHappen_47 : decode cX8_canHappen 47 = .ok (.aaload, 1) := by decide +kernel
theorem dX8_canHappen_48 : decode cX8_canHappen 48 = .ok (.astore 6, 2) := by decide +kernel
theorem dX8_canHappen_50 : decode cX8_canHappen 50 = .ok (.iload 4, 2) := by decide +kernel
theorem dX8_canHappen_52 : decode cX8_canHappen 52 = .ok (.ifCond .ne 12, 3) := by decide +kernel
theorem dX8_canHappen_55 : decode cX8_canHappen 55 = .ok (.aload_n 0, 1) := by decide +kernel
theorem dX8_canHappen_56 : decode cX8_canHappen 56 = .ok (.getfield 30, 3) := by decide +kernel
theorem dX8_canHappen_59 : decode cX8_canHappen 59 = .ok (.iload_n 2, 1) := by decide +kernel
theorem dX8_canHappen_60 : decode cX8_canHappen 60 = .ok (.aaload, 1) := by decide +kernel
theorem dX8_canHappen_61 : decode cX8_canHappen 61 = .ok (.goto 9, 3) := by decide +kernel
theorem dX8_canHappen_64 : decode cX8_canHappen 64 = .ok (.aload_n 0, 1) := by decide +kernel
theorem dX8_canHappen_65 : decode cX8_canHappen 65 = .ok (.getfield 26, 3) := by decide +kernel
theorem dX8_canHappen_68 : decode cX8_canHappen 68 = .ok (.iload_n 2, 1) := by decide +kernel
theorem dX8_canHappen_69 : decode cX8_canHappen 69 = .ok (.aaload, 1) := by decide +kernel
theorem dX8_canHappen_70 : decode cX8_canHappen 70 = .ok (.astore 7, 2) := by decide +kernel
theorem dX8_canHappen_72 : decode cX8_canHappen 72 = .ok (.aload_n 0, 1) := by decide +kernel
theorem dX8_canHappen_73 : decode cX8_canHappen 73 = .ok (.getfield 36, 3) := by decide +kernel
theorem dX8_canHappen_76 : decode cX8_canHappen 76 = .ok (.aload 6, 2) := by decide +kernel
theorem dX8_canHappen_78 : decode cX8_canHappen 78 = .ok (.iload 4, 2) := by decide +kernel
theorem dX8_canHappen_80 : decode cX8_canHappen 80 = .ok (.iload 5, 2) := by decide +kernel
theorem dX8_canHappen_82 : decode cX8_canHappen 82 = .ok (.invokevirtual 85, 3) := by decide +kernel
theorem dX8_canHappen_85 : decode cX8_canHappen 85 = .ok (.ifCond .ne 5, 3) := by decide +kernel
theorem dX8_canHappen_88 : decode cX8_canHappen 88 = .ok (.iconst 0, 1) := by decide +kernel
theorem dX8_canHappen_89 : decode cX8_canHappen 89 = .ok (.ireturn, 1) := by decide +kernel
theorem dX8_canHappen_90 : decode cX8_canHappen 90 = .ok (.iload_n 3, 1) := by decide +kernel
theorem dX8_canHappen_91 : decode cX8_canHappen 91 = .ok (.ifCond .eq 17, 3) := by decide +kernel
theorem dX8_canHappen_94 : decode cX8_canHappen 94 = .ok (.aload_n 0, 1) := by decide +kernel
theorem dX8_canHappen_95 : decode cX8_canHappen 95 = .ok (.getfield 36, 3) := by decide +kernel
theorem dX8_canHappen_98 : decode cX8_canHappen 98 = .ok (.aload 7, 2) := by decide +kernel
theorem dX8_canHappen_100 : decode cX8_canHappen 100 = .ok (.iload 4, 2) := by decide +kernel
theorem dX8_canHappen_102 : decode cX8_canHappen 102 = .ok (.iload 5, 2) := by decide +kernel
theorem dX8_canHappen_104 : decode cX8_canHappen 104 = .ok (.invokevirtual 85, 3) := by decide +kernel
theorem dX8_canHappen_107 : decode cX8_canHappen 107 = .ok (.pop, 1) := by decide +kernel
theorem dX8_canHappen_108 : decode cX8_canHappen 108 = .ok (.aload_n 0, 1) := by decide +kernel
theorem dX8_canHappen_109 : decode cX8_canHappen 109 = .ok (.getfield 44, 3) := by decide +kernel
theorem dX8_canHappen_112 : decode cX8_canHappen 112 = .ok (.iload_n 1, 1) := by decide +kernel
theorem dX8_canHappen_113 : decode cX8_canHappen 113 = .ok (.aload_n 0, 1) := by decide +kernel
theorem dX8_canHappen_114 : decode cX8_canHappen 114 = .ok (.getfield 33, 3) := by decide +kernel
theorem dX8_canHappen_117 : decode cX8_canHappen 117 = .ok (.aload_n 0, 1) := by decide +kernel
theorem dX8_canHappen_118 : decode cX8_canHappen 118 = .ok (.getfield 26, 3) := by decide +kernel
theorem dX8_canHappen_121 : decode cX8_canHappen 121 = .ok (.iload_n 2, 1) := by decide +kernel
theorem dX8_canHappen_122 : decode cX8_canHappen 122 = .ok (.aaload, 1) := by decide +kernel
theorem dX8_canHappen_123 : decode cX8_canHappen 123 = .ok (.aload_n 0, 1) := by decide +kernel
theorem dX8_canHappen_124 : decode cX8_canHappen 124 = .ok (.getfield 30, 3) := by decide +kernel
theorem dX8_canHappen_127 : decode cX8_canHappen 127 = .ok (.iload_n 2, 1) := by decide +kernel
theorem dX8_canHappen_128 : decode cX8_canHappen 128 = .ok (.aaload, 1) := by decide +kernel
theorem dX8_canHappen_129 : decode cX8_canHappen 129 = .ok (.invokevirtual 91, 3) := by decide +kernel
theorem dX8_canHappen_132 : decode cX8_canHappen 132 = .ok (.ireturn, 1) := by decide +kernel
def rm_X8_canHappen : Room := { frames := 4, cells := 0, slots := 0, locals := 109 }
abbrev wS_X8_canHappen : List (Nat × Nat) := [(5, 0), (5, 1), (5, 2), (5, 3), (5, 4), (5, 5), (5, 6)]
set_option maxRecDepth 100000 in
set_option maxHeartbeats 4000000 in
theorem c_X8_canHappen (l : Launch) (E : zE) (hV : zV E) (H0 : Heap) (hT0 : HT E H0) (h0 : Nat) (kh0 : eK E h0 = 9) (p0 : Int32) (p0_lo : 0 ≤ p0.toInt) (p0_hi : p0.toInt ≤ 59) (p1 : Int32) (p1_lo : 0 ≤ p1.toInt) (p1_hi : p1.toInt ≤ 10) (p2 : Int32) (p2_lo : 0 ≤ p2.toInt) (p2_hi : p2.toInt ≤ 1) : Met l yX8_canHappen (zws yX8_canHappen cX8_canHappen 8 (some .boolean)) rm_X8_canHappen (zP E H0 [.ref h0, .int p0, .int p1, .int p2]) (zQI E E wS_X8_canHappen (fun r H1 => 0 ≤ r.toInt ∧ r.toInt ≤ 1)) 0 0 (zfr E) := by
  refine zEnt (by decide) (Nat.le_of_ble_eq_true rfl) (fun p e s m args below meth c ls Q B hr hlk hh hQ hl => ?_)
  have hx := B.1
  have hb := B.2.1
  have hG0 : zG E wS_X8_canHappen H0 H0 [] := zG.rf hT0
  have hl : lv_has ls 8 [(0, .ref h0), (1, .int p0), (2, .int p1), (3, .int p2)] := hl
  have b108 : ∀ (H108 : Heap) (lc108 : List Loc) (ls : Array Slot), zG E wS_X8_canHappen H0 H108 lc108 → lv_has ls 8 [(0, .ref h0), (1, .int p0), (2, .int p1)] → W p l e rm_X8_canHappen s m args below meth c H108 lc108 0 0 Q (F0 m 108 ls []) := by
    intro H108 lc108 ls gH108 hl
    refine lv_aload_n hx hb dX8_canHappen_108 rfl (lv_at hl 0 rfl) ?_
    refine g_getR B fl_RX8_44 gH108.1 kh0 rfl rfl rfl rfl rfl dX8_canHappen_109 (fun q_1 s_1 k_q_1 => ?_)
    refine lv_iload_n hx hb dX8_canHappen_112 rfl (lv_at hl 1 rfl) ?_
    refine lv_aload_n hx hb dX8_canHappen_113 rfl (lv_at hl 0 rfl) ?_
    refine g_getI B fl_RX8_33 gH108.1 kh0 rfl rfl rfl rfl rfl dX8_canHappen_114 (fun x_2 s_2 a_2 b_2 => ?_)
    refine lv_aload_n hx hb dX8_canHappen_117 rfl (lv_at hl 0 rfl) ?_
    refine g_getR B fl_RX8_26 gH108.1 kh0 rfl rfl rfl rfl rfl dX8_canHappen_118 (fun q_3 s_3 k_q_3 => ?_)
    refine lv_iload_n hx hb dX8_canHappen_121 rfl (lv_at hl 2 rfl) ?_
    refine g_aaldI (i := p1) (N := 11) B gH108.1 k_q_3 rfl rfl rfl rfl rfl (by omega) (by omega) rfl dX8_canHappen_122 (fun q_4 s_4 k_q_4 => ?_)
    refine lv_aload_n hx hb dX8_canHappen_123 rfl (lv_at hl 0 rfl) ?_
    refine g_getR B fl_RX8_30 gH108.1 kh0 rfl rfl rfl rfl rfl dX8_canHappen_124 (fun q_5 s_5 k_q_5 => ?_)
    refine lv_iload_n hx hb dX8_canHappen_127 rfl (lv_at hl 2 rfl) ?_
    refine g_aaldI (i := p1) (N := 11) B gH108.1 k_q_5 rfl rfl rfl rfl rfl (by omega) (by omega) rfl dX8_canHappen_128 (fun q_6 s_6 k_q_6 => ?_)
    refine zkPI (zrV (rest := []) B (c_X7_areSo l E hV H108 gH108.1 q_1 k_q_1 p0 x_2 q_4 k_q_4 q_6 k_q_6) cl_RX8_91 gH108.1 k_q_1 rfl rfl rfl rfl hl.1 rfl (Nat.le_of_ble_eq_true rfl) dX8_canHappen_129 rfl rfl ⟨rfl, rfl⟩ ⟨Nat.zero_le _, Nat.zero_le _⟩ (zO.of gH108 hh)) (fun x_7 hp_7 => ?_)
    obtain ⟨hp_7_1, hp_7_2⟩ := hp_7
    exact rtI (v := x_7) B hr hlk hh hQ gH108 (z_nz (by omega) (by omega)) ⟨by omega, by omega⟩ dX8_canHappen_132
  have b70 : ∀ (ls : Array Slot) (v70_4 : Int32) (v70_5 : Int32) (v70_6 : Nat) (w70_0 : Nat), lv_has ls 8 [(0, .ref h0), (1, .int p0), (2, .int p1), (3, .int p2), (4, .int v70_4), (5, .int v70_5), (6, .ref v70_6)] → eK E v70_6 = 5 → eK E w70_0 = 5 → 0 ≤ v70_4.toInt → v70_4.toInt ≤ 1 → W p l e rm_X8_canHappen s m args below meth c H0 [] 0 0 Q (F0 m 70 ls [.ref w70_0]) := by
    intro ls v70_4 v70_5 v70_6 w70_0 hl k_v70_6 k_w70_0 f70_1 f70_2
    refine lv_astore (lv' := [(7, .ref w70_0), (0, .ref h0), (1, .int p0), (2, .int p1), (3, .int p2), (4, .int v70_4), (5, .int v70_5), (6, .ref v70_6)]) hx hb dX8_canHappen_70 hl (by decide) rfl (fun ls hl => ?_)
    refine lv_aload_n hx hb dX8_canHappen_72 rfl (lv_at hl 1 rfl) ?_
    refine g_getR B fl_RX8_36 hT0 kh0 rfl rfl rfl rfl rfl dX8_canHappen_73 (fun q_8 s_8 k_q_8 => ?_)
    refine lv_aload hx hb dX8_canHappen_76 (lv_at hl 7 rfl) ?_
    refine lv_iload hx hb dX8_canHappen_78 (lv_at hl 5 rfl) ?_
    refine lv_iload hx hb dX8_canHappen_80 (lv_at hl 6 rfl) ?_
    refine zkI (zrV (rest := []) B (c_X2_make l E hV H0 hT0 q_8 k_q_8 v70_6 k_v70_6 v70_4 v70_5) cl_RX8_85 hT0 k_q_8 rfl rfl rfl rfl hl.1 rfl (Nat.le_of_ble_eq_true rfl) dX8_canHappen_82 rfl rfl ⟨rfl, rfl⟩ ⟨Nat.zero_le _, Nat.zero_le _⟩ (zO.of hG0 hh)) hG0 rfl (fun x_9 H9 lc9 hp_9 gH9 rH9 => ?_)
    have s_10 := rH9.keep hV kh0 rfl s_8
    obtain ⟨hp_9_1, hp_9_2⟩ := hp_9
    refine lv_if_ne (tgt := 90) hx hb dX8_canHappen_85 (by decide) (fun c_11 => ?_) (fun c_11 => ?_)
    · have f_11 := z_ne c_11 rfl kl_0
      refine lv_iload_n hx hb dX8_canHappen_90 rfl (lv_at hl 4 rfl) ?_
      refine lv_if_eq (tgt := 108) hx hb dX8_canHappen_91 (by decide) (fun c_12 => ?_) (fun c_12 => ?_)
      · have f_12 := z_eq c_12 rfl kl_0
        exact b108 H9 lc9 ls gH9 (lv_sub hl [1, 2, 3] rfl)
      · have f_12 := z_ne c_12 rfl kl_0
        refine lv_aload_n hx hb dX8_canHappen_94 rfl (lv_at hl 1 rfl) ?_
        refine g_get B fl_RX8_36 gH9.1 kh0 rfl rfl rfl dX8_canHappen_95 s_10 ?_
        refine lv_aload hx hb dX8_canHappen_98 (lv_at hl 0 rfl) ?_
        refine lv_iload hx hb dX8_canHappen_100 (lv_at hl 5 rfl) ?_
        refine lv_iload hx hb dX8_canHappen_102 (lv_at hl 6 rfl) ?_
        refine zkI (zrV (rest := []) B (c_X2_make l E hV H9 gH9.1 q_8 k_q_8 w70_0 k_w70_0 v70_4 v70_5) cl_RX8_85 gH9.1 k_q_8 rfl rfl rfl rfl hl.1 rfl (Nat.le_of_ble_eq_true rfl) dX8_canHappen_104 rfl rfl ⟨rfl, rfl⟩ ⟨Nat.zero_le _, Nat.zero_le _⟩ (zO.of gH9 hh)) gH9 rfl (fun x_13 H13 lc13 hp_13 gH13 rH13 => ?_)
        obtain ⟨hp_13_1, hp_13_2⟩ := hp_13
        refine lv_pop hx hb dX8_canHappen_107 rfl ?_
        exact b108 H13 lc13 ls gH13 (lv_sub hl [1, 2, 3] rfl)
    · have f_11 := z_eq c_11 rfl kl_0
      refine lv_iconst (v := 0) hx hb dX8_canHappen_88 (by decide) ?_
      have := kl_0
      have := kl_0
      exact rtI (v := 0) B hr hlk hh hQ gH9 rfl ⟨by omega, by omega⟩ dX8_canHappen_89
  have b48 : ∀ (ls : Array Slot) (v48_4 : Int32) (v48_5 : Int32) (w48_0 : Nat), lv_has ls 8 [(0, .ref h0), (1, .int p0), (2, .int p1), (3, .int p2), (4, .int v48_4), (5, .int v48_5)] → eK E w48_0 = 5 → 0 ≤ v48_4.toInt → v48_4.toInt ≤ 1 → W p l e rm_X8_canHappen s m args below meth c H0 [] 0 0 Q (F0 m 48 ls [.ref w48_0]) := by
    intro ls v48_4 v48_5 w48_0 hl k_w48_0 f48_1 f48_2
    refine lv_astore (lv' := [(6, .ref w48_0), (0, .ref h0), (1, .int p0), (2, .int p1), (3, .int p2), (4, .int v48_4), (5, .int v48_5)]) hx hb dX8_canHappen_48 hl (by decide) rfl (fun ls hl => ?_)
    refine lv_iload hx hb dX8_canHappen_50 (lv_at hl 5 rfl) ?_
    refine lv_if_ne (tgt := 64) hx hb dX8_canHappen_52 (by decide) (fun c_14 => ?_) (fun c_14 => ?_)
    · have f_14 := z_ne c_14 rfl kl_0
      refine lv_aload_n hx hb dX8_canHappen_64 rfl (lv_at hl 1 rfl) ?_
      refine g_getR B fl_RX8_26 hT0 kh0 rfl rfl rfl rfl rfl dX8_canHappen_65 (fun q_15 s_15 k_q_15 => ?_)
      refine lv_iload_n hx hb dX8_canHappen_68 rfl (lv_at hl 3 rfl) ?_
      refine g_aaldI (i := p1) (N := 11) B hT0 k_q_15 rfl rfl rfl rfl rfl (by omega) (by omega) rfl dX8_canHappen_69 (fun q_16 s_16 k_q_16 => ?_)
      exact b70 ls v48_4 v48_5 w48_0 q_16 (lv_sub hl [1, 2, 3, 4, 5, 6, 0] rfl) k_w48_0 k_q_16 (by omega) (by omega)
    · have f_14 := z_eq c_14 rfl kl_0
      refine lv_aload_n hx hb dX8_canHappen_55 rfl (lv_at hl 1 rfl) ?_
      refine g_getR B fl_RX8_30 hT0 kh0 rfl rfl rfl rfl rfl dX8_canHappen_56 (fun q_17 s_17 k_q_17 => ?_)
      refine lv_iload_n hx hb dX8_canHappen_59 rfl (lv_at hl 3 rfl) ?_
      refine g_aaldI (i := p1) (N := 11) B hT0 k_q_17 rfl rfl rfl rfl rfl (by omega) (by omega) rfl dX8_canHappen_60 (fun q_18 s_18 k_q_18 => ?_)
      refine lv_goto (tgt := 70) hx hb dX8_canHappen_61 (by decide) ?_
      exact b70 ls v48_4 v48_5 w48_0 q_18 (lv_sub hl [1, 2, 3, 4, 5, 6, 0] rfl) k_w48_0 k_q_18 (by omega) (by omega)
  refine lv_aload_n hx hb dX8_canHappen_0 rfl (lv_at hl 0 rfl) ?_
  refine g_getR B fl_RX8_40 hT0 kh0 rfl rfl rfl rfl rfl dX8_canHappen_1 (fun q_19 s_19 k_q_19 => ?_)
  refine g_getR B fl_RX8_62 hT0 k_q_19 rfl rfl rfl rfl rfl dX8_canHappen_4 (fun q_20 s_20 k_q_20 => ?_)
  refine lv_iload_n hx hb dX8_canHappen_7 rfl (lv_at hl 1 rfl) ?_
  refine g_ialdI (i := p0) (N := 240) B hT0 k_q_20 rfl rfl rfl rfl (by omega) (by omega) rfl dX8_canHappen_8 (fun x_21 s_21 a_21 b_21 => ?_)
  refine lv_istore (lv' := [(4, .int x_21), (0, .ref h0), (1, .int p0), (2, .int p1), (3, .int p2)]) hx hb dX8_canHappen_9 hl (by decide) rfl (fun ls hl => ?_)
  refine lv_iload hx hb dX8_canHappen_11 (lv_at hl 0 rfl) ?_
  refine lv_iconst (v := (-1)) hx hb dX8_canHappen_13 (by decide) ?_
  refine lv_icmp_eq (tgt := 108) hx hb dX8_canHappen_14 (by decide) (fun c_22 => ?_) (fun c_22 => ?_)
  · have f_22 := z_eq c_22 rfl kl_m1
    exact b108 H0 [] ls hG0 (lv_sub hl [1, 2, 3] rfl)
  · have f_22 := z_ne c_22 rfl kl_m1
    refine lv_aload_n hx hb dX8_canHappen_17 rfl (lv_at hl 1 rfl) ?_
    refine g_get B fl_RX8_40 hT0 kh0 rfl rfl rfl dX8_canHappen_18 s_19 ?_
    refine g_getR B fl_RX8_82 hT0 k_q_19 rfl rfl rfl rfl rfl dX8_canHappen_21 (fun q_23 s_23 k_q_23 => ?_)
    refine lv_iload_n hx hb dX8_canHappen_24 rfl (lv_at hl 2 rfl) ?_
    refine g_ialdI (i := p0) (N := 240) B hT0 k_q_23 rfl rfl rfl rfl (by omega) (by omega) rfl dX8_canHappen_25 (fun x_24 s_24 a_24 b_24 => ?_)
    refine lv_istore (lv' := [(5, .int x_24), (4, .int x_21), (0, .ref h0), (1, .int p0), (2, .int p1), (3, .int p2)]) hx hb dX8_canHappen_26 hl (by decide) rfl (fun ls hl => ?_)
    refine lv_iload hx hb dX8_canHappen_28 (lv_at hl 1 rfl) ?_
    refine lv_if_ne (tgt := 42) hx hb dX8_canHappen_30 (by decide) (fun c_25 => ?_) (fun c_25 => ?_)
    · have f_25 := z_ne c_25 rfl kl_0
      refine lv_aload_n hx hb dX8_canHappen_42 rfl (lv_at hl 2 rfl) ?_
      refine g_getR B fl_RX8_30 hT0 kh0 rfl rfl rfl rfl rfl dX8_canHappen_43 (fun q_26 s_26 k_q_26 => ?_)
      refine lv_iload_n hx hb dX8_canHappen_46 rfl (lv_at hl 4 rfl) ?_
      refine g_aaldI (i := p1) (N := 11) B hT0 k_q_26 rfl rfl rfl rfl rfl (by omega) (by omega) rfl dX8_canHappen_47 (fun q_27 s_27 k_q_27 => ?_)
      exact b48 ls x_21 x_24 q_27 (lv_sub hl [2, 3, 4, 5, 1, 0] rfl) k_q_27 (by omega) (by omega)
    · have f_25 := z_eq c_25 rfl kl_0
      refine lv_aload_n hx hb dX8_canHappen_33 rfl (lv_at hl 2 rfl) ?_
      refine g_getR B fl_RX8_26 hT0 kh0 rfl rfl rfl rfl rfl dX8_canHappen_34 (fun q_28 s_28 k_q_28 => ?_)
      refine lv_iload_n hx hb dX8_canHappen_37 rfl (lv_at hl 4 rfl) ?_
      refine g_aaldI (i := p1) (N := 11) B hT0 k_q_28 rfl rfl rfl rfl rfl (by omega) (by omega) rfl dX8_canHappen_38 (fun q_29 s_29 k_q_29 => ?_)
      refine lv_goto (tgt := 48) hx hb dX8_canHappen_39 (by decide) ?_
      exact b48 ls x_21 x_24 q_29 (lv_sub hl [2, 3, 4, 5, 1, 0] rfl) k_q_29 (by omega) (by omega)

theorem dX8_goOn_0 : decode cX8_goOn 0 = .ok (.iload_n 1, 1) := by decide +kernel
theorem dX8_goOn_1 : decode cX8_goOn 1 = .ok (.istore 4, 2) := by decide +kernel
theorem dX8_goOn_3 : decode cX8_goOn 3 = .ok (.iload 4, 2) := by decide +kernel
theorem dX8_goOn_5 : decode cX8_goOn 5 = .ok (.aload_n 0, 1) := by decide +kernel
theorem dX8_goOn_6 : decode cX8_goOn 6 = .ok (.getfield 40, 3) := by decide +kernel
theorem dX8_goOn_9 : decode cX8_goOn 9 = .ok (.getfield 59, 3) := by decide +kernel
theorem dX8_goOn_12 : decode cX8_goOn 12 = .ok (.if_icmp .ge 139, 3) := by decide +kernel
theorem dX8_goOn_15 : decode cX8_goOn 15 = .ok (.aload_n 0, 1) := by decide +kernel
theorem dX8_goOn_16 : decode cX8_goOn 16 = .ok (.getfield 40, 3) := by decide +kernel
theorem dX8_goOn_19 : decode cX8_goOn 19 = .ok (.getfield 62, 3) := by decide +kernel
theorem dX8_goOn_22 : decode cX8_goOn 22 = .ok (.iload 4, 2) := by decide +kernel
theorem dX8_goOn_24 : decode cX8_goOn 24 = .ok (.iaload, 1) := by decide +kernel
theorem dX8_goOn_25 : decode cX8_goOn 25 = .ok (.iconst (-1), 1) := by decide +kernel
theorem dX8_goOn_26 : decode cX8_goOn 26 = .ok (.if_icmp .eq 98, 3) := by decide +kernel
theorem dX8_goOn_29 : decode cX8_goOn 29 = .ok (.iload_n 2, 1) := by decide +kernel
theorem dX8_goOn_30 : decode cX8_goOn 30 = .ok (.bipush 10, 2) := by decide +kernel
theorem dX8_goOn_32 : decode cX8_goOn 32 = .ok (.if_icmp .ge 92, 3) := by decide +kernel
theorem dX8_goOn_35 : decode cX8_goOn 35 = .ok (.iconst 0, 1) := by decide +kernel
theorem dX8_goOn_36 : decode cX8_goOn 36 = .ok (.istore 5, 2) := by decide +kernel
theorem dX8_goOn_38 : decode cX8_goOn 38 = .ok (.iload 5, 2) := by decide +kernel
theorem dX8_goOn_40 : decode cX8_goOn 40 = .ok (.iconst 1, 1) := by decide +kernel
theorem dX8_goOn_41 : decode cX8_goOn 41 = .ok (.if_icmp .gt 82, 3) := by decide +kernel
theorem dX8_goOn_44 : decode cX8_goOn 44 = .ok (.aload_n 0, 1) := by decide +kernel
theorem dX8_goOn_45 : decode cX8_goOn 45 = .ok (.getfield 26, 3) := by decide +kernel
theorem dX8_goOn_48 : decode cX8_goOn 48 = .ok (.iload_n 2, 1) := by decide +kernel
theorem dX8_goOn_49 : decode cX8_goOn 49 = .ok (.iconst 1, 1) := by decide +kernel
theorem dX8_goOn_50 : decode cX8_goOn 50 = .ok (.iadd, 1) := by decide +kernel
theorem dX8_goOn_51 : decode cX8_goOn 51 = .ok (.aaload, 1) := by decide +kernel
theorem dX8_goOn_52 : decode cX8_goOn 52 = .ok (.aload_n 0, 1) := by decide +kernel
theorem dX8_goOn_53 : decode cX8_goOn 53 = .ok (.getfield 26, 3) := by decide +kernel
theorem dX8_goOn_56 : decode cX8_goOn 56 = .ok (.iload_n 2, 1) := by decide +kernel
theorem dX8_goOn_57 : decode cX8_goOn 57 = .ok (.aaload, 1) := by decide +kernel
theorem dX8_goOn_58 : decode cX8_goOn 58 = .ok (.invokevirtual 55, 3) := by decide +kernel
theorem dX8_goOn_61 : decode cX8_goOn 61 = .ok (.aload_n 0, 1) := by decide +kernel
theorem dX8_goOn_62 : decode cX8_goOn 62 = .ok (.getfield 30, 3) := by decide +kernel
theorem dX8_goOn_65 : decode cX8_goOn 65 = .ok (.iload_n 2, 1) := by decide +kernel
theorem dX8_goOn_66 : decode cX8_goOn 66 = .ok (.iconst 1, 1) := by decide +kernel
theorem dX8_goOn_67 : decode cX8_goOn 67 = .ok (.iadd, 1) := by decide +kernel
theorem dX8_goOn_68 : decode cX8_goOn 68 = .ok (.aaload, 1) := by decide +kernel
theorem dX8_goOn_69 : decode cX8_goOn 69 = .ok (.aload_n 0, 1) := by decide +kernel
theorem dX8_goOn_70 : decode cX8_goOn 70 = .ok (.getfield 30, 3) := by decide +kernel
theorem dX8_goOn_73 : decode cX8_goOn 73 = .ok (.iload_n 2, 1) := by decide +kernel
theorem dX8_goOn_74 : decode cX8_goOn 74 = .ok (.aaload, 1) := by decide +kernel
theorem dX8_goOn_75 : decode cX8_goOn 75 = .ok (.invokevirtual 55, 3) := by decide +kernel
theorem dX8_goOn_78 : decode cX8_goOn 78 = .ok (.aload_n 0, 1) := by decide +kernel
theorem dX8_goOn_79 : decode cX8_goOn 79 = .ok (.iload 4, 2) := by decide +kernel
theorem dX8_goOn_81 : decode cX8_goOn 81 = .ok (.iload_n 2, 1) := by decide +kernel
theorem dX8_goOn_82 : decode cX8_goOn 82 = .ok (.iconst 1, 1) := by decide +kernel
theorem dX8_goOn_83 : decode cX8_goOn 83 = .ok (.iadd, 1) := by decide +kernel
theorem dX8_goOn_84 : decode cX8_goOn 84 = .ok (.iload 5, 2) := by decide +kernel
theorem dX8_goOn_86 : decode cX8_goOn 86 = .ok (.ifCond .ne 7, 3) := by decide +kernel
theorem dX8_goOn_89 : decode cX8_goOn 89 = .ok (.iconst 1, 1) := by decide +kernel
theorem dX8_goOn_90 : decode cX8_goOn 90 = .ok (.goto 4, 3) := by decide +kernel
theorem dX8_goOn_93 : decode cX8_goOn 93 = .ok (.iconst 0, 1) := by decide +kernel
theorem dX8_goOn_94 : decode cX8_goOn 94 = .ok (.invokevirtual 66, 3) := by decide +kernel
theorem dX8_goOn_97 : decode cX8_goOn 97 = .ok (.ifCond .eq 20, 3) := by decide +kernel
theorem dX8_goOn_100 : decode cX8_goOn 100 = .ok (.aload_n 0, 1) := by decide +kernel
theorem dX8_goOn_101 : decode cX8_goOn 101 = .ok (.iload 4, 2) := by decide +kernel
theorem dX8_goOn_103 : decode cX8_goOn 103 = .ok (.iconst 1, 1) := by decide +kernel
theorem dX8_goOn_104 : decode cX8_goOn 104 = .ok (.iadd, 1) := by decide +kernel
theorem dX8_goOn_105 : decode cX8_goOn 105 = .ok (.iload_n 2, 1) := by decide +kernel
theorem dX8_goOn_106 : decode cX8_goOn 106 = .ok (.iconst 1, 1) := by decide +kernel
theorem dX8_goOn_107 : decode cX8_goOn 107 = .ok (.iadd, 1) := by decide +kernel
theorem dX8_goOn_108 : decode cX8_goOn 108 = .ok (.iload_n 3, 1) := by decide +kernel
theorem dX8_goOn_109 : decode cX8_goOn 109 = .ok (.iload 5, 2) := by decide +kernel
theorem dX8_goOn_111 : decode cX8_goOn 111 = .ok (.iload_n 2, 1) := by decide +kernel
theorem dX8_goOn_112 : decode cX8_goOn 112 = .ok (.ishl, 1) := by decide +kernel
theorem dX8_goOn_113 : decode cX8_goOn 113 = .ok (.ior, 1) := by decide +kernel
theorem dX8_goOn_114 : decode cX8_goOn 114 = .ok (.invokevirtual 70, 3) := by decide +kernel
theorem dX8_goOn_117 : decode cX8_goOn 117 = .ok (.iinc 5 1, 3) := by decide +kernel
theorem dX8_goOn_120 : decode cX8_goOn 120 = .ok (.goto (-82), 3) := by decide +kernel
theorem dX8_goOn_123 : decode cX8_goOn 123 = .ok (.return_, 1) := by decide +kernel
theorem dX8_goOn_124 : decode cX8_goOn 124 = .ok (.aload_n 0, 1) := by decide +kernel
theorem dX8_goOn_125 : decode cX8_goOn 125 = .ok (.iload 4, 2) := by decide +kernel
theorem dX8_goOn_127 : decode cX8_goOn 127 = .ok (.iload_n 2, 1) := by decide +kernel
theorem dX8_goOn_128 : decode cX8_goOn 128 = .ok (.aload_n 0, 1) := by decide +kernel
theorem dX8_goOn_129 : decode cX8_goOn 129 = .ok (.getfield 40, 3) := by decide +kernel
theorem dX8_goOn_132 : decode cX8_goOn 132 = .ok (.getfield 74, 3) := by decide +kernel
theorem dX8_goOn_135 : decode cX8_goOn 135 = .ok (.iload 4, 2) := by decide +kernel
theorem dX8_goOn_137 : decode cX8_goOn 137 = .ok (.baload, 1) := by decide +kernel
theorem dX8_goOn_138 : decode cX8_goOn 138 = .ok (.invokevirtual 66, 3) := by decide +kernel
theorem dX8_goOn_141 : decode cX8_goOn 141 = .ok (.ifCond .ne 4, 3) := by decide +kernel
theorem dX8_goOn_144 : decode cX8_goOn 144 = .ok (.return_, 1) := by decide +kernel
theorem dX8_goOn_145 : decode cX8_goOn 145 = .ok (.iinc 4 1, 3) := by decide +kernel
theorem dX8_goOn_148 : decode cX8_goOn 148 = .ok (.goto (-145), 3) := by decide +kernel
theorem dX8_goOn_151 : decode cX8_goOn 151 = .ok (.aload_n 0, 1) := by decide +kernel
theorem dX8_goOn_152 : decode cX8_goOn 152 = .ok (.iload_n 2, 1) := by decide +kernel
theorem dX8_goOn_153 : decode cX8_goOn 153 = .ok (.iload_n 3, 1) := by decide +kernel
theorem dX8_goOn_154 : decode cX8_goOn 154 = .ok (.invokevirtual 78, 3) := by decide +kernel
theorem dX8_goOn_157 : decode cX8_goOn 157 = .ok (.return_, 1) := by decide +kernel
def rm_X8_goOn_d10 : Room := { frames := 5, cells := 0, slots := 0, locals := 136 }
abbrev wS_X8_goOn_d10 : List (Nat × Nat) := [(5, 0), (5, 1), (5, 2), (5, 3), (5, 4), (5, 5), (5, 6), (9, 0), (9, 1), (9, 2), (9, 3)]
set_option maxRecDepth 100000 in
set_option maxHeartbeats 4000000 in
theorem c_X8_goOn_d10 (l : Launch) (E : zE) (hV : zV E) (H0 : Heap) (hT0 : HT E H0) (h0 : Nat) (kh0 : eK E h0 = 9) (p0 : Int32) (p0_lo : 0 ≤ p0.toInt) (p0_hi : p0.toInt ≤ 60) (p1 : Int32) (p1_lo : 10 ≤ p1.toInt) (p1_hi : p1.toInt ≤ 10) (p2 : Int32) : Met l yX8_goOn (zws yX8_goOn cX8_goOn 6 none) rm_X8_goOn_d10 (zP E H0 [.ref h0, .int p0, .int p1, .int p2]) (zQV E E wS_X8_goOn_d10 (fun H1 => True)) 0 0 (zfr E) := by
  refine zEnt (by decide) (Nat.le_of_ble_eq_true rfl) (fun p e s m args below meth c ls Q B hr hlk hh hQ hl => ?_)
  have hx := B.1
  have hb := B.2.1
  have hG0 : zG E wS_X8_goOn_d10 H0 H0 [] := zG.rf hT0
  have hl : lv_has ls 6 [(0, .ref h0), (1, .int p0), (2, .int p1), (3, .int p2)] := hl
  have b3 : ∀ (n3 : Nat) (H3 : Heap) (lc3 : List Loc) (ls : Array Slot) (v3_4 : Int32), 60 - v3_4.toInt < (n3 : Int) → zG E wS_X8_goOn_d10 H0 H3 lc3 → lv_has ls 6 [(0, .ref h0), (2, .int p1), (3, .int p2), (4, .int v3_4)] → 0 ≤ v3_4.toInt → v3_4.toInt ≤ 60 → W p l e rm_X8_goOn_d10 s m args below meth c H3 lc3 0 0 Q (F0 m 3 ls []) := by
    intro n3
    induction n3 with
    | zero =>
      intro H3 lc3 ls v3_4 hm3 gH3 hl f3_1 f3_2
      exact absurd hm3 (by omega)
    | succ n3 ih3 =>
      intro H3 lc3 ls v3_4 hm3 gH3 hl f3_1 f3_2
      have b124 : ∀ (ls : Array Slot) (u124_h0_5 : Nat), lv_has ls 6 [(0, .ref h0), (2, .int p1), (3, .int p2), (4, .int v3_4)] → eK E u124_h0_5 = 4 → v3_4.toInt ≤ 59 → sl H3 h0 (zix E 9 5) = some (.ref u124_h0_5) → W p l e rm_X8_goOn_d10 s m args below meth c H3 lc3 0 0 Q (F0 m 124 ls []) := by
        intro ls u124_h0_5 hl k_u124_h0_5 f124_1 s124_u124_h0_5
        refine lv_aload_n hx hb dX8_goOn_124 rfl (lv_at hl 0 rfl) ?_
        refine lv_iload hx hb dX8_goOn_125 (lv_at hl 3 rfl) ?_
        refine lv_iload_n hx hb dX8_goOn_127 rfl (lv_at hl 1 rfl) ?_
        refine lv_aload_n hx hb dX8_goOn_128 rfl (lv_at hl 0 rfl) ?_
        refine g_get B fl_RX8_40 gH3.1 kh0 rfl rfl rfl dX8_goOn_129 s124_u124_h0_5 ?_
        refine g_getR B fl_RX8_74 gH3.1 k_u124_h0_5 rfl rfl rfl rfl rfl dX8_goOn_132 (fun q_1 s_1 k_q_1 => ?_)
        refine lv_iload hx hb dX8_goOn_135 (lv_at hl 3 rfl) ?_
        refine g_zaldI (i := v3_4) (N := 240) B gH3.1 k_q_1 rfl rfl rfl rfl (by omega) (by omega) rfl dX8_goOn_137 (fun x_2 s_2 a_2 b_2 => ?_)
        refine zkI (zrV (rest := []) B (c_X8_canHappen l E hV H3 gH3.1 h0 kh0 v3_4 (by omega) (by omega) p1 (by omega) (by omega) x_2 (by omega) (by omega)) cl_RX8_66 gH3.1 kh0 rfl rfl rfl rfl hl.1 rfl (Nat.le_of_ble_eq_true rfl) dX8_goOn_138 rfl rfl ⟨rfl, rfl⟩ ⟨Nat.zero_le _, Nat.zero_le _⟩ (zO.of gH3 hh)) gH3 rfl (fun x_3 H3 lc3 hp_3 gH3 rH3 => ?_)
        have s_4 := rH3.keep hV kh0 rfl s124_u124_h0_5
        have s_5 := rH3.keep hV k_u124_h0_5 rfl s_1
        have s_6 := rH3.keepA k_q_1 rfl s_2
        obtain ⟨hp_3_1, hp_3_2⟩ := hp_3
        refine lv_if_ne (tgt := 145) hx hb dX8_goOn_141 (by decide) (fun c_7 => ?_) (fun c_7 => ?_)
        · have f_7 := z_ne c_7 rfl kl_0
          obtain ⟨x_8, e_8⟩ : ∃ y : Int32, (v3_4 : Int32) + Int32.ofInt 1 = y := ⟨_, rfl⟩
          refine lv_iinc (v := x_8) (lv' := [(4, .int x_8), (0, .ref h0), (2, .int p1), (3, .int p2)]) hx hb dX8_goOn_145 hl (k := 3) rfl e_8 (by decide) rfl (fun ls hl => ?_)
          have t_8 := z_inc2 e_8 rfl (by decide) (by omega) (by omega)
          refine lv_goto (tgt := 3) hx hb dX8_goOn_148 (by decide) ?_
          exact ih3 H3 lc3 ls x_8 (by omega) gH3 (lv_sub hl [1, 2, 3, 0] rfl) (by omega) (by omega)
        · have f_7 := z_eq c_7 rfl kl_0
          exact rtV B hr hlk hh hQ gH3 trivial dX8_goOn_144
      refine lv_iload hx hb dX8_goOn_3 (lv_at hl 3 rfl) ?_
      refine lv_aload_n hx hb dX8_goOn_5 rfl (lv_at hl 0 rfl) ?_
      refine g_getR B fl_RX8_40 gH3.1 kh0 rfl rfl rfl rfl rfl dX8_goOn_6 (fun q_9 s_9 k_q_9 => ?_)
      refine g_getI B fl_RX8_59 gH3.1 k_q_9 rfl rfl rfl rfl rfl dX8_goOn_9 (fun x_10 s_10 a_10 b_10 => ?_)
      refine lv_icmp_ge (tgt := 151) hx hb dX8_goOn_12 (by decide) (fun c_11 => ?_) (fun c_11 => ?_)
      · have f_11 := z_le c_11 rfl rfl
        refine lv_aload_n hx hb dX8_goOn_151 rfl (lv_at hl 0 rfl) ?_
        refine lv_iload_n hx hb dX8_goOn_152 rfl (lv_at hl 1 rfl) ?_
        refine lv_iload_n hx hb dX8_goOn_153 rfl (lv_at hl 2 rfl) ?_
        refine zkV (zrV (rest := []) B (c_X8_add l E hV H3 gH3.1 h0 kh0 p1 p2) cl_RX8_78 gH3.1 kh0 rfl rfl rfl rfl hl.1 rfl (Nat.le_of_ble_eq_true rfl) dX8_goOn_154 rfl rfl ⟨rfl, rfl⟩ ⟨Nat.zero_le _, Nat.zero_le _⟩ (zO.of gH3 hh)) gH3 rfl (fun H12 lc12 hp_12 gH12 rH12 => ?_)
        exact rtV B hr hlk hh hQ gH12 trivial dX8_goOn_157
      · have f_11 := z_nle c_11 rfl rfl
        refine lv_aload_n hx hb dX8_goOn_15 rfl (lv_at hl 0 rfl) ?_
        refine g_get B fl_RX8_40 gH3.1 kh0 rfl rfl rfl dX8_goOn_16 s_9 ?_
        refine g_getR B fl_RX8_62 gH3.1 k_q_9 rfl rfl rfl rfl rfl dX8_goOn_19 (fun q_13 s_13 k_q_13 => ?_)
        refine lv_iload hx hb dX8_goOn_22 (lv_at hl 3 rfl) ?_
        refine g_ialdI (i := v3_4) (N := 240) B gH3.1 k_q_13 rfl rfl rfl rfl (by omega) (by omega) rfl dX8_goOn_24 (fun x_14 s_14 a_14 b_14 => ?_)
        refine lv_iconst (v := (-1)) hx hb dX8_goOn_25 (by decide) ?_
        refine lv_icmp_eq (tgt := 124) hx hb dX8_goOn_26 (by decide) (fun c_15 => ?_) (fun c_15 => ?_)
        · have f_15 := z_eq c_15 rfl kl_m1
          exact b124 ls q_9 (lv_sub hl [0, 1, 2, 3] rfl) k_q_9 (by omega) s_9
        · have f_15 := z_ne c_15 rfl kl_m1
          refine lv_iload_n hx hb dX8_goOn_29 rfl (lv_at hl 1 rfl) ?_
          refine lv_bipush (v := 10) hx hb dX8_goOn_30 (by decide) ?_
          refine lv_icmp_ge (tgt := 124) hx hb dX8_goOn_32 (by decide) (fun c_16 => ?_) (fun c_16 => ?_)
          · have f_16 := z_le c_16 kl_10 rfl
            exact b124 ls q_9 (lv_sub hl [0, 1, 2, 3] rfl) k_q_9 (by omega) s_9
          · have f_16 := z_nle c_16 kl_10 rfl
            exact False.elim (by omega)
  refine lv_iload_n hx hb dX8_goOn_0 rfl (lv_at hl 1 rfl) ?_
  refine lv_istore (lv' := [(4, .int p0), (0, .ref h0), (1, .int p0), (2, .int p1), (3, .int p2)]) hx hb dX8_goOn_1 hl (by decide) rfl (fun ls hl => ?_)
  exact b3 61 H0 [] ls p0 (by omega) hG0 (lv_sub hl [1, 3, 4, 0] rfl) (by omega) (by omega)

def rm_X8_goOn_d9 : Room := { frames := 6, cells := 0, slots := 0, locals := 161 }
abbrev wS_X8_goOn_d9 : List (Nat × Nat) := [(5, 0), (5, 1), (5, 2), (5, 3), (5, 4), (5, 5), (5, 6), (9, 0), (9, 1), (9, 2), (9, 3)]
set_option maxRecDepth 100000 in
set_option maxHeartbeats 4000000 in
theorem c_X8_goOn_d9 (l : Launch) (E : zE) (hV : zV E) (H0 : Heap) (hT0 : HT E H0) (h0 : Nat) (kh0 : eK E h0 = 9) (p0 : Int32) (p0_lo : 0 ≤ p0.toInt) (p0_hi : p0.toInt ≤ 60) (p1 : Int32) (p1_lo : 9 ≤ p1.toInt) (p1_hi : p1.toInt ≤ 9) (p2 : Int32) : Met l yX8_goOn (zws yX8_goOn cX8_goOn 6 none) rm_X8_goOn_d9 (zP E H0 [.ref h0, .int p0, .int p1, .int p2]) (zQV E E wS_X8_goOn_d9 (fun H1 => True)) 0 0 (zfr E) := by
  refine zEnt (by decide) (Nat.le_of_ble_eq_true rfl) (fun p e s m args below meth c ls Q B hr hlk hh hQ hl => ?_)
  have hx := B.1
  have hb := B.2.1
  have hG0 : zG E wS_X8_goOn_d9 H0 H0 [] := zG.rf hT0
  have hl : lv_has ls 6 [(0, .ref h0), (1, .int p0), (2, .int p1), (3, .int p2)] := hl
  have b38 : ∀ (n38 : Nat) (H38 : Heap) (lc38 : List Loc) (ls : Array Slot) (v38_4 : Int32) (v38_5 : Int32), 2 - v38_5.toInt < (n38 : Int) → zG E wS_X8_goOn_d9 H0 H38 lc38 → lv_has ls 6 [(0, .ref h0), (2, .int p1), (3, .int p2), (4, .int v38_4), (5, .int v38_5)] → 0 ≤ v38_4.toInt → v38_4.toInt ≤ 59 → 0 ≤ v38_5.toInt → v38_5.toInt ≤ 2 → W p l e rm_X8_goOn_d9 s m args below meth c H38 lc38 0 0 Q (F0 m 38 ls []) := by
    intro n38
    induction n38 with
    | zero =>
      intro H38 lc38 ls v38_4 v38_5 hm38 gH38 hl f38_1 f38_2 f38_3 f38_4
      exact absurd hm38 (by omega)
    | succ n38 ih38 =>
      intro H38 lc38 ls v38_4 v38_5 hm38 gH38 hl f38_1 f38_2 f38_3 f38_4
      have b117 : ∀ (H117 : Heap) (lc117 : List Loc) (ls : Array Slot) (u117_h0_7 : Nat) (u117_h0_8 : Nat), zG E wS_X8_goOn_d9 H0 H117 lc117 → lv_has ls 6 [(0, .ref h0), (2, .int p1), (3, .int p2), (4, .int v38_4), (5, .int v38_5)] → eK E u117_h0_7 = 47 → eK E u117_h0_8 = 47 → v38_5.toInt ≤ 1 → sl H117 h0 (zix E 9 7) = some (.ref u117_h0_7) → sl H117 h0 (zix E 9 8) = some (.ref u117_h0_8) → W p l e rm_X8_goOn_d9 s m args below meth c H117 lc117 0 0 Q (F0 m 117 ls []) := by
        intro H117 lc117 ls u117_h0_7 u117_h0_8 gH117 hl k_u117_h0_7 k_u117_h0_8 f117_1 s117_u117_h0_7 s117_u117_h0_8
        obtain ⟨x_1, e_1⟩ : ∃ y : Int32, (v38_5 : Int32) + Int32.ofInt 1 = y := ⟨_, rfl⟩
        refine lv_iinc (v := x_1) (lv' := [(5, .int x_1), (0, .ref h0), (2, .int p1), (3, .int p2), (4, .int v38_4)]) hx hb dX8_goOn_117 hl (k := 4) rfl e_1 (by decide) rfl (fun ls hl => ?_)
        have t_1 := z_inc2 e_1 rfl (by decide) (by omega) (by omega)
        refine lv_goto (tgt := 38) hx hb dX8_goOn_120 (by decide) ?_
        exact ih38 H117 lc117 ls v38_4 x_1 (by omega) gH117 (lv_sub hl [1, 2, 3, 4, 0] rfl) (by omega) (by omega) (by omega) (by omega)
      have b94 : ∀ (H94 : Heap) (lc94 : List Loc) (ls : Array Slot) (w94_0 : Int32) (w94_1 : Int32) (u94_h0_7 : Nat) (u94_h0_8 : Nat), zG E wS_X8_goOn_d9 H0 H94 lc94 → lv_has ls 6 [(0, .ref h0), (2, .int p1), (3, .int p2), (4, .int v38_4), (5, .int v38_5)] → eK E u94_h0_7 = 47 → eK E u94_h0_8 = 47 → v38_5.toInt ≤ 1 → 0 ≤ w94_0.toInt → w94_0.toInt ≤ 1 → 10 ≤ w94_1.toInt → w94_1.toInt ≤ 10 → sl H94 h0 (zix E 9 7) = some (.ref u94_h0_7) → sl H94 h0 (zix E 9 8) = some (.ref u94_h0_8) → W p l e rm_X8_goOn_d9 s m args below meth c H94 lc94 0 0 Q (F0 m 94 ls [.int w94_0, .int w94_1, .int v38_4, .ref h0]) := by
        intro H94 lc94 ls w94_0 w94_1 u94_h0_7 u94_h0_8 gH94 hl k_u94_h0_7 k_u94_h0_8 f94_1 f94_2 f94_3 f94_4 f94_5 s94_u94_h0_7 s94_u94_h0_8
        refine zkI (zrV (rest := []) B (c_X8_canHappen l E hV H94 gH94.1 h0 kh0 v38_4 (by omega) (by omega) w94_1 (by omega) (by omega) w94_0 (by omega) (by omega)) cl_RX8_66 gH94.1 kh0 rfl rfl rfl rfl hl.1 rfl (Nat.le_of_ble_eq_true rfl) dX8_goOn_94 rfl rfl ⟨rfl, rfl⟩ ⟨Nat.zero_le _, Nat.zero_le _⟩ (zO.of gH94 hh)) gH94 rfl (fun x_2 H2 lc2 hp_2 gH2 rH2 => ?_)
        have s_3 := rH2.keep hV kh0 rfl s94_u94_h0_7
        have s_4 := rH2.keep hV kh0 rfl s94_u94_h0_8
        obtain ⟨hp_2_1, hp_2_2⟩ := hp_2
        refine lv_if_eq (tgt := 117) hx hb dX8_goOn_97 (by decide) (fun c_5 => ?_) (fun c_5 => ?_)
        · have f_5 := z_eq c_5 rfl kl_0
          exact b117 H2 lc2 ls u94_h0_7 u94_h0_8 gH2 (lv_sub hl [0, 1, 2, 3, 4] rfl) k_u94_h0_7 k_u94_h0_8 (by omega) s_3 s_4
        · have f_5 := z_ne c_5 rfl kl_0
          refine lv_aload_n hx hb dX8_goOn_100 rfl (lv_at hl 0 rfl) ?_
          refine lv_iload hx hb dX8_goOn_101 (lv_at hl 3 rfl) ?_
          refine lv_iconst (v := 1) hx hb dX8_goOn_103 (by decide) ?_
          refine lv_iadd hx hb dX8_goOn_104 ?_
          refine lv_topi (fun x_6 e_6 => ?_)
          have t_6 := z_add e_6 rfl kl_1 (by omega) (by omega)
          refine lv_iload_n hx hb dX8_goOn_105 rfl (lv_at hl 1 rfl) ?_
          refine lv_iconst (v := 1) hx hb dX8_goOn_106 (by decide) ?_
          refine lv_iadd hx hb dX8_goOn_107 ?_
          refine lv_topi (fun x_7 e_7 => ?_)
          have t_7 := z_add e_7 rfl kl_1 (by omega) (by omega)
          refine lv_iload_n hx hb dX8_goOn_108 rfl (lv_at hl 2 rfl) ?_
          refine lv_iload hx hb dX8_goOn_109 (lv_at hl 4 rfl) ?_
          refine lv_iload_n hx hb dX8_goOn_111 rfl (lv_at hl 1 rfl) ?_
          refine lv_ishl hx hb dX8_goOn_112 ?_
          refine lv_topi (fun x_8 e_8 => ?_)
          have t_8 := z_shlV (A := 1) 9 e_8 rfl rfl (by omega) (by omega) rfl (by omega) (by omega) (by decide)
          refine lv_ior hx hb dX8_goOn_113 ?_
          refine lv_topi (fun x_9 e_9 => ?_)
          refine zkV (zrV (rest := []) B (c_X8_goOn_d10 l E hV H2 gH2.1 h0 kh0 x_6 (by omega) (by omega) x_7 (by omega) (by omega) x_9) cl_RX8_70 gH2.1 kh0 rfl rfl rfl rfl hl.1 rfl (Nat.le_of_ble_eq_true rfl) dX8_goOn_114 rfl rfl ⟨rfl, rfl⟩ ⟨Nat.zero_le _, Nat.zero_le _⟩ (zO.of gH2 hh)) gH2 rfl (fun H10 lc10 hp_10 gH10 rH10 => ?_)
          have s_11 := rH10.keep hV kh0 rfl s_3
          have s_12 := rH10.keep hV kh0 rfl s_4
          exact b117 H10 lc10 ls u94_h0_7 u94_h0_8 gH10 (lv_sub hl [0, 1, 2, 3, 4] rfl) k_u94_h0_7 k_u94_h0_8 (by omega) s_11 s_12
      refine lv_iload hx hb dX8_goOn_38 (lv_at hl 4 rfl) ?_
      refine lv_iconst (v := 1) hx hb dX8_goOn_40 (by decide) ?_
      refine lv_icmp_gt (tgt := 123) hx hb dX8_goOn_41 (by decide) (fun c_13 => ?_) (fun c_13 => ?_)
      · have f_13 := z_lt c_13 kl_1 rfl
        exact rtV B hr hlk hh hQ gH38 trivial dX8_goOn_123
      · have f_13 := z_nlt c_13 kl_1 rfl
        refine lv_aload_n hx hb dX8_goOn_44 rfl (lv_at hl 0 rfl) ?_
        refine g_getR B fl_RX8_26 gH38.1 kh0 rfl rfl rfl rfl rfl dX8_goOn_45 (fun q_14 s_14 k_q_14 => ?_)
        refine lv_iload_n hx hb dX8_goOn_48 rfl (lv_at hl 1 rfl) ?_
        refine lv_iconst (v := 1) hx hb dX8_goOn_49 (by decide) ?_
        refine lv_iadd hx hb dX8_goOn_50 ?_
        refine lv_topi (fun x_15 e_15 => ?_)
        have t_15 := z_add e_15 rfl kl_1 (by omega) (by omega)
        refine g_aaldI (i := x_15) (N := 11) B gH38.1 k_q_14 rfl rfl rfl rfl rfl (by omega) (by omega) rfl dX8_goOn_51 (fun q_16 s_16 k_q_16 => ?_)
        refine lv_aload_n hx hb dX8_goOn_52 rfl (lv_at hl 0 rfl) ?_
        refine g_get B fl_RX8_26 gH38.1 kh0 rfl rfl rfl dX8_goOn_53 s_14 ?_
        refine lv_iload_n hx hb dX8_goOn_56 rfl (lv_at hl 1 rfl) ?_
        refine g_aaldI (i := p1) (N := 11) B gH38.1 k_q_14 rfl rfl rfl rfl rfl (by omega) (by omega) rfl dX8_goOn_57 (fun q_17 s_17 k_q_17 => ?_)
        refine zkV (zrV (rest := []) B (c_X4_copyOf l E hV H38 gH38.1 q_16 k_q_16 q_17 k_q_17) cl_RX8_55 gH38.1 k_q_16 rfl rfl rfl rfl hl.1 rfl (Nat.le_of_ble_eq_true rfl) dX8_goOn_58 rfl rfl ⟨rfl, rfl⟩ ⟨Nat.zero_le _, Nat.zero_le _⟩ (zO.of gH38 hh)) gH38 rfl (fun H18 lc18 hp_18 gH18 rH18 => ?_)
        have s_19 := rH18.keep hV kh0 rfl s_14
        have s_20 := rH18.keepA k_q_14 rfl s_16
        have s_21 := rH18.keepA k_q_14 rfl s_17
        refine lv_aload_n hx hb dX8_goOn_61 rfl (lv_at hl 0 rfl) ?_
        refine g_getR B fl_RX8_30 gH18.1 kh0 rfl rfl rfl rfl rfl dX8_goOn_62 (fun q_22 s_22 k_q_22 => ?_)
        refine lv_iload_n hx hb dX8_goOn_65 rfl (lv_at hl 1 rfl) ?_
        refine lv_iconst (v := 1) hx hb dX8_goOn_66 (by decide) ?_
        refine lv_iadd hx hb dX8_goOn_67 ?_
        refine lv_topi (fun x_23 e_23 => ?_)
        have t_23 := z_add e_23 rfl kl_1 (by omega) (by omega)
        refine g_aaldI (i := x_23) (N := 11) B gH18.1 k_q_22 rfl rfl rfl rfl rfl (by omega) (by omega) rfl dX8_goOn_68 (fun q_24 s_24 k_q_24 => ?_)
        refine lv_aload_n hx hb dX8_goOn_69 rfl (lv_at hl 0 rfl) ?_
        refine g_get B fl_RX8_30 gH18.1 kh0 rfl rfl rfl dX8_goOn_70 s_22 ?_
        refine lv_iload_n hx hb dX8_goOn_73 rfl (lv_at hl 1 rfl) ?_
        refine g_aaldI (i := p1) (N := 11) B gH18.1 k_q_22 rfl rfl rfl rfl rfl (by omega) (by omega) rfl dX8_goOn_74 (fun q_25 s_25 k_q_25 => ?_)
        refine zkV (zrV (rest := []) B (c_X4_copyOf l E hV H18 gH18.1 q_24 k_q_24 q_25 k_q_25) cl_RX8_55 gH18.1 k_q_24 rfl rfl rfl rfl hl.1 rfl (Nat.le_of_ble_eq_true rfl) dX8_goOn_75 rfl rfl ⟨rfl, rfl⟩ ⟨Nat.zero_le _, Nat.zero_le _⟩ (zO.of gH18 hh)) gH18 rfl (fun H26 lc26 hp_26 gH26 rH26 => ?_)
        have s_27 := rH26.keep hV kh0 rfl s_19
        have s_28 := rH26.keepA k_q_14 rfl s_20
        have s_29 := rH26.keepA k_q_14 rfl s_21
        have s_30 := rH26.keep hV kh0 rfl s_22
        have s_31 := rH26.keepA k_q_22 rfl s_24
        have s_32 := rH26.keepA k_q_22 rfl s_25
        refine lv_aload_n hx hb dX8_goOn_78 rfl (lv_at hl 0 rfl) ?_
        refine lv_iload hx hb dX8_goOn_79 (lv_at hl 3 rfl) ?_
        refine lv_iload_n hx hb dX8_goOn_81 rfl (lv_at hl 1 rfl) ?_
        refine lv_iconst (v := 1) hx hb dX8_goOn_82 (by decide) ?_
        refine lv_iadd hx hb dX8_goOn_83 ?_
        refine lv_topi (fun x_33 e_33 => ?_)
        have t_33 := z_add e_33 rfl kl_1 (by omega) (by omega)
        refine lv_iload hx hb dX8_goOn_84 (lv_at hl 4 rfl) ?_
        refine lv_if_ne (tgt := 93) hx hb dX8_goOn_86 (by decide) (fun c_34 => ?_) (fun c_34 => ?_)
        · have f_34 := z_ne c_34 rfl kl_0
          refine lv_iconst (v := 0) hx hb dX8_goOn_93 (by decide) ?_
          have := kl_0
          exact b94 H26 lc26 ls 0 x_33 q_14 q_22 gH26 (lv_sub hl [0, 1, 2, 3, 4] rfl) k_q_14 k_q_22 (by omega) (by omega) (by omega) (by omega) (by omega) s_27 s_30
        · have f_34 := z_eq c_34 rfl kl_0
          refine lv_iconst (v := 1) hx hb dX8_goOn_89 (by decide) ?_
          refine lv_goto (tgt := 94) hx hb dX8_goOn_90 (by decide) ?_
          have := kl_1
          exact b94 H26 lc26 ls 1 x_33 q_14 q_22 gH26 (lv_sub hl [0, 1, 2, 3, 4] rfl) k_q_14 k_q_22 (by omega) (by omega) (by omega) (by omega) (by omega) s_27 s_30
  have b3 : ∀ (n3 : Nat) (H3 : Heap) (lc3 : List Loc) (ls : Array Slot) (v3_4 : Int32), 60 - v3_4.toInt < (n3 : Int) → zG E wS_X8_goOn_d9 H0 H3 lc3 → lv_has ls 6 [(0, .ref h0), (2, .int p1), (3, .int p2), (4, .int v3_4)] → 0 ≤ v3_4.toInt → v3_4.toInt ≤ 60 → W p l e rm_X8_goOn_d9 s m args below meth c H3 lc3 0 0 Q (F0 m 3 ls []) := by
    intro n3
    induction n3 with
    | zero =>
      intro H3 lc3 ls v3_4 hm3 gH3 hl f3_1 f3_2
      exact absurd hm3 (by omega)
    | succ n3 ih3 =>
      intro H3 lc3 ls v3_4 hm3 gH3 hl f3_1 f3_2
      have b124 : ∀ (ls : Array Slot) (u124_h0_5 : Nat), lv_has ls 6 [(0, .ref h0), (2, .int p1), (3, .int p2), (4, .int v3_4)] → eK E u124_h0_5 = 4 → v3_4.toInt ≤ 59 → sl H3 h0 (zix E 9 5) = some (.ref u124_h0_5) → W p l e rm_X8_goOn_d9 s m args below meth c H3 lc3 0 0 Q (F0 m 124 ls []) := by
        intro ls u124_h0_5 hl k_u124_h0_5 f124_1 s124_u124_h0_5
        refine lv_aload_n hx hb dX8_goOn_124 rfl (lv_at hl 0 rfl) ?_
        refine lv_iload hx hb dX8_goOn_125 (lv_at hl 3 rfl) ?_
        refine lv_iload_n hx hb dX8_goOn_127 rfl (lv_at hl 1 rfl) ?_
        refine lv_aload_n hx hb dX8_goOn_128 rfl (lv_at hl 0 rfl) ?_
        refine g_get B fl_RX8_40 gH3.1 kh0 rfl rfl rfl dX8_goOn_129 s124_u124_h0_5 ?_
        refine g_getR B fl_RX8_74 gH3.1 k_u124_h0_5 rfl rfl rfl rfl rfl dX8_goOn_132 (fun q_35 s_35 k_q_35 => ?_)
        refine lv_iload hx hb dX8_goOn_135 (lv_at hl 3 rfl) ?_
        refine g_zaldI (i := v3_4) (N := 240) B gH3.1 k_q_35 rfl rfl rfl rfl (by omega) (by omega) rfl dX8_goOn_137 (fun x_36 s_36 a_36 b_36 => ?_)
        refine zkI (zrV (rest := []) B (c_X8_canHappen l E hV H3 gH3.1 h0 kh0 v3_4 (by omega) (by omega) p1 (by omega) (by omega) x_36 (by omega) (by omega)) cl_RX8_66 gH3.1 kh0 rfl rfl rfl rfl hl.1 rfl (Nat.le_of_ble_eq_true rfl) dX8_goOn_138 rfl rfl ⟨rfl, rfl⟩ ⟨Nat.zero_le _, Nat.zero_le _⟩ (zO.of gH3 hh)) gH3 rfl (fun x_37 H37 lc37 hp_37 gH37 rH37 => ?_)
        have s_38 := rH37.keep hV kh0 rfl s124_u124_h0_5
        have s_39 := rH37.keep hV k_u124_h0_5 rfl s_35
        have s_40 := rH37.keepA k_q_35 rfl s_36
        obtain ⟨hp_37_1, hp_37_2⟩ := hp_37
        refine lv_if_ne (tgt := 145) hx hb dX8_goOn_141 (by decide) (fun c_41 => ?_) (fun c_41 => ?_)
        · have f_41 := z_ne c_41 rfl kl_0
          obtain ⟨x_42, e_42⟩ : ∃ y : Int32, (v3_4 : Int32) + Int32.ofInt 1 = y := ⟨_, rfl⟩
          refine lv_iinc (v := x_42) (lv' := [(4, .int x_42), (0, .ref h0), (2, .int p1), (3, .int p2)]) hx hb dX8_goOn_145 hl (k := 3) rfl e_42 (by decide) rfl (fun ls hl => ?_)
          have t_42 := z_inc2 e_42 rfl (by decide) (by omega) (by omega)
          refine lv_goto (tgt := 3) hx hb dX8_goOn_148 (by decide) ?_
          exact ih3 H37 lc37 ls x_42 (by omega) gH37 (lv_sub hl [1, 2, 3, 0] rfl) (by omega) (by omega)
        · have f_41 := z_eq c_41 rfl kl_0
          exact rtV B hr hlk hh hQ gH37 trivial dX8_goOn_144
      refine lv_iload hx hb dX8_goOn_3 (lv_at hl 3 rfl) ?_
      refine lv_aload_n hx hb dX8_goOn_5 rfl (lv_at hl 0 rfl) ?_
      refine g_getR B fl_RX8_40 gH3.1 kh0 rfl rfl rfl rfl rfl dX8_goOn_6 (fun q_43 s_43 k_q_43 => ?_)
      refine g_getI B fl_RX8_59 gH3.1 k_q_43 rfl rfl rfl rfl rfl dX8_goOn_9 (fun x_44 s_44 a_44 b_44 => ?_)
      refine lv_icmp_ge (tgt := 151) hx hb dX8_goOn_12 (by decide) (fun c_45 => ?_) (fun c_45 => ?_)
      · have f_45 := z_le c_45 rfl rfl
        refine lv_aload_n hx hb dX8_goOn_151 rfl (lv_at hl 0 rfl) ?_
        refine lv_iload_n hx hb dX8_goOn_152 rfl (lv_at hl 1 rfl) ?_
        refine lv_iload_n hx hb dX8_goOn_153 rfl (lv_at hl 2 rfl) ?_
        refine zkV (zrV (rest := []) B (c_X8_add l E hV H3 gH3.1 h0 kh0 p1 p2) cl_RX8_78 gH3.1 kh0 rfl rfl rfl rfl hl.1 rfl (Nat.le_of_ble_eq_true rfl) dX8_goOn_154 rfl rfl ⟨rfl, rfl⟩ ⟨Nat.zero_le _, Nat.zero_le _⟩ (zO.of gH3 hh)) gH3 rfl (fun H46 lc46 hp_46 gH46 rH46 => ?_)
        exact rtV B hr hlk hh hQ gH46 trivial dX8_goOn_157
      · have f_45 := z_nle c_45 rfl rfl
        refine lv_aload_n hx hb dX8_goOn_15 rfl (lv_at hl 0 rfl) ?_
        refine g_get B fl_RX8_40 gH3.1 kh0 rfl rfl rfl dX8_goOn_16 s_43 ?_
        refine g_getR B fl_RX8_62 gH3.1 k_q_43 rfl rfl rfl rfl rfl dX8_goOn_19 (fun q_47 s_47 k_q_47 => ?_)
        refine lv_iload hx hb dX8_goOn_22 (lv_at hl 3 rfl) ?_
        refine g_ialdI (i := v3_4) (N := 240) B gH3.1 k_q_47 rfl rfl rfl rfl (by omega) (by omega) rfl dX8_goOn_24 (fun x_48 s_48 a_48 b_48 => ?_)
        refine lv_iconst (v := (-1)) hx hb dX8_goOn_25 (by decide) ?_
        refine lv_icmp_eq (tgt := 124) hx hb dX8_goOn_26 (by decide) (fun c_49 => ?_) (fun c_49 => ?_)
        · have f_49 := z_eq c_49 rfl kl_m1
          exact b124 ls q_43 (lv_sub hl [0, 1, 2, 3] rfl) k_q_43 (by omega) s_43
        · have f_49 := z_ne c_49 rfl kl_m1
          refine lv_iload_n hx hb dX8_goOn_29 rfl (lv_at hl 1 rfl) ?_
          refine lv_bipush (v := 10) hx hb dX8_goOn_30 (by decide) ?_
          refine lv_icmp_ge (tgt := 124) hx hb dX8_goOn_32 (by decide) (fun c_50 => ?_) (fun c_50 => ?_)
          · have f_50 := z_le c_50 kl_10 rfl
            exact False.elim (by omega)
          · have f_50 := z_nle c_50 kl_10 rfl
            refine lv_iconst (v := 0) hx hb dX8_goOn_35 (by decide) ?_
            refine lv_istore (lv' := [(5, .int 0), (0, .ref h0), (2, .int p1), (3, .int p2), (4, .int v3_4)]) hx hb dX8_goOn_36 hl (by decide) rfl (fun ls hl => ?_)
            have := kl_0
            exact b38 3 H3 lc3 ls v3_4 0 (by omega) gH3 (lv_sub hl [1, 2, 3, 4, 0] rfl) (by omega) (by omega) (by omega) (by omega)
  refine lv_iload_n hx hb dX8_goOn_0 rfl (lv_at hl 1 rfl) ?_
  refine lv_istore (lv' := [(4, .int p0), (0, .ref h0), (1, .int p0), (2, .int p1), (3, .int p2)]) hx hb dX8_goOn_1 hl (by decide) rfl (fun ls hl => ?_)
  exact b3 61 H0 [] ls p0 (by omega) hG0 (lv_sub hl [1, 3, 4, 0] rfl) (by omega) (by omega)

def rm_X8_goOn_d8 : Room := { frames := 7, cells := 0, slots := 0, locals := 186 }
abbrev wS_X8_goOn_d8 : List (Nat × Nat) := [(5, 0), (5, 1), (5, 2), (5, 3), (5, 4), (5, 5), (5, 6), (9, 0), (9, 1), (9, 2), (9, 3)]
set_option maxRecDepth 100000 in
set_option maxHeartbeats 4000000 in
theorem c_X8_goOn_d8 (l : Launch) (E : zE) (hV : zV E) (H0 : Heap) (hT0 : HT E H0) (h0 : Nat) (kh0 : eK E h0 = 9) (p0 : Int32) (p0_lo : 0 ≤ p0.toInt) (p0_hi : p0.toInt ≤ 60) (p1 : Int32) (p1_lo : 8 ≤ p1.toInt) (p1_hi : p1.toInt ≤ 8) (p2 : Int32) : Met l yX8_goOn (zws yX8_goOn cX8_goOn 6 none) rm_X8_goOn_d8 (zP E H0 [.ref h0, .int p0, .int p1, .int p2]) (zQV E E wS_X8_goOn_d8 (fun H1 => True)) 0 0 (zfr E) := by
  refine zEnt (by decide) (Nat.le_of_ble_eq_true rfl) (fun p e s m args below meth c ls Q B hr hlk hh hQ hl => ?_)
  have hx := B.1
  have hb := B.2.1
  have hG0 : zG E wS_X8_goOn_d8 H0 H0 [] := zG.rf hT0
  have hl : lv_has ls 6 [(0, .ref h0), (1, .int p0), (2, .int p1), (3, .int p2)] := hl
  have b38 : ∀ (n38 : Nat) (H38 : Heap) (lc38 : List Loc) (ls : Array Slot) (v38_4 : Int32) (v38_5 : Int32), 2 - v38_5.toInt < (n38 : Int) → zG E wS_X8_goOn_d8 H0 H38 lc38 → lv_has ls 6 [(0, .ref h0), (2, .int p1), (3, .int p2), (4, .int v38_4), (5, .int v38_5)] → 0 ≤ v38_4.toInt → v38_4.toInt ≤ 59 → 0 ≤ v38_5.toInt → v38_5.toInt ≤ 2 → W p l e rm_X8_goOn_d8 s m args below meth c H38 lc38 0 0 Q (F0 m 38 ls []) := by
    intro n38
    induction n38 with
    | zero =>
      intro H38 lc38 ls v38_4 v38_5 hm38 gH38 hl f38_1 f38_2 f38_3 f38_4
      exact absurd hm38 (by omega)
    | succ n38 ih38 =>
      intro H38 lc38 ls v38_4 v38_5 hm38 gH38 hl f38_1 f38_2 f38_3 f38_4
      have b117 : ∀ (H117 : Heap) (lc117 : List Loc) (ls : Array Slot) (u117_h0_7 : Nat) (u117_h0_8 : Nat), zG E wS_X8_goOn_d8 H0 H117 lc117 → lv_has ls 6 [(0, .ref h0), (2, .int p1), (3, .int p2), (4, .int v38_4), (5, .int v38_5)] → eK E u117_h0_7 = 47 → eK E u117_h0_8 = 47 → v38_5.toInt ≤ 1 → sl H117 h0 (zix E 9 7) = some (.ref u117_h0_7) → sl H117 h0 (zix E 9 8) = some (.ref u117_h0_8) → W p l e rm_X8_goOn_d8 s m args below meth c H117 lc117 0 0 Q (F0 m 117 ls []) := by
        intro H117 lc117 ls u117_h0_7 u117_h0_8 gH117 hl k_u117_h0_7 k_u117_h0_8 f117_1 s117_u117_h0_7 s117_u117_h0_8
        obtain ⟨x_1, e_1⟩ : ∃ y : Int32, (v38_5 : Int32) + Int32.ofInt 1 = y := ⟨_, rfl⟩
        refine lv_iinc (v := x_1) (lv' := [(5, .int x_1), (0, .ref h0), (2, .int p1), (3, .int p2), (4, .int v38_4)]) hx hb dX8_goOn_117 hl (k := 4) rfl e_1 (by decide) rfl (fun ls hl => ?_)
        have t_1 := z_inc2 e_1 rfl (by decide) (by omega) (by omega)
        refine lv_goto (tgt := 38) hx hb dX8_goOn_120 (by decide) ?_
        exact ih38 H117 lc117 ls v38_4 x_1 (by omega) gH117 (lv_sub hl [1, 2, 3, 4, 0] rfl) (by omega) (by omega) (by omega) (by omega)
      have b94 : ∀ (H94 : Heap) (lc94 : List Loc) (ls : Array Slot) (w94_0 : Int32) (w94_1 : Int32) (u94_h0_7 : Nat) (u94_h0_8 : Nat), zG E wS_X8_goOn_d8 H0 H94 lc94 → lv_has ls 6 [(0, .ref h0), (2, .int p1), (3, .int p2), (4, .int v38_4), (5, .int v38_5)] → eK E u94_h0_7 = 47 → eK E u94_h0_8 = 47 → v38_5.toInt ≤ 1 → 0 ≤ w94_0.toInt → w94_0.toInt ≤ 1 → 9 ≤ w94_1.toInt → w94_1.toInt ≤ 9 → sl H94 h0 (zix E 9 7) = some (.ref u94_h0_7) → sl H94 h0 (zix E 9 8) = some (.ref u94_h0_8) → W p l e rm_X8_goOn_d8 s m args below meth c H94 lc94 0 0 Q (F0 m 94 ls [.int w94_0, .int w94_1, .int v38_4, .ref h0]) := by
        intro H94 lc94 ls w94_0 w94_1 u94_h0_7 u94_h0_8 gH94 hl k_u94_h0_7 k_u94_h0_8 f94_1 f94_2 f94_3 f94_4 f94_5 s94_u94_h0_7 s94_u94_h0_8
        refine zkI (zrV (rest := []) B (c_X8_canHappen l E hV H94 gH94.1 h0 kh0 v38_4 (by omega) (by omega) w94_1 (by omega) (by omega) w94_0 (by omega) (by omega)) cl_RX8_66 gH94.1 kh0 rfl rfl rfl rfl hl.1 rfl (Nat.le_of_ble_eq_true rfl) dX8_goOn_94 rfl rfl ⟨rfl, rfl⟩ ⟨Nat.zero_le _, Nat.zero_le _⟩ (zO.of gH94 hh)) gH94 rfl (fun x_2 H2 lc2 hp_2 gH2 rH2 => ?_)
        have s_3 := rH2.keep hV kh0 rfl s94_u94_h0_7
        have s_4 := rH2.keep hV kh0 rfl s94_u94_h0_8
        obtain ⟨hp_2_1, hp_2_2⟩ := hp_2
        refine lv_if_eq (tgt := 117) hx hb dX8_goOn_97 (by decide) (fun c_5 => ?_) (fun c_5 => ?_)
        · have f_5 := z_eq c_5 rfl kl_0
          exact b117 H2 lc2 ls u94_h0_7 u94_h0_8 gH2 (lv_sub hl [0, 1, 2, 3, 4] rfl) k_u94_h0_7 k_u94_h0_8 (by omega) s_3 s_4
        · have f_5 := z_ne c_5 rfl kl_0
          refine lv_aload_n hx hb dX8_goOn_100 rfl (lv_at hl 0 rfl) ?_
          refine lv_iload hx hb dX8_goOn_101 (lv_at hl 3 rfl) ?_
          refine lv_iconst (v := 1) hx hb dX8_goOn_103 (by decide) ?_
          refine lv_iadd hx hb dX8_goOn_104 ?_
          refine lv_topi (fun x_6 e_6 => ?_)
          have t_6 := z_add e_6 rfl kl_1 (by omega) (by omega)
          refine lv_iload_n hx hb dX8_goOn_105 rfl (lv_at hl 1 rfl) ?_
          refine lv_iconst (v := 1) hx hb dX8_goOn_106 (by decide) ?_
          refine lv_iadd hx hb dX8_goOn_107 ?_
          refine lv_topi (fun x_7 e_7 => ?_)
          have t_7 := z_add e_7 rfl kl_1 (by omega) (by omega)
          refine lv_iload_n hx hb dX8_goOn_108 rfl (lv_at hl 2 rfl) ?_
          refine lv_iload hx hb dX8_goOn_109 (lv_at hl 4 rfl) ?_
          refine lv_iload_n hx hb dX8_goOn_111 rfl (lv_at hl 1 rfl) ?_
          refine lv_ishl hx hb dX8_goOn_112 ?_
          refine lv_topi (fun x_8 e_8 => ?_)
          have t_8 := z_shlV (A := 1) 8 e_8 rfl rfl (by omega) (by omega) rfl (by omega) (by omega) (by decide)
          refine lv_ior hx hb dX8_goOn_113 ?_
          refine lv_topi (fun x_9 e_9 => ?_)
          refine zkV (zrV (rest := []) B (c_X8_goOn_d9 l E hV H2 gH2.1 h0 kh0 x_6 (by omega) (by omega) x_7 (by omega) (by omega) x_9) cl_RX8_70 gH2.1 kh0 rfl rfl rfl rfl hl.1 rfl (Nat.le_of_ble_eq_true rfl) dX8_goOn_114 rfl rfl ⟨rfl, rfl⟩ ⟨Nat.zero_le _, Nat.zero_le _⟩ (zO.of gH2 hh)) gH2 rfl (fun H10 lc10 hp_10 gH10 rH10 => ?_)
          have s_11 := rH10.keep hV kh0 rfl s_3
          have s_12 := rH10.keep hV kh0 rfl s_4
          exact b117 H10 lc10 ls u94_h0_7 u94_h0_8 gH10 (lv_sub hl [0, 1, 2, 3, 4] rfl) k_u94_h0_7 k_u94_h0_8 (by omega) s_11 s_12
      refine lv_iload hx hb dX8_goOn_38 (lv_at hl 4 rfl) ?_
      refine lv_iconst (v := 1) hx hb dX8_goOn_40 (by decide) ?_
      refine lv_icmp_gt (tgt := 123) hx hb dX8_goOn_41 (by decide) (fun c_13 => ?_) (fun c_13 => ?_)
      · have f_13 := z_lt c_13 kl_1 rfl
        exact rtV B hr hlk hh hQ gH38 trivial dX8_goOn_123
      · have f_13 := z_nlt c_13 kl_1 rfl
        refine lv_aload_n hx hb dX8_goOn_44 rfl (lv_at hl 0 rfl) ?_
        refine g_getR B fl_RX8_26 gH38.1 kh0 rfl rfl rfl rfl rfl dX8_goOn_45 (fun q_14 s_14 k_q_14 => ?_)
        refine lv_iload_n hx hb dX8_goOn_48 rfl (lv_at hl 1 rfl) ?_
        refine lv_iconst (v := 1) hx hb dX8_goOn_49 (by decide) ?_
        refine lv_iadd hx hb dX8_goOn_50 ?_
        refine lv_topi (fun x_15 e_15 => ?_)
        have t_15 := z_add e_15 rfl kl_1 (by omega) (by omega)
        refine g_aaldI (i := x_15) (N := 11) B gH38.1 k_q_14 rfl rfl rfl rfl rfl (by omega) (by omega) rfl dX8_goOn_51 (fun q_16 s_16 k_q_16 => ?_)
        refine lv_aload_n hx hb dX8_goOn_52 rfl (lv_at hl 0 rfl) ?_
        refine g_get B fl_RX8_26 gH38.1 kh0 rfl rfl rfl dX8_goOn_53 s_14 ?_
        refine lv_iload_n hx hb dX8_goOn_56 rfl (lv_at hl 1 rfl) ?_
        refine g_aaldI (i := p1) (N := 11) B gH38.1 k_q_14 rfl rfl rfl rfl rfl (by omega) (by omega) rfl dX8_goOn_57 (fun q_17 s_17 k_q_17 => ?_)
        refine zkV (zrV (rest := []) B (c_X4_copyOf l E hV H38 gH38.1 q_16 k_q_16 q_17 k_q_17) cl_RX8_55 gH38.1 k_q_16 rfl rfl rfl rfl hl.1 rfl (Nat.le_of_ble_eq_true rfl) dX8_goOn_58 rfl rfl ⟨rfl, rfl⟩ ⟨Nat.zero_le _, Nat.zero_le _⟩ (zO.of gH38 hh)) gH38 rfl (fun H18 lc18 hp_18 gH18 rH18 => ?_)
        have s_19 := rH18.keep hV kh0 rfl s_14
        have s_20 := rH18.keepA k_q_14 rfl s_16
        have s_21 := rH18.keepA k_q_14 rfl s_17
        refine lv_aload_n hx hb dX8_goOn_61 rfl (lv_at hl 0 rfl) ?_
        refine g_getR B fl_RX8_30 gH18.1 kh0 rfl rfl rfl rfl rfl dX8_goOn_62 (fun q_22 s_22 k_q_22 => ?_)
        refine lv_iload_n hx hb dX8_goOn_65 rfl (lv_at hl 1 rfl) ?_
        refine lv_iconst (v := 1) hx hb dX8_goOn_66 (by decide) ?_
        refine lv_iadd hx hb dX8_goOn_67 ?_
        refine lv_topi (fun x_23 e_23 => ?_)
        have t_23 := z_add e_23 rfl kl_1 (by omega) (by omega)
        refine g_aaldI (i := x_23) (N := 11) B gH18.1 k_q_22 rfl rfl rfl rfl rfl (by omega) (by omega) rfl dX8_goOn_68 (fun q_24 s_24 k_q_24 => ?_)
        refine lv_aload_n hx hb dX8_goOn_69 rfl (lv_at hl 0 rfl) ?_
        refine g_get B fl_RX8_30 gH18.1 kh0 rfl rfl rfl dX8_goOn_70 s_22 ?_
        refine lv_iload_n hx hb dX8_goOn_73 rfl (lv_at hl 1 rfl) ?_
        refine g_aaldI (i := p1) (N := 11) B gH18.1 k_q_22 rfl rfl rfl rfl rfl (by omega) (by omega) rfl dX8_goOn_74 (fun q_25 s_25 k_q_25 => ?_)
        refine zkV (zrV (rest := []) B (c_X4_copyOf l E hV H18 gH18.1 q_24 k_q_24 q_25 k_q_25) cl_RX8_55 gH18.1 k_q_24 rfl rfl rfl rfl hl.1 rfl (Nat.le_of_ble_eq_true rfl) dX8_goOn_75 rfl rfl ⟨rfl, rfl⟩ ⟨Nat.zero_le _, Nat.zero_le _⟩ (zO.of gH18 hh)) gH18 rfl (fun H26 lc26 hp_26 gH26 rH26 => ?_)
        have s_27 := rH26.keep hV kh0 rfl s_19
        have s_28 := rH26.keepA k_q_14 rfl s_20
        have s_29 := rH26.keepA k_q_14 rfl s_21
        have s_30 := rH26.keep hV kh0 rfl s_22
        have s_31 := rH26.keepA k_q_22 rfl s_24
        have s_32 := rH26.keepA k_q_22 rfl s_25
        refine lv_aload_n hx hb dX8_goOn_78 rfl (lv_at hl 0 rfl) ?_
        refine lv_iload hx hb dX8_goOn_79 (lv_at hl 3 rfl) ?_
        refine lv_iload_n hx hb dX8_goOn_81 rfl (lv_at hl 1 rfl) ?_
        refine lv_iconst (v := 1) hx hb dX8_goOn_82 (by decide) ?_
        refine lv_iadd hx hb dX8_goOn_83 ?_
        refine lv_topi (fun x_33 e_33 => ?_)
        have t_33 := z_add e_33 rfl kl_1 (by omega) (by omega)
        refine lv_iload hx hb dX8_goOn_84 (lv_at hl 4 rfl) ?_
        refine lv_if_ne (tgt := 93) hx hb dX8_goOn_86 (by decide) (fun c_34 => ?_) (fun c_34 => ?_)
        · have f_34 := z_ne c_34 rfl kl_0
          refine lv_iconst (v := 0) hx hb dX8_goOn_93 (by decide) ?_
          have := kl_0
          exact b94 H26 lc26 ls 0 x_33 q_14 q_22 gH26 (lv_sub hl [0, 1, 2, 3, 4] rfl) k_q_14 k_q_22 (by omega) (by omega) (by omega) (by omega) (by omega) s_27 s_30
        · have f_34 := z_eq c_34 rfl kl_0
          refine lv_iconst (v := 1) hx hb dX8_goOn_89 (by decide) ?_
          refine lv_goto (tgt := 94) hx hb dX8_goOn_90 (by decide) ?_
          have := kl_1
          exact b94 H26 lc26 ls 1 x_33 q_14 q_22 gH26 (lv_sub hl [0, 1, 2, 3, 4] rfl) k_q_14 k_q_22 (by omega) (by omega) (by omega) (by omega) (by omega) s_27 s_30
  have b3 : ∀ (n3 : Nat) (H3 : Heap) (lc3 : List Loc) (ls : Array Slot) (v3_4 : Int32), 60 - v3_4.toInt < (n3 : Int) → zG E wS_X8_goOn_d8 H0 H3 lc3 → lv_has ls 6 [(0, .ref h0), (2, .int p1), (3, .int p2), (4, .int v3_4)] → 0 ≤ v3_4.toInt → v3_4.toInt ≤ 60 → W p l e rm_X8_goOn_d8 s m args below meth c H3 lc3 0 0 Q (F0 m 3 ls []) := by
    intro n3
    induction n3 with
    | zero =>
      intro H3 lc3 ls v3_4 hm3 gH3 hl f3_1 f3_2
      exact absurd hm3 (by omega)
    | succ n3 ih3 =>
      intro H3 lc3 ls v3_4 hm3 gH3 hl f3_1 f3_2
      have b124 : ∀ (ls : Array Slot) (u124_h0_5 : Nat), lv_has ls 6 [(0, .ref h0), (2, .int p1), (3, .int p2), (4, .int v3_4)] → eK E u124_h0_5 = 4 → v3_4.toInt ≤ 59 → sl H3 h0 (zix E 9 5) = some (.ref u124_h0_5) → W p l e rm_X8_goOn_d8 s m args below meth c H3 lc3 0 0 Q (F0 m 124 ls []) := by
        intro ls u124_h0_5 hl k_u124_h0_5 f124_1 s124_u124_h0_5
        refine lv_aload_n hx hb dX8_goOn_124 rfl (lv_at hl 0 rfl) ?_
        refine lv_iload hx hb dX8_goOn_125 (lv_at hl 3 rfl) ?_
        refine lv_iload_n hx hb dX8_goOn_127 rfl (lv_at hl 1 rfl) ?_
        refine lv_aload_n hx hb dX8_goOn_128 rfl (lv_at hl 0 rfl) ?_
        refine g_get B fl_RX8_40 gH3.1 kh0 rfl rfl rfl dX8_goOn_129 s124_u124_h0_5 ?_
        refine g_getR B fl_RX8_74 gH3.1 k_u124_h0_5 rfl rfl rfl rfl rfl dX8_goOn_132 (fun q_35 s_35 k_q_35 => ?_)
        refine lv_iload hx hb dX8_goOn_135 (lv_at hl 3 rfl) ?_
        refine g_zaldI (i := v3_4) (N := 240) B gH3.1 k_q_35 rfl rfl rfl rfl (by omega) (by omega) rfl dX8_goOn_137 (fun x_36 s_36 a_36 b_36 => ?_)
        refine zkI (zrV (rest := []) B (c_X8_canHappen l E hV H3 gH3.1 h0 kh0 v3_4 (by omega) (by omega) p1 (by omega) (by omega) x_36 (by omega) (by omega)) cl_RX8_66 gH3.1 kh0 rfl rfl rfl rfl hl.1 rfl (Nat.le_of_ble_eq_true rfl) dX8_goOn_138 rfl rfl ⟨rfl, rfl⟩ ⟨Nat.zero_le _, Nat.zero_le _⟩ (zO.of gH3 hh)) gH3 rfl (fun x_37 H37 lc37 hp_37 gH37 rH37 => ?_)
        have s_38 := rH37.keep hV kh0 rfl s124_u124_h0_5
        have s_39 := rH37.keep hV k_u124_h0_5 rfl s_35
        have s_40 := rH37.keepA k_q_35 rfl s_36
        obtain ⟨hp_37_1, hp_37_2⟩ := hp_37
        refine lv_if_ne (tgt := 145) hx hb dX8_goOn_141 (by decide) (fun c_41 => ?_) (fun c_41 => ?_)
        · have f_41 := z_ne c_41 rfl kl_0
          obtain ⟨x_42, e_42⟩ : ∃ y : Int32, (v3_4 : Int32) + Int32.ofInt 1 = y := ⟨_, rfl⟩
          refine lv_iinc (v := x_42) (lv' := [(4, .int x_42), (0, .ref h0), (2, .int p1), (3, .int p2)]) hx hb dX8_goOn_145 hl (k := 3) rfl e_42 (by decide) rfl (fun ls hl => ?_)
          have t_42 := z_inc2 e_42 rfl (by decide) (by omega) (by omega)
          refine lv_goto (tgt := 3) hx hb dX8_goOn_148 (by decide) ?_
          exact ih3 H37 lc37 ls x_42 (by omega) gH37 (lv_sub hl [1, 2, 3, 0] rfl) (by omega) (by omega)
        · have f_41 := z_eq c_41 rfl kl_0
          exact rtV B hr hlk hh hQ gH37 trivial dX8_goOn_144
      refine lv_iload hx hb dX8_goOn_3 (lv_at hl 3 rfl) ?_
      refine lv_aload_n hx hb dX8_goOn_5 rfl (lv_at hl 0 rfl) ?_
      refine g_getR B fl_RX8_40 gH3.1 kh0 rfl rfl rfl rfl rfl dX8_goOn_6 (fun q_43 s_43 k_q_43 => ?_)
      refine g_getI B fl_RX8_59 gH3.1 k_q_43 rfl rfl rfl rfl rfl dX8_goOn_9 (fun x_44 s_44 a_44 b_44 => ?_)
      refine lv_icmp_ge (tgt := 151) hx hb dX8_goOn_12 (by decide) (fun c_45 => ?_) (fun c_45 => ?_)
      · have f_45 := z_le c_45 rfl rfl
        refine lv_aload_n hx hb dX8_goOn_151 rfl (lv_at hl 0 rfl) ?_
        refine lv_iload_n hx hb dX8_goOn_152 rfl (lv_at hl 1 rfl) ?_
        refine lv_iload_n hx hb dX8_goOn_153 rfl (lv_at hl 2 rfl) ?_
        refine zkV (zrV (rest := []) B (c_X8_add l E hV H3 gH3.1 h0 kh0 p1 p2) cl_RX8_78 gH3.1 kh0 rfl rfl rfl rfl hl.1 rfl (Nat.le_of_ble_eq_true rfl) dX8_goOn_154 rfl rfl ⟨rfl, rfl⟩ ⟨Nat.zero_le _, Nat.zero_le _⟩ (zO.of gH3 hh)) gH3 rfl (fun H46 lc46 hp_46 gH46 rH46 => ?_)
        exact rtV B hr hlk hh hQ gH46 trivial dX8_goOn_157
      · have f_45 := z_nle c_45 rfl rfl
        refine lv_aload_n hx hb dX8_goOn_15 rfl (lv_at hl 0 rfl) ?_
        refine g_get B fl_RX8_40 gH3.1 kh0 rfl rfl rfl dX8_goOn_16 s_43 ?_
        refine g_getR B fl_RX8_62 gH3.1 k_q_43 rfl rfl rfl rfl rfl dX8_goOn_19 (fun q_47 s_47 k_q_47 => ?_)
        refine lv_iload hx hb dX8_goOn_22 (lv_at hl 3 rfl) ?_
        refine g_ialdI (i := v3_4) (N := 240) B gH3.1 k_q_47 rfl rfl rfl rfl (by omega) (by omega) rfl dX8_goOn_24 (fun x_48 s_48 a_48 b_48 => ?_)
        refine lv_iconst (v := (-1)) hx hb dX8_goOn_25 (by decide) ?_
        refine lv_icmp_eq (tgt := 124) hx hb dX8_goOn_26 (by decide) (fun c_49 => ?_) (fun c_49 => ?_)
        · have f_49 := z_eq c_49 rfl kl_m1
          exact b124 ls q_43 (lv_sub hl [0, 1, 2, 3] rfl) k_q_43 (by omega) s_43
        · have f_49 := z_ne c_49 rfl kl_m1
          refine lv_iload_n hx hb dX8_goOn_29 rfl (lv_at hl 1 rfl) ?_
          refine lv_bipush (v := 10) hx hb dX8_goOn_30 (by decide) ?_
          refine lv_icmp_ge (tgt := 124) hx hb dX8_goOn_32 (by decide) (fun c_50 => ?_) (fun c_50 => ?_)
          · have f_50 := z_le c_50 kl_10 rfl
            exact False.elim (by omega)
          · have f_50 := z_nle c_50 kl_10 rfl
            refine lv_iconst (v := 0) hx hb dX8_goOn_35 (by decide) ?_
            refine lv_istore (lv' := [(5, .int 0), (0, .ref h0), (2, .int p1), (3, .int p2), (4, .int v3_4)]) hx hb dX8_goOn_36 hl (by decide) rfl (fun ls hl => ?_)
            have := kl_0
            exact b38 3 H3 lc3 ls v3_4 0 (by omega) gH3 (lv_sub hl [1, 2, 3, 4, 0] rfl) (by omega) (by omega) (by omega) (by omega)
  refine lv_iload_n hx hb dX8_goOn_0 rfl (lv_at hl 1 rfl) ?_
  refine lv_istore (lv' := [(4, .int p0), (0, .ref h0), (1, .int p0), (2, .int p1), (3, .int p2)]) hx hb dX8_goOn_1 hl (by decide) rfl (fun ls hl => ?_)
  exact b3 61 H0 [] ls p0 (by omega) hG0 (lv_sub hl [1, 3, 4, 0] rfl) (by omega) (by omega)

def rm_X8_goOn_d7 : Room := { frames := 8, cells := 0, slots := 0, locals := 211 }
abbrev wS_X8_goOn_d7 : List (Nat × Nat) := [(5, 0), (5, 1), (5, 2), (5, 3), (5, 4), (5, 5), (5, 6), (9, 0), (9, 1), (9, 2), (9, 3)]
set_option maxRecDepth 100000 in
set_option maxHeartbeats 4000000 in
theorem c_X8_goOn_d7 (l : Launch) (E : zE) (hV : zV E) (H0 : Heap) (hT0 : HT E H0) (h0 : Nat) (kh0 : eK E h0 = 9) (p0 : Int32) (p0_lo : 0 ≤ p0.toInt) (p0_hi : p0.toInt ≤ 60) (p1 : Int32) (p1_lo : 7 ≤ p1.toInt) (p1_hi : p1.toInt ≤ 7) (p2 : Int32) : Met l yX8_goOn (zws yX8_goOn cX8_goOn 6 none) rm_X8_goOn_d7 (zP E H0 [.ref h0, .int p0, .int p1, .int p2]) (zQV E E wS_X8_goOn_d7 (fun H1 => True)) 0 0 (zfr E) := by
  refine zEnt (by decide) (Nat.le_of_ble_eq_true rfl) (fun p e s m args below meth c ls Q B hr hlk hh hQ hl => ?_)
  have hx := B.1
  have hb := B.2.1
  have hG0 : zG E wS_X8_goOn_d7 H0 H0 [] := zG.rf hT0
  have hl : lv_has ls 6 [(0, .ref h0), (1, .int p0), (2, .int p1), (3, .int p2)] := hl
  have b38 : ∀ (n38 : Nat) (H38 : Heap) (lc38 : List Loc) (ls : Array Slot) (v38_4 : Int32) (v38_5 : Int32), 2 - v38_5.toInt < (n38 : Int) → zG E wS_X8_goOn_d7 H0 H38 lc38 → lv_has ls 6 [(0, .ref h0), (2, .int p1), (3, .int p2), (4, .int v38_4), (5, .int v38_5)] → 0 ≤ v38_4.toInt → v38_4.toInt ≤ 59 → 0 ≤ v38_5.toInt → v38_5.toInt ≤ 2 → W p l e rm_X8_goOn_d7 s m args below meth c H38 lc38 0 0 Q (F0 m 38 ls []) := by
    intro n38
    induction n38 with
    | zero =>
      intro H38 lc38 ls v38_4 v38_5 hm38 gH38 hl f38_1 f38_2 f38_3 f38_4
      exact absurd hm38 (by omega)
    | succ n38 ih38 =>
      intro H38 lc38 ls v38_4 v38_5 hm38 gH38 hl f38_1 f38_2 f38_3 f38_4
      have b117 : ∀ (H117 : Heap) (lc117 : List Loc) (ls : Array Slot) (u117_h0_7 : Nat) (u117_h0_8 : Nat), zG E wS_X8_goOn_d7 H0 H117 lc117 → lv_has ls 6 [(0, .ref h0), (2, .int p1), (3, .int p2), (4, .int v38_4), (5, .int v38_5)] → eK E u117_h0_7 = 47 → eK E u117_h0_8 = 47 → v38_5.toInt ≤ 1 → sl H117 h0 (zix E 9 7) = some (.ref u117_h0_7) → sl H117 h0 (zix E 9 8) = some (.ref u117_h0_8) → W p l e rm_X8_goOn_d7 s m args below meth c H117 lc117 0 0 Q (F0 m 117 ls []) := by
        intro H117 lc117 ls u117_h0_7 u117_h0_8 gH117 hl k_u117_h0_7 k_u117_h0_8 f117_1 s117_u117_h0_7 s117_u117_h0_8
        obtain ⟨x_1, e_1⟩ : ∃ y : Int32, (v38_5 : Int32) + Int32.ofInt 1 = y := ⟨_, rfl⟩
        refine lv_iinc (v := x_1) (lv' := [(5, .int x_1), (0, .ref h0), (2, .int p1), (3, .int p2), (4, .int v38_4)]) hx hb dX8_goOn_117 hl (k := 4) rfl e_1 (by decide) rfl (fun ls hl => ?_)
        have t_1 := z_inc2 e_1 rfl (by decide) (by omega) (by omega)
        refine lv_goto (tgt := 38) hx hb dX8_goOn_120 (by decide) ?_
        exact ih38 H117 lc117 ls v38_4 x_1 (by omega) gH117 (lv_sub hl [1, 2, 3, 4, 0] rfl) (by omega) (by omega) (by omega) (by omega)
      have b94 : ∀ (H94 : Heap) (lc94 : List Loc) (ls : Array Slot) (w94_0 : Int32) (w94_1 : Int32) (u94_h0_7 : Nat) (u94_h0_8 : Nat), zG E wS_X8_goOn_d7 H0 H94 lc94 → lv_has ls 6 [(0, .ref h0), (2, .int p1), (3, .int p2), (4, .int v38_4), (5, .int v38_5)] → eK E u94_h0_7 = 47 → eK E u94_h0_8 = 47 → v38_5.toInt ≤ 1 → 0 ≤ w94_0.toInt → w94_0.toInt ≤ 1 → 8 ≤ w94_1.toInt → w94_1.toInt ≤ 8 → sl H94 h0 (zix E 9 7) = some (.ref u94_h0_7) → sl H94 h0 (zix E 9 8) = some (.ref u94_h0_8) → W p l e rm_X8_goOn_d7 s m args below meth c H94 lc94 0 0 Q (F0 m 94 ls [.int w94_0, .int w94_1, .int v38_4, .ref h0]) := by
        intro H94 lc94 ls w94_0 w94_1 u94_h0_7 u94_h0_8 gH94 hl k_u94_h0_7 k_u94_h0_8 f94_1 f94_2 f94_3 f94_4 f94_5 s94_u94_h0_7 s94_u94_h0_8
        refine zkI (zrV (rest := []) B (c_X8_canHappen l E hV H94 gH94.1 h0 kh0 v38_4 (by omega) (by omega) w94_1 (by omega) (by omega) w94_0 (by omega) (by omega)) cl_RX8_66 gH94.1 kh0 rfl rfl rfl rfl hl.1 rfl (Nat.le_of_ble_eq_true rfl) dX8_goOn_94 rfl rfl ⟨rfl, rfl⟩ ⟨Nat.zero_le _, Nat.zero_le _⟩ (zO.of gH94 hh)) gH94 rfl (fun x_2 H2 lc2 hp_2 gH2 rH2 => ?_)
        have s_3 := rH2.keep hV kh0 rfl s94_u94_h0_7
        have s_4 := rH2.keep hV kh0 rfl s94_u94_h0_8
        obtain ⟨hp_2_1, hp_2_2⟩ := hp_2
        refine lv_if_eq (tgt := 117) hx hb dX8_goOn_97 (by decide) (fun c_5 => ?_) (fun c_5 => ?_)
        · have f_5 := z_eq c_5 rfl kl_0
          exact b117 H2 lc2 ls u94_h0_7 u94_h0_8 gH2 (lv_sub hl [0, 1, 2, 3, 4] rfl) k_u94_h0_7 k_u94_h0_8 (by omega) s_3 s_4
        · have f_5 := z_ne c_5 rfl kl_0
          refine lv_aload_n hx hb dX8_goOn_100 rfl (lv_at hl 0 rfl) ?_
          refine lv_iload hx hb dX8_goOn_101 (lv_at hl 3 rfl) ?_
          refine lv_iconst (v := 1) hx hb dX8_goOn_103 (by decide) ?_
          refine lv_iadd hx hb dX8_goOn_104 ?_
          refine lv_topi (fun x_6 e_6 => ?_)
          have t_6 := z_add e_6 rfl kl_1 (by omega) (by omega)
          refine lv_iload_n hx hb dX8_goOn_105 rfl (lv_at hl 1 rfl) ?_
          refine lv_iconst (v := 1) hx hb dX8_goOn_106 (by decide) ?_
          refine lv_iadd hx hb dX8_goOn_107 ?_
          refine lv_topi (fun x_7 e_7 => ?_)
          have t_7 := z_add e_7 rfl kl_1 (by omega) (by omega)
          refine lv_iload_n hx hb dX8_goOn_108 rfl (lv_at hl 2 rfl) ?_
          refine lv_iload hx hb dX8_goOn_109 (lv_at hl 4 rfl) ?_
          refine lv_iload_n hx hb dX8_goOn_111 rfl (lv_at hl 1 rfl) ?_
          refine lv_ishl hx hb dX8_goOn_112 ?_
          refine lv_topi (fun x_8 e_8 => ?_)
          have t_8 := z_shlV (A := 1) 7 e_8 rfl rfl (by omega) (by omega) rfl (by omega) (by omega) (by decide)
          refine lv_ior hx hb dX8_goOn_113 ?_
          refine lv_topi (fun x_9 e_9 => ?_)
          refine zkV (zrV (rest := []) B (c_X8_goOn_d8 l E hV H2 gH2.1 h0 kh0 x_6 (by omega) (by omega) x_7 (by omega) (by omega) x_9) cl_RX8_70 gH2.1 kh0 rfl rfl rfl rfl hl.1 rfl (Nat.le_of_ble_eq_true rfl) dX8_goOn_114 rfl rfl ⟨rfl, rfl⟩ ⟨Nat.zero_le _, Nat.zero_le _⟩ (zO.of gH2 hh)) gH2 rfl (fun H10 lc10 hp_10 gH10 rH10 => ?_)
          have s_11 := rH10.keep hV kh0 rfl s_3
          have s_12 := rH10.keep hV kh0 rfl s_4
          exact b117 H10 lc10 ls u94_h0_7 u94_h0_8 gH10 (lv_sub hl [0, 1, 2, 3, 4] rfl) k_u94_h0_7 k_u94_h0_8 (by omega) s_11 s_12
      refine lv_iload hx hb dX8_goOn_38 (lv_at hl 4 rfl) ?_
      refine lv_iconst (v := 1) hx hb dX8_goOn_40 (by decide) ?_
      refine lv_icmp_gt (tgt := 123) hx hb dX8_goOn_41 (by decide) (fun c_13 => ?_) (fun c_13 => ?_)
      · have f_13 := z_lt c_13 kl_1 rfl
        exact rtV B hr hlk hh hQ gH38 trivial dX8_goOn_123
      · have f_13 := z_nlt c_13 kl_1 rfl
        refine lv_aload_n hx hb dX8_goOn_44 rfl (lv_at hl 0 rfl) ?_
        refine g_getR B fl_RX8_26 gH38.1 kh0 rfl rfl rfl rfl rfl dX8_goOn_45 (fun q_14 s_14 k_q_14 => ?_)
        refine lv_iload_n hx hb dX8_goOn_48 rfl (lv_at hl 1 rfl) ?_
        refine lv_iconst (v := 1) hx hb dX8_goOn_49 (by decide) ?_
        refine lv_iadd hx hb dX8_goOn_50 ?_
        refine lv_topi (fun x_15 e_15 => ?_)
        have t_15 := z_add e_15 rfl kl_1 (by omega) (by omega)
        refine g_aaldI (i := x_15) (N := 11) B gH38.1 k_q_14 rfl rfl rfl rfl rfl (by omega) (by omega) rfl dX8_goOn_51 (fun q_16 s_16 k_q_16 => ?_)
        refine lv_aload_n hx hb dX8_goOn_52 rfl (lv_at hl 0 rfl) ?_
        refine g_get B fl_RX8_26 gH38.1 kh0 rfl rfl rfl dX8_goOn_53 s_14 ?_
        refine lv_iload_n hx hb dX8_goOn_56 rfl (lv_at hl 1 rfl) ?_
        refine g_aaldI (i := p1) (N := 11) B gH38.1 k_q_14 rfl rfl rfl rfl rfl (by omega) (by omega) rfl dX8_goOn_57 (fun q_17 s_17 k_q_17 => ?_)
        refine zkV (zrV (rest := []) B (c_X4_copyOf l E hV H38 gH38.1 q_16 k_q_16 q_17 k_q_17) cl_RX8_55 gH38.1 k_q_16 rfl rfl rfl rfl hl.1 rfl (Nat.le_of_ble_eq_true rfl) dX8_goOn_58 rfl rfl ⟨rfl, rfl⟩ ⟨Nat.zero_le _, Nat.zero_le _⟩ (zO.of gH38 hh)) gH38 rfl (fun H18 lc18 hp_18 gH18 rH18 => ?_)
        have s_19 := rH18.keep hV kh0 rfl s_14
        have s_20 := rH18.keepA k_q_14 rfl s_16
        have s_21 := rH18.keepA k_q_14 rfl s_17
        refine lv_aload_n hx hb dX8_goOn_61 rfl (lv_at hl 0 rfl) ?_
        refine g_getR B fl_RX8_30 gH18.1 kh0 rfl rfl rfl rfl rfl dX8_goOn_62 (fun q_22 s_22 k_q_22 => ?_)
        refine lv_iload_n hx hb dX8_goOn_65 rfl (lv_at hl 1 rfl) ?_
        refine lv_iconst (v := 1) hx hb dX8_goOn_66 (by decide) ?_
        refine lv_iadd hx hb dX8_goOn_67 ?_
        refine lv_topi (fun x_23 e_23 => ?_)
        have t_23 := z_add e_23 rfl kl_1 (by omega) (by omega)
        refine g_aaldI (i := x_23) (N := 11) B gH18.1 k_q_22 rfl rfl rfl rfl rfl (by omega) (by omega) rfl dX8_goOn_68 (fun q_24 s_24 k_q_24 => ?_)
        refine lv_aload_n hx hb dX8_goOn_69 rfl (lv_at hl 0 rfl) ?_
        refine g_get B fl_RX8_30 gH18.1 kh0 rfl rfl rfl dX8_goOn_70 s_22 ?_
        refine lv_iload_n hx hb dX8_goOn_73 rfl (lv_at hl 1 rfl) ?_
        refine g_aaldI (i := p1) (N := 11) B gH18.1 k_q_22 rfl rfl rfl rfl rfl (by omega) (by omega) rfl dX8_goOn_74 (fun q_25 s_25 k_q_25 => ?_)
        refine zkV (zrV (rest := []) B (c_X4_copyOf l E hV H18 gH18.1 q_24 k_q_24 q_25 k_q_25) cl_RX8_55 gH18.1 k_q_24 rfl rfl rfl rfl hl.1 rfl (Nat.le_of_ble_eq_true rfl) dX8_goOn_75 rfl rfl ⟨rfl, rfl⟩ ⟨Nat.zero_le _, Nat.zero_le _⟩ (zO.of gH18 hh)) gH18 rfl (fun H26 lc26 hp_26 gH26 rH26 => ?_)
        have s_27 := rH26.keep hV kh0 rfl s_19
        have s_28 := rH26.keepA k_q_14 rfl s_20
        have s_29 := rH26.keepA k_q_14 rfl s_21
        have s_30 := rH26.keep hV kh0 rfl s_22
        have s_31 := rH26.keepA k_q_22 rfl s_24
        have s_32 := rH26.keepA k_q_22 rfl s_25
        refine lv_aload_n hx hb dX8_goOn_78 rfl (lv_at hl 0 rfl) ?_
        refine lv_iload hx hb dX8_goOn_79 (lv_at hl 3 rfl) ?_
        refine lv_iload_n hx hb dX8_goOn_81 rfl (lv_at hl 1 rfl) ?_
        refine lv_iconst (v := 1) hx hb dX8_goOn_82 (by decide) ?_
        refine lv_iadd hx hb dX8_goOn_83 ?_
        refine lv_topi (fun x_33 e_33 => ?_)
        have t_33 := z_add e_33 rfl kl_1 (by omega) (by omega)
        refine lv_iload hx hb dX8_goOn_84 (lv_at hl 4 rfl) ?_
        refine lv_if_ne (tgt := 93) hx hb dX8_goOn_86 (by decide) (fun c_34 => ?_) (fun c_34 => ?_)
        · have f_34 := z_ne c_34 rfl kl_0
          refine lv_iconst (v := 0) hx hb dX8_goOn_93 (by decide) ?_
          have := kl_0
          exact b94 H26 lc26 ls 0 x_33 q_14 q_22 gH26 (lv_sub hl [0, 1, 2, 3, 4] rfl) k_q_14 k_q_22 (by omega) (by omega) (by omega) (by omega) (by omega) s_27 s_30
        · have f_34 := z_eq c_34 rfl kl_0
          refine lv_iconst (v := 1) hx hb dX8_goOn_89 (by decide) ?_
          refine lv_goto (tgt := 94) hx hb dX8_goOn_90 (by decide) ?_
          have := kl_1
          exact b94 H26 lc26 ls 1 x_33 q_14 q_22 gH26 (lv_sub hl [0, 1, 2, 3, 4] rfl) k_q_14 k_q_22 (by omega) (by omega) (by omega) (by omega) (by omega) s_27 s_30
  have b3 : ∀ (n3 : Nat) (H3 : Heap) (lc3 : List Loc) (ls : Array Slot) (v3_4 : Int32), 60 - v3_4.toInt < (n3 : Int) → zG E wS_X8_goOn_d7 H0 H3 lc3 → lv_has ls 6 [(0, .ref h0), (2, .int p1), (3, .int p2), (4, .int v3_4)] → 0 ≤ v3_4.toInt → v3_4.toInt ≤ 60 → W p l e rm_X8_goOn_d7 s m args below meth c H3 lc3 0 0 Q (F0 m 3 ls []) := by
    intro n3
    induction n3 with
    | zero =>
      intro H3 lc3 ls v3_4 hm3 gH3 hl f3_1 f3_2
      exact absurd hm3 (by omega)
    | succ n3 ih3 =>
      intro H3 lc3 ls v3_4 hm3 gH3 hl f3_1 f3_2
      have b124 : ∀ (ls : Array Slot) (u124_h0_5 : Nat), lv_has ls 6 [(0, .ref h0), (2, .int p1), (3, .int p2), (4, .int v3_4)] → eK E u124_h0_5 = 4 → v3_4.toInt ≤ 59 → sl H3 h0 (zix E 9 5) = some (.ref u124_h0_5) → W p l e rm_X8_goOn_d7 s m args below meth c H3 lc3 0 0 Q (F0 m 124 ls []) := by
        intro ls u124_h0_5 hl k_u124_h0_5 f124_1 s124_u124_h0_5
        refine lv_aload_n hx hb dX8_goOn_124 rfl (lv_at hl 0 rfl) ?_
        refine lv_iload hx hb dX8_goOn_125 (lv_at hl 3 rfl) ?_
        refine lv_iload_n hx hb dX8_goOn_127 rfl (lv_at hl 1 rfl) ?_
        refine lv_aload_n hx hb dX8_goOn_128 rfl (lv_at hl 0 rfl) ?_
        refine g_get B fl_RX8_40 gH3.1 kh0 rfl rfl rfl dX8_goOn_129 s124_u124_h0_5 ?_
        refine g_getR B fl_RX8_74 gH3.1 k_u124_h0_5 rfl rfl rfl rfl rfl dX8_goOn_132 (fun q_35 s_35 k_q_35 => ?_)
        refine lv_iload hx hb dX8_goOn_135 (lv_at hl 3 rfl) ?_
        refine g_zaldI (i := v3_4) (N := 240) B gH3.1 k_q_35 rfl rfl rfl rfl (by omega) (by omega) rfl dX8_goOn_137 (fun x_36 s_36 a_36 b_36 => ?_)
        refine zkI (zrV (rest := []) B (c_X8_canHappen l E hV H3 gH3.1 h0 kh0 v3_4 (by omega) (by omega) p1 (by omega) (by omega) x_36 (by omega) (by omega)) cl_RX8_66 gH3.1 kh0 rfl rfl rfl rfl hl.1 rfl (Nat.le_of_ble_eq_true rfl) dX8_goOn_138 rfl rfl ⟨rfl, rfl⟩ ⟨Nat.zero_le _, Nat.zero_le _⟩ (zO.of gH3 hh)) gH3 rfl (fun x_37 H37 lc37 hp_37 gH37 rH37 => ?_)
        have s_38 := rH37.keep hV kh0 rfl s124_u124_h0_5
        have s_39 := rH37.keep hV k_u124_h0_5 rfl s_35
        have s_40 := rH37.keepA k_q_35 rfl s_36
        obtain ⟨hp_37_1, hp_37_2⟩ := hp_37
        refine lv_if_ne (tgt := 145) hx hb dX8_goOn_141 (by decide) (fun c_41 => ?_) (fun c_41 => ?_)
        · have f_41 := z_ne c_41 rfl kl_0
          obtain ⟨x_42, e_42⟩ : ∃ y : Int32, (v3_4 : Int32) + Int32.ofInt 1 = y := ⟨_, rfl⟩
          refine lv_iinc (v := x_42) (lv' := [(4, .int x_42), (0, .ref h0), (2, .int p1), (3, .int p2)]) hx hb dX8_goOn_145 hl (k := 3) rfl e_42 (by decide) rfl (fun ls hl => ?_)
          have t_42 := z_inc2 e_42 rfl (by decide) (by omega) (by omega)
          refine lv_goto (tgt := 3) hx hb dX8_goOn_148 (by decide) ?_
          exact ih3 H37 lc37 ls x_42 (by omega) gH37 (lv_sub hl [1, 2, 3, 0] rfl) (by omega) (by omega)
        · have f_41 := z_eq c_41 rfl kl_0
          exact rtV B hr hlk hh hQ gH37 trivial dX8_goOn_144
      refine lv_iload hx hb dX8_goOn_3 (lv_at hl 3 rfl) ?_
      refine lv_aload_n hx hb dX8_goOn_5 rfl (lv_at hl 0 rfl) ?_
      refine g_getR B fl_RX8_40 gH3.1 kh0 rfl rfl rfl rfl rfl dX8_goOn_6 (fun q_43 s_43 k_q_43 => ?_)
      refine g_getI B fl_RX8_59 gH3.1 k_q_43 rfl rfl rfl rfl rfl dX8_goOn_9 (fun x_44 s_44 a_44 b_44 => ?_)
      refine lv_icmp_ge (tgt := 151) hx hb dX8_goOn_12 (by decide) (fun c_45 => ?_) (fun c_45 => ?_)
      · have f_45 := z_le c_45 rfl rfl
        refine lv_aload_n hx hb dX8_goOn_151 rfl (lv_at hl 0 rfl) ?_
        refine lv_iload_n hx hb dX8_goOn_152 rfl (lv_at hl 1 rfl) ?_
        refine lv_iload_n hx hb dX8_goOn_153 rfl (lv_at hl 2 rfl) ?_
        refine zkV (zrV (rest := []) B (c_X8_add l E hV H3 gH3.1 h0 kh0 p1 p2) cl_RX8_78 gH3.1 kh0 rfl rfl rfl rfl hl.1 rfl (Nat.le_of_ble_eq_true rfl) dX8_goOn_154 rfl rfl ⟨rfl, rfl⟩ ⟨Nat.zero_le _, Nat.zero_le _⟩ (zO.of gH3 hh)) gH3 rfl (fun H46 lc46 hp_46 gH46 rH46 => ?_)
        exact rtV B hr hlk hh hQ gH46 trivial dX8_goOn_157
      · have f_45 := z_nle c_45 rfl rfl
        refine lv_aload_n hx hb dX8_goOn_15 rfl (lv_at hl 0 rfl) ?_
        refine g_get B fl_RX8_40 gH3.1 kh0 rfl rfl rfl dX8_goOn_16 s_43 ?_
        refine g_getR B fl_RX8_62 gH3.1 k_q_43 rfl rfl rfl rfl rfl dX8_goOn_19 (fun q_47 s_47 k_q_47 => ?_)
        refine lv_iload hx hb dX8_goOn_22 (lv_at hl 3 rfl) ?_
        refine g_ialdI (i := v3_4) (N := 240) B gH3.1 k_q_47 rfl rfl rfl rfl (by omega) (by omega) rfl dX8_goOn_24 (fun x_48 s_48 a_48 b_48 => ?_)
        refine lv_iconst (v := (-1)) hx hb dX8_goOn_25 (by decide) ?_
        refine lv_icmp_eq (tgt := 124) hx hb dX8_goOn_26 (by decide) (fun c_49 => ?_) (fun c_49 => ?_)
        · have f_49 := z_eq c_49 rfl kl_m1
          exact b124 ls q_43 (lv_sub hl [0, 1, 2, 3] rfl) k_q_43 (by omega) s_43
        · have f_49 := z_ne c_49 rfl kl_m1
          refine lv_iload_n hx hb dX8_goOn_29 rfl (lv_at hl 1 rfl) ?_
          refine lv_bipush (v := 10) hx hb dX8_goOn_30 (by decide) ?_
          refine lv_icmp_ge (tgt := 124) hx hb dX8_goOn_32 (by decide) (fun c_50 => ?_) (fun c_50 => ?_)
          · have f_50 := z_le c_50 kl_10 rfl
            exact False.elim (by omega)
          · have f_50 := z_nle c_50 kl_10 rfl
            refine lv_iconst (v := 0) hx hb dX8_goOn_35 (by decide) ?_
            refine lv_istore (lv' := [(5, .int 0), (0, .ref h0), (2, .int p1), (3, .int p2), (4, .int v3_4)]) hx hb dX8_goOn_36 hl (by decide) rfl (fun ls hl => ?_)
            have := kl_0
            exact b38 3 H3 lc3 ls v3_4 0 (by omega) gH3 (lv_sub hl [1, 2, 3, 4, 0] rfl) (by omega) (by omega) (by omega) (by omega)
  refine lv_iload_n hx hb dX8_goOn_0 rfl (lv_at hl 1 rfl) ?_
  refine lv_istore (lv' := [(4, .int p0), (0, .ref h0), (1, .int p0), (2, .int p1), (3, .int p2)]) hx hb dX8_goOn_1 hl (by decide) rfl (fun ls hl => ?_)
  exact b3 61 H0 [] ls p0 (by omega) hG0 (lv_sub hl [1, 3, 4, 0] rfl) (by omega) (by omega)

def rm_X8_goOn_d6 : Room := { frames := 9, cells := 0, slots := 0, locals := 236 }
abbrev wS_X8_goOn_d6 : List (Nat × Nat) := [(5, 0), (5, 1), (5, 2), (5, 3), (5, 4), (5, 5), (5, 6), (9, 0), (9, 1), (9, 2), (9, 3)]
set_option maxRecDepth 100000 in
set_option maxHeartbeats 4000000 in
theorem c_X8_goOn_d6 (l : Launch) (E : zE) (hV : zV E) (H0 : Heap) (hT0 : HT E H0) (h0 : Nat) (kh0 : eK E h0 = 9) (p0 : Int32) (p0_lo : 0 ≤ p0.toInt) (p0_hi : p0.toInt ≤ 60) (p1 : Int32) (p1_lo : 6 ≤ p1.toInt) (p1_hi : p1.toInt ≤ 6) (p2 : Int32) : Met l yX8_goOn (zws yX8_goOn cX8_goOn 6 none) rm_X8_goOn_d6 (zP E H0 [.ref h0, .int p0, .int p1, .int p2]) (zQV E E wS_X8_goOn_d6 (fun H1 => True)) 0 0 (zfr E) := by
  refine zEnt (by decide) (Nat.le_of_ble_eq_true rfl) (fun p e s m args below meth c ls Q B hr hlk hh hQ hl => ?_)
  have hx := B.1
  have hb := B.2.1
  have hG0 : zG E wS_X8_goOn_d6 H0 H0 [] := zG.rf hT0
  have hl : lv_has ls 6 [(0, .ref h0), (1, .int p0), (2, .int p1), (3, .int p2)] := hl
  have b38 : ∀ (n38 : Nat) (H38 : Heap) (lc38 : List Loc) (ls : Array Slot) (v38_4 : Int32) (v38_5 : Int32), 2 - v38_5.toInt < (n38 : Int) → zG E wS_X8_goOn_d6 H0 H38 lc38 → lv_has ls 6 [(0, .ref h0), (2, .int p1), (3, .int p2), (4, .int v38_4), (5, .int v38_5)] → 0 ≤ v38_4.toInt → v38_4.toInt ≤ 59 → 0 ≤ v38_5.toInt → v38_5.toInt ≤ 2 → W p l e rm_X8_goOn_d6 s m args below meth c H38 lc38 0 0 Q (F0 m 38 ls []) := by
    intro n38
    induction n38 with
    | zero =>
      intro H38 lc38 ls v38_4 v38_5 hm38 gH38 hl f38_1 f38_2 f38_3 f38_4
      exact absurd hm38 (by omega)
    | succ n38 ih38 =>
      intro H38 lc38 ls v38_4 v38_5 hm38 gH38 hl f38_1 f38_2 f38_3 f38_4
      have b117 : ∀ (H117 : Heap) (lc117 : List Loc) (ls : Array Slot) (u117_h0_7 : Nat) (u117_h0_8 : Nat), zG E wS_X8_goOn_d6 H0 H117 lc117 → lv_has ls 6 [(0, .ref h0), (2, .int p1), (3, .int p2), (4, .int v38_4), (5, .int v38_5)] → eK E u117_h0_7 = 47 → eK E u117_h0_8 = 47 → v38_5.toInt ≤ 1 → sl H117 h0 (zix E 9 7) = some (.ref u117_h0_7) → sl H117 h0 (zix E 9 8) = some (.ref u117_h0_8) → W p l e rm_X8_goOn_d6 s m args below meth c H117 lc117 0 0 Q (F0 m 117 ls []) := by
        intro H117 lc117 ls u117_h0_7 u117_h0_8 gH117 hl k_u117_h0_7 k_u117_h0_8 f117_1 s117_u117_h0_7 s117_u117_h0_8
        obtain ⟨x_1, e_1⟩ : ∃ y : Int32, (v38_5 : Int32) + Int32.ofInt 1 = y := ⟨_, rfl⟩
        refine lv_iinc (v := x_1) (lv' := [(5, .int x_1), (0, .ref h0), (2, .int p1), (3, .int p2), (4, .int v38_4)]) hx hb dX8_goOn_117 hl (k := 4) rfl e_1 (by decide) rfl (fun ls hl => ?_)
        have t_1 := z_inc2 e_1 rfl (by decide) (by omega) (by omega)
        refine lv_goto (tgt := 38) hx hb dX8_goOn_120 (by decide) ?_
        exact ih38 H117 lc117 ls v38_4 x_1 (by omega) gH117 (lv_sub hl [1, 2, 3, 4, 0] rfl) (by omega) (by omega) (by omega) (by omega)
      have b94 : ∀ (H94 : Heap) (lc94 : List Loc) (ls : Array Slot) (w94_0 : Int32) (w94_1 : Int32) (u94_h0_7 : Nat) (u94_h0_8 : Nat), zG E wS_X8_goOn_d6 H0 H94 lc94 → lv_has ls 6 [(0, .ref h0), (2, .int p1), (3, .int p2), (4, .int v38_4), (5, .int v38_5)] → eK E u94_h0_7 = 47 → eK E u94_h0_8 = 47 → v38_5.toInt ≤ 1 → 0 ≤ w94_0.toInt → w94_0.toInt ≤ 1 → 7 ≤ w94_1.toInt → w94_1.toInt ≤ 7 → sl H94 h0 (zix E 9 7) = some (.ref u94_h0_7) → sl H94 h0 (zix E 9 8) = some (.ref u94_h0_8) → W p l e rm_X8_goOn_d6 s m args below meth c H94 lc94 0 0 Q (F0 m 94 ls [.int w94_0, .int w94_1, .int v38_4, .ref h0]) := by
        intro H94 lc94 ls w94_0 w94_1 u94_h0_7 u94_h0_8 gH94 hl k_u94_h0_7 k_u94_h0_8 f94_1 f94_2 f94_3 f94_4 f94_5 s94_u94_h0_7 s94_u94_h0_8
        refine zkI (zrV (rest := []) B (c_X8_canHappen l E hV H94 gH94.1 h0 kh0 v38_4 (by omega) (by omega) w94_1 (by omega) (by omega) w94_0 (by omega) (by omega)) cl_RX8_66 gH94.1 kh0 rfl rfl rfl rfl hl.1 rfl (Nat.le_of_ble_eq_true rfl) dX8_goOn_94 rfl rfl ⟨rfl, rfl⟩ ⟨Nat.zero_le _, Nat.zero_le _⟩ (zO.of gH94 hh)) gH94 rfl (fun x_2 H2 lc2 hp_2 gH2 rH2 => ?_)
        have s_3 := rH2.keep hV kh0 rfl s94_u94_h0_7
        have s_4 := rH2.keep hV kh0 rfl s94_u94_h0_8
        obtain ⟨hp_2_1, hp_2_2⟩ := hp_2
        refine lv_if_eq (tgt := 117) hx hb dX8_goOn_97 (by decide) (fun c_5 => ?_) (fun c_5 => ?_)
        · have f_5 := z_eq c_5 rfl kl_0
          exact b117 H2 lc2 ls u94_h0_7 u94_h0_8 gH2 (lv_sub hl [0, 1, 2, 3, 4] rfl) k_u94_h0_7 k_u94_h0_8 (by omega) s_3 s_4
        · have f_5 := z_ne c_5 rfl kl_0
          refine lv_aload_n hx hb dX8_goOn_100 rfl (lv_at hl 0 rfl) ?_
          refine lv_iload hx hb dX8_goOn_101 (lv_at hl 3 rfl) ?_
          refine lv_iconst (v := 1) hx hb dX8_goOn_103 (by decide) ?_
          refine lv_iadd hx hb dX8_goOn_104 ?_
          refine lv_topi (fun x_6 e_6 => ?_)
          have t_6 := z_add e_6 rfl kl_1 (by omega) (by omega)
          refine lv_iload_n hx hb dX8_goOn_105 rfl (lv_at hl 1 rfl) ?_
          refine lv_iconst (v := 1) hx hb dX8_goOn_106 (by decide) ?_
          refine lv_iadd hx hb dX8_goOn_107 ?_
          refine lv_topi (fun x_7 e_7 => ?_)
          have t_7 := z_add e_7 rfl kl_1 (by omega) (by omega)
          refine lv_iload_n hx hb dX8_goOn_108 rfl (lv_at hl 2 rfl) ?_
          refine lv_iload hx hb dX8_goOn_109 (lv_at hl 4 rfl) ?_
          refine lv_iload_n hx hb dX8_goOn_111 rfl (lv_at hl 1 rfl) ?_
          refine lv_ishl hx hb dX8_goOn_112 ?_
          refine lv_topi (fun x_8 e_8 => ?_)
          have t_8 := z_shlV (A := 1) 6 e_8 rfl rfl (by omega) (by omega) rfl (by omega) (by omega) (by decide)
          refine lv_ior hx hb dX8_goOn_113 ?_
          refine lv_topi (fun x_9 e_9 => ?_)
          refine zkV (zrV (rest := []) B (c_X8_goOn_d7 l E hV H2 gH2.1 h0 kh0 x_6 (by omega) (by omega) x_7 (by omega) (by omega) x_9) cl_RX8_70 gH2.1 kh0 rfl rfl rfl rfl hl.1 rfl (Nat.le_of_ble_eq_true rfl) dX8_goOn_114 rfl rfl ⟨rfl, rfl⟩ ⟨Nat.zero_le _, Nat.zero_le _⟩ (zO.of gH2 hh)) gH2 rfl (fun H10 lc10 hp_10 gH10 rH10 => ?_)
          have s_11 := rH10.keep hV kh0 rfl s_3
          have s_12 := rH10.keep hV kh0 rfl s_4
          exact b117 H10 lc10 ls u94_h0_7 u94_h0_8 gH10 (lv_sub hl [0, 1, 2, 3, 4] rfl) k_u94_h0_7 k_u94_h0_8 (by omega) s_11 s_12
      refine lv_iload hx hb dX8_goOn_38 (lv_at hl 4 rfl) ?_
      refine lv_iconst (v := 1) hx hb dX8_goOn_40 (by decide) ?_
      refine lv_icmp_gt (tgt := 123) hx hb dX8_goOn_41 (by decide) (fun c_13 => ?_) (fun c_13 => ?_)
      · have f_13 := z_lt c_13 kl_1 rfl
        exact rtV B hr hlk hh hQ gH38 trivial dX8_goOn_123
      · have f_13 := z_nlt c_13 kl_1 rfl
        refine lv_aload_n hx hb dX8_goOn_44 rfl (lv_at hl 0 rfl) ?_
        refine g_getR B fl_RX8_26 gH38.1 kh0 rfl rfl rfl rfl rfl dX8_goOn_45 (fun q_14 s_14 k_q_14 => ?_)
        refine lv_iload_n hx hb dX8_goOn_48 rfl (lv_at hl 1 rfl) ?_
        refine lv_iconst (v := 1) hx hb dX8_goOn_49 (by decide) ?_
        refine lv_iadd hx hb dX8_goOn_50 ?_
        refine lv_topi (fun x_15 e_15 => ?_)
        have t_15 := z_add e_15 rfl kl_1 (by omega) (by omega)
        refine g_aaldI (i := x_15) (N := 11) B gH38.1 k_q_14 rfl rfl rfl rfl rfl (by omega) (by omega) rfl dX8_goOn_51 (fun q_16 s_16 k_q_16 => ?_)
        refine lv_aload_n hx hb dX8_goOn_52 rfl (lv_at hl 0 rfl) ?_
        refine g_get B fl_RX8_26 gH38.1 kh0 rfl rfl rfl dX8_goOn_53 s_14 ?_
        refine lv_iload_n hx hb dX8_goOn_56 rfl (lv_at hl 1 rfl) ?_
        refine g_aaldI (i := p1) (N := 11) B gH38.1 k_q_14 rfl rfl rfl rfl rfl (by omega) (by omega) rfl dX8_goOn_57 (fun q_17 s_17 k_q_17 => ?_)
        refine zkV (zrV (rest := []) B (c_X4_copyOf l E hV H38 gH38.1 q_16 k_q_16 q_17 k_q_17) cl_RX8_55 gH38.1 k_q_16 rfl rfl rfl rfl hl.1 rfl (Nat.le_of_ble_eq_true rfl) dX8_goOn_58 rfl rfl ⟨rfl, rfl⟩ ⟨Nat.zero_le _, Nat.zero_le _⟩ (zO.of gH38 hh)) gH38 rfl (fun H18 lc18 hp_18 gH18 rH18 => ?_)
        have s_19 := rH18.keep hV kh0 rfl s_14
        have s_20 := rH18.keepA k_q_14 rfl s_16
        have s_21 := rH18.keepA k_q_14 rfl s_17
        refine lv_aload_n hx hb dX8_goOn_61 rfl (lv_at hl 0 rfl) ?_
        refine g_getR B fl_RX8_30 gH18.1 kh0 rfl rfl rfl rfl rfl dX8_goOn_62 (fun q_22 s_22 k_q_22 => ?_)
        refine lv_iload_n hx hb dX8_goOn_65 rfl (lv_at hl 1 rfl) ?_
        refine lv_iconst (v := 1) hx hb dX8_goOn_66 (by decide) ?_
        refine lv_iadd hx hb dX8_goOn_67 ?_
        refine lv_topi (fun x_23 e_23 => ?_)
        have t_23 := z_add e_23 rfl kl_1 (by omega) (by omega)
        refine g_aaldI (i := x_23) (N := 11) B gH18.1 k_q_22 rfl rfl rfl rfl rfl (by omega) (by omega) rfl dX8_goOn_68 (fun q_24 s_24 k_q_24 => ?_)
        refine lv_aload_n hx hb dX8_goOn_69 rfl (lv_at hl 0 rfl) ?_
        refine g_get B fl_RX8_30 gH18.1 kh0 rfl rfl rfl dX8_goOn_70 s_22 ?_
        refine lv_iload_n hx hb dX8_goOn_73 rfl (lv_at hl 1 rfl) ?_
        refine g_aaldI (i := p1) (N := 11) B gH18.1 k_q_22 rfl rfl rfl rfl rfl (by omega) (by omega) rfl dX8_goOn_74 (fun q_25 s_25 k_q_25 => ?_)
        refine zkV (zrV (rest := []) B (c_X4_copyOf l E hV H18 gH18.1 q_24 k_q_24 q_25 k_q_25) cl_RX8_55 gH18.1 k_q_24 rfl rfl rfl rfl hl.1 rfl (Nat.le_of_ble_eq_true rfl) dX8_goOn_75 rfl rfl ⟨rfl, rfl⟩ ⟨Nat.zero_le _, Nat.zero_le _⟩ (zO.of gH18 hh)) gH18 rfl (fun H26 lc26 hp_26 gH26 rH26 => ?_)
        have s_27 := rH26.keep hV kh0 rfl s_19
        have s_28 := rH26.keepA k_q_14 rfl s_20
        have s_29 := rH26.keepA k_q_14 rfl s_21
        have s_30 := rH26.keep hV kh0 rfl s_22
        have s_31 := rH26.keepA k_q_22 rfl s_24
        have s_32 := rH26.keepA k_q_22 rfl s_25
        refine lv_aload_n hx hb dX8_goOn_78 rfl (lv_at hl 0 rfl) ?_
        refine lv_iload hx hb dX8_goOn_79 (lv_at hl 3 rfl) ?_
        refine lv_iload_n hx hb dX8_goOn_81 rfl (lv_at hl 1 rfl) ?_
        refine lv_iconst (v := 1) hx hb dX8_goOn_82 (by decide) ?_
        refine lv_iadd hx hb dX8_goOn_83 ?_
        refine lv_topi (fun x_33 e_33 => ?_)
        have t_33 := z_add e_33 rfl kl_1 (by omega) (by omega)
        refine lv_iload hx hb dX8_goOn_84 (lv_at hl 4 rfl) ?_
        refine lv_if_ne (tgt := 93) hx hb dX8_goOn_86 (by decide) (fun c_34 => ?_) (fun c_34 => ?_)
        · have f_34 := z_ne c_34 rfl kl_0
          refine lv_iconst (v := 0) hx hb dX8_goOn_93 (by decide) ?_
          have := kl_0
          exact b94 H26 lc26 ls 0 x_33 q_14 q_22 gH26 (lv_sub hl [0, 1, 2, 3, 4] rfl) k_q_14 k_q_22 (by omega) (by omega) (by omega) (by omega) (by omega) s_27 s_30
        · have f_34 := z_eq c_34 rfl kl_0
          refine lv_iconst (v := 1) hx hb dX8_goOn_89 (by decide) ?_
          refine lv_goto (tgt := 94) hx hb dX8_goOn_90 (by decide) ?_
          have := kl_1
          exact b94 H26 lc26 ls 1 x_33 q_14 q_22 gH26 (lv_sub hl [0, 1, 2, 3, 4] rfl) k_q_14 k_q_22 (by omega) (by omega) (by omega) (by omega) (by omega) s_27 s_30
  have b3 : ∀ (n3 : Nat) (H3 : Heap) (lc3 : List Loc) (ls : Array Slot) (v3_4 : Int32), 60 - v3_4.toInt < (n3 : Int) → zG E wS_X8_goOn_d6 H0 H3 lc3 → lv_has ls 6 [(0, .ref h0), (2, .int p1), (3, .int p2), (4, .int v3_4)] → 0 ≤ v3_4.toInt → v3_4.toInt ≤ 60 → W p l e rm_X8_goOn_d6 s m args below meth c H3 lc3 0 0 Q (F0 m 3 ls []) := by
    intro n3
    induction n3 with
    | zero =>
      intro H3 lc3 ls v3_4 hm3 gH3 hl f3_1 f3_2
      exact absurd hm3 (by omega)
    | succ n3 ih3 =>
      intro H3 lc3 ls v3_4 hm3 gH3 hl f3_1 f3_2
      have b124 : ∀ (ls : Array Slot) (u124_h0_5 : Nat), lv_has ls 6 [(0, .ref h0), (2, .int p1), (3, .int p2), (4, .int v3_4)] → eK E u124_h0_5 = 4 → v3_4.toInt ≤ 59 → sl H3 h0 (zix E 9 5) = some (.ref u124_h0_5) → W p l e rm_X8_goOn_d6 s m args below meth c H3 lc3 0 0 Q (F0 m 124 ls []) := by
        intro ls u124_h0_5 hl k_u124_h0_5 f124_1 s124_u124_h0_5
        refine lv_aload_n hx hb dX8_goOn_124 rfl (lv_at hl 0 rfl) ?_
        refine lv_iload hx hb dX8_goOn_125 (lv_at hl 3 rfl) ?_
        refine lv_iload_n hx hb dX8_goOn_127 rfl (lv_at hl 1 rfl) ?_
        refine lv_aload_n hx hb dX8_goOn_128 rfl (lv_at hl 0 rfl) ?_
        refine g_get B fl_RX8_40 gH3.1 kh0 rfl rfl rfl dX8_goOn_129 s124_u124_h0_5 ?_
        refine g_getR B fl_RX8_74 gH3.1 k_u124_h0_5 rfl rfl rfl rfl rfl dX8_goOn_132 (fun q_35 s_35 k_q_35 => ?_)
        refine lv_iload hx hb dX8_goOn_135 (lv_at hl 3 rfl) ?_
        refine g_zaldI (i := v3_4) (N := 240) B gH3.1 k_q_35 rfl rfl rfl rfl (by omega) (by omega) rfl dX8_goOn_137 (fun x_36 s_36 a_36 b_36 => ?_)
        refine zkI (zrV (rest := []) B (c_X8_canHappen l E hV H3 gH3.1 h0 kh0 v3_4 (by omega) (by omega) p1 (by omega) (by omega) x_36 (by omega) (by omega)) cl_RX8_66 gH3.1 kh0 rfl rfl rfl rfl hl.1 rfl (Nat.le_of_ble_eq_true rfl) dX8_goOn_138 rfl rfl ⟨rfl, rfl⟩ ⟨Nat.zero_le _, Nat.zero_le _⟩ (zO.of gH3 hh)) gH3 rfl (fun x_37 H37 lc37 hp_37 gH37 rH37 => ?_)
        have s_38 := rH37.keep hV kh0 rfl s124_u124_h0_5
        have s_39 := rH37.keep hV k_u124_h0_5 rfl s_35
        have s_40 := rH37.keepA k_q_35 rfl s_36
        obtain ⟨hp_37_1, hp_37_2⟩ := hp_37
        refine lv_if_ne (tgt := 145) hx hb dX8_goOn_141 (by decide) (fun c_41 => ?_) (fun c_41 => ?_)
        · have f_41 := z_ne c_41 rfl kl_0
          obtain ⟨x_42, e_42⟩ : ∃ y : Int32, (v3_4 : Int32) + Int32.ofInt 1 = y := ⟨_, rfl⟩
          refine lv_iinc (v := x_42) (lv' := [(4, .int x_42), (0, .ref h0), (2, .int p1), (3, .int p2)]) hx hb dX8_goOn_145 hl (k := 3) rfl e_42 (by decide) rfl (fun ls hl => ?_)
          have t_42 := z_inc2 e_42 rfl (by decide) (by omega) (by omega)
          refine lv_goto (tgt := 3) hx hb dX8_goOn_148 (by decide) ?_
          exact ih3 H37 lc37 ls x_42 (by omega) gH37 (lv_sub hl [1, 2, 3, 0] rfl) (by omega) (by omega)
        · have f_41 := z_eq c_41 rfl kl_0
          exact rtV B hr hlk hh hQ gH37 trivial dX8_goOn_144
      refine lv_iload hx hb dX8_goOn_3 (lv_at hl 3 rfl) ?_
      refine lv_aload_n hx hb dX8_goOn_5 rfl (lv_at hl 0 rfl) ?_
      refine g_getR B fl_RX8_40 gH3.1 kh0 rfl rfl rfl rfl rfl dX8_goOn_6 (fun q_43 s_43 k_q_43 => ?_)
      refine g_getI B fl_RX8_59 gH3.1 k_q_43 rfl rfl rfl rfl rfl dX8_goOn_9 (fun x_44 s_44 a_44 b_44 => ?_)
      refine lv_icmp_ge (tgt := 151) hx hb dX8_goOn_12 (by decide) (fun c_45 => ?_) (fun c_45 => ?_)
      · have f_45 := z_le c_45 rfl rfl
        refine lv_aload_n hx hb dX8_goOn_151 rfl (lv_at hl 0 rfl) ?_
        refine lv_iload_n hx hb dX8_goOn_152 rfl (lv_at hl 1 rfl) ?_
        refine lv_iload_n hx hb dX8_goOn_153 rfl (lv_at hl 2 rfl) ?_
        refine zkV (zrV (rest := []) B (c_X8_add l E hV H3 gH3.1 h0 kh0 p1 p2) cl_RX8_78 gH3.1 kh0 rfl rfl rfl rfl hl.1 rfl (Nat.le_of_ble_eq_true rfl) dX8_goOn_154 rfl rfl ⟨rfl, rfl⟩ ⟨Nat.zero_le _, Nat.zero_le _⟩ (zO.of gH3 hh)) gH3 rfl (fun H46 lc46 hp_46 gH46 rH46 => ?_)
        exact rtV B hr hlk hh hQ gH46 trivial dX8_goOn_157
      · have f_45 := z_nle c_45 rfl rfl
        refine lv_aload_n hx hb dX8_goOn_15 rfl (lv_at hl 0 rfl) ?_
        refine g_get B fl_RX8_40 gH3.1 kh0 rfl rfl rfl dX8_goOn_16 s_43 ?_
        refine g_getR B fl_RX8_62 gH3.1 k_q_43 rfl rfl rfl rfl rfl dX8_goOn_19 (fun q_47 s_47 k_q_47 => ?_)
        refine lv_iload hx hb dX8_goOn_22 (lv_at hl 3 rfl) ?_
        refine g_ialdI (i := v3_4) (N := 240) B gH3.1 k_q_47 rfl rfl rfl rfl (by omega) (by omega) rfl dX8_goOn_24 (fun x_48 s_48 a_48 b_48 => ?_)
        refine lv_iconst (v := (-1)) hx hb dX8_goOn_25 (by decide) ?_
        refine lv_icmp_eq (tgt := 124) hx hb dX8_goOn_26 (by decide) (fun c_49 => ?_) (fun c_49 => ?_)
        · have f_49 := z_eq c_49 rfl kl_m1
          exact b124 ls q_43 (lv_sub hl [0, 1, 2, 3] rfl) k_q_43 (by omega) s_43
        · have f_49 := z_ne c_49 rfl kl_m1
          refine lv_iload_n hx hb dX8_goOn_29 rfl (lv_at hl 1 rfl) ?_
          refine lv_bipush (v := 10) hx hb dX8_goOn_30 (by decide) ?_
          refine lv_icmp_ge (tgt := 124) hx hb dX8_goOn_32 (by decide) (fun c_50 => ?_) (fun c_50 => ?_)
          · have f_50 := z_le c_50 kl_10 rfl
            exact False.elim (by omega)
          · have f_50 := z_nle c_50 kl_10 rfl
            refine lv_iconst (v := 0) hx hb dX8_goOn_35 (by decide) ?_
            refine lv_istore (lv' := [(5, .int 0), (0, .ref h0), (2, .int p1), (3, .int p2), (4, .int v3_4)]) hx hb dX8_goOn_36 hl (by decide) rfl (fun ls hl => ?_)
            have := kl_0
            exact b38 3 H3 lc3 ls v3_4 0 (by omega) gH3 (lv_sub hl [1, 2, 3, 4, 0] rfl) (by omega) (by omega) (by omega) (by omega)
  refine lv_iload_n hx hb dX8_goOn_0 rfl (lv_at hl 1 rfl) ?_
  refine lv_istore (lv' := [(4, .int p0), (0, .ref h0), (1, .int p0), (2, .int p1), (3, .int p2)]) hx hb dX8_goOn_1 hl (by decide) rfl (fun ls hl => ?_)
  exact b3 61 H0 [] ls p0 (by omega) hG0 (lv_sub hl [1, 3, 4, 0] rfl) (by omega) (by omega)

def rm_X8_goOn_d5 : Room := { frames := 10, cells := 0, slots := 0, locals := 261 }
abbrev wS_X8_goOn_d5 : List (Nat × Nat) := [(5, 0), (5, 1), (5, 2), (5, 3), (5, 4), (5, 5), (5, 6), (9, 0), (9, 1), (9, 2), (9, 3)]
set_option maxRecDepth 100000 in
set_option maxHeartbeats 4000000 in
theorem c_X8_goOn_d5 (l : Launch) (E : zE) (hV : zV E) (H0 : Heap) (hT0 : HT E H0) (h0 : Nat) (kh0 : eK E h0 = 9) (p0 : Int32) (p0_lo : 0 ≤ p0.toInt) (p0_hi : p0.toInt ≤ 60) (p1 : Int32) (p1_lo : 5 ≤ p1.toInt) (p1_hi : p1.toInt ≤ 5) (p2 : Int32) : Met l yX8_goOn (zws yX8_goOn cX8_goOn 6 none) rm_X8_goOn_d5 (zP E H0 [.ref h0, .int p0, .int p1, .int p2]) (zQV E E wS_X8_goOn_d5 (fun H1 => True)) 0 0 (zfr E) := by
  refine zEnt (by decide) (Nat.le_of_ble_eq_true rfl) (fun p e s m args below meth c ls Q B hr hlk hh hQ hl => ?_)
  have hx := B.1
  have hb := B.2.1
  have hG0 : zG E wS_X8_goOn_d5 H0 H0 [] := zG.rf hT0
  have hl : lv_has ls 6 [(0, .ref h0), (1, .int p0), (2, .int p1), (3, .int p2)] := hl
  have b38 : ∀ (n38 : Nat) (H38 : Heap) (lc38 : List Loc) (ls : Array Slot) (v38_4 : Int32) (v38_5 : Int32), 2 - v38_5.toInt < (n38 : Int) → zG E wS_X8_goOn_d5 H0 H38 lc38 → lv_has ls 6 [(0, .ref h0), (2, .int p1), (3, .int p2), (4, .int v38_4), (5, .int v38_5)] → 0 ≤ v38_4.toInt → v38_4.toInt ≤ 59 → 0 ≤ v38_5.toInt → v38_5.toInt ≤ 2 → W p l e rm_X8_goOn_d5 s m args below meth c H38 lc38 0 0 Q (F0 m 38 ls []) := by
    intro n38
    induction n38 with
    | zero =>
      intro H38 lc38 ls v38_4 v38_5 hm38 gH38 hl f38_1 f38_2 f38_3 f38_4
      exact absurd hm38 (by omega)
    | succ n38 ih38 =>
      intro H38 lc38 ls v38_4 v38_5 hm38 gH38 hl f38_1 f38_2 f38_3 f38_4
      have b117 : ∀ (H117 : Heap) (lc117 : List Loc) (ls : Array Slot) (u117_h0_7 : Nat) (u117_h0_8 : Nat), zG E wS_X8_goOn_d5 H0 H117 lc117 → lv_has ls 6 [(0, .ref h0), (2, .int p1), (3, .int p2), (4, .int v38_4), (5, .int v38_5)] → eK E u117_h0_7 = 47 → eK E u117_h0_8 = 47 → v38_5.toInt ≤ 1 → sl H117 h0 (zix E 9 7) = some (.ref u117_h0_7) → sl H117 h0 (zix E 9 8) = some (.ref u117_h0_8) → W p l e rm_X8_goOn_d5 s m args below meth c H117 lc117 0 0 Q (F0 m 117 ls []) := by
        intro H117 lc117 ls u117_h0_7 u117_h0_8 gH117 hl k_u117_h0_7 k_u117_h0_8 f117_1 s117_u117_h0_7 s117_u117_h0_8
        obtain ⟨x_1, e_1⟩ : ∃ y : Int32, (v38_5 : Int32) + Int32.ofInt 1 = y := ⟨_, rfl⟩
        refine lv_iinc (v := x_1) (lv' := [(5, .int x_1), (0, .ref h0), (2, .int p1), (3, .int p2), (4, .int v38_4)]) hx hb dX8_goOn_117 hl (k := 4) rfl e_1 (by decide) rfl (fun ls hl => ?_)
        have t_1 := z_inc2 e_1 rfl (by decide) (by omega) (by omega)
        refine lv_goto (tgt := 38) hx hb dX8_goOn_120 (by decide) ?_
        exact ih38 H117 lc117 ls v38_4 x_1 (by omega) gH117 (lv_sub hl [1, 2, 3, 4, 0] rfl) (by omega) (by omega) (by omega) (by omega)
      have b94 : ∀ (H94 : Heap) (lc94 : List Loc) (ls : Array Slot) (w94_0 : Int32) (w94_1 : Int32) (u94_h0_7 : Nat) (u94_h0_8 : Nat), zG E wS_X8_goOn_d5 H0 H94 lc94 → lv_has ls 6 [(0, .ref h0), (2, .int p1), (3, .int p2), (4, .int v38_4), (5, .int v38_5)] → eK E u94_h0_7 = 47 → eK E u94_h0_8 = 47 → v38_5.toInt ≤ 1 → 0 ≤ w94_0.toInt → w94_0.toInt ≤ 1 → 6 ≤ w94_1.toInt → w94_1.toInt ≤ 6 → sl H94 h0 (zix E 9 7) = some (.ref u94_h0_7) → sl H94 h0 (zix E 9 8) = some (.ref u94_h0_8) → W p l e rm_X8_goOn_d5 s m args below meth c H94 lc94 0 0 Q (F0 m 94 ls [.int w94_0, .int w94_1, .int v38_4, .ref h0]) := by
        intro H94 lc94 ls w94_0 w94_1 u94_h0_7 u94_h0_8 gH94 hl k_u94_h0_7 k_u94_h0_8 f94_1 f94_2 f94_3 f94_4 f94_5 s94_u94_h0_7 s94_u94_h0_8
        refine zkI (zrV (rest := []) B (c_X8_canHappen l E hV H94 gH94.1 h0 kh0 v38_4 (by omega) (by omega) w94_1 (by omega) (by omega) w94_0 (by omega) (by omega)) cl_RX8_66 gH94.1 kh0 rfl rfl rfl rfl hl.1 rfl (Nat.le_of_ble_eq_true rfl) dX8_goOn_94 rfl rfl ⟨rfl, rfl⟩ ⟨Nat.zero_le _, Nat.zero_le _⟩ (zO.of gH94 hh)) gH94 rfl (fun x_2 H2 lc2 hp_2 gH2 rH2 => ?_)
        have s_3 := rH2.keep hV kh0 rfl s94_u94_h0_7
        have s_4 := rH2.keep hV kh0 rfl s94_u94_h0_8
        obtain ⟨hp_2_1, hp_2_2⟩ := hp_2
        refine lv_if_eq (tgt := 117) hx hb dX8_goOn_97 (by decide) (fun c_5 => ?_) (fun c_5 => ?_)
        · have f_5 := z_eq c_5 rfl kl_0
          exact b117 H2 lc2 ls u94_h0_7 u94_h0_8 gH2 (lv_sub hl [0, 1, 2, 3, 4] rfl) k_u94_h0_7 k_u94_h0_8 (by omega) s_3 s_4
        · have f_5 := z_ne c_5 rfl kl_0
          refine lv_aload_n hx hb dX8_goOn_100 rfl (lv_at hl 0 rfl) ?_
          refine lv_iload hx hb dX8_goOn_101 (lv_at hl 3 rfl) ?_
          refine lv_iconst (v := 1) hx hb dX8_goOn_103 (by decide) ?_
          refine lv_iadd hx hb dX8_goOn_104 ?_
          refine lv_topi (fun x_6 e_6 => ?_)
          have t_6 := z_add e_6 rfl kl_1 (by omega) (by omega)
          refine lv_iload_n hx hb dX8_goOn_105 rfl (lv_at hl 1 rfl) ?_
          refine lv_iconst (v := 1) hx hb dX8_goOn_106 (by decide) ?_
          refine lv_iadd hx hb dX8_goOn_107 ?_
          refine lv_topi (fun x_7 e_7 => ?_)
          have t_7 := z_add e_7 rfl kl_1 (by omega) (by omega)
          refine lv_iload_n hx hb dX8_goOn_108 rfl (lv_at hl 2 rfl) ?_
          refine lv_iload hx hb dX8_goOn_109 (lv_at hl 4 rfl) ?_
          refine lv_iload_n hx hb dX8_goOn_111 rfl (lv_at hl 1 rfl) ?_
          refine lv_ishl hx hb dX8_goOn_112 ?_
          refine lv_topi (fun x_8 e_8 => ?_)
          have t_8 := z_shlV (A := 1) 5 e_8 rfl rfl (by omega) (by omega) rfl (by omega) (by omega) (by decide)
          refine lv_ior hx hb dX8_goOn_113 ?_
          refine lv_topi (fun x_9 e_9 => ?_)
          refine zkV (zrV (rest := []) B (c_X8_goOn_d6 l E hV H2 gH2.1 h0 kh0 x_6 (by omega) (by omega) x_7 (by omega) (by omega) x_9) cl_RX8_70 gH2.1 kh0 rfl rfl rfl rfl hl.1 rfl (Nat.le_of_ble_eq_true rfl) dX8_goOn_114 rfl rfl ⟨rfl, rfl⟩ ⟨Nat.zero_le _, Nat.zero_le _⟩ (zO.of gH2 hh)) gH2 rfl (fun H10 lc10 hp_10 gH10 rH10 => ?_)
          have s_11 := rH10.keep hV kh0 rfl s_3
          have s_12 := rH10.keep hV kh0 rfl s_4
          exact b117 H10 lc10 ls u94_h0_7 u94_h0_8 gH10 (lv_sub hl [0, 1, 2, 3, 4] rfl) k_u94_h0_7 k_u94_h0_8 (by omega) s_11 s_12
      refine lv_iload hx hb dX8_goOn_38 (lv_at hl 4 rfl) ?_
      refine lv_iconst (v := 1) hx hb dX8_goOn_40 (by decide) ?_
      refine lv_icmp_gt (tgt := 123) hx hb dX8_goOn_41 (by decide) (fun c_13 => ?_) (fun c_13 => ?_)
      · have f_13 := z_lt c_13 kl_1 rfl
        exact rtV B hr hlk hh hQ gH38 trivial dX8_goOn_123
      · have f_13 := z_nlt c_13 kl_1 rfl
        refine lv_aload_n hx hb dX8_goOn_44 rfl (lv_at hl 0 rfl) ?_
        refine g_getR B fl_RX8_26 gH38.1 kh0 rfl rfl rfl rfl rfl dX8_goOn_45 (fun q_14 s_14 k_q_14 => ?_)
        refine lv_iload_n hx hb dX8_goOn_48 rfl (lv_at hl 1 rfl) ?_
        refine lv_iconst (v := 1) hx hb dX8_goOn_49 (by decide) ?_
        refine lv_iadd hx hb dX8_goOn_50 ?_
        refine lv_topi (fun x_15 e_15 => ?_)
        have t_15 := z_add e_15 rfl kl_1 (by omega) (by omega)
        refine g_aaldI (i := x_15) (N := 11) B gH38.1 k_q_14 rfl rfl rfl rfl rfl (by omega) (by omega) rfl dX8_goOn_51 (fun q_16 s_16 k_q_16 => ?_)
        refine lv_aload_n hx hb dX8_goOn_52 rfl (lv_at hl 0 rfl) ?_
        refine g_get B fl_RX8_26 gH38.1 kh0 rfl rfl rfl dX8_goOn_53 s_14 ?_
        refine lv_iload_n hx hb dX8_goOn_56 rfl (lv_at hl 1 rfl) ?_
        refine g_aaldI (i := p1) (N := 11) B gH38.1 k_q_14 rfl rfl rfl rfl rfl (by omega) (by omega) rfl dX8_goOn_57 (fun q_17 s_17 k_q_17 => ?_)
        refine zkV (zrV (rest := []) B (c_X4_copyOf l E hV H38 gH38.1 q_16 k_q_16 q_17 k_q_17) cl_RX8_55 gH38.1 k_q_16 rfl rfl rfl rfl hl.1 rfl (Nat.le_of_ble_eq_true rfl) dX8_goOn_58 rfl rfl ⟨rfl, rfl⟩ ⟨Nat.zero_le _, Nat.zero_le _⟩ (zO.of gH38 hh)) gH38 rfl (fun H18 lc18 hp_18 gH18 rH18 => ?_)
        have s_19 := rH18.keep hV kh0 rfl s_14
        have s_20 := rH18.keepA k_q_14 rfl s_16
        have s_21 := rH18.keepA k_q_14 rfl s_17
        refine lv_aload_n hx hb dX8_goOn_61 rfl (lv_at hl 0 rfl) ?_
        refine g_getR B fl_RX8_30 gH18.1 kh0 rfl rfl rfl rfl rfl dX8_goOn_62 (fun q_22 s_22 k_q_22 => ?_)
        refine lv_iload_n hx hb dX8_goOn_65 rfl (lv_at hl 1 rfl) ?_
        refine lv_iconst (v := 1) hx hb dX8_goOn_66 (by decide) ?_
        refine lv_iadd hx hb dX8_goOn_67 ?_
        refine lv_topi (fun x_23 e_23 => ?_)
        have t_23 := z_add e_23 rfl kl_1 (by omega) (by omega)
        refine g_aaldI (i := x_23) (N := 11) B gH18.1 k_q_22 rfl rfl rfl rfl rfl (by omega) (by omega) rfl dX8_goOn_68 (fun q_24 s_24 k_q_24 => ?_)
        refine lv_aload_n hx hb dX8_goOn_69 rfl (lv_at hl 0 rfl) ?_
        refine g_get B fl_RX8_30 gH18.1 kh0 rfl rfl rfl dX8_goOn_70 s_22 ?_
        refine lv_iload_n hx hb dX8_goOn_73 rfl (lv_at hl 1 rfl) ?_
        refine g_aaldI (i := p1) (N := 11) B gH18.1 k_q_22 rfl rfl rfl rfl rfl (by omega) (by omega) rfl dX8_goOn_74 (fun q_25 s_25 k_q_25 => ?_)
        refine zkV (zrV (rest := []) B (c_X4_copyOf l E hV H18 gH18.1 q_24 k_q_24 q_25 k_q_25) cl_RX8_55 gH18.1 k_q_24 rfl rfl rfl rfl hl.1 rfl (Nat.le_of_ble_eq_true rfl) dX8_goOn_75 rfl rfl ⟨rfl, rfl⟩ ⟨Nat.zero_le _, Nat.zero_le _⟩ (zO.of gH18 hh)) gH18 rfl (fun H26 lc26 hp_26 gH26 rH26 => ?_)
        have s_27 := rH26.keep hV kh0 rfl s_19
        have s_28 := rH26.keepA k_q_14 rfl s_20
        have s_29 := rH26.keepA k_q_14 rfl s_21
        have s_30 := rH26.keep hV kh0 rfl s_22
        have s_31 := rH26.keepA k_q_22 rfl s_24
        have s_32 := rH26.keepA k_q_22 rfl s_25
        refine lv_aload_n hx hb dX8_goOn_78 rfl (lv_at hl 0 rfl) ?_
        refine lv_iload hx hb dX8_goOn_79 (lv_at hl 3 rfl) ?_
        refine lv_iload_n hx hb dX8_goOn_81 rfl (lv_at hl 1 rfl) ?_
        refine lv_iconst (v := 1) hx hb dX8_goOn_82 (by decide) ?_
        refine lv_iadd hx hb dX8_goOn_83 ?_
        refine lv_topi (fun x_33 e_33 => ?_)
        have t_33 := z_add e_33 rfl kl_1 (by omega) (by omega)
        refine lv_iload hx hb dX8_goOn_84 (lv_at hl 4 rfl) ?_
        refine lv_if_ne (tgt := 93) hx hb dX8_goOn_86 (by decide) (fun c_34 => ?_) (fun c_34 => ?_)
        · have f_34 := z_ne c_34 rfl kl_0
          refine lv_iconst (v := 0) hx hb dX8_goOn_93 (by decide) ?_
          have := kl_0
          exact b94 H26 lc26 ls 0 x_33 q_14 q_22 gH26 (lv_sub hl [0, 1, 2, 3, 4] rfl) k_q_14 k_q_22 (by omega) (by omega) (by omega) (by omega) (by omega) s_27 s_30
        · have f_34 := z_eq c_34 rfl kl_0
          refine lv_iconst (v := 1) hx hb dX8_goOn_89 (by decide) ?_
          refine lv_goto (tgt := 94) hx hb dX8_goOn_90 (by decide) ?_
          have := kl_1
          exact b94 H26 lc26 ls 1 x_33 q_14 q_22 gH26 (lv_sub hl [0, 1, 2, 3, 4] rfl) k_q_14 k_q_22 (by omega) (by omega) (by omega) (by omega) (by omega) s_27 s_30
  have b3 : ∀ (n3 : Nat) (H3 : Heap) (lc3 : List Loc) (ls : Array Slot) (v3_4 : Int32), 60 - v3_4.toInt < (n3 : Int) → zG E wS_X8_goOn_d5 H0 H3 lc3 → lv_has ls 6 [(0, .ref h0), (2, .int p1), (3, .int p2), (4, .int v3_4)] → 0 ≤ v3_4.toInt → v3_4.toInt ≤ 60 → W p l e rm_X8_goOn_d5 s m args below meth c H3 lc3 0 0 Q (F0 m 3 ls []) := by
    intro n3
    induction n3 with
    | zero =>
      intro H3 lc3 ls v3_4 hm3 gH3 hl f3_1 f3_2
      exact absurd hm3 (by omega)
    | succ n3 ih3 =>
      intro H3 lc3 ls v3_4 hm3 gH3 hl f3_1 f3_2
      have b124 : ∀ (ls : Array Slot) (u124_h0_5 : Nat), lv_has ls 6 [(0, .ref h0), (2, .int p1), (3, .int p2), (4, .int v3_4)] → eK E u124_h0_5 = 4 → v3_4.toInt ≤ 59 → sl H3 h0 (zix E 9 5) = some (.ref u124_h0_5) → W p l e rm_X8_goOn_d5 s m args below meth c H3 lc3 0 0 Q (F0 m 124 ls []) := by
        intro ls u124_h0_5 hl k_u124_h0_5 f124_1 s124_u124_h0_5
        refine lv_aload_n hx hb dX8_goOn_124 rfl (lv_at hl 0 rfl) ?_
        refine lv_iload hx hb dX8_goOn_125 (lv_at hl 3 rfl) ?_
        refine lv_iload_n hx hb dX8_goOn_127 rfl (lv_at hl 1 rfl) ?_
        refine lv_aload_n hx hb dX8_goOn_128 rfl (lv_at hl 0 rfl) ?_
        refine g_get B fl_RX8_40 gH3.1 kh0 rfl rfl rfl dX8_goOn_129 s124_u124_h0_5 ?_
        refine g_getR B fl_RX8_74 gH3.1 k_u124_h0_5 rfl rfl rfl rfl rfl dX8_goOn_132 (fun q_35 s_35 k_q_35 => ?_)
        refine lv_iload hx hb dX8_goOn_135 (lv_at hl 3 rfl) ?_
        refine g_zaldI (i := v3_4) (N := 240) B gH3.1 k_q_35 rfl rfl rfl rfl (by omega) (by omega) rfl dX8_goOn_137 (fun x_36 s_36 a_36 b_36 => ?_)
        refine zkI (zrV (rest := []) B (c_X8_canHappen l E hV H3 gH3.1 h0 kh0 v3_4 (by omega) (by omega) p1 (by omega) (by omega) x_36 (by omega) (by omega)) cl_RX8_66 gH3.1 kh0 rfl rfl rfl rfl hl.1 rfl (Nat.le_of_ble_eq_true rfl) dX8_goOn_138 rfl rfl ⟨rfl, rfl⟩ ⟨Nat.zero_le _, Nat.zero_le _⟩ (zO.of gH3 hh)) gH3 rfl (fun x_37 H37 lc37 hp_37 gH37 rH37 => ?_)
        have s_38 := rH37.keep hV kh0 rfl s124_u124_h0_5
        have s_39 := rH37.keep hV k_u124_h0_5 rfl s_35
        have s_40 := rH37.keepA k_q_35 rfl s_36
        obtain ⟨hp_37_1, hp_37_2⟩ := hp_37
        refine lv_if_ne (tgt := 145) hx hb dX8_goOn_141 (by decide) (fun c_41 => ?_) (fun c_41 => ?_)
        · have f_41 := z_ne c_41 rfl kl_0
          obtain ⟨x_42, e_42⟩ : ∃ y : Int32, (v3_4 : Int32) + Int32.ofInt 1 = y := ⟨_, rfl⟩
          refine lv_iinc (v := x_42) (lv' := [(4, .int x_42), (0, .ref h0), (2, .int p1), (3, .int p2)]) hx hb dX8_goOn_145 hl (k := 3) rfl e_42 (by decide) rfl (fun ls hl => ?_)
          have t_42 := z_inc2 e_42 rfl (by decide) (by omega) (by omega)
          refine lv_goto (tgt := 3) hx hb dX8_goOn_148 (by decide) ?_
          exact ih3 H37 lc37 ls x_42 (by omega) gH37 (lv_sub hl [1, 2, 3, 0] rfl) (by omega) (by omega)
        · have f_41 := z_eq c_41 rfl kl_0
          exact rtV B hr hlk hh hQ gH37 trivial dX8_goOn_144
      refine lv_iload hx hb dX8_goOn_3 (lv_at hl 3 rfl) ?_
      refine lv_aload_n hx hb dX8_goOn_5 rfl (lv_at hl 0 rfl) ?_
      refine g_getR B fl_RX8_40 gH3.1 kh0 rfl rfl rfl rfl rfl dX8_goOn_6 (fun q_43 s_43 k_q_43 => ?_)
      refine g_getI B fl_RX8_59 gH3.1 k_q_43 rfl rfl rfl rfl rfl dX8_goOn_9 (fun x_44 s_44 a_44 b_44 => ?_)
      refine lv_icmp_ge (tgt := 151) hx hb dX8_goOn_12 (by decide) (fun c_45 => ?_) (fun c_45 => ?_)
      · have f_45 := z_le c_45 rfl rfl
        refine lv_aload_n hx hb dX8_goOn_151 rfl (lv_at hl 0 rfl) ?_
        refine lv_iload_n hx hb dX8_goOn_152 rfl (lv_at hl 1 rfl) ?_
        refine lv_iload_n hx hb dX8_goOn_153 rfl (lv_at hl 2 rfl) ?_
        refine zkV (zrV (rest := []) B (c_X8_add l E hV H3 gH3.1 h0 kh0 p1 p2) cl_RX8_78 gH3.1 kh0 rfl rfl rfl rfl hl.1 rfl (Nat.le_of_ble_eq_true rfl) dX8_goOn_154 rfl rfl ⟨rfl, rfl⟩ ⟨Nat.zero_le _, Nat.zero_le _⟩ (zO.of gH3 hh)) gH3 rfl (fun H46 lc46 hp_46 gH46 rH46 => ?_)
        exact rtV B hr hlk hh hQ gH46 trivial dX8_goOn_157
      · have f_45 := z_nle c_45 rfl rfl
        refine lv_aload_n hx hb dX8_goOn_15 rfl (lv_at hl 0 rfl) ?_
        refine g_get B fl_RX8_40 gH3.1 kh0 rfl rfl rfl dX8_goOn_16 s_43 ?_
        refine g_getR B fl_RX8_62 gH3.1 k_q_43 rfl rfl rfl rfl rfl dX8_goOn_19 (fun q_47 s_47 k_q_47 => ?_)
        refine lv_iload hx hb dX8_goOn_22 (lv_at hl 3 rfl) ?_
        refine g_ialdI (i := v3_4) (N := 240) B gH3.1 k_q_47 rfl rfl rfl rfl (by omega) (by omega) rfl dX8_goOn_24 (fun x_48 s_48 a_48 b_48 => ?_)
        refine lv_iconst (v := (-1)) hx hb dX8_goOn_25 (by decide) ?_
        refine lv_icmp_eq (tgt := 124) hx hb dX8_goOn_26 (by decide) (fun c_49 => ?_) (fun c_49 => ?_)
        · have f_49 := z_eq c_49 rfl kl_m1
          exact b124 ls q_43 (lv_sub hl [0, 1, 2, 3] rfl) k_q_43 (by omega) s_43
        · have f_49 := z_ne c_49 rfl kl_m1
          refine lv_iload_n hx hb dX8_goOn_29 rfl (lv_at hl 1 rfl) ?_
          refine lv_bipush (v := 10) hx hb dX8_goOn_30 (by decide) ?_
          refine lv_icmp_ge (tgt := 124) hx hb dX8_goOn_32 (by decide) (fun c_50 => ?_) (fun c_50 => ?_)
          · have f_50 := z_le c_50 kl_10 rfl
            exact False.elim (by omega)
          · have f_50 := z_nle c_50 kl_10 rfl
            refine lv_iconst (v := 0) hx hb dX8_goOn_35 (by decide) ?_
            refine lv_istore (lv' := [(5, .int 0), (0, .ref h0), (2, .int p1), (3, .int p2), (4, .int v3_4)]) hx hb dX8_goOn_36 hl (by decide) rfl (fun ls hl => ?_)
            have := kl_0
            exact b38 3 H3 lc3 ls v3_4 0 (by omega) gH3 (lv_sub hl [1, 2, 3, 4, 0] rfl) (by omega) (by omega) (by omega) (by omega)
  refine lv_iload_n hx hb dX8_goOn_0 rfl (lv_at hl 1 rfl) ?_
  refine lv_istore (lv' := [(4, .int p0), (0, .ref h0), (1, .int p0), (2, .int p1), (3, .int p2)]) hx hb dX8_goOn_1 hl (by decide) rfl (fun ls hl => ?_)
  exact b3 61 H0 [] ls p0 (by omega) hG0 (lv_sub hl [1, 3, 4, 0] rfl) (by omega) (by omega)

def rm_X8_goOn_d4 : Room := { frames := 11, cells := 0, slots := 0, locals := 286 }
abbrev wS_X8_goOn_d4 : List (Nat × Nat) := [(5, 0), (5, 1), (5, 2), (5, 3), (5, 4), (5, 5), (5, 6), (9, 0), (9, 1), (9, 2), (9, 3)]
set_option maxRecDepth 100000 in
set_option maxHeartbeats 4000000 in
theorem c_X8_goOn_d4 (l : Launch) (E : zE) (hV : zV E) (H0 : Heap) (hT0 : HT E H0) (h0 : Nat) (kh0 : eK E h0 = 9) (p0 : Int32) (p0_lo : 0 ≤ p0.toInt) (p0_hi : p0.toInt ≤ 60) (p1 : Int32) (p1_lo : 4 ≤ p1.toInt) (p1_hi : p1.toInt ≤ 4) (p2 : Int32) : Met l yX8_goOn (zws yX8_goOn cX8_goOn 6 none) rm_X8_goOn_d4 (zP E H0 [.ref h0, .int p0, .int p1, .int p2]) (zQV E E wS_X8_goOn_d4 (fun H1 => True)) 0 0 (zfr E) := by
  refine zEnt (by decide) (Nat.le_of_ble_eq_true rfl) (fun p e s m args below meth c ls Q B hr hlk hh hQ hl => ?_)
  have hx := B.1
  have hb := B.2.1
  have hG0 : zG E wS_X8_goOn_d4 H0 H0 [] := zG.rf hT0
  have hl : lv_has ls 6 [(0, .ref h0), (1, .int p0), (2, .int p1), (3, .int p2)] := hl
  have b38 : ∀ (n38 : Nat) (H38 : Heap) (lc38 : List Loc) (ls : Array Slot) (v38_4 : Int32) (v38_5 : Int32), 2 - v38_5.toInt < (n38 : Int) → zG E wS_X8_goOn_d4 H0 H38 lc38 → lv_has ls 6 [(0, .ref h0), (2, .int p1), (3, .int p2), (4, .int v38_4), (5, .int v38_5)] → 0 ≤ v38_4.toInt → v38_4.toInt ≤ 59 → 0 ≤ v38_5.toInt → v38_5.toInt ≤ 2 → W p l e rm_X8_goOn_d4 s m args below meth c H38 lc38 0 0 Q (F0 m 38 ls []) := by
    intro n38
    induction n38 with
    | zero =>
      intro H38 lc38 ls v38_4 v38_5 hm38 gH38 hl f38_1 f38_2 f38_3 f38_4
      exact absurd hm38 (by omega)
    | succ n38 ih38 =>
      intro H38 lc38 ls v38_4 v38_5 hm38 gH38 hl f38_1 f38_2 f38_3 f38_4
      have b117 : ∀ (H117 : Heap) (lc117 : List Loc) (ls : Array Slot) (u117_h0_7 : Nat) (u117_h0_8 : Nat), zG E wS_X8_goOn_d4 H0 H117 lc117 → lv_has ls 6 [(0, .ref h0), (2, .int p1), (3, .int p2), (4, .int v38_4), (5, .int v38_5)] → eK E u117_h0_7 = 47 → eK E u117_h0_8 = 47 → v38_5.toInt ≤ 1 → sl H117 h0 (zix E 9 7) = some (.ref u117_h0_7) → sl H117 h0 (zix E 9 8) = some (.ref u117_h0_8) → W p l e rm_X8_goOn_d4 s m args below meth c H117 lc117 0 0 Q (F0 m 117 ls []) := by
        intro H117 lc117 ls u117_h0_7 u117_h0_8 gH117 hl k_u117_h0_7 k_u117_h0_8 f117_1 s117_u117_h0_7 s117_u117_h0_8
        obtain ⟨x_1, e_1⟩ : ∃ y : Int32, (v38_5 : Int32) + Int32.ofInt 1 = y := ⟨_, rfl⟩
        refine lv_iinc (v := x_1) (lv' := [(5, .int x_1), (0, .ref h0), (2, .int p1), (3, .int p2), (4, .int v38_4)]) hx hb dX8_goOn_117 hl (k := 4) rfl e_1 (by decide) rfl (fun ls hl => ?_)
        have t_1 := z_inc2 e_1 rfl (by decide) (by omega) (by omega)
        refine lv_goto (tgt := 38) hx hb dX8_goOn_120 (by decide) ?_
        exact ih38 H117 lc117 ls v38_4 x_1 (by omega) gH117 (lv_sub hl [1, 2, 3, 4, 0] rfl) (by omega) (by omega) (by omega) (by omega)
      have b94 : ∀ (H94 : Heap) (lc94 : List Loc) (ls : Array Slot) (w94_0 : Int32) (w94_1 : Int32) (u94_h0_7 : Nat) (u94_h0_8 : Nat), zG E wS_X8_goOn_d4 H0 H94 lc94 → lv_has ls 6 [(0, .ref h0), (2, .int p1), (3, .int p2), (4, .int v38_4), (5, .int v38_5)] → eK E u94_h0_7 = 47 → eK E u94_h0_8 = 47 → v38_5.toInt ≤ 1 → 0 ≤ w94_0.toInt → w94_0.toInt ≤ 1 → 5 ≤ w94_1.toInt → w94_1.toInt ≤ 5 → sl H94 h0 (zix E 9 7) = some (.ref u94_h0_7) → sl H94 h0 (zix E 9 8) = some (.ref u94_h0_8) → W p l e rm_X8_goOn_d4 s m args below meth c H94 lc94 0 0 Q (F0 m 94 ls [.int w94_0, .int w94_1, .int v38_4, .ref h0]) := by
        intro H94 lc94 ls w94_0 w94_1 u94_h0_7 u94_h0_8 gH94 hl k_u94_h0_7 k_u94_h0_8 f94_1 f94_2 f94_3 f94_4 f94_5 s94_u94_h0_7 s94_u94_h0_8
        refine zkI (zrV (rest := []) B (c_X8_canHappen l E hV H94 gH94.1 h0 kh0 v38_4 (by omega) (by omega) w94_1 (by omega) (by omega) w94_0 (by omega) (by omega)) cl_RX8_66 gH94.1 kh0 rfl rfl rfl rfl hl.1 rfl (Nat.le_of_ble_eq_true rfl) dX8_goOn_94 rfl rfl ⟨rfl, rfl⟩ ⟨Nat.zero_le _, Nat.zero_le _⟩ (zO.of gH94 hh)) gH94 rfl (fun x_2 H2 lc2 hp_2 gH2 rH2 => ?_)
        have s_3 := rH2.keep hV kh0 rfl s94_u94_h0_7
        have s_4 := rH2.keep hV kh0 rfl s94_u94_h0_8
        obtain ⟨hp_2_1, hp_2_2⟩ := hp_2
        refine lv_if_eq (tgt := 117) hx hb dX8_goOn_97 (by decide) (fun c_5 => ?_) (fun c_5 => ?_)
        · have f_5 := z_eq c_5 rfl kl_0
          exact b117 H2 lc2 ls u94_h0_7 u94_h0_8 gH2 (lv_sub hl [0, 1, 2, 3, 4] rfl) k_u94_h0_7 k_u94_h0_8 (by omega) s_3 s_4
        · have f_5 := z_ne c_5 rfl kl_0
          refine lv_aload_n hx hb dX8_goOn_100 rfl (lv_at hl 0 rfl) ?_
          refine lv_iload hx hb dX8_goOn_101 (lv_at hl 3 rfl) ?_
          refine lv_iconst (v := 1) hx hb dX8_goOn_103 (by decide) ?_
          refine lv_iadd hx hb dX8_goOn_104 ?_
          refine lv_topi (fun x_6 e_6 => ?_)
          have t_6 := z_add e_6 rfl kl_1 (by omega) (by omega)
          refine lv_iload_n hx hb dX8_goOn_105 rfl (lv_at hl 1 rfl) ?_
          refine lv_iconst (v := 1) hx hb dX8_goOn_106 (by decide) ?_
          refine lv_iadd hx hb dX8_goOn_107 ?_
          refine lv_topi (fun x_7 e_7 => ?_)
          have t_7 := z_add e_7 rfl kl_1 (by omega) (by omega)
          refine lv_iload_n hx hb dX8_goOn_108 rfl (lv_at hl 2 rfl) ?_
          refine lv_iload hx hb dX8_goOn_109 (lv_at hl 4 rfl) ?_
          refine lv_iload_n hx hb dX8_goOn_111 rfl (lv_at hl 1 rfl) ?_
          refine lv_ishl hx hb dX8_goOn_112 ?_
          refine lv_topi (fun x_8 e_8 => ?_)
          have t_8 := z_shlV (A := 1) 4 e_8 rfl rfl (by omega) (by omega) rfl (by omega) (by omega) (by decide)
          refine lv_ior hx hb dX8_goOn_113 ?_
          refine lv_topi (fun x_9 e_9 => ?_)
          refine zkV (zrV (rest := []) B (c_X8_goOn_d5 l E hV H2 gH2.1 h0 kh0 x_6 (by omega) (by omega) x_7 (by omega) (by omega) x_9) cl_RX8_70 gH2.1 kh0 rfl rfl rfl rfl hl.1 rfl (Nat.le_of_ble_eq_true rfl) dX8_goOn_114 rfl rfl ⟨rfl, rfl⟩ ⟨Nat.zero_le _, Nat.zero_le _⟩ (zO.of gH2 hh)) gH2 rfl (fun H10 lc10 hp_10 gH10 rH10 => ?_)
          have s_11 := rH10.keep hV kh0 rfl s_3
          have s_12 := rH10.keep hV kh0 rfl s_4
          exact b117 H10 lc10 ls u94_h0_7 u94_h0_8 gH10 (lv_sub hl [0, 1, 2, 3, 4] rfl) k_u94_h0_7 k_u94_h0_8 (by omega) s_11 s_12
      refine lv_iload hx hb dX8_goOn_38 (lv_at hl 4 rfl) ?_
      refine lv_iconst (v := 1) hx hb dX8_goOn_40 (by decide) ?_
      refine lv_icmp_gt (tgt := 123) hx hb dX8_goOn_41 (by decide) (fun c_13 => ?_) (fun c_13 => ?_)
      · have f_13 := z_lt c_13 kl_1 rfl
        exact rtV B hr hlk hh hQ gH38 trivial dX8_goOn_123
      · have f_13 := z_nlt c_13 kl_1 rfl
        refine lv_aload_n hx hb dX8_goOn_44 rfl (lv_at hl 0 rfl) ?_
        refine g_getR B fl_RX8_26 gH38.1 kh0 rfl rfl rfl rfl rfl dX8_goOn_45 (fun q_14 s_14 k_q_14 => ?_)
        refine lv_iload_n hx hb dX8_goOn_48 rfl (lv_at hl 1 rfl) ?_
        refine lv_iconst (v := 1) hx hb dX8_goOn_49 (by decide) ?_
        refine lv_iadd hx hb dX8_goOn_50 ?_
        refine lv_topi (fun x_15 e_15 => ?_)
        have t_15 := z_add e_15 rfl kl_1 (by omega) (by omega)
        refine g_aaldI (i := x_15) (N := 11) B gH38.1 k_q_14 rfl rfl rfl rfl rfl (by omega) (by omega) rfl dX8_goOn_51 (fun q_16 s_16 k_q_16 => ?_)
        refine lv_aload_n hx hb dX8_goOn_52 rfl (lv_at hl 0 rfl) ?_
        refine g_get B fl_RX8_26 gH38.1 kh0 rfl rfl rfl dX8_goOn_53 s_14 ?_
        refine lv_iload_n hx hb dX8_goOn_56 rfl (lv_at hl 1 rfl) ?_
        refine g_aaldI (i := p1) (N := 11) B gH38.1 k_q_14 rfl rfl rfl rfl rfl (by omega) (by omega) rfl dX8_goOn_57 (fun q_17 s_17 k_q_17 => ?_)
        refine zkV (zrV (rest := []) B (c_X4_copyOf l E hV H38 gH38.1 q_16 k_q_16 q_17 k_q_17) cl_RX8_55 gH38.1 k_q_16 rfl rfl rfl rfl hl.1 rfl (Nat.le_of_ble_eq_true rfl) dX8_goOn_58 rfl rfl ⟨rfl, rfl⟩ ⟨Nat.zero_le _, Nat.zero_le _⟩ (zO.of gH38 hh)) gH38 rfl (fun H18 lc18 hp_18 gH18 rH18 => ?_)
        have s_19 := rH18.keep hV kh0 rfl s_14
        have s_20 := rH18.keepA k_q_14 rfl s_16
        have s_21 := rH18.keepA k_q_14 rfl s_17
        refine lv_aload_n hx hb dX8_goOn_61 rfl (lv_at hl 0 rfl) ?_
        refine g_getR B fl_RX8_30 gH18.1 kh0 rfl rfl rfl rfl rfl dX8_goOn_62 (fun q_22 s_22 k_q_22 => ?_)
        refine lv_iload_n hx hb dX8_goOn_65 rfl (lv_at hl 1 rfl) ?_
        refine lv_iconst (v := 1) hx hb dX8_goOn_66 (by decide) ?_
        refine lv_iadd hx hb dX8_goOn_67 ?_
        refine lv_topi (fun x_23 e_23 => ?_)
        have t_23 := z_add e_23 rfl kl_1 (by omega) (by omega)
        refine g_aaldI (i := x_23) (N := 11) B gH18.1 k_q_22 rfl rfl rfl rfl rfl (by omega) (by omega) rfl dX8_goOn_68 (fun q_24 s_24 k_q_24 => ?_)
        refine lv_aload_n hx hb dX8_goOn_69 rfl (lv_at hl 0 rfl) ?_
        refine g_get B fl_RX8_30 gH18.1 kh0 rfl rfl rfl dX8_goOn_70 s_22 ?_
        refine lv_iload_n hx hb dX8_goOn_73 rfl (lv_at hl 1 rfl) ?_
        refine g_aaldI (i := p1) (N := 11) B gH18.1 k_q_22 rfl rfl rfl rfl rfl (by omega) (by omega) rfl dX8_goOn_74 (fun q_25 s_25 k_q_25 => ?_)
        refine zkV (zrV (rest := []) B (c_X4_copyOf l E hV H18 gH18.1 q_24 k_q_24 q_25 k_q_25) cl_RX8_55 gH18.1 k_q_24 rfl rfl rfl rfl hl.1 rfl (Nat.le_of_ble_eq_true rfl) dX8_goOn_75 rfl rfl ⟨rfl, rfl⟩ ⟨Nat.zero_le _, Nat.zero_le _⟩ (zO.of gH18 hh)) gH18 rfl (fun H26 lc26 hp_26 gH26 rH26 => ?_)
        have s_27 := rH26.keep hV kh0 rfl s_19
        have s_28 := rH26.keepA k_q_14 rfl s_20
        have s_29 := rH26.keepA k_q_14 rfl s_21
        have s_30 := rH26.keep hV kh0 rfl s_22
        have s_31 := rH26.keepA k_q_22 rfl s_24
        have s_32 := rH26.keepA k_q_22 rfl s_25
        refine lv_aload_n hx hb dX8_goOn_78 rfl (lv_at hl 0 rfl) ?_
        refine lv_iload hx hb dX8_goOn_79 (lv_at hl 3 rfl) ?_
        refine lv_iload_n hx hb dX8_goOn_81 rfl (lv_at hl 1 rfl) ?_
        refine lv_iconst (v := 1) hx hb dX8_goOn_82 (by decide) ?_
        refine lv_iadd hx hb dX8_goOn_83 ?_
        refine lv_topi (fun x_33 e_33 => ?_)
        have t_33 := z_add e_33 rfl kl_1 (by omega) (by omega)
        refine lv_iload hx hb dX8_goOn_84 (lv_at hl 4 rfl) ?_
        refine lv_if_ne (tgt := 93) hx hb dX8_goOn_86 (by decide) (fun c_34 => ?_) (fun c_34 => ?_)
        · have f_34 := z_ne c_34 rfl kl_0
          refine lv_iconst (v := 0) hx hb dX8_goOn_93 (by decide) ?_
          have := kl_0
          exact b94 H26 lc26 ls 0 x_33 q_14 q_22 gH26 (lv_sub hl [0, 1, 2, 3, 4] rfl) k_q_14 k_q_22 (by omega) (by omega) (by omega) (by omega) (by omega) s_27 s_30
        · have f_34 := z_eq c_34 rfl kl_0
          refine lv_iconst (v := 1) hx hb dX8_goOn_89 (by decide) ?_
          refine lv_goto (tgt := 94) hx hb dX8_goOn_90 (by decide) ?_
          have := kl_1
          exact b94 H26 lc26 ls 1 x_33 q_14 q_22 gH26 (lv_sub hl [0, 1, 2, 3, 4] rfl) k_q_14 k_q_22 (by omega) (by omega) (by omega) (by omega) (by omega) s_27 s_30
  have b3 : ∀ (n3 : Nat) (H3 : Heap) (lc3 : List Loc) (ls : Array Slot) (v3_4 : Int32), 60 - v3_4.toInt < (n3 : Int) → zG E wS_X8_goOn_d4 H0 H3 lc3 → lv_has ls 6 [(0, .ref h0), (2, .int p1), (3, .int p2), (4, .int v3_4)] → 0 ≤ v3_4.toInt → v3_4.toInt ≤ 60 → W p l e rm_X8_goOn_d4 s m args below meth c H3 lc3 0 0 Q (F0 m 3 ls []) := by
    intro n3
    induction n3 with
    | zero =>
      intro H3 lc3 ls v3_4 hm3 gH3 hl f3_1 f3_2
      exact absurd hm3 (by omega)
    | succ n3 ih3 =>
      intro H3 lc3 ls v3_4 hm3 gH3 hl f3_1 f3_2
      have b124 : ∀ (ls : Array Slot) (u124_h0_5 : Nat), lv_has ls 6 [(0, .ref h0), (2, .int p1), (3, .int p2), (4, .int v3_4)] → eK E u124_h0_5 = 4 → v3_4.toInt ≤ 59 → sl H3 h0 (zix E 9 5) = some (.ref u124_h0_5) → W p l e rm_X8_goOn_d4 s m args below meth c H3 lc3 0 0 Q (F0 m 124 ls []) := by
        intro ls u124_h0_5 hl k_u124_h0_5 f124_1 s124_u124_h0_5
        refine lv_aload_n hx hb dX8_goOn_124 rfl (lv_at hl 0 rfl) ?_
        refine lv_iload hx hb dX8_goOn_125 (lv_at hl 3 rfl) ?_
        refine lv_iload_n hx hb dX8_goOn_127 rfl (lv_at hl 1 rfl) ?_
        refine lv_aload_n hx hb dX8_goOn_128 rfl (lv_at hl 0 rfl) ?_
        refine g_get B fl_RX8_40 gH3.1 kh0 rfl rfl rfl dX8_goOn_129 s124_u124_h0_5 ?_
        refine g_getR B fl_RX8_74 gH3.1 k_u124_h0_5 rfl rfl rfl rfl rfl dX8_goOn_132 (fun q_35 s_35 k_q_35 => ?_)
        refine lv_iload hx hb dX8_goOn_135 (lv_at hl 3 rfl) ?_
        refine g_zaldI (i := v3_4) (N := 240) B gH3.1 k_q_35 rfl rfl rfl rfl (by omega) (by omega) rfl dX8_goOn_137 (fun x_36 s_36 a_36 b_36 => ?_)
        refine zkI (zrV (rest := []) B (c_X8_canHappen l E hV H3 gH3.1 h0 kh0 v3_4 (by omega) (by omega) p1 (by omega) (by omega) x_36 (by omega) (by omega)) cl_RX8_66 gH3.1 kh0 rfl rfl rfl rfl hl.1 rfl (Nat.le_of_ble_eq_true rfl) dX8_goOn_138 rfl rfl ⟨rfl, rfl⟩ ⟨Nat.zero_le _, Nat.zero_le _⟩ (zO.of gH3 hh)) gH3 rfl (fun x_37 H37 lc37 hp_37 gH37 rH37 => ?_)
        have s_38 := rH37.keep hV kh0 rfl s124_u124_h0_5
        have s_39 := rH37.keep hV k_u124_h0_5 rfl s_35
        have s_40 := rH37.keepA k_q_35 rfl s_36
        obtain ⟨hp_37_1, hp_37_2⟩ := hp_37
        refine lv_if_ne (tgt := 145) hx hb dX8_goOn_141 (by decide) (fun c_41 => ?_) (fun c_41 => ?_)
        · have f_41 := z_ne c_41 rfl kl_0
          obtain ⟨x_42, e_42⟩ : ∃ y : Int32, (v3_4 : Int32) + Int32.ofInt 1 = y := ⟨_, rfl⟩
          refine lv_iinc (v := x_42) (lv' := [(4, .int x_42), (0, .ref h0), (2, .int p1), (3, .int p2)]) hx hb dX8_goOn_145 hl (k := 3) rfl e_42 (by decide) rfl (fun ls hl => ?_)
          have t_42 := z_inc2 e_42 rfl (by decide) (by omega) (by omega)
          refine lv_goto (tgt := 3) hx hb dX8_goOn_148 (by decide) ?_
          exact ih3 H37 lc37 ls x_42 (by omega) gH37 (lv_sub hl [1, 2, 3, 0] rfl) (by omega) (by omega)
        · have f_41 := z_eq c_41 rfl kl_0
          exact rtV B hr hlk hh hQ gH37 trivial dX8_goOn_144
      refine lv_iload hx hb dX8_goOn_3 (lv_at hl 3 rfl) ?_
      refine lv_aload_n hx hb dX8_goOn_5 rfl (lv_at hl 0 rfl) ?_
      refine g_getR B fl_RX8_40 gH3.1 kh0 rfl rfl rfl rfl rfl dX8_goOn_6 (fun q_43 s_43 k_q_43 => ?_)
      refine g_getI B fl_RX8_59 gH3.1 k_q_43 rfl rfl rfl rfl rfl dX8_goOn_9 (fun x_44 s_44 a_44 b_44 => ?_)
      refine lv_icmp_ge (tgt := 151) hx hb dX8_goOn_12 (by decide) (fun c_45 => ?_) (fun c_45 => ?_)
      · have f_45 := z_le c_45 rfl rfl
        refine lv_aload_n hx hb dX8_goOn_151 rfl (lv_at hl 0 rfl) ?_
        refine lv_iload_n hx hb dX8_goOn_152 rfl (lv_at hl 1 rfl) ?_
        refine lv_iload_n hx hb dX8_goOn_153 rfl (lv_at hl 2 rfl) ?_
        refine zkV (zrV (rest := []) B (c_X8_add l E hV H3 gH3.1 h0 kh0 p1 p2) cl_RX8_78 gH3.1 kh0 rfl rfl rfl rfl hl.1 rfl (Nat.le_of_ble_eq_true rfl) dX8_goOn_154 rfl rfl ⟨rfl, rfl⟩ ⟨Nat.zero_le _, Nat.zero_le _⟩ (zO.of gH3 hh)) gH3 rfl (fun H46 lc46 hp_46 gH46 rH46 => ?_)
        exact rtV B hr hlk hh hQ gH46 trivial dX8_goOn_157
      · have f_45 := z_nle c_45 rfl rfl
        refine lv_aload_n hx hb dX8_goOn_15 rfl (lv_at hl 0 rfl) ?_
        refine g_get B fl_RX8_40 gH3.1 kh0 rfl rfl rfl dX8_goOn_16 s_43 ?_
        refine g_getR B fl_RX8_62 gH3.1 k_q_43 rfl rfl rfl rfl rfl dX8_goOn_19 (fun q_47 s_47 k_q_47 => ?_)
        refine lv_iload hx hb dX8_goOn_22 (lv_at hl 3 rfl) ?_
        refine g_ialdI (i := v3_4) (N := 240) B gH3.1 k_q_47 rfl rfl rfl rfl (by omega) (by omega) rfl dX8_goOn_24 (fun x_48 s_48 a_48 b_48 => ?_)
        refine lv_iconst (v := (-1)) hx hb dX8_goOn_25 (by decide) ?_
        refine lv_icmp_eq (tgt := 124) hx hb dX8_goOn_26 (by decide) (fun c_49 => ?_) (fun c_49 => ?_)
        · have f_49 := z_eq c_49 rfl kl_m1
          exact b124 ls q_43 (lv_sub hl [0, 1, 2, 3] rfl) k_q_43 (by omega) s_43
        · have f_49 := z_ne c_49 rfl kl_m1
          refine lv_iload_n hx hb dX8_goOn_29 rfl (lv_at hl 1 rfl) ?_
          refine lv_bipush (v := 10) hx hb dX8_goOn_30 (by decide) ?_
          refine lv_icmp_ge (tgt := 124) hx hb dX8_goOn_32 (by decide) (fun c_50 => ?_) (fun c_50 => ?_)
          · have f_50 := z_le c_50 kl_10 rfl
            exact False.elim (by omega)
          · have f_50 := z_nle c_50 kl_10 rfl
            refine lv_iconst (v := 0) hx hb dX8_goOn_35 (by decide) ?_
            refine lv_istore (lv' := [(5, .int 0), (0, .ref h0), (2, .int p1), (3, .int p2), (4, .int v3_4)]) hx hb dX8_goOn_36 hl (by decide) rfl (fun ls hl => ?_)
            have := kl_0
            exact b38 3 H3 lc3 ls v3_4 0 (by omega) gH3 (lv_sub hl [1, 2, 3, 4, 0] rfl) (by omega) (by omega) (by omega) (by omega)
  refine lv_iload_n hx hb dX8_goOn_0 rfl (lv_at hl 1 rfl) ?_
  refine lv_istore (lv' := [(4, .int p0), (0, .ref h0), (1, .int p0), (2, .int p1), (3, .int p2)]) hx hb dX8_goOn_1 hl (by decide) rfl (fun ls hl => ?_)
  exact b3 61 H0 [] ls p0 (by omega) hG0 (lv_sub hl [1, 3, 4, 0] rfl) (by omega) (by omega)

def rm_X8_goOn_d3 : Room := { frames := 12, cells := 0, slots := 0, locals := 311 }
abbrev wS_X8_goOn_d3 : List (Nat × Nat) := [(5, 0), (5, 1), (5, 2), (5, 3), (5, 4), (5, 5), (5, 6), (9, 0), (9, 1), (9, 2), (9, 3)]
set_option maxRecDepth 100000 in
set_option maxHeartbeats 4000000 in
theorem c_X8_goOn_d3 (l : Launch) (E : zE) (hV : zV E) (H0 : Heap) (hT0 : HT E H0) (h0 : Nat) (kh0 : eK E h0 = 9) (p0 : Int32) (p0_lo : 0 ≤ p0.toInt) (p0_hi : p0.toInt ≤ 60) (p1 : Int32) (p1_lo : 3 ≤ p1.toInt) (p1_hi : p1.toInt ≤ 3) (p2 : Int32) : Met l yX8_goOn (zws yX8_goOn cX8_goOn 6 none) rm_X8_goOn_d3 (zP E H0 [.ref h0, .int p0, .int p1, .int p2]) (zQV E E wS_X8_goOn_d3 (fun H1 => True)) 0 0 (zfr E) := by
  refine zEnt (by decide) (Nat.le_of_ble_eq_true rfl) (fun p e s m args below meth c ls Q B hr hlk hh hQ hl => ?_)
  have hx := B.1
  have hb := B.2.1
  have hG0 : zG E wS_X8_goOn_d3 H0 H0 [] := zG.rf hT0
  have hl : lv_has ls 6 [(0, .ref h0), (1, .int p0), (2, .int p1), (3, .int p2)] := hl
  have b38 : ∀ (n38 : Nat) (H38 : Heap) (lc38 : List Loc) (ls : Array Slot) (v38_4 : Int32) (v38_5 : Int32), 2 - v38_5.toInt < (n38 : Int) → zG E wS_X8_goOn_d3 H0 H38 lc38 → lv_has ls 6 [(0, .ref h0), (2, .int p1), (3, .int p2), (4, .int v38_4), (5, .int v38_5)] → 0 ≤ v38_4.toInt → v38_4.toInt ≤ 59 → 0 ≤ v38_5.toInt → v38_5.toInt ≤ 2 → W p l e rm_X8_goOn_d3 s m args below meth c H38 lc38 0 0 Q (F0 m 38 ls []) := by
    intro n38
    induction n38 with
    | zero =>
      intro H38 lc38 ls v38_4 v38_5 hm38 gH38 hl f38_1 f38_2 f38_3 f38_4
      exact absurd hm38 (by omega)
    | succ n38 ih38 =>
      intro H38 lc38 ls v38_4 v38_5 hm38 gH38 hl f38_1 f38_2 f38_3 f38_4
      have b117 : ∀ (H117 : Heap) (lc117 : List Loc) (ls : Array Slot) (u117_h0_7 : Nat) (u117_h0_8 : Nat), zG E wS_X8_goOn_d3 H0 H117 lc117 → lv_has ls 6 [(0, .ref h0), (2, .int p1), (3, .int p2), (4, .int v38_4), (5, .int v38_5)] → eK E u117_h0_7 = 47 → eK E u117_h0_8 = 47 → v38_5.toInt ≤ 1 → sl H117 h0 (zix E 9 7) = some (.ref u117_h0_7) → sl H117 h0 (zix E 9 8) = some (.ref u117_h0_8) → W p l e rm_X8_goOn_d3 s m args below meth c H117 lc117 0 0 Q (F0 m 117 ls []) := by
        intro H117 lc117 ls u117_h0_7 u117_h0_8 gH117 hl k_u117_h0_7 k_u117_h0_8 f117_1 s117_u117_h0_7 s117_u117_h0_8
        obtain ⟨x_1, e_1⟩ : ∃ y : Int32, (v38_5 : Int32) + Int32.ofInt 1 = y := ⟨_, rfl⟩
        refine lv_iinc (v := x_1) (lv' := [(5, .int x_1), (0, .ref h0), (2, .int p1), (3, .int p2), (4, .int v38_4)]) hx hb dX8_goOn_117 hl (k := 4) rfl e_1 (by decide) rfl (fun ls hl => ?_)
        have t_1 := z_inc2 e_1 rfl (by decide) (by omega) (by omega)
        refine lv_goto (tgt := 38) hx hb dX8_goOn_120 (by decide) ?_
        exact ih38 H117 lc117 ls v38_4 x_1 (by omega) gH117 (lv_sub hl [1, 2, 3, 4, 0] rfl) (by omega) (by omega) (by omega) (by omega)
      have b94 : ∀ (H94 : Heap) (lc94 : List Loc) (ls : Array Slot) (w94_0 : Int32) (w94_1 : Int32) (u94_h0_7 : Nat) (u94_h0_8 : Nat), zG E wS_X8_goOn_d3 H0 H94 lc94 → lv_has ls 6 [(0, .ref h0), (2, .int p1), (3, .int p2), (4, .int v38_4), (5, .int v38_5)] → eK E u94_h0_7 = 47 → eK E u94_h0_8 = 47 → v38_5.toInt ≤ 1 → 0 ≤ w94_0.toInt → w94_0.toInt ≤ 1 → 4 ≤ w94_1.toInt → w94_1.toInt ≤ 4 → sl H94 h0 (zix E 9 7) = some (.ref u94_h0_7) → sl H94 h0 (zix E 9 8) = some (.ref u94_h0_8) → W p l e rm_X8_goOn_d3 s m args below meth c H94 lc94 0 0 Q (F0 m 94 ls [.int w94_0, .int w94_1, .int v38_4, .ref h0]) := by
        intro H94 lc94 ls w94_0 w94_1 u94_h0_7 u94_h0_8 gH94 hl k_u94_h0_7 k_u94_h0_8 f94_1 f94_2 f94_3 f94_4 f94_5 s94_u94_h0_7 s94_u94_h0_8
        refine zkI (zrV (rest := []) B (c_X8_canHappen l E hV H94 gH94.1 h0 kh0 v38_4 (by omega) (by omega) w94_1 (by omega) (by omega) w94_0 (by omega) (by omega)) cl_RX8_66 gH94.1 kh0 rfl rfl rfl rfl hl.1 rfl (Nat.le_of_ble_eq_true rfl) dX8_goOn_94 rfl rfl ⟨rfl, rfl⟩ ⟨Nat.zero_le _, Nat.zero_le _⟩ (zO.of gH94 hh)) gH94 rfl (fun x_2 H2 lc2 hp_2 gH2 rH2 => ?_)
        have s_3 := rH2.keep hV kh0 rfl s94_u94_h0_7
        have s_4 := rH2.keep hV kh0 rfl s94_u94_h0_8
        obtain ⟨hp_2_1, hp_2_2⟩ := hp_2
        refine lv_if_eq (tgt := 117) hx hb dX8_goOn_97 (by decide) (fun c_5 => ?_) (fun c_5 => ?_)
        · have f_5 := z_eq c_5 rfl kl_0
          exact b117 H2 lc2 ls u94_h0_7 u94_h0_8 gH2 (lv_sub hl [0, 1, 2, 3, 4] rfl) k_u94_h0_7 k_u94_h0_8 (by omega) s_3 s_4
        · have f_5 := z_ne c_5 rfl kl_0
          refine lv_aload_n hx hb dX8_goOn_100 rfl (lv_at hl 0 rfl) ?_
          refine lv_iload hx hb dX8_goOn_101 (lv_at hl 3 rfl) ?_
          refine lv_iconst (v := 1) hx hb dX8_goOn_103 (by decide) ?_
          refine lv_iadd hx hb dX8_goOn_104 ?_
          refine lv_topi (fun x_6 e_6 => ?_)
          have t_6 := z_add e_6 rfl kl_1 (by omega) (by omega)
          refine lv_iload_n hx hb dX8_goOn_105 rfl (lv_at hl 1 rfl) ?_
          refine lv_iconst (v := 1) hx hb dX8_goOn_106 (by decide) ?_
          refine lv_iadd hx hb dX8_goOn_107 ?_
          refine lv_topi (fun x_7 e_7 => ?_)
          have t_7 := z_add e_7 rfl kl_1 (by omega) (by omega)
          refine lv_iload_n hx hb dX8_goOn_108 rfl (lv_at hl 2 rfl) ?_
          refine lv_iload hx hb dX8_goOn_109 (lv_at hl 4 rfl) ?_
          refine lv_iload_n hx hb dX8_goOn_111 rfl (lv_at hl 1 rfl) ?_
          refine lv_ishl hx hb dX8_goOn_112 ?_
          refine lv_topi (fun x_8 e_8 => ?_)
          have t_8 := z_shlV (A := 1) 3 e_8 rfl rfl (by omega) (by omega) rfl (by omega) (by omega) (by decide)
          refine lv_ior hx hb dX8_goOn_113 ?_
          refine lv_topi (fun x_9 e_9 => ?_)
          refine zkV (zrV (rest := []) B (c_X8_goOn_d4 l E hV H2 gH2.1 h0 kh0 x_6 (by omega) (by omega) x_7 (by omega) (by omega) x_9) cl_RX8_70 gH2.1 kh0 rfl rfl rfl rfl hl.1 rfl (Nat.le_of_ble_eq_true rfl) dX8_goOn_114 rfl rfl ⟨rfl, rfl⟩ ⟨Nat.zero_le _, Nat.zero_le _⟩ (zO.of gH2 hh)) gH2 rfl (fun H10 lc10 hp_10 gH10 rH10 => ?_)
          have s_11 := rH10.keep hV kh0 rfl s_3
          have s_12 := rH10.keep hV kh0 rfl s_4
          exact b117 H10 lc10 ls u94_h0_7 u94_h0_8 gH10 (lv_sub hl [0, 1, 2, 3, 4] rfl) k_u94_h0_7 k_u94_h0_8 (by omega) s_11 s_12
      refine lv_iload hx hb dX8_goOn_38 (lv_at hl 4 rfl) ?_
      refine lv_iconst (v := 1) hx hb dX8_goOn_40 (by decide) ?_
      refine lv_icmp_gt (tgt := 123) hx hb dX8_goOn_41 (by decide) (fun c_13 => ?_) (fun c_13 => ?_)
      · have f_13 := z_lt c_13 kl_1 rfl
        exact rtV B hr hlk hh hQ gH38 trivial dX8_goOn_123
      · have f_13 := z_nlt c_13 kl_1 rfl
        refine lv_aload_n hx hb dX8_goOn_44 rfl (lv_at hl 0 rfl) ?_
        refine g_getR B fl_RX8_26 gH38.1 kh0 rfl rfl rfl rfl rfl dX8_goOn_45 (fun q_14 s_14 k_q_14 => ?_)
        refine lv_iload_n hx hb dX8_goOn_48 rfl (lv_at hl 1 rfl) ?_
        refine lv_iconst (v := 1) hx hb dX8_goOn_49 (by decide) ?_
        refine lv_iadd hx hb dX8_goOn_50 ?_
        refine lv_topi (fun x_15 e_15 => ?_)
        have t_15 := z_add e_15 rfl kl_1 (by omega) (by omega)
        refine g_aaldI (i := x_15) (N := 11) B gH38.1 k_q_14 rfl rfl rfl rfl rfl (by omega) (by omega) rfl dX8_goOn_51 (fun q_16 s_16 k_q_16 => ?_)
        refine lv_aload_n hx hb dX8_goOn_52 rfl (lv_at hl 0 rfl) ?_
        refine g_get B fl_RX8_26 gH38.1 kh0 rfl rfl rfl dX8_goOn_53 s_14 ?_
        refine lv_iload_n hx hb dX8_goOn_56 rfl (lv_at hl 1 rfl) ?_
        refine g_aaldI (i := p1) (N := 11) B gH38.1 k_q_14 rfl rfl rfl rfl rfl (by omega) (by omega) rfl dX8_goOn_57 (fun q_17 s_17 k_q_17 => ?_)
        refine zkV (zrV (rest := []) B (c_X4_copyOf l E hV H38 gH38.1 q_16 k_q_16 q_17 k_q_17) cl_RX8_55 gH38.1 k_q_16 rfl rfl rfl rfl hl.1 rfl (Nat.le_of_ble_eq_true rfl) dX8_goOn_58 rfl rfl ⟨rfl, rfl⟩ ⟨Nat.zero_le _, Nat.zero_le _⟩ (zO.of gH38 hh)) gH38 rfl (fun H18 lc18 hp_18 gH18 rH18 => ?_)
        have s_19 := rH18.keep hV kh0 rfl s_14
        have s_20 := rH18.keepA k_q_14 rfl s_16
        have s_21 := rH18.keepA k_q_14 rfl s_17
        refine lv_aload_n hx hb dX8_goOn_61 rfl (lv_at hl 0 rfl) ?_
        refine g_getR B fl_RX8_30 gH18.1 kh0 rfl rfl rfl rfl rfl dX8_goOn_62 (fun q_22 s_22 k_q_22 => ?_)
        refine lv_iload_n hx hb dX8_goOn_65 rfl (lv_at hl 1 rfl) ?_
        refine lv_iconst (v := 1) hx hb dX8_goOn_66 (by decide) ?_
        refine lv_iadd hx hb dX8_goOn_67 ?_
        refine lv_topi (fun x_23 e_23 => ?_)
        have t_23 := z_add e_23 rfl kl_1 (by omega) (by omega)
        refine g_aaldI (i := x_23) (N := 11) B gH18.1 k_q_22 rfl rfl rfl rfl rfl (by omega) (by omega) rfl dX8_goOn_68 (fun q_24 s_24 k_q_24 => ?_)
        refine lv_aload_n hx hb dX8_goOn_69 rfl (lv_at hl 0 rfl) ?_
        refine g_get B fl_RX8_30 gH18.1 kh0 rfl rfl rfl dX8_goOn_70 s_22 ?_
        refine lv_iload_n hx hb dX8_goOn_73 rfl (lv_at hl 1 rfl) ?_
        refine g_aaldI (i := p1) (N := 11) B gH18.1 k_q_22 rfl rfl rfl rfl rfl (by omega) (by omega) rfl dX8_goOn_74 (fun q_25 s_25 k_q_25 => ?_)
        refine zkV (zrV (rest := []) B (c_X4_copyOf l E hV H18 gH18.1 q_24 k_q_24 q_25 k_q_25) cl_RX8_55 gH18.1 k_q_24 rfl rfl rfl rfl hl.1 rfl (Nat.le_of_ble_eq_true rfl) dX8_goOn_75 rfl rfl ⟨rfl, rfl⟩ ⟨Nat.zero_le _, Nat.zero_le _⟩ (zO.of gH18 hh)) gH18 rfl (fun H26 lc26 hp_26 gH26 rH26 => ?_)
        have s_27 := rH26.keep hV kh0 rfl s_19
        have s_28 := rH26.keepA k_q_14 rfl s_20
        have s_29 := rH26.keepA k_q_14 rfl s_21
        have s_30 := rH26.keep hV kh0 rfl s_22
        have s_31 := rH26.keepA k_q_22 rfl s_24
        have s_32 := rH26.keepA k_q_22 rfl s_25
        refine lv_aload_n hx hb dX8_goOn_78 rfl (lv_at hl 0 rfl) ?_
        refine lv_iload hx hb dX8_goOn_79 (lv_at hl 3 rfl) ?_
        refine lv_iload_n hx hb dX8_goOn_81 rfl (lv_at hl 1 rfl) ?_
        refine lv_iconst (v := 1) hx hb dX8_goOn_82 (by decide) ?_
        refine lv_iadd hx hb dX8_goOn_83 ?_
        refine lv_topi (fun x_33 e_33 => ?_)
        have t_33 := z_add e_33 rfl kl_1 (by omega) (by omega)
        refine lv_iload hx hb dX8_goOn_84 (lv_at hl 4 rfl) ?_
        refine lv_if_ne (tgt := 93) hx hb dX8_goOn_86 (by decide) (fun c_34 => ?_) (fun c_34 => ?_)
        · have f_34 := z_ne c_34 rfl kl_0
          refine lv_iconst (v := 0) hx hb dX8_goOn_93 (by decide) ?_
          have := kl_0
          exact b94 H26 lc26 ls 0 x_33 q_14 q_22 gH26 (lv_sub hl [0, 1, 2, 3, 4] rfl) k_q_14 k_q_22 (by omega) (by omega) (by omega) (by omega) (by omega) s_27 s_30
        · have f_34 := z_eq c_34 rfl kl_0
          refine lv_iconst (v := 1) hx hb dX8_goOn_89 (by decide) ?_
          refine lv_goto (tgt := 94) hx hb dX8_goOn_90 (by decide) ?_
          have := kl_1
          exact b94 H26 lc26 ls 1 x_33 q_14 q_22 gH26 (lv_sub hl [0, 1, 2, 3, 4] rfl) k_q_14 k_q_22 (by omega) (by omega) (by omega) (by omega) (by omega) s_27 s_30
  have b3 : ∀ (n3 : Nat) (H3 : Heap) (lc3 : List Loc) (ls : Array Slot) (v3_4 : Int32), 60 - v3_4.toInt < (n3 : Int) → zG E wS_X8_goOn_d3 H0 H3 lc3 → lv_has ls 6 [(0, .ref h0), (2, .int p1), (3, .int p2), (4, .int v3_4)] → 0 ≤ v3_4.toInt → v3_4.toInt ≤ 60 → W p l e rm_X8_goOn_d3 s m args below meth c H3 lc3 0 0 Q (F0 m 3 ls []) := by
    intro n3
    induction n3 with
    | zero =>
      intro H3 lc3 ls v3_4 hm3 gH3 hl f3_1 f3_2
      exact absurd hm3 (by omega)
    | succ n3 ih3 =>
      intro H3 lc3 ls v3_4 hm3 gH3 hl f3_1 f3_2
      have b124 : ∀ (ls : Array Slot) (u124_h0_5 : Nat), lv_has ls 6 [(0, .ref h0), (2, .int p1), (3, .int p2), (4, .int v3_4)] → eK E u124_h0_5 = 4 → v3_4.toInt ≤ 59 → sl H3 h0 (zix E 9 5) = some (.ref u124_h0_5) → W p l e rm_X8_goOn_d3 s m args below meth c H3 lc3 0 0 Q (F0 m 124 ls []) := by
        intro ls u124_h0_5 hl k_u124_h0_5 f124_1 s124_u124_h0_5
        refine lv_aload_n hx hb dX8_goOn_124 rfl (lv_at hl 0 rfl) ?_
        refine lv_iload hx hb dX8_goOn_125 (lv_at hl 3 rfl) ?_
        refine lv_iload_n hx hb dX8_goOn_127 rfl (lv_at hl 1 rfl) ?_
        refine lv_aload_n hx hb dX8_goOn_128 rfl (lv_at hl 0 rfl) ?_
        refine g_get B fl_RX8_40 gH3.1 kh0 rfl rfl rfl dX8_goOn_129 s124_u124_h0_5 ?_
        refine g_getR B fl_RX8_74 gH3.1 k_u124_h0_5 rfl rfl rfl rfl rfl dX8_goOn_132 (fun q_35 s_35 k_q_35 => ?_)
        refine lv_iload hx hb dX8_goOn_135 (lv_at hl 3 rfl) ?_
        refine g_zaldI (i := v3_4) (N := 240) B gH3.1 k_q_35 rfl rfl rfl rfl (by omega) (by omega) rfl dX8_goOn_137 (fun x_36 s_36 a_36 b_36 => ?_)
        refine zkI (zrV (rest := []) B (c_X8_canHappen l E hV H3 gH3.1 h0 kh0 v3_4 (by omega) (by omega) p1 (by omega) (by omega) x_36 (by omega) (by omega)) cl_RX8_66 gH3.1 kh0 rfl rfl rfl rfl hl.1 rfl (Nat.le_of_ble_eq_true rfl) dX8_goOn_138 rfl rfl ⟨rfl, rfl⟩ ⟨Nat.zero_le _, Nat.zero_le _⟩ (zO.of gH3 hh)) gH3 rfl (fun x_37 H37 lc37 hp_37 gH37 rH37 => ?_)
        have s_38 := rH37.keep hV kh0 rfl s124_u124_h0_5
        have s_39 := rH37.keep hV k_u124_h0_5 rfl s_35
        have s_40 := rH37.keepA k_q_35 rfl s_36
        obtain ⟨hp_37_1, hp_37_2⟩ := hp_37
        refine lv_if_ne (tgt := 145) hx hb dX8_goOn_141 (by decide) (fun c_41 => ?_) (fun c_41 => ?_)
        · have f_41 := z_ne c_41 rfl kl_0
          obtain ⟨x_42, e_42⟩ : ∃ y : Int32, (v3_4 : Int32) + Int32.ofInt 1 = y := ⟨_, rfl⟩
          refine lv_iinc (v := x_42) (lv' := [(4, .int x_42), (0, .ref h0), (2, .int p1), (3, .int p2)]) hx hb dX8_goOn_145 hl (k := 3) rfl e_42 (by decide) rfl (fun ls hl => ?_)
          have t_42 := z_inc2 e_42 rfl (by decide) (by omega) (by omega)
          refine lv_goto (tgt := 3) hx hb dX8_goOn_148 (by decide) ?_
          exact ih3 H37 lc37 ls x_42 (by omega) gH37 (lv_sub hl [1, 2, 3, 0] rfl) (by omega) (by omega)
        · have f_41 := z_eq c_41 rfl kl_0
          exact rtV B hr hlk hh hQ gH37 trivial dX8_goOn_144
      refine lv_iload hx hb dX8_goOn_3 (lv_at hl 3 rfl) ?_
      refine lv_aload_n hx hb dX8_goOn_5 rfl (lv_at hl 0 rfl) ?_
      refine g_getR B fl_RX8_40 gH3.1 kh0 rfl rfl rfl rfl rfl dX8_goOn_6 (fun q_43 s_43 k_q_43 => ?_)
      refine g_getI B fl_RX8_59 gH3.1 k_q_43 rfl rfl rfl rfl rfl dX8_goOn_9 (fun x_44 s_44 a_44 b_44 => ?_)
      refine lv_icmp_ge (tgt := 151) hx hb dX8_goOn_12 (by decide) (fun c_45 => ?_) (fun c_45 => ?_)
      · have f_45 := z_le c_45 rfl rfl
        refine lv_aload_n hx hb dX8_goOn_151 rfl (lv_at hl 0 rfl) ?_
        refine lv_iload_n hx hb dX8_goOn_152 rfl (lv_at hl 1 rfl) ?_
        refine lv_iload_n hx hb dX8_goOn_153 rfl (lv_at hl 2 rfl) ?_
        refine zkV (zrV (rest := []) B (c_X8_add l E hV H3 gH3.1 h0 kh0 p1 p2) cl_RX8_78 gH3.1 kh0 rfl rfl rfl rfl hl.1 rfl (Nat.le_of_ble_eq_true rfl) dX8_goOn_154 rfl rfl ⟨rfl, rfl⟩ ⟨Nat.zero_le _, Nat.zero_le _⟩ (zO.of gH3 hh)) gH3 rfl (fun H46 lc46 hp_46 gH46 rH46 => ?_)
        exact rtV B hr hlk hh hQ gH46 trivial dX8_goOn_157
      · have f_45 := z_nle c_45 rfl rfl
        refine lv_aload_n hx hb dX8_goOn_15 rfl (lv_at hl 0 rfl) ?_
        refine g_get B fl_RX8_40 gH3.1 kh0 rfl rfl rfl dX8_goOn_16 s_43 ?_
        refine g_getR B fl_RX8_62 gH3.1 k_q_43 rfl rfl rfl rfl rfl dX8_goOn_19 (fun q_47 s_47 k_q_47 => ?_)
        refine lv_iload hx hb dX8_goOn_22 (lv_at hl 3 rfl) ?_
        refine g_ialdI (i := v3_4) (N := 240) B gH3.1 k_q_47 rfl rfl rfl rfl (by omega) (by omega) rfl dX8_goOn_24 (fun x_48 s_48 a_48 b_48 => ?_)
        refine lv_iconst (v := (-1)) hx hb dX8_goOn_25 (by decide) ?_
        refine lv_icmp_eq (tgt := 124) hx hb dX8_goOn_26 (by decide) (fun c_49 => ?_) (fun c_49 => ?_)
        · have f_49 := z_eq c_49 rfl kl_m1
          exact b124 ls q_43 (lv_sub hl [0, 1, 2, 3] rfl) k_q_43 (by omega) s_43
        · have f_49 := z_ne c_49 rfl kl_m1
          refine lv_iload_n hx hb dX8_goOn_29 rfl (lv_at hl 1 rfl) ?_
          refine lv_bipush (v := 10) hx hb dX8_goOn_30 (by decide) ?_
          refine lv_icmp_ge (tgt := 124) hx hb dX8_goOn_32 (by decide) (fun c_50 => ?_) (fun c_50 => ?_)
          · have f_50 := z_le c_50 kl_10 rfl
            exact False.elim (by omega)
          · have f_50 := z_nle c_50 kl_10 rfl
            refine lv_iconst (v := 0) hx hb dX8_goOn_35 (by decide) ?_
            refine lv_istore (lv' := [(5, .int 0), (0, .ref h0), (2, .int p1), (3, .int p2), (4, .int v3_4)]) hx hb dX8_goOn_36 hl (by decide) rfl (fun ls hl => ?_)
            have := kl_0
            exact b38 3 H3 lc3 ls v3_4 0 (by omega) gH3 (lv_sub hl [1, 2, 3, 4, 0] rfl) (by omega) (by omega) (by omega) (by omega)
  refine lv_iload_n hx hb dX8_goOn_0 rfl (lv_at hl 1 rfl) ?_
  refine lv_istore (lv' := [(4, .int p0), (0, .ref h0), (1, .int p0), (2, .int p1), (3, .int p2)]) hx hb dX8_goOn_1 hl (by decide) rfl (fun ls hl => ?_)
  exact b3 61 H0 [] ls p0 (by omega) hG0 (lv_sub hl [1, 3, 4, 0] rfl) (by omega) (by omega)

def rm_X8_goOn_d2 : Room := { frames := 13, cells := 0, slots := 0, locals := 336 }
abbrev wS_X8_goOn_d2 : List (Nat × Nat) := [(5, 0), (5, 1), (5, 2), (5, 3), (5, 4), (5, 5), (5, 6), (9, 0), (9, 1), (9, 2), (9, 3)]
set_option maxRecDepth 100000 in
set_option maxHeartbeats 4000000 in
theorem c_X8_goOn_d2 (l : Launch) (E : zE) (hV : zV E) (H0 : Heap) (hT0 : HT E H0) (h0 : Nat) (kh0 : eK E h0 = 9) (p0 : Int32) (p0_lo : 0 ≤ p0.toInt) (p0_hi : p0.toInt ≤ 60) (p1 : Int32) (p1_lo : 2 ≤ p1.toInt) (p1_hi : p1.toInt ≤ 2) (p2 : Int32) : Met l yX8_goOn (zws yX8_goOn cX8_goOn 6 none) rm_X8_goOn_d2 (zP E H0 [.ref h0, .int p0, .int p1, .int p2]) (zQV E E wS_X8_goOn_d2 (fun H1 => True)) 0 0 (zfr E) := by
  refine zEnt (by decide) (Nat.le_of_ble_eq_true rfl) (fun p e s m args below meth c ls Q B hr hlk hh hQ hl => ?_)
  have hx := B.1
  have hb := B.2.1
  have hG0 : zG E wS_X8_goOn_d2 H0 H0 [] := zG.rf hT0
  have hl : lv_has ls 6 [(0, .ref h0), (1, .int p0), (2, .int p1), (3, .int p2)] := hl
  have b38 : ∀ (n38 : Nat) (H38 : Heap) (lc38 : List Loc) (ls : Array Slot) (v38_4 : Int32) (v38_5 : Int32), 2 - v38_5.toInt < (n38 : Int) → zG E wS_X8_goOn_d2 H0 H38 lc38 → lv_has ls 6 [(0, .ref h0), (2, .int p1), (3, .int p2), (4, .int v38_4), (5, .int v38_5)] → 0 ≤ v38_4.toInt → v38_4.toInt ≤ 59 → 0 ≤ v38_5.toInt → v38_5.toInt ≤ 2 → W p l e rm_X8_goOn_d2 s m args below meth c H38 lc38 0 0 Q (F0 m 38 ls []) := by
    intro n38
    induction n38 with
    | zero =>
      intro H38 lc38 ls v38_4 v38_5 hm38 gH38 hl f38_1 f38_2 f38_3 f38_4
      exact absurd hm38 (by omega)
    | succ n38 ih38 =>
      intro H38 lc38 ls v38_4 v38_5 hm38 gH38 hl f38_1 f38_2 f38_3 f38_4
      have b117 : ∀ (H117 : Heap) (lc117 : List Loc) (ls : Array Slot) (u117_h0_7 : Nat) (u117_h0_8 : Nat), zG E wS_X8_goOn_d2 H0 H117 lc117 → lv_has ls 6 [(0, .ref h0), (2, .int p1), (3, .int p2), (4, .int v38_4), (5, .int v38_5)] → eK E u117_h0_7 = 47 → eK E u117_h0_8 = 47 → v38_5.toInt ≤ 1 → sl H117 h0 (zix E 9 7) = some (.ref u117_h0_7) → sl H117 h0 (zix E 9 8) = some (.ref u117_h0_8) → W p l e rm_X8_goOn_d2 s m args below meth c H117 lc117 0 0 Q (F0 m 117 ls []) := by
        intro H117 lc117 ls u117_h0_7 u117_h0_8 gH117 hl k_u117_h0_7 k_u117_h0_8 f117_1 s117_u117_h0_7 s117_u117_h0_8
        obtain ⟨x_1, e_1⟩ : ∃ y : Int32, (v38_5 : Int32) + Int32.ofInt 1 = y := ⟨_, rfl⟩
        refine lv_iinc (v := x_1) (lv' := [(5, .int x_1), (0, .ref h0), (2, .int p1), (3, .int p2), (4, .int v38_4)]) hx hb dX8_goOn_117 hl (k := 4) rfl e_1 (by decide) rfl (fun ls hl => ?_)
        have t_1 := z_inc2 e_1 rfl (by decide) (by omega) (by omega)
        refine lv_goto (tgt := 38) hx hb dX8_goOn_120 (by decide) ?_
        exact ih38 H117 lc117 ls v38_4 x_1 (by omega) gH117 (lv_sub hl [1, 2, 3, 4, 0] rfl) (by omega) (by omega) (by omega) (by omega)
      have b94 : ∀ (H94 : Heap) (lc94 : List Loc) (ls : Array Slot) (w94_0 : Int32) (w94_1 : Int32) (u94_h0_7 : Nat) (u94_h0_8 : Nat), zG E wS_X8_goOn_d2 H0 H94 lc94 → lv_has ls 6 [(0, .ref h0), (2, .int p1), (3, .int p2), (4, .int v38_4), (5, .int v38_5)] → eK E u94_h0_7 = 47 → eK E u94_h0_8 = 47 → v38_5.toInt ≤ 1 → 0 ≤ w94_0.toInt → w94_0.toInt ≤ 1 → 3 ≤ w94_1.toInt → w94_1.toInt ≤ 3 → sl H94 h0 (zix E 9 7) = some (.ref u94_h0_7) → sl H94 h0 (zix E 9 8) = some (.ref u94_h0_8) → W p l e rm_X8_goOn_d2 s m args below meth c H94 lc94 0 0 Q (F0 m 94 ls [.int w94_0, .int w94_1, .int v38_4, .ref h0]) := by
        intro H94 lc94 ls w94_0 w94_1 u94_h0_7 u94_h0_8 gH94 hl k_u94_h0_7 k_u94_h0_8 f94_1 f94_2 f94_3 f94_4 f94_5 s94_u94_h0_7 s94_u94_h0_8
        refine zkI (zrV (rest := []) B (c_X8_canHappen l E hV H94 gH94.1 h0 kh0 v38_4 (by omega) (by omega) w94_1 (by omega) (by omega) w94_0 (by omega) (by omega)) cl_RX8_66 gH94.1 kh0 rfl rfl rfl rfl hl.1 rfl (Nat.le_of_ble_eq_true rfl) dX8_goOn_94 rfl rfl ⟨rfl, rfl⟩ ⟨Nat.zero_le _, Nat.zero_le _⟩ (zO.of gH94 hh)) gH94 rfl (fun x_2 H2 lc2 hp_2 gH2 rH2 => ?_)
        have s_3 := rH2.keep hV kh0 rfl s94_u94_h0_7
        have s_4 := rH2.keep hV kh0 rfl s94_u94_h0_8
        obtain ⟨hp_2_1, hp_2_2⟩ := hp_2
        refine lv_if_eq (tgt := 117) hx hb dX8_goOn_97 (by decide) (fun c_5 => ?_) (fun c_5 => ?_)
        · have f_5 := z_eq c_5 rfl kl_0
          exact b117 H2 lc2 ls u94_h0_7 u94_h0_8 gH2 (lv_sub hl [0, 1, 2, 3, 4] rfl) k_u94_h0_7 k_u94_h0_8 (by omega) s_3 s_4
        · have f_5 := z_ne c_5 rfl kl_0
          refine lv_aload_n hx hb dX8_goOn_100 rfl (lv_at hl 0 rfl) ?_
          refine lv_iload hx hb dX8_goOn_101 (lv_at hl 3 rfl) ?_
          refine lv_iconst (v := 1) hx hb dX8_goOn_103 (by decide) ?_
          refine lv_iadd hx hb dX8_goOn_104 ?_
          refine lv_topi (fun x_6 e_6 => ?_)
          have t_6 := z_add e_6 rfl kl_1 (by omega) (by omega)
          refine lv_iload_n hx hb dX8_goOn_105 rfl (lv_at hl 1 rfl) ?_
          refine lv_iconst (v := 1) hx hb dX8_goOn_106 (by decide) ?_
          refine lv_iadd hx hb dX8_goOn_107 ?_
          refine lv_topi (fun x_7 e_7 => ?_)
          have t_7 := z_add e_7 rfl kl_1 (by omega) (by omega)
          refine lv_iload_n hx hb dX8_goOn_108 rfl (lv_at hl 2 rfl) ?_
          refine lv_iload hx hb dX8_goOn_109 (lv_at hl 4 rfl) ?_
          refine lv_iload_n hx hb dX8_goOn_111 rfl (lv_at hl 1 rfl) ?_
          refine lv_ishl hx hb dX8_goOn_112 ?_
          refine lv_topi (fun x_8 e_8 => ?_)
          have t_8 := z_shlV (A := 1) 2 e_8 rfl rfl (by omega) (by omega) rfl (by omega) (by omega) (by decide)
          refine lv_ior hx hb dX8_goOn_113 ?_
          refine lv_topi (fun x_9 e_9 => ?_)
          refine zkV (zrV (rest := []) B (c_X8_goOn_d3 l E hV H2 gH2.1 h0 kh0 x_6 (by omega) (by omega) x_7 (by omega) (by omega) x_9) cl_RX8_70 gH2.1 kh0 rfl rfl rfl rfl hl.1 rfl (Nat.le_of_ble_eq_true rfl) dX8_goOn_114 rfl rfl ⟨rfl, rfl⟩ ⟨Nat.zero_le _, Nat.zero_le _⟩ (zO.of gH2 hh)) gH2 rfl (fun H10 lc10 hp_10 gH10 rH10 => ?_)
          have s_11 := rH10.keep hV kh0 rfl s_3
          have s_12 := rH10.keep hV kh0 rfl s_4
          exact b117 H10 lc10 ls u94_h0_7 u94_h0_8 gH10 (lv_sub hl [0, 1, 2, 3, 4] rfl) k_u94_h0_7 k_u94_h0_8 (by omega) s_11 s_12
      refine lv_iload hx hb dX8_goOn_38 (lv_at hl 4 rfl) ?_
      refine lv_iconst (v := 1) hx hb dX8_goOn_40 (by decide) ?_
      refine lv_icmp_gt (tgt := 123) hx hb dX8_goOn_41 (by decide) (fun c_13 => ?_) (fun c_13 => ?_)
      · have f_13 := z_lt c_13 kl_1 rfl
        exact rtV B hr hlk hh hQ gH38 trivial dX8_goOn_123
      · have f_13 := z_nlt c_13 kl_1 rfl
        refine lv_aload_n hx hb dX8_goOn_44 rfl (lv_at hl 0 rfl) ?_
        refine g_getR B fl_RX8_26 gH38.1 kh0 rfl rfl rfl rfl rfl dX8_goOn_45 (fun q_14 s_14 k_q_14 => ?_)
        refine lv_iload_n hx hb dX8_goOn_48 rfl (lv_at hl 1 rfl) ?_
        refine lv_iconst (v := 1) hx hb dX8_goOn_49 (by decide) ?_
        refine lv_iadd hx hb dX8_goOn_50 ?_
        refine lv_topi (fun x_15 e_15 => ?_)
        have t_15 := z_add e_15 rfl kl_1 (by omega) (by omega)
        refine g_aaldI (i := x_15) (N := 11) B gH38.1 k_q_14 rfl rfl rfl rfl rfl (by omega) (by omega) rfl dX8_goOn_51 (fun q_16 s_16 k_q_16 => ?_)
        refine lv_aload_n hx hb dX8_goOn_52 rfl (lv_at hl 0 rfl) ?_
        refine g_get B fl_RX8_26 gH38.1 kh0 rfl rfl rfl dX8_goOn_53 s_14 ?_
        refine lv_iload_n hx hb dX8_goOn_56 rfl (lv_at hl 1 rfl) ?_
        refine g_aaldI (i := p1) (N := 11) B gH38.1 k_q_14 rfl rfl rfl rfl rfl (by omega) (by omega) rfl dX8_goOn_57 (fun q_17 s_17 k_q_17 => ?_)
        refine zkV (zrV (rest := []) B (c_X4_copyOf l E hV H38 gH38.1 q_16 k_q_16 q_17 k_q_17) cl_RX8_55 gH38.1 k_q_16 rfl rfl rfl rfl hl.1 rfl (Nat.le_of_ble_eq_true rfl) dX8_goOn_58 rfl rfl ⟨rfl, rfl⟩ ⟨Nat.zero_le _, Nat.zero_le _⟩ (zO.of gH38 hh)) gH38 rfl (fun H18 lc18 hp_18 gH18 rH18 => ?_)
        have s_19 := rH18.keep hV kh0 rfl s_14
        have s_20 := rH18.keepA k_q_14 rfl s_16
        have s_21 := rH18.keepA k_q_14 rfl s_17
        refine lv_aload_n hx hb dX8_goOn_61 rfl (lv_at hl 0 rfl) ?_
        refine g_getR B fl_RX8_30 gH18.1 kh0 rfl rfl rfl rfl rfl dX8_goOn_62 (fun q_22 s_22 k_q_22 => ?_)
        refine lv_iload_n hx hb dX8_goOn_65 rfl (lv_at hl 1 rfl) ?_
        refine lv_iconst (v := 1) hx hb dX8_goOn_66 (by decide) ?_
        refine lv_iadd hx hb dX8_goOn_67 ?_
        refine lv_topi (fun x_23 e_23 => ?_)
        have t_23 := z_add e_23 rfl kl_1 (by omega) (by omega)
        refine g_aaldI (i := x_23) (N := 11) B gH18.1 k_q_22 rfl rfl rfl rfl rfl (by omega) (by omega) rfl dX8_goOn_68 (fun q_24 s_24 k_q_24 => ?_)
        refine lv_aload_n hx hb dX8_goOn_69 rfl (lv_at hl 0 rfl) ?_
        refine g_get B fl_RX8_30 gH18.1 kh0 rfl rfl rfl dX8_goOn_70 s_22 ?_
        refine lv_iload_n hx hb dX8_goOn_73 rfl (lv_at hl 1 rfl) ?_
        refine g_aaldI (i := p1) (N := 11) B gH18.1 k_q_22 rfl rfl rfl rfl rfl (by omega) (by omega) rfl dX8_goOn_74 (fun q_25 s_25 k_q_25 => ?_)
        refine zkV (zrV (rest := []) B (c_X4_copyOf l E hV H18 gH18.1 q_24 k_q_24 q_25 k_q_25) cl_RX8_55 gH18.1 k_q_24 rfl rfl rfl rfl hl.1 rfl (Nat.le_of_ble_eq_true rfl) dX8_goOn_75 rfl rfl ⟨rfl, rfl⟩ ⟨Nat.zero_le _, Nat.zero_le _⟩ (zO.of gH18 hh)) gH18 rfl (fun H26 lc26 hp_26 gH26 rH26 => ?_)
        have s_27 := rH26.keep hV kh0 rfl s_19
        have s_28 := rH26.keepA k_q_14 rfl s_20
        have s_29 := rH26.keepA k_q_14 rfl s_21
        have s_30 := rH26.keep hV kh0 rfl s_22
        have s_31 := rH26.keepA k_q_22 rfl s_24
        have s_32 := rH26.keepA k_q_22 rfl s_25
        refine lv_aload_n hx hb dX8_goOn_78 rfl (lv_at hl 0 rfl) ?_
        refine lv_iload hx hb dX8_goOn_79 (lv_at hl 3 rfl) ?_
        refine lv_iload_n hx hb dX8_goOn_81 rfl (lv_at hl 1 rfl) ?_
        refine lv_iconst (v := 1) hx hb dX8_goOn_82 (by decide) ?_
        refine lv_iadd hx hb dX8_goOn_83 ?_
        refine lv_topi (fun x_33 e_33 => ?_)
        have t_33 := z_add e_33 rfl kl_1 (by omega) (by omega)
        refine lv_iload hx hb dX8_goOn_84 (lv_at hl 4 rfl) ?_
        refine lv_if_ne (tgt := 93) hx hb dX8_goOn_86 (by decide) (fun c_34 => ?_) (fun c_34 => ?_)
        · have f_34 := z_ne c_34 rfl kl_0
          refine lv_iconst (v := 0) hx hb dX8_goOn_93 (by decide) ?_
          have := kl_0
          exact b94 H26 lc26 ls 0 x_33 q_14 q_22 gH26 (lv_sub hl [0, 1, 2, 3, 4] rfl) k_q_14 k_q_22 (by omega) (by omega) (by omega) (by omega) (by omega) s_27 s_30
        · have f_34 := z_eq c_34 rfl kl_0
          refine lv_iconst (v := 1) hx hb dX8_goOn_89 (by decide) ?_
          refine lv_goto (tgt := 94) hx hb dX8_goOn_90 (by decide) ?_
          have := kl_1
          exact b94 H26 lc26 ls 1 x_33 q_14 q_22 gH26 (lv_sub hl [0, 1, 2, 3, 4] rfl) k_q_14 k_q_22 (by omega) (by omega) (by omega) (by omega) (by omega) s_27 s_30
  have b3 : ∀ (n3 : Nat) (H3 : Heap) (lc3 : List Loc) (ls : Array Slot) (v3_4 : Int32), 60 - v3_4.toInt < (n3 : Int) → zG E wS_X8_goOn_d2 H0 H3 lc3 → lv_has ls 6 [(0, .ref h0), (2, .int p1), (3, .int p2), (4, .int v3_4)] → 0 ≤ v3_4.toInt → v3_4.toInt ≤ 60 → W p l e rm_X8_goOn_d2 s m args below meth c H3 lc3 0 0 Q (F0 m 3 ls []) := by
    intro n3
    induction n3 with
    | zero =>
      intro H3 lc3 ls v3_4 hm3 gH3 hl f3_1 f3_2
      exact absurd hm3 (by omega)
    | succ n3 ih3 =>
      intro H3 lc3 ls v3_4 hm3 gH3 hl f3_1 f3_2
      have b124 : ∀ (ls : Array Slot) (u124_h0_5 : Nat), lv_has ls 6 [(0, .ref h0), (2, .int p1), (3, .int p2), (4, .int v3_4)] → eK E u124_h0_5 = 4 → v3_4.toInt ≤ 59 → sl H3 h0 (zix E 9 5) = some (.ref u124_h0_5) → W p l e rm_X8_goOn_d2 s m args below meth c H3 lc3 0 0 Q (F0 m 124 ls []) := by
        intro ls u124_h0_5 hl k_u124_h0_5 f124_1 s124_u124_h0_5
        refine lv_aload_n hx hb dX8_goOn_124 rfl (lv_at hl 0 rfl) ?_
        refine lv_iload hx hb dX8_goOn_125 (lv_at hl 3 rfl) ?_
        refine lv_iload_n hx hb dX8_goOn_127 rfl (lv_at hl 1 rfl) ?_
        refine lv_aload_n hx hb dX8_goOn_128 rfl (lv_at hl 0 rfl) ?_
        refine g_get B fl_RX8_40 gH3.1 kh0 rfl rfl rfl dX8_goOn_129 s124_u124_h0_5 ?_
        refine g_getR B fl_RX8_74 gH3.1 k_u124_h0_5 rfl rfl rfl rfl rfl dX8_goOn_132 (fun q_35 s_35 k_q_35 => ?_)
        refine lv_iload hx hb dX8_goOn_135 (lv_at hl 3 rfl) ?_
        refine g_zaldI (i := v3_4) (N := 240) B gH3.1 k_q_35 rfl rfl rfl rfl (by omega) (by omega) rfl dX8_goOn_137 (fun x_36 s_36 a_36 b_36 => ?_)
        refine zkI (zrV (rest := []) B (c_X8_canHappen l E hV H3 gH3.1 h0 kh0 v3_4 (by omega) (by omega) p1 (by omega) (by omega) x_36 (by omega) (by omega)) cl_RX8_66 gH3.1 kh0 rfl rfl rfl rfl hl.1 rfl (Nat.le_of_ble_eq_true rfl) dX8_goOn_138 rfl rfl ⟨rfl, rfl⟩ ⟨Nat.zero_le _, Nat.zero_le _⟩ (zO.of gH3 hh)) gH3 rfl (fun x_37 H37 lc37 hp_37 gH37 rH37 => ?_)
        have s_38 := rH37.keep hV kh0 rfl s124_u124_h0_5
        have s_39 := rH37.keep hV k_u124_h0_5 rfl s_35
        have s_40 := rH37.keepA k_q_35 rfl s_36
        obtain ⟨hp_37_1, hp_37_2⟩ := hp_37
        refine lv_if_ne (tgt := 145) hx hb dX8_goOn_141 (by decide) (fun c_41 => ?_) (fun c_41 => ?_)
        · have f_41 := z_ne c_41 rfl kl_0
          obtain ⟨x_42, e_42⟩ : ∃ y : Int32, (v3_4 : Int32) + Int32.ofInt 1 = y := ⟨_, rfl⟩
          refine lv_iinc (v := x_42) (lv' := [(4, .int x_42), (0, .ref h0), (2, .int p1), (3, .int p2)]) hx hb dX8_goOn_145 hl (k := 3) rfl e_42 (by decide) rfl (fun ls hl => ?_)
          have t_42 := z_inc2 e_42 rfl (by decide) (by omega) (by omega)
          refine lv_goto (tgt := 3) hx hb dX8_goOn_148 (by decide) ?_
          exact ih3 H37 lc37 ls x_42 (by omega) gH37 (lv_sub hl [1, 2, 3, 0] rfl) (by omega) (by omega)
        · have f_41 := z_eq c_41 rfl kl_0
          exact rtV B hr hlk hh hQ gH37 trivial dX8_goOn_144
      refine lv_iload hx hb dX8_goOn_3 (lv_at hl 3 rfl) ?_
      refine lv_aload_n hx hb dX8_goOn_5 rfl (lv_at hl 0 rfl) ?_
      refine g_getR B fl_RX8_40 gH3.1 kh0 rfl rfl rfl rfl rfl dX8_goOn_6 (fun q_43 s_43 k_q_43 => ?_)
      refine g_getI B fl_RX8_59 gH3.1 k_q_43 rfl rfl rfl rfl rfl dX8_goOn_9 (fun x_44 s_44 a_44 b_44 => ?_)
      refine lv_icmp_ge (tgt := 151) hx hb dX8_goOn_12 (by decide) (fun c_45 => ?_) (fun c_45 => ?_)
      · have f_45 := z_le c_45 rfl rfl
        refine lv_aload_n hx hb dX8_goOn_151 rfl (lv_at hl 0 rfl) ?_
        refine lv_iload_n hx hb dX8_goOn_152 rfl (lv_at hl 1 rfl) ?_
        refine lv_iload_n hx hb dX8_goOn_153 rfl (lv_at hl 2 rfl) ?_
        refine zkV (zrV (rest := []) B (c_X8_add l E hV H3 gH3.1 h0 kh0 p1 p2) cl_RX8_78 gH3.1 kh0 rfl rfl rfl rfl hl.1 rfl (Nat.le_of_ble_eq_true rfl) dX8_goOn_154 rfl rfl ⟨rfl, rfl⟩ ⟨Nat.zero_le _, Nat.zero_le _⟩ (zO.of gH3 hh)) gH3 rfl (fun H46 lc46 hp_46 gH46 rH46 => ?_)
        exact rtV B hr hlk hh hQ gH46 trivial dX8_goOn_157
      · have f_45 := z_nle c_45 rfl rfl
        refine lv_aload_n hx hb dX8_goOn_15 rfl (lv_at hl 0 rfl) ?_
        refine g_get B fl_RX8_40 gH3.1 kh0 rfl rfl rfl dX8_goOn_16 s_43 ?_
        refine g_getR B fl_RX8_62 gH3.1 k_q_43 rfl rfl rfl rfl rfl dX8_goOn_19 (fun q_47 s_47 k_q_47 => ?_)
        refine lv_iload hx hb dX8_goOn_22 (lv_at hl 3 rfl) ?_
        refine g_ialdI (i := v3_4) (N := 240) B gH3.1 k_q_47 rfl rfl rfl rfl (by omega) (by omega) rfl dX8_goOn_24 (fun x_48 s_48 a_48 b_48 => ?_)
        refine lv_iconst (v := (-1)) hx hb dX8_goOn_25 (by decide) ?_
        refine lv_icmp_eq (tgt := 124) hx hb dX8_goOn_26 (by decide) (fun c_49 => ?_) (fun c_49 => ?_)
        · have f_49 := z_eq c_49 rfl kl_m1
          exact b124 ls q_43 (lv_sub hl [0, 1, 2, 3] rfl) k_q_43 (by omega) s_43
        · have f_49 := z_ne c_49 rfl kl_m1
          refine lv_iload_n hx hb dX8_goOn_29 rfl (lv_at hl 1 rfl) ?_
          refine lv_bipush (v := 10) hx hb dX8_goOn_30 (by decide) ?_
          refine lv_icmp_ge (tgt := 124) hx hb dX8_goOn_32 (by decide) (fun c_50 => ?_) (fun c_50 => ?_)
          · have f_50 := z_le c_50 kl_10 rfl
            exact False.elim (by omega)
          · have f_50 := z_nle c_50 kl_10 rfl
            refine lv_iconst (v := 0) hx hb dX8_goOn_35 (by decide) ?_
            refine lv_istore (lv' := [(5, .int 0), (0, .ref h0), (2, .int p1), (3, .int p2), (4, .int v3_4)]) hx hb dX8_goOn_36 hl (by decide) rfl (fun ls hl => ?_)
            have := kl_0
            exact b38 3 H3 lc3 ls v3_4 0 (by omega) gH3 (lv_sub hl [1, 2, 3, 4, 0] rfl) (by omega) (by omega) (by omega) (by omega)
  refine lv_iload_n hx hb dX8_goOn_0 rfl (lv_at hl 1 rfl) ?_
  refine lv_istore (lv' := [(4, .int p0), (0, .ref h0), (1, .int p0), (2, .int p1), (3, .int p2)]) hx hb dX8_goOn_1 hl (by decide) rfl (fun ls hl => ?_)
  exact b3 61 H0 [] ls p0 (by omega) hG0 (lv_sub hl [1, 3, 4, 0] rfl) (by omega) (by omega)

def rm_X8_goOn_d1 : Room := { frames := 14, cells := 0, slots := 0, locals := 361 }
abbrev wS_X8_goOn_d1 : List (Nat × Nat) := [(5, 0), (5, 1), (5, 2), (5, 3), (5, 4), (5, 5), (5, 6), (9, 0), (9, 1), (9, 2), (9, 3)]
set_option maxRecDepth 100000 in
set_option maxHeartbeats 4000000 in
theorem c_X8_goOn_d1 (l : Launch) (E : zE) (hV : zV E) (H0 : Heap) (hT0 : HT E H0) (h0 : Nat) (kh0 : eK E h0 = 9) (p0 : Int32) (p0_lo : 0 ≤ p0.toInt) (p0_hi : p0.toInt ≤ 60) (p1 : Int32) (p1_lo : 1 ≤ p1.toInt) (p1_hi : p1.toInt ≤ 1) (p2 : Int32) : Met l yX8_goOn (zws yX8_goOn cX8_goOn 6 none) rm_X8_goOn_d1 (zP E H0 [.ref h0, .int p0, .int p1, .int p2]) (zQV E E wS_X8_goOn_d1 (fun H1 => True)) 0 0 (zfr E) := by
  refine zEnt (by decide) (Nat.le_of_ble_eq_true rfl) (fun p e s m args below meth c ls Q B hr hlk hh hQ hl => ?_)
  have hx := B.1
  have hb := B.2.1
  have hG0 : zG E wS_X8_goOn_d1 H0 H0 [] := zG.rf hT0
  have hl : lv_has ls 6 [(0, .ref h0), (1, .int p0), (2, .int p1), (3, .int p2)] := hl
  have b38 : ∀ (n38 : Nat) (H38 : Heap) (lc38 : List Loc) (ls : Array Slot) (v38_4 : Int32) (v38_5 : Int32), 2 - v38_5.toInt < (n38 : Int) → zG E wS_X8_goOn_d1 H0 H38 lc38 → lv_has ls 6 [(0, .ref h0), (2, .int p1), (3, .int p2), (4, .int v38_4), (5, .int v38_5)] → 0 ≤ v38_4.toInt → v38_4.toInt ≤ 59 → 0 ≤ v38_5.toInt → v38_5.toInt ≤ 2 → W p l e rm_X8_goOn_d1 s m args below meth c H38 lc38 0 0 Q (F0 m 38 ls []) := by
    intro n38
    induction n38 with
    | zero =>
      intro H38 lc38 ls v38_4 v38_5 hm38 gH38 hl f38_1 f38_2 f38_3 f38_4
      exact absurd hm38 (by omega)
    | succ n38 ih38 =>
      intro H38 lc38 ls v38_4 v38_5 hm38 gH38 hl f38_1 f38_2 f38_3 f38_4
      have b117 : ∀ (H117 : Heap) (lc117 : List Loc) (ls : Array Slot) (u117_h0_7 : Nat) (u117_h0_8 : Nat), zG E wS_X8_goOn_d1 H0 H117 lc117 → lv_has ls 6 [(0, .ref h0), (2, .int p1), (3, .int p2), (4, .int v38_4), (5, .int v38_5)] → eK E u117_h0_7 = 47 → eK E u117_h0_8 = 47 → v38_5.toInt ≤ 1 → sl H117 h0 (zix E 9 7) = some (.ref u117_h0_7) → sl H117 h0 (zix E 9 8) = some (.ref u117_h0_8) → W p l e rm_X8_goOn_d1 s m args below meth c H117 lc117 0 0 Q (F0 m 117 ls []) := by
        intro H117 lc117 ls u117_h0_7 u117_h0_8 gH117 hl k_u117_h0_7 k_u117_h0_8 f117_1 s117_u117_h0_7 s117_u117_h0_8
        obtain ⟨x_1, e_1⟩ : ∃ y : Int32, (v38_5 : Int32) + Int32.ofInt 1 = y := ⟨_, rfl⟩
        refine lv_iinc (v := x_1) (lv' := [(5, .int x_1), (0, .ref h0), (2, .int p1), (3, .int p2), (4, .int v38_4)]) hx hb dX8_goOn_117 hl (k := 4) rfl e_1 (by decide) rfl (fun ls hl => ?_)
        have t_1 := z_inc2 e_1 rfl (by decide) (by omega) (by omega)
        refine lv_goto (tgt := 38) hx hb dX8_goOn_120 (by decide) ?_
        exact ih38 H117 lc117 ls v38_4 x_1 (by omega) gH117 (lv_sub hl [1, 2, 3, 4, 0] rfl) (by omega) (by omega) (by omega) (by omega)
      have b94 : ∀ (H94 : Heap) (lc94 : List Loc) (ls : Array Slot) (w94_0 : Int32) (w94_1 : Int32) (u94_h0_7 : Nat) (u94_h0_8 : Nat), zG E wS_X8_goOn_d1 H0 H94 lc94 → lv_has ls 6 [(0, .ref h0), (2, .int p1), (3, .int p2), (4, .int v38_4), (5, .int v38_5)] → eK E u94_h0_7 = 47 → eK E u94_h0_8 = 47 → v38_5.toInt ≤ 1 → 0 ≤ w94_0.toInt → w94_0.toInt ≤ 1 → 2 ≤ w94_1.toInt → w94_1.toInt ≤ 2 → sl H94 h0 (zix E 9 7) = some (.ref u94_h0_7) → sl H94 h0 (zix E 9 8) = some (.ref u94_h0_8) → W p l e rm_X8_goOn_d1 s m args below meth c H94 lc94 0 0 Q (F0 m 94 ls [.int w94_0, .int w94_1, .int v38_4, .ref h0]) := by
        intro H94 lc94 ls w94_0 w94_1 u94_h0_7 u94_h0_8 gH94 hl k_u94_h0_7 k_u94_h0_8 f94_1 f94_2 f94_3 f94_4 f94_5 s94_u94_h0_7 s94_u94_h0_8
        refine zkI (zrV (rest := []) B (c_X8_canHappen l E hV H94 gH94.1 h0 kh0 v38_4 (by omega) (by omega) w94_1 (by omega) (by omega) w94_0 (by omega) (by omega)) cl_RX8_66 gH94.1 kh0 rfl rfl rfl rfl hl.1 rfl (Nat.le_of_ble_eq_true rfl) dX8_goOn_94 rfl rfl ⟨rfl, rfl⟩ ⟨Nat.zero_le _, Nat.zero_le _⟩ (zO.of gH94 hh)) gH94 rfl (fun x_2 H2 lc2 hp_2 gH2 rH2 => ?_)
        have s_3 := rH2.keep hV kh0 rfl s94_u94_h0_7
        have s_4 := rH2.keep hV kh0 rfl s94_u94_h0_8
        obtain ⟨hp_2_1, hp_2_2⟩ := hp_2
        refine lv_if_eq (tgt := 117) hx hb dX8_goOn_97 (by decide) (fun c_5 => ?_) (fun c_5 => ?_)
        · have f_5 := z_eq c_5 rfl kl_0
          exact b117 H2 lc2 ls u94_h0_7 u94_h0_8 gH2 (lv_sub hl [0, 1, 2, 3, 4] rfl) k_u94_h0_7 k_u94_h0_8 (by omega) s_3 s_4
        · have f_5 := z_ne c_5 rfl kl_0
          refine lv_aload_n hx hb dX8_goOn_100 rfl (lv_at hl 0 rfl) ?_
          refine lv_iload hx hb dX8_goOn_101 (lv_at hl 3 rfl) ?_
          refine lv_iconst (v := 1) hx hb dX8_goOn_103 (by decide) ?_
          refine lv_iadd hx hb dX8_goOn_104 ?_
          refine lv_topi (fun x_6 e_6 => ?_)
          have t_6 := z_add e_6 rfl kl_1 (by omega) (by omega)
          refine lv_iload_n hx hb dX8_goOn_105 rfl (lv_at hl 1 rfl) ?_
          refine lv_iconst (v := 1) hx hb dX8_goOn_106 (by decide) ?_
          refine lv_iadd hx hb dX8_goOn_107 ?_
          refine lv_topi (fun x_7 e_7 => ?_)
          have t_7 := z_add e_7 rfl kl_1 (by omega) (by omega)
          refine lv_iload_n hx hb dX8_goOn_108 rfl (lv_at hl 2 rfl) ?_
          refine lv_iload hx hb dX8_goOn_109 (lv_at hl 4 rfl) ?_
          refine lv_iload_n hx hb dX8_goOn_111 rfl (lv_at hl 1 rfl) ?_
          refine lv_ishl hx hb dX8_goOn_112 ?_
          refine lv_topi (fun x_8 e_8 => ?_)
          have t_8 := z_shlV (A := 1) 1 e_8 rfl rfl (by omega) (by omega) rfl (by omega) (by omega) (by decide)
          refine lv_ior hx hb dX8_goOn_113 ?_
          refine lv_topi (fun x_9 e_9 => ?_)
          refine zkV (zrV (rest := []) B (c_X8_goOn_d2 l E hV H2 gH2.1 h0 kh0 x_6 (by omega) (by omega) x_7 (by omega) (by omega) x_9) cl_RX8_70 gH2.1 kh0 rfl rfl rfl rfl hl.1 rfl (Nat.le_of_ble_eq_true rfl) dX8_goOn_114 rfl rfl ⟨rfl, rfl⟩ ⟨Nat.zero_le _, Nat.zero_le _⟩ (zO.of gH2 hh)) gH2 rfl (fun H10 lc10 hp_10 gH10 rH10 => ?_)
          have s_11 := rH10.keep hV kh0 rfl s_3
          have s_12 := rH10.keep hV kh0 rfl s_4
          exact b117 H10 lc10 ls u94_h0_7 u94_h0_8 gH10 (lv_sub hl [0, 1, 2, 3, 4] rfl) k_u94_h0_7 k_u94_h0_8 (by omega) s_11 s_12
      refine lv_iload hx hb dX8_goOn_38 (lv_at hl 4 rfl) ?_
      refine lv_iconst (v := 1) hx hb dX8_goOn_40 (by decide) ?_
      refine lv_icmp_gt (tgt := 123) hx hb dX8_goOn_41 (by decide) (fun c_13 => ?_) (fun c_13 => ?_)
      · have f_13 := z_lt c_13 kl_1 rfl
        exact rtV B hr hlk hh hQ gH38 trivial dX8_goOn_123
      · have f_13 := z_nlt c_13 kl_1 rfl
        refine lv_aload_n hx hb dX8_goOn_44 rfl (lv_at hl 0 rfl) ?_
        refine g_getR B fl_RX8_26 gH38.1 kh0 rfl rfl rfl rfl rfl dX8_goOn_45 (fun q_14 s_14 k_q_14 => ?_)
        refine lv_iload_n hx hb dX8_goOn_48 rfl (lv_at hl 1 rfl) ?_
        refine lv_iconst (v := 1) hx hb dX8_goOn_49 (by decide) ?_
        refine lv_iadd hx hb dX8_goOn_50 ?_
        refine lv_topi (fun x_15 e_15 => ?_)
        have t_15 := z_add e_15 rfl kl_1 (by omega) (by omega)
        refine g_aaldI (i := x_15) (N := 11) B gH38.1 k_q_14 rfl rfl rfl rfl rfl (by omega) (by omega) rfl dX8_goOn_51 (fun q_16 s_16 k_q_16 => ?_)
        refine lv_aload_n hx hb dX8_goOn_52 rfl (lv_at hl 0 rfl) ?_
        refine g_get B fl_RX8_26 gH38.1 kh0 rfl rfl rfl dX8_goOn_53 s_14 ?_
        refine lv_iload_n hx hb dX8_goOn_56 rfl (lv_at hl 1 rfl) ?_
        refine g_aaldI (i := p1) (N := 11) B gH38.1 k_q_14 rfl rfl rfl rfl rfl (by omega) (by omega) rfl dX8_goOn_57 (fun q_17 s_17 k_q_17 => ?_)
        refine zkV (zrV (rest := []) B (c_X4_copyOf l E hV H38 gH38.1 q_16 k_q_16 q_17 k_q_17) cl_RX8_55 gH38.1 k_q_16 rfl rfl rfl rfl hl.1 rfl (Nat.le_of_ble_eq_true rfl) dX8_goOn_58 rfl rfl ⟨rfl, rfl⟩ ⟨Nat.zero_le _, Nat.zero_le _⟩ (zO.of gH38 hh)) gH38 rfl (fun H18 lc18 hp_18 gH18 rH18 => ?_)
        have s_19 := rH18.keep hV kh0 rfl s_14
        have s_20 := rH18.keepA k_q_14 rfl s_16
        have s_21 := rH18.keepA k_q_14 rfl s_17
        refine lv_aload_n hx hb dX8_goOn_61 rfl (lv_at hl 0 rfl) ?_
        refine g_getR B fl_RX8_30 gH18.1 kh0 rfl rfl rfl rfl rfl dX8_goOn_62 (fun q_22 s_22 k_q_22 => ?_)
        refine lv_iload_n hx hb dX8_goOn_65 rfl (lv_at hl 1 rfl) ?_
        refine lv_iconst (v := 1) hx hb dX8_goOn_66 (by decide) ?_
        refine lv_iadd hx hb dX8_goOn_67 ?_
        refine lv_topi (fun x_23 e_23 => ?_)
        have t_23 := z_add e_23 rfl kl_1 (by omega) (by omega)
        refine g_aaldI (i := x_23) (N := 11) B gH18.1 k_q_22 rfl rfl rfl rfl rfl (by omega) (by omega) rfl dX8_goOn_68 (fun q_24 s_24 k_q_24 => ?_)
        refine lv_aload_n hx hb dX8_goOn_69 rfl (lv_at hl 0 rfl) ?_
        refine g_get B fl_RX8_30 gH18.1 kh0 rfl rfl rfl dX8_goOn_70 s_22 ?_
        refine lv_iload_n hx hb dX8_goOn_73 rfl (lv_at hl 1 rfl) ?_
        refine g_aaldI (i := p1) (N := 11) B gH18.1 k_q_22 rfl rfl rfl rfl rfl (by omega) (by omega) rfl dX8_goOn_74 (fun q_25 s_25 k_q_25 => ?_)
        refine zkV (zrV (rest := []) B (c_X4_copyOf l E hV H18 gH18.1 q_24 k_q_24 q_25 k_q_25) cl_RX8_55 gH18.1 k_q_24 rfl rfl rfl rfl hl.1 rfl (Nat.le_of_ble_eq_true rfl) dX8_goOn_75 rfl rfl ⟨rfl, rfl⟩ ⟨Nat.zero_le _, Nat.zero_le _⟩ (zO.of gH18 hh)) gH18 rfl (fun H26 lc26 hp_26 gH26 rH26 => ?_)
        have s_27 := rH26.keep hV kh0 rfl s_19
        have s_28 := rH26.keepA k_q_14 rfl s_20
        have s_29 := rH26.keepA k_q_14 rfl s_21
        have s_30 := rH26.keep hV kh0 rfl s_22
        have s_31 := rH26.keepA k_q_22 rfl s_24
        have s_32 := rH26.keepA k_q_22 rfl s_25
        refine lv_aload_n hx hb dX8_goOn_78 rfl (lv_at hl 0 rfl) ?_
        refine lv_iload hx hb dX8_goOn_79 (lv_at hl 3 rfl) ?_
        refine lv_iload_n hx hb dX8_goOn_81 rfl (lv_at hl 1 rfl) ?_
        refine lv_iconst (v := 1) hx hb dX8_goOn_82 (by decide) ?_
        refine lv_iadd hx hb dX8_goOn_83 ?_
        refine lv_topi (fun x_33 e_33 => ?_)
        have t_33 := z_add e_33 rfl kl_1 (by omega) (by omega)
        refine lv_iload hx hb dX8_goOn_84 (lv_at hl 4 rfl) ?_
        refine lv_if_ne (tgt := 93) hx hb dX8_goOn_86 (by decide) (fun c_34 => ?_) (fun c_34 => ?_)
        · have f_34 := z_ne c_34 rfl kl_0
          refine lv_iconst (v := 0) hx hb dX8_goOn_93 (by decide) ?_
          have := kl_0
          exact b94 H26 lc26 ls 0 x_33 q_14 q_22 gH26 (lv_sub hl [0, 1, 2, 3, 4] rfl) k_q_14 k_q_22 (by omega) (by omega) (by omega) (by omega) (by omega) s_27 s_30
        · have f_34 := z_eq c_34 rfl kl_0
          refine lv_iconst (v := 1) hx hb dX8_goOn_89 (by decide) ?_
          refine lv_goto (tgt := 94) hx hb dX8_goOn_90 (by decide) ?_
          have := kl_1
          exact b94 H26 lc26 ls 1 x_33 q_14 q_22 gH26 (lv_sub hl [0, 1, 2, 3, 4] rfl) k_q_14 k_q_22 (by omega) (by omega) (by omega) (by omega) (by omega) s_27 s_30
  have b3 : ∀ (n3 : Nat) (H3 : Heap) (lc3 : List Loc) (ls : Array Slot) (v3_4 : Int32), 60 - v3_4.toInt < (n3 : Int) → zG E wS_X8_goOn_d1 H0 H3 lc3 → lv_has ls 6 [(0, .ref h0), (2, .int p1), (3, .int p2), (4, .int v3_4)] → 0 ≤ v3_4.toInt → v3_4.toInt ≤ 60 → W p l e rm_X8_goOn_d1 s m args below meth c H3 lc3 0 0 Q (F0 m 3 ls []) := by
    intro n3
    induction n3 with
    | zero =>
      intro H3 lc3 ls v3_4 hm3 gH3 hl f3_1 f3_2
      exact absurd hm3 (by omega)
    | succ n3 ih3 =>
      intro H3 lc3 ls v3_4 hm3 gH3 hl f3_1 f3_2
      have b124 : ∀ (ls : Array Slot) (u124_h0_5 : Nat), lv_has ls 6 [(0, .ref h0), (2, .int p1), (3, .int p2), (4, .int v3_4)] → eK E u124_h0_5 = 4 → v3_4.toInt ≤ 59 → sl H3 h0 (zix E 9 5) = some (.ref u124_h0_5) → W p l e rm_X8_goOn_d1 s m args below meth c H3 lc3 0 0 Q (F0 m 124 ls []) := by
        intro ls u124_h0_5 hl k_u124_h0_5 f124_1 s124_u124_h0_5
        refine lv_aload_n hx hb dX8_goOn_124 rfl (lv_at hl 0 rfl) ?_
        refine lv_iload hx hb dX8_goOn_125 (lv_at hl 3 rfl) ?_
        refine lv_iload_n hx hb dX8_goOn_127 rfl (lv_at hl 1 rfl) ?_
        refine lv_aload_n hx hb dX8_goOn_128 rfl (lv_at hl 0 rfl) ?_
        refine g_get B fl_RX8_40 gH3.1 kh0 rfl rfl rfl dX8_goOn_129 s124_u124_h0_5 ?_
        refine g_getR B fl_RX8_74 gH3.1 k_u124_h0_5 rfl rfl rfl rfl rfl dX8_goOn_132 (fun q_35 s_35 k_q_35 => ?_)
        refine lv_iload hx hb dX8_goOn_135 (lv_at hl 3 rfl) ?_
        refine g_zaldI (i := v3_4) (N := 240) B gH3.1 k_q_35 rfl rfl rfl rfl (by omega) (by omega) rfl dX8_goOn_137 (fun x_36 s_36 a_36 b_36 => ?_)
        refine zkI (zrV (rest := []) B (c_X8_canHappen l E hV H3 gH3.1 h0 kh0 v3_4 (by omega) (by omega) p1 (by omega) (by omega) x_36 (by omega) (by omega)) cl_RX8_66 gH3.1 kh0 rfl rfl rfl rfl hl.1 rfl (Nat.le_of_ble_eq_true rfl) dX8_goOn_138 rfl rfl ⟨rfl, rfl⟩ ⟨Nat.zero_le _, Nat.zero_le _⟩ (zO.of gH3 hh)) gH3 rfl (fun x_37 H37 lc37 hp_37 gH37 rH37 => ?_)
        have s_38 := rH37.keep hV kh0 rfl s124_u124_h0_5
        have s_39 := rH37.keep hV k_u124_h0_5 rfl s_35
        have s_40 := rH37.keepA k_q_35 rfl s_36
        obtain ⟨hp_37_1, hp_37_2⟩ := hp_37
        refine lv_if_ne (tgt := 145) hx hb dX8_goOn_141 (by decide) (fun c_41 => ?_) (fun c_41 => ?_)
        · have f_41 := z_ne c_41 rfl kl_0
          obtain ⟨x_42, e_42⟩ : ∃ y : Int32, (v3_4 : Int32) + Int32.ofInt 1 = y := ⟨_, rfl⟩
          refine lv_iinc (v := x_42) (lv' := [(4, .int x_42), (0, .ref h0), (2, .int p1), (3, .int p2)]) hx hb dX8_goOn_145 hl (k := 3) rfl e_42 (by decide) rfl (fun ls hl => ?_)
          have t_42 := z_inc2 e_42 rfl (by decide) (by omega) (by omega)
          refine lv_goto (tgt := 3) hx hb dX8_goOn_148 (by decide) ?_
          exact ih3 H37 lc37 ls x_42 (by omega) gH37 (lv_sub hl [1, 2, 3, 0] rfl) (by omega) (by omega)
        · have f_41 := z_eq c_41 rfl kl_0
          exact rtV B hr hlk hh hQ gH37 trivial dX8_goOn_144
      refine lv_iload hx hb dX8_goOn_3 (lv_at hl 3 rfl) ?_
      refine lv_aload_n hx hb dX8_goOn_5 rfl (lv_at hl 0 rfl) ?_
      refine g_getR B fl_RX8_40 gH3.1 kh0 rfl rfl rfl rfl rfl dX8_goOn_6 (fun q_43 s_43 k_q_43 => ?_)
      refine g_getI B fl_RX8_59 gH3.1 k_q_43 rfl rfl rfl rfl rfl dX8_goOn_9 (fun x_44 s_44 a_44 b_44 => ?_)
      refine lv_icmp_ge (tgt := 151) hx hb dX8_goOn_12 (by decide) (fun c_45 => ?_) (fun c_45 => ?_)
      · have f_45 := z_le c_45 rfl rfl
        refine lv_aload_n hx hb dX8_goOn_151 rfl (lv_at hl 0 rfl) ?_
        refine lv_iload_n hx hb dX8_goOn_152 rfl (lv_at hl 1 rfl) ?_
        refine lv_iload_n hx hb dX8_goOn_153 rfl (lv_at hl 2 rfl) ?_
        refine zkV (zrV (rest := []) B (c_X8_add l E hV H3 gH3.1 h0 kh0 p1 p2) cl_RX8_78 gH3.1 kh0 rfl rfl rfl rfl hl.1 rfl (Nat.le_of_ble_eq_true rfl) dX8_goOn_154 rfl rfl ⟨rfl, rfl⟩ ⟨Nat.zero_le _, Nat.zero_le _⟩ (zO.of gH3 hh)) gH3 rfl (fun H46 lc46 hp_46 gH46 rH46 => ?_)
        exact rtV B hr hlk hh hQ gH46 trivial dX8_goOn_157
      · have f_45 := z_nle c_45 rfl rfl
        refine lv_aload_n hx hb dX8_goOn_15 rfl (lv_at hl 0 rfl) ?_
        refine g_get B fl_RX8_40 gH3.1 kh0 rfl rfl rfl dX8_goOn_16 s_43 ?_
        refine g_getR B fl_RX8_62 gH3.1 k_q_43 rfl rfl rfl rfl rfl dX8_goOn_19 (fun q_47 s_47 k_q_47 => ?_)
        refine lv_iload hx hb dX8_goOn_22 (lv_at hl 3 rfl) ?_
        refine g_ialdI (i := v3_4) (N := 240) B gH3.1 k_q_47 rfl rfl rfl rfl (by omega) (by omega) rfl dX8_goOn_24 (fun x_48 s_48 a_48 b_48 => ?_)
        refine lv_iconst (v := (-1)) hx hb dX8_goOn_25 (by decide) ?_
        refine lv_icmp_eq (tgt := 124) hx hb dX8_goOn_26 (by decide) (fun c_49 => ?_) (fun c_49 => ?_)
        · have f_49 := z_eq c_49 rfl kl_m1
          exact b124 ls q_43 (lv_sub hl [0, 1, 2, 3] rfl) k_q_43 (by omega) s_43
        · have f_49 := z_ne c_49 rfl kl_m1
          refine lv_iload_n hx hb dX8_goOn_29 rfl (lv_at hl 1 rfl) ?_
          refine lv_bipush (v := 10) hx hb dX8_goOn_30 (by decide) ?_
          refine lv_icmp_ge (tgt := 124) hx hb dX8_goOn_32 (by decide) (fun c_50 => ?_) (fun c_50 => ?_)
          · have f_50 := z_le c_50 kl_10 rfl
            exact False.elim (by omega)
          · have f_50 := z_nle c_50 kl_10 rfl
            refine lv_iconst (v := 0) hx hb dX8_goOn_35 (by decide) ?_
            refine lv_istore (lv' := [(5, .int 0), (0, .ref h0), (2, .int p1), (3, .int p2), (4, .int v3_4)]) hx hb dX8_goOn_36 hl (by decide) rfl (fun ls hl => ?_)
            have := kl_0
            exact b38 3 H3 lc3 ls v3_4 0 (by omega) gH3 (lv_sub hl [1, 2, 3, 4, 0] rfl) (by omega) (by omega) (by omega) (by omega)
  refine lv_iload_n hx hb dX8_goOn_0 rfl (lv_at hl 1 rfl) ?_
  refine lv_istore (lv' := [(4, .int p0), (0, .ref h0), (1, .int p0), (2, .int p1), (3, .int p2)]) hx hb dX8_goOn_1 hl (by decide) rfl (fun ls hl => ?_)
  exact b3 61 H0 [] ls p0 (by omega) hG0 (lv_sub hl [1, 3, 4, 0] rfl) (by omega) (by omega)

def rm_X8_goOn_d0 : Room := { frames := 15, cells := 0, slots := 0, locals := 386 }
abbrev wS_X8_goOn_d0 : List (Nat × Nat) := [(5, 0), (5, 1), (5, 2), (5, 3), (5, 4), (5, 5), (5, 6), (9, 0), (9, 1), (9, 2), (9, 3)]
set_option maxRecDepth 100000 in
set_option maxHeartbeats 4000000 in
theorem c_X8_goOn_d0 (l : Launch) (E : zE) (hV : zV E) (H0 : Heap) (hT0 : HT E H0) (h0 : Nat) (kh0 : eK E h0 = 9) (p0 : Int32) (p0_lo : 0 ≤ p0.toInt) (p0_hi : p0.toInt ≤ 60) (p1 : Int32) (p1_lo : 0 ≤ p1.toInt) (p1_hi : p1.toInt ≤ 0) (p2 : Int32) : Met l yX8_goOn (zws yX8_goOn cX8_goOn 6 none) rm_X8_goOn_d0 (zP E H0 [.ref h0, .int p0, .int p1, .int p2]) (zQV E E wS_X8_goOn_d0 (fun H1 => True)) 0 0 (zfr E) := by
  refine zEnt (by decide) (Nat.le_of_ble_eq_true rfl) (fun p e s m args below meth c ls Q B hr hlk hh hQ hl => ?_)
  have hx := B.1
  have hb := B.2.1
  have hG0 : zG E wS_X8_goOn_d0 H0 H0 [] := zG.rf hT0
  have hl : lv_has ls 6 [(0, .ref h0), (1, .int p0), (2, .int p1), (3, .int p2)] := hl
  have b38 : ∀ (n38 : Nat) (H38 : Heap) (lc38 : List Loc) (ls : Array Slot) (v38_4 : Int32) (v38_5 : Int32), 2 - v38_5.toInt < (n38 : Int) → zG E wS_X8_goOn_d0 H0 H38 lc38 → lv_has ls 6 [(0, .ref h0), (2, .int p1), (3, .int p2), (4, .int v38_4), (5, .int v38_5)] → 0 ≤ v38_4.toInt → v38_4.toInt ≤ 59 → 0 ≤ v38_5.toInt → v38_5.toInt ≤ 2 → W p l e rm_X8_goOn_d0 s m args below meth c H38 lc38 0 0 Q (F0 m 38 ls []) := by
    intro n38
    induction n38 with
    | zero =>
      intro H38 lc38 ls v38_4 v38_5 hm38 gH38 hl f38_1 f38_2 f38_3 f38_4
      exact absurd hm38 (by omega)
    | succ n38 ih38 =>
      intro H38 lc38 ls v38_4 v38_5 hm38 gH38 hl f38_1 f38_2 f38_3 f38_4
      have b117 : ∀ (H117 : Heap) (lc117 : List Loc) (ls : Array Slot) (u117_h0_7 : Nat) (u117_h0_8 : Nat), zG E wS_X8_goOn_d0 H0 H117 lc117 → lv_has ls 6 [(0, .ref h0), (2, .int p1), (3, .int p2), (4, .int v38_4), (5, .int v38_5)] → eK E u117_h0_7 = 47 → eK E u117_h0_8 = 47 → v38_5.toInt ≤ 1 → sl H117 h0 (zix E 9 7) = some (.ref u117_h0_7) → sl H117 h0 (zix E 9 8) = some (.ref u117_h0_8) → W p l e rm_X8_goOn_d0 s m args below meth c H117 lc117 0 0 Q (F0 m 117 ls []) := by
        intro H117 lc117 ls u117_h0_7 u117_h0_8 gH117 hl k_u117_h0_7 k_u117_h0_8 f117_1 s117_u117_h0_7 s117_u117_h0_8
        obtain ⟨x_1, e_1⟩ : ∃ y : Int32, (v38_5 : Int32) + Int32.ofInt 1 = y := ⟨_, rfl⟩
        refine lv_iinc (v := x_1) (lv' := [(5, .int x_1), (0, .ref h0), (2, .int p1), (3, .int p2), (4, .int v38_4)]) hx hb dX8_goOn_117 hl (k := 4) rfl e_1 (by decide) rfl (fun ls hl => ?_)
        have t_1 := z_inc2 e_1 rfl (by decide) (by omega) (by omega)
        refine lv_goto (tgt := 38) hx hb dX8_goOn_120 (by decide) ?_
        exact ih38 H117 lc117 ls v38_4 x_1 (by omega) gH117 (lv_sub hl [1, 2, 3, 4, 0] rfl) (by omega) (by omega) (by omega) (by omega)
      have b94 : ∀ (H94 : Heap) (lc94 : List Loc) (ls : Array Slot) (w94_0 : Int32) (w94_1 : Int32) (u94_h0_7 : Nat) (u94_h0_8 : Nat), zG E wS_X8_goOn_d0 H0 H94 lc94 → lv_has ls 6 [(0, .ref h0), (2, .int p1), (3, .int p2), (4, .int v38_4), (5, .int v38_5)] → eK E u94_h0_7 = 47 → eK E u94_h0_8 = 47 → v38_5.toInt ≤ 1 → 0 ≤ w94_0.toInt → w94_0.toInt ≤ 1 → 1 ≤ w94_1.toInt → w94_1.toInt ≤ 1 → sl H94 h0 (zix E 9 7) = some (.ref u94_h0_7) → sl H94 h0 (zix E 9 8) = some (.ref u94_h0_8) → W p l e rm_X8_goOn_d0 s m args below meth c H94 lc94 0 0 Q (F0 m 94 ls [.int w94_0, .int w94_1, .int v38_4, .ref h0]) := by
        intro H94 lc94 ls w94_0 w94_1 u94_h0_7 u94_h0_8 gH94 hl k_u94_h0_7 k_u94_h0_8 f94_1 f94_2 f94_3 f94_4 f94_5 s94_u94_h0_7 s94_u94_h0_8
        refine zkI (zrV (rest := []) B (c_X8_canHappen l E hV H94 gH94.1 h0 kh0 v38_4 (by omega) (by omega) w94_1 (by omega) (by omega) w94_0 (by omega) (by omega)) cl_RX8_66 gH94.1 kh0 rfl rfl rfl rfl hl.1 rfl (Nat.le_of_ble_eq_true rfl) dX8_goOn_94 rfl rfl ⟨rfl, rfl⟩ ⟨Nat.zero_le _, Nat.zero_le _⟩ (zO.of gH94 hh)) gH94 rfl (fun x_2 H2 lc2 hp_2 gH2 rH2 => ?_)
        have s_3 := rH2.keep hV kh0 rfl s94_u94_h0_7
        have s_4 := rH2.keep hV kh0 rfl s94_u94_h0_8
        obtain ⟨hp_2_1, hp_2_2⟩ := hp_2
        refine lv_if_eq (tgt := 117) hx hb dX8_goOn_97 (by decide) (fun c_5 => ?_) (fun c_5 => ?_)
        · have f_5 := z_eq c_5 rfl kl_0
          exact b117 H2 lc2 ls u94_h0_7 u94_h0_8 gH2 (lv_sub hl [0, 1, 2, 3, 4] rfl) k_u94_h0_7 k_u94_h0_8 (by omega) s_3 s_4
        · have f_5 := z_ne c_5 rfl kl_0
          refine lv_aload_n hx hb dX8_goOn_100 rfl (lv_at hl 0 rfl) ?_
          refine lv_iload hx hb dX8_goOn_101 (lv_at hl 3 rfl) ?_
          refine lv_iconst (v := 1) hx hb dX8_goOn_103 (by decide) ?_
          refine lv_iadd hx hb dX8_goOn_104 ?_
          refine lv_topi (fun x_6 e_6 => ?_)
          have t_6 := z_add e_6 rfl kl_1 (by omega) (by omega)
          refine lv_iload_n hx hb dX8_goOn_105 rfl (lv_at hl 1 rfl) ?_
          refine lv_iconst (v := 1) hx hb dX8_goOn_106 (by decide) ?_
          refine lv_iadd hx hb dX8_goOn_107 ?_
          refine lv_topi (fun x_7 e_7 => ?_)
          have t_7 := z_add e_7 rfl kl_1 (by omega) (by omega)
          refine lv_iload_n hx hb dX8_goOn_108 rfl (lv_at hl 2 rfl) ?_
          refine lv_iload hx hb dX8_goOn_109 (lv_at hl 4 rfl) ?_
          refine lv_iload_n hx hb dX8_goOn_111 rfl (lv_at hl 1 rfl) ?_
          refine lv_ishl hx hb dX8_goOn_112 ?_
          refine lv_topi (fun x_8 e_8 => ?_)
          have t_8 := z_shlV (A := 1) 0 e_8 rfl rfl (by omega) (by omega) rfl (by omega) (by omega) (by decide)
          refine lv_ior hx hb dX8_goOn_113 ?_
          refine lv_topi (fun x_9 e_9 => ?_)
          refine zkV (zrV (rest := []) B (c_X8_goOn_d1 l E hV H2 gH2.1 h0 kh0 x_6 (by omega) (by omega) x_7 (by omega) (by omega) x_9) cl_RX8_70 gH2.1 kh0 rfl rfl rfl rfl hl.1 rfl (Nat.le_of_ble_eq_true rfl) dX8_goOn_114 rfl rfl ⟨rfl, rfl⟩ ⟨Nat.zero_le _, Nat.zero_le _⟩ (zO.of gH2 hh)) gH2 rfl (fun H10 lc10 hp_10 gH10 rH10 => ?_)
          have s_11 := rH10.keep hV kh0 rfl s_3
          have s_12 := rH10.keep hV kh0 rfl s_4
          exact b117 H10 lc10 ls u94_h0_7 u94_h0_8 gH10 (lv_sub hl [0, 1, 2, 3, 4] rfl) k_u94_h0_7 k_u94_h0_8 (by omega) s_11 s_12
      refine lv_iload hx hb dX8_goOn_38 (lv_at hl 4 rfl) ?_
      refine lv_iconst (v := 1) hx hb dX8_goOn_40 (by decide) ?_
      refine lv_icmp_gt (tgt := 123) hx hb dX8_goOn_41 (by decide) (fun c_13 => ?_) (fun c_13 => ?_)
      · have f_13 := z_lt c_13 kl_1 rfl
        exact rtV B hr hlk hh hQ gH38 trivial dX8_goOn_123
      · have f_13 := z_nlt c_13 kl_1 rfl
        refine lv_aload_n hx hb dX8_goOn_44 rfl (lv_at hl 0 rfl) ?_
        refine g_getR B fl_RX8_26 gH38.1 kh0 rfl rfl rfl rfl rfl dX8_goOn_45 (fun q_14 s_14 k_q_14 => ?_)
        refine lv_iload_n hx hb dX8_goOn_48 rfl (lv_at hl 1 rfl) ?_
        refine lv_iconst (v := 1) hx hb dX8_goOn_49 (by decide) ?_
        refine lv_iadd hx hb dX8_goOn_50 ?_
        refine lv_topi (fun x_15 e_15 => ?_)
        have t_15 := z_add e_15 rfl kl_1 (by omega) (by omega)
        refine g_aaldI (i := x_15) (N := 11) B gH38.1 k_q_14 rfl rfl rfl rfl rfl (by omega) (by omega) rfl dX8_goOn_51 (fun q_16 s_16 k_q_16 => ?_)
        refine lv_aload_n hx hb dX8_goOn_52 rfl (lv_at hl 0 rfl) ?_
        refine g_get B fl_RX8_26 gH38.1 kh0 rfl rfl rfl dX8_goOn_53 s_14 ?_
        refine lv_iload_n hx hb dX8_goOn_56 rfl (lv_at hl 1 rfl) ?_
        refine g_aaldI (i := p1) (N := 11) B gH38.1 k_q_14 rfl rfl rfl rfl rfl (by omega) (by omega) rfl dX8_goOn_57 (fun q_17 s_17 k_q_17 => ?_)
        refine zkV (zrV (rest := []) B (c_X4_copyOf l E hV H38 gH38.1 q_16 k_q_16 q_17 k_q_17) cl_RX8_55 gH38.1 k_q_16 rfl rfl rfl rfl hl.1 rfl (Nat.le_of_ble_eq_true rfl) dX8_goOn_58 rfl rfl ⟨rfl, rfl⟩ ⟨Nat.zero_le _, Nat.zero_le _⟩ (zO.of gH38 hh)) gH38 rfl (fun H18 lc18 hp_18 gH18 rH18 => ?_)
        have s_19 := rH18.keep hV kh0 rfl s_14
        have s_20 := rH18.keepA k_q_14 rfl s_16
        have s_21 := rH18.keepA k_q_14 rfl s_17
        refine lv_aload_n hx hb dX8_goOn_61 rfl (lv_at hl 0 rfl) ?_
        refine g_getR B fl_RX8_30 gH18.1 kh0 rfl rfl rfl rfl rfl dX8_goOn_62 (fun q_22 s_22 k_q_22 => ?_)
        refine lv_iload_n hx hb dX8_goOn_65 rfl (lv_at hl 1 rfl) ?_
        refine lv_iconst (v := 1) hx hb dX8_goOn_66 (by decide) ?_
        refine lv_iadd hx hb dX8_goOn_67 ?_
        refine lv_topi (fun x_23 e_23 => ?_)
        have t_23 := z_add e_23 rfl kl_1 (by omega) (by omega)
        refine g_aaldI (i := x_23) (N := 11) B gH18.1 k_q_22 rfl rfl rfl rfl rfl (by omega) (by omega) rfl dX8_goOn_68 (fun q_24 s_24 k_q_24 => ?_)
        refine lv_aload_n hx hb dX8_goOn_69 rfl (lv_at hl 0 rfl) ?_
        refine g_get B fl_RX8_30 gH18.1 kh0 rfl rfl rfl dX8_goOn_70 s_22 ?_
        refine lv_iload_n hx hb dX8_goOn_73 rfl (lv_at hl 1 rfl) ?_
        refine g_aaldI (i := p1) (N := 11) B gH18.1 k_q_22 rfl rfl rfl rfl rfl (by omega) (by omega) rfl dX8_goOn_74 (fun q_25 s_25 k_q_25 => ?_)
        refine zkV (zrV (rest := []) B (c_X4_copyOf l E hV H18 gH18.1 q_24 k_q_24 q_25 k_q_25) cl_RX8_55 gH18.1 k_q_24 rfl rfl rfl rfl hl.1 rfl (Nat.le_of_ble_eq_true rfl) dX8_goOn_75 rfl rfl ⟨rfl, rfl⟩ ⟨Nat.zero_le _, Nat.zero_le _⟩ (zO.of gH18 hh)) gH18 rfl (fun H26 lc26 hp_26 gH26 rH26 => ?_)
        have s_27 := rH26.keep hV kh0 rfl s_19
        have s_28 := rH26.keepA k_q_14 rfl s_20
        have s_29 := rH26.keepA k_q_14 rfl s_21
        have s_30 := rH26.keep hV kh0 rfl s_22
        have s_31 := rH26.keepA k_q_22 rfl s_24
        have s_32 := rH26.keepA k_q_22 rfl s_25
        refine lv_aload_n hx hb dX8_goOn_78 rfl (lv_at hl 0 rfl) ?_
        refine lv_iload hx hb dX8_goOn_79 (lv_at hl 3 rfl) ?_
        refine lv_iload_n hx hb dX8_goOn_81 rfl (lv_at hl 1 rfl) ?_
        refine lv_iconst (v := 1) hx hb dX8_goOn_82 (by decide) ?_
        refine lv_iadd hx hb dX8_goOn_83 ?_
        refine lv_topi (fun x_33 e_33 => ?_)
        have t_33 := z_add e_33 rfl kl_1 (by omega) (by omega)
        refine lv_iload hx hb dX8_goOn_84 (lv_at hl 4 rfl) ?_
        refine lv_if_ne (tgt := 93) hx hb dX8_goOn_86 (by decide) (fun c_34 => ?_) (fun c_34 => ?_)
        · have f_34 := z_ne c_34 rfl kl_0
          refine lv_iconst (v := 0) hx hb dX8_goOn_93 (by decide) ?_
          have := kl_0
          exact b94 H26 lc26 ls 0 x_33 q_14 q_22 gH26 (lv_sub hl [0, 1, 2, 3, 4] rfl) k_q_14 k_q_22 (by omega) (by omega) (by omega) (by omega) (by omega) s_27 s_30
        · have f_34 := z_eq c_34 rfl kl_0
          refine lv_iconst (v := 1) hx hb dX8_goOn_89 (by decide) ?_
          refine lv_goto (tgt := 94) hx hb dX8_goOn_90 (by decide) ?_
          have := kl_1
          exact b94 H26 lc26 ls 1 x_33 q_14 q_22 gH26 (lv_sub hl [0, 1, 2, 3, 4] rfl) k_q_14 k_q_22 (by omega) (by omega) (by omega) (by omega) (by omega) s_27 s_30
  have b3 : ∀ (n3 : Nat) (H3 : Heap) (lc3 : List Loc) (ls : Array Slot) (v3_4 : Int32), 60 - v3_4.toInt < (n3 : Int) → zG E wS_X8_goOn_d0 H0 H3 lc3 → lv_has ls 6 [(0, .ref h0), (2, .int p1), (3, .int p2), (4, .int v3_4)] → 0 ≤ v3_4.toInt → v3_4.toInt ≤ 60 → W p l e rm_X8_goOn_d0 s m args below meth c H3 lc3 0 0 Q (F0 m 3 ls []) := by
    intro n3
    induction n3 with
    | zero =>
      intro H3 lc3 ls v3_4 hm3 gH3 hl f3_1 f3_2
      exact absurd hm3 (by omega)
    | succ n3 ih3 =>
      intro H3 lc3 ls v3_4 hm3 gH3 hl f3_1 f3_2
      have b124 : ∀ (ls : Array Slot) (u124_h0_5 : Nat), lv_has ls 6 [(0, .ref h0), (2, .int p1), (3, .int p2), (4, .int v3_4)] → eK E u124_h0_5 = 4 → v3_4.toInt ≤ 59 → sl H3 h0 (zix E 9 5) = some (.ref u124_h0_5) → W p l e rm_X8_goOn_d0 s m args below meth c H3 lc3 0 0 Q (F0 m 124 ls []) := by
        intro ls u124_h0_5 hl k_u124_h0_5 f124_1 s124_u124_h0_5
        refine lv_aload_n hx hb dX8_goOn_124 rfl (lv_at hl 0 rfl) ?_
        refine lv_iload hx hb dX8_goOn_125 (lv_at hl 3 rfl) ?_
        refine lv_iload_n hx hb dX8_goOn_127 rfl (lv_at hl 1 rfl) ?_
        refine lv_aload_n hx hb dX8_goOn_128 rfl (lv_at hl 0 rfl) ?_
        refine g_get B fl_RX8_40 gH3.1 kh0 rfl rfl rfl dX8_goOn_129 s124_u124_h0_5 ?_
        refine g_getR B fl_RX8_74 gH3.1 k_u124_h0_5 rfl rfl rfl rfl rfl dX8_goOn_132 (fun q_35 s_35 k_q_35 => ?_)
        refine lv_iload hx hb dX8_goOn_135 (lv_at hl 3 rfl) ?_
        refine g_zaldI (i := v3_4) (N := 240) B gH3.1 k_q_35 rfl rfl rfl rfl (by omega) (by omega) rfl dX8_goOn_137 (fun x_36 s_36 a_36 b_36 => ?_)
        refine zkI (zrV (rest := []) B (c_X8_canHappen l E hV H3 gH3.1 h0 kh0 v3_4 (by omega) (by omega) p1 (by omega) (by omega) x_36 (by omega) (by omega)) cl_RX8_66 gH3.1 kh0 rfl rfl rfl rfl hl.1 rfl (Nat.le_of_ble_eq_true rfl) dX8_goOn_138 rfl rfl ⟨rfl, rfl⟩ ⟨Nat.zero_le _, Nat.zero_le _⟩ (zO.of gH3 hh)) gH3 rfl (fun x_37 H37 lc37 hp_37 gH37 rH37 => ?_)
        have s_38 := rH37.keep hV kh0 rfl s124_u124_h0_5
        have s_39 := rH37.keep hV k_u124_h0_5 rfl s_35
        have s_40 := rH37.keepA k_q_35 rfl s_36
        obtain ⟨hp_37_1, hp_37_2⟩ := hp_37
        refine lv_if_ne (tgt := 145) hx hb dX8_goOn_141 (by decide) (fun c_41 => ?_) (fun c_41 => ?_)
        · have f_41 := z_ne c_41 rfl kl_0
          obtain ⟨x_42, e_42⟩ : ∃ y : Int32, (v3_4 : Int32) + Int32.ofInt 1 = y := ⟨_, rfl⟩
          refine lv_iinc (v := x_42) (lv' := [(4, .int x_42), (0, .ref h0), (2, .int p1), (3, .int p2)]) hx hb dX8_goOn_145 hl (k := 3) rfl e_42 (by decide) rfl (fun ls hl => ?_)
          have t_42 := z_inc2 e_42 rfl (by decide) (by omega) (by omega)
          refine lv_goto (tgt := 3) hx hb dX8_goOn_148 (by decide) ?_
          exact ih3 H37 lc37 ls x_42 (by omega) gH37 (lv_sub hl [1, 2, 3, 0] rfl) (by omega) (by omega)
        · have f_41 := z_eq c_41 rfl kl_0
          exact rtV B hr hlk hh hQ gH37 trivial dX8_goOn_144
      refine lv_iload hx hb dX8_goOn_3 (lv_at hl 3 rfl) ?_
      refine lv_aload_n hx hb dX8_goOn_5 rfl (lv_at hl 0 rfl) ?_
      refine g_getR B fl_RX8_40 gH3.1 kh0 rfl rfl rfl rfl rfl dX8_goOn_6 (fun q_43 s_43 k_q_43 => ?_)
      refine g_getI B fl_RX8_59 gH3.1 k_q_43 rfl rfl rfl rfl rfl dX8_goOn_9 (fun x_44 s_44 a_44 b_44 => ?_)
      refine lv_icmp_ge (tgt := 151) hx hb dX8_goOn_12 (by decide) (fun c_45 => ?_) (fun c_45 => ?_)
      · have f_45 := z_le c_45 rfl rfl
        refine lv_aload_n hx hb dX8_goOn_151 rfl (lv_at hl 0 rfl) ?_
        refine lv_iload_n hx hb dX8_goOn_152 rfl (lv_at hl 1 rfl) ?_
        refine lv_iload_n hx hb dX8_goOn_153 rfl (lv_at hl 2 rfl) ?_
        refine zkV (zrV (rest := []) B (c_X8_add l E hV H3 gH3.1 h0 kh0 p1 p2) cl_RX8_78 gH3.1 kh0 rfl rfl rfl rfl hl.1 rfl (Nat.le_of_ble_eq_true rfl) dX8_goOn_154 rfl rfl ⟨rfl, rfl⟩ ⟨Nat.zero_le _, Nat.zero_le _⟩ (zO.of gH3 hh)) gH3 rfl (fun H46 lc46 hp_46 gH46 rH46 => ?_)
        exact rtV B hr hlk hh hQ gH46 trivial dX8_goOn_157
      · have f_45 := z_nle c_45 rfl rfl
        refine lv_aload_n hx hb dX8_goOn_15 rfl (lv_at hl 0 rfl) ?_
        refine g_get B fl_RX8_40 gH3.1 kh0 rfl rfl rfl dX8_goOn_16 s_43 ?_
        refine g_getR B fl_RX8_62 gH3.1 k_q_43 rfl rfl rfl rfl rfl dX8_goOn_19 (fun q_47 s_47 k_q_47 => ?_)
        refine lv_iload hx hb dX8_goOn_22 (lv_at hl 3 rfl) ?_
        refine g_ialdI (i := v3_4) (N := 240) B gH3.1 k_q_47 rfl rfl rfl rfl (by omega) (by omega) rfl dX8_goOn_24 (fun x_48 s_48 a_48 b_48 => ?_)
        refine lv_iconst (v := (-1)) hx hb dX8_goOn_25 (by decide) ?_
        refine lv_icmp_eq (tgt := 124) hx hb dX8_goOn_26 (by decide) (fun c_49 => ?_) (fun c_49 => ?_)
        · have f_49 := z_eq c_49 rfl kl_m1
          exact b124 ls q_43 (lv_sub hl [0, 1, 2, 3] rfl) k_q_43 (by omega) s_43
        · have f_49 := z_ne c_49 rfl kl_m1
          refine lv_iload_n hx hb dX8_goOn_29 rfl (lv_at hl 1 rfl) ?_
          refine lv_bipush (v := 10) hx hb dX8_goOn_30 (by decide) ?_
          refine lv_icmp_ge (tgt := 124) hx hb dX8_goOn_32 (by decide) (fun c_50 => ?_) (fun c_50 => ?_)
          · have f_50 := z_le c_50 kl_10 rfl
            exact False.elim (by omega)
          · have f_50 := z_nle c_50 kl_10 rfl
            refine lv_iconst (v := 0) hx hb dX8_goOn_35 (by decide) ?_
            refine lv_istore (lv' := [(5, .int 0), (0, .ref h0), (2, .int p1), (3, .int p2), (4, .int v3_4)]) hx hb dX8_goOn_36 hl (by decide) rfl (fun ls hl => ?_)
            have := kl_0
            exact b38 3 H3 lc3 ls v3_4 0 (by omega) gH3 (lv_sub hl [1, 2, 3, 4, 0] rfl) (by omega) (by omega) (by omega) (by omega)
  refine lv_iload_n hx hb dX8_goOn_0 rfl (lv_at hl 1 rfl) ?_
  refine lv_istore (lv' := [(4, .int p0), (0, .ref h0), (1, .int p0), (2, .int p1), (3, .int p2)]) hx hb dX8_goOn_1 hl (by decide) rfl (fun ls hl => ?_)
  exact b3 61 H0 [] ls p0 (by omega) hG0 (lv_sub hl [1, 3, 4, 0] rfl) (by omega) (by omega)
