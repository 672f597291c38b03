theorem dX3_boardNow_0 : decode cX3_boardNow 0 = .ok (.aload_n 0, 1) := by decide +kernel
theorem dX3_boardNow_1 : decode cX3_boardNow 1 = .ok (.getfield 34, 3) := by decide +kernel
theorem dX3_boardNow_4 : decode cX3_boardNow 4 = .ok (.iconst 2, 1) := by decide +kernel
theorem dX3_boardNow_5 : decode cX3_boardNow 5 = .ok (.aload_n 0, 1) := by decide +kernel
theorem dX3_boardNow_6 : decode cX3_boardNow 6 = .ok (.getfield 9, 3) := by decide +kernel
theorem dX3_boardNow_9 : decode cX3_boardNow 9 = .ok (.imul, 1) := by decide +kernel
theorem dX3_boardNow_10 : decode cX3_boardNow 10 = .ok (.iload_n 1, 1) := by decide +kernel
theorem dX3_boardNow_11 : decode cX3_boardNow 11 = .ok (.iadd, 1) := by decide +kernel
theorem dX3_boardNow_12 : decode cX3_boardNow 12 = .ok (.aaload, 1) := by decide +kernel
theorem dX3_boardNow_13 : decode cX3_boardNow 13 = .ok (.areturn, 1) := by decide +kernel
def rm_X3_boardNow : Room := { frames := 0, cells := 0, slots := 0, locals := 0 }
set_option maxRecDepth 100000 in
set_option maxHeartbeats 4000000 in
theorem c_X3_boardNow (l : Launch) (E : zE) (hV : zV E) (H0 : Heap) (hT0 : HT E H0) (h0 : Nat) (kh0 : eK E h0 = 4) (p0 : Int32) (p0_lo : 0 ≤ p0.toInt) (p0_hi : p0.toInt ≤ 1) : Met l yX3_boardNow (zws yX3_boardNow cX3_boardNow 2 (some (.object "StraitGame$Position"))) rm_X3_boardNow (zP E H0 [.ref h0, .int p0]) (zPR (fun r => eK E r = 5)) 0 0 (fun _ => False) := by
  refine zEnt (by decide) (Nat.le_of_ble_eq_true rfl) (fun p e s m args below meth c ls Q B hr hlk hh hQ hl => ?_)
  have hx := B.1
  have hb := B.2.1
  have hl : lv_has ls 2 [(0, .ref h0), (1, .int p0)] := hl
  refine lv_aload_n hx hb dX3_boardNow_0 rfl (lv_at hl 0 rfl) ?_
  refine g_getR B fl_RX3_34 hT0 kh0 rfl rfl rfl rfl rfl dX3_boardNow_1 (fun q_1 s_1 k_q_1 => ?_)
  refine lv_iconst (v := 2) hx hb dX3_boardNow_4 (by decide) ?_
  refine lv_aload_n hx hb dX3_boardNow_5 rfl (lv_at hl 0 rfl) ?_
  refine g_getI B fl_RX3_9 hT0 kh0 rfl rfl rfl rfl rfl dX3_boardNow_6 (fun x_2 s_2 a_2 b_2 => ?_)
  refine lv_imul hx hb dX3_boardNow_9 ?_
  refine lv_topi (fun x_3 e_3 => ?_)
  have t_3 := z_mul e_3 kl_2 rfl (by omega) (by omega)
  refine lv_iload_n hx hb dX3_boardNow_10 rfl (lv_at hl 1 rfl) ?_
  refine lv_iadd hx hb dX3_boardNow_11 ?_
  refine lv_topi (fun x_4 e_4 => ?_)
  have t_4 := z_add e_4 rfl rfl (by omega) (by omega)
  refine g_aaldI (i := x_4) (N := 122) B hT0 k_q_1 rfl rfl rfl rfl rfl (by omega) (by omega) rfl dX3_boardNow_12 (fun q_5 s_5 k_q_5 => ?_)
  exact rtPR B hr hlk hh hQ (k_q_5) dX3_boardNow_13

theorem dX3_start_0 : decode cX3_start 0 = .ok (.aload_n 0, 1) := by decide +kernel
theorem dX3_start_1 : decode cX3_start 1 = .ok (.getfield 34, 3) := by decide +kernel
theorem dX3_start_4 : decode cX3_start 4 = .ok (.iconst 0, 1) := by decide +kernel
theorem dX3_start_5 : decode cX3_start 5 = .ok (.aaload, 1) := by decide +kernel
theorem dX3_start_6 : decode cX3_start 6 = .ok (.areturn, 1) := by decide +kernel
def rm_X3_start : Room := { frames := 0, cells := 0, slots := 0, locals := 0 }
set_option maxRecDepth 100000 in
set_option maxHeartbeats 4000000 in
theorem c_X3_start (l : Launch) (E : zE) (hV : zV E) (H0 : Heap) (hT0 : HT E H0) (h0 : Nat) (kh0 : eK E h0 = 4) : Met l yX3_start (zws yX3_start cX3_start 1 (some (.object "StraitGame$Position"))) rm_X3_start (zP E H0 [.ref h0]) (zPR (fun r => eK E r = 5)) 0 0 (fun _ => False) := by
  refine zEnt (by decide) (Nat.le_of_ble_eq_true rfl) (fun p e s m args below meth c ls Q B hr hlk hh hQ hl => ?_)
  have hx := B.1
  have hb := B.2.1
  have hl : lv_has ls 1 [(0, .ref h0)] := hl
  refine lv_aload_n hx hb dX3_start_0 rfl (lv_at hl 0 rfl) ?_
  refine g_getR B fl_RX3_34 hT0 kh0 rfl rfl rfl rfl rfl dX3_start_1 (fun q_1 s_1 k_q_1 => ?_)
  refine lv_iconst (v := 0) hx hb dX3_start_4 (by decide) ?_
  have := kl_0
  refine g_aaldI (i := 0) (N := 122) B hT0 k_q_1 rfl rfl rfl rfl rfl (by omega) (by omega) rfl dX3_start_5 (fun q_2 s_2 k_q_2 => ?_)
  exact rtPR B hr hlk hh hQ (k_q_2) dX3_start_6

theorem dX3_begin_0 : decode cX3_begin 0 = .ok (.aload_n 0, 1) := by decide +kernel
theorem dX3_begin_1 : decode cX3_begin 1 = .ok (.iconst 0, 1) := by decide +kernel
theorem dX3_begin_2 : decode cX3_begin 2 = .ok (.putfield 9, 3) := by decide +kernel
theorem dX3_begin_5 : decode cX3_begin 5 = .ok (.aload_n 0, 1) := by decide +kernel
theorem dX3_begin_6 : decode cX3_begin 6 = .ok (.iconst 0, 1) := by decide +kernel
theorem dX3_begin_7 : decode cX3_begin 7 = .ok (.putfield 15, 3) := by decide +kernel
theorem dX3_begin_10 : decode cX3_begin 10 = .ok (.aload_n 0, 1) := by decide +kernel
theorem dX3_begin_11 : decode cX3_begin 11 = .ok (.getfield 34, 3) := by decide +kernel
theorem dX3_begin_14 : decode cX3_begin 14 = .ok (.iconst 0, 1) := by decide +kernel
theorem dX3_begin_15 : decode cX3_begin 15 = .ok (.aaload, 1) := by decide +kernel
theorem dX3_begin_16 : decode cX3_begin 16 = .ok (.aload_n 1, 1) := by decide +kernel
theorem dX3_begin_17 : decode cX3_begin 17 = .ok (.invokevirtual 46, 3) := by decide +kernel
theorem dX3_begin_20 : decode cX3_begin 20 = .ok (.aload_n 0, 1) := by decide +kernel
theorem dX3_begin_21 : decode cX3_begin 21 = .ok (.getfield 34, 3) := by decide +kernel
theorem dX3_begin_24 : decode cX3_begin 24 = .ok (.iconst 1, 1) := by decide +kernel
theorem dX3_begin_25 : decode cX3_begin 25 = .ok (.aaload, 1) := by decide +kernel
theorem dX3_begin_26 : decode cX3_begin 26 = .ok (.aload_n 1, 1) := by decide +kernel
theorem dX3_begin_27 : decode cX3_begin 27 = .ok (.invokevirtual 46, 3) := by decide +kernel
theorem dX3_begin_30 : decode cX3_begin 30 = .ok (.aload_n 0, 1) := by decide +kernel
theorem dX3_begin_31 : decode cX3_begin 31 = .ok (.getfield 38, 3) := by decide +kernel
theorem dX3_begin_34 : decode cX3_begin 34 = .ok (.iconst (-1), 1) := by decide +kernel
theorem dX3_begin_35 : decode cX3_begin 35 = .ok (.invokestatic 50, 3) := by decide +kernel
theorem dX3_begin_38 : decode cX3_begin 38 = .ok (.return_, 1) := by decide +kernel
def rm_X3_begin : Room := { frames := 1, cells := 0, slots := 0, locals := 23 }
abbrev wS_X3_begin : List (Nat × Nat) := [(4, 0), (4, 1), (5, 0), (5, 1), (5, 2), (5, 3), (5, 4), (5, 5), (5, 6), (38, 99)]
set_option maxRecDepth 100000 in
set_option maxHeartbeats 4000000 in
theorem c_X3_begin (l : Launch) (E : zE) (hV : zV E) (H0 : Heap) (hT0 : HT E H0) (h0 : Nat) (kh0 : eK E h0 = 4) (p0 : Nat) (kp0 : eK E p0 = 5) : Met l yX3_begin (zws yX3_begin cX3_begin 2 none) rm_X3_begin (zP E H0 [.ref h0, .ref p0]) (zQV E E wS_X3_begin (fun H1 => True)) 0 0 (zfr E) := by
  refine zEnt (by decide) (Nat.le_of_ble_eq_true rfl) (fun p e s m args below meth c ls Q B hr hlk hh hQ hl => ?_)
  have hx := B.1
  have hb := B.2.1
  have hG0 : zG E wS_X3_begin H0 H0 [] := zG.rf hT0
  have hl : lv_has ls 2 [(0, .ref h0), (1, .ref p0)] := hl
  refine lv_aload_n hx hb dX3_begin_0 rfl (lv_at hl 0 rfl) ?_
  refine lv_iconst (v := 0) hx hb dX3_begin_1 (by decide) ?_
  have := kl_0
  refine g_putI B fp_RX3_9 hV hG0 kh0 rfl rfl rfl rfl rfl (by omega) (by omega) rfl dX3_begin_2 (fun H1 lc1 gH1 uH1 => ?_)
  refine lv_aload_n hx hb dX3_begin_5 rfl (lv_at hl 0 rfl) ?_
  refine lv_iconst (v := 0) hx hb dX3_begin_6 (by decide) ?_
  have := kl_0
  refine g_putI B fp_RX3_15 hV gH1 kh0 rfl rfl rfl rfl rfl (by omega) (by omega) rfl dX3_begin_7 (fun H2 lc2 gH2 uH2 => ?_)
  refine lv_aload_n hx hb dX3_begin_10 rfl (lv_at hl 0 rfl) ?_
  refine g_getR B fl_RX3_34 gH2.1 kh0 rfl rfl rfl rfl rfl dX3_begin_11 (fun q_3 s_3 k_q_3 => ?_)
  refine lv_iconst (v := 0) hx hb dX3_begin_14 (by decide) ?_
  have := kl_0
  refine g_aaldI (i := 0) (N := 122) B gH2.1 k_q_3 rfl rfl rfl rfl rfl (by omega) (by omega) rfl dX3_begin_15 (fun q_4 s_4 k_q_4 => ?_)
  refine lv_aload_n hx hb dX3_begin_16 rfl (lv_at hl 1 rfl) ?_
  refine zkV (zrV (rest := []) B (c_X4_copyOf l E hV H2 gH2.1 q_4 k_q_4 p0 kp0) cl_RX3_46 gH2.1 k_q_4 rfl rfl rfl rfl hl.1 rfl (Nat.le_of_ble_eq_true rfl) dX3_begin_17 rfl rfl ⟨rfl, rfl⟩ ⟨Nat.zero_le _, Nat.zero_le _⟩ (zO.of gH2 hh)) gH2 rfl (fun H5 lc5 hp_5 gH5 rH5 => ?_)
  have s_6 := rH5.keep hV kh0 rfl s_3
  have s_7 := rH5.keepA k_q_3 rfl s_4
  refine lv_aload_n hx hb dX3_begin_20 rfl (lv_at hl 0 rfl) ?_
  refine g_get B fl_RX3_34 gH5.1 kh0 rfl rfl rfl dX3_begin_21 s_6 ?_
  refine lv_iconst (v := 1) hx hb dX3_begin_24 (by decide) ?_
  have := kl_1
  refine g_aaldI (i := 1) (N := 122) B gH5.1 k_q_3 rfl rfl rfl rfl rfl (by omega) (by omega) rfl dX3_begin_25 (fun q_8 s_8 k_q_8 => ?_)
  refine lv_aload_n hx hb dX3_begin_26 rfl (lv_at hl 1 rfl) ?_
  refine zkV (zrV (rest := []) B (c_X4_copyOf l E hV H5 gH5.1 q_8 k_q_8 p0 kp0) cl_RX3_46 gH5.1 k_q_8 rfl rfl rfl rfl hl.1 rfl (Nat.le_of_ble_eq_true rfl) dX3_begin_27 rfl rfl ⟨rfl, rfl⟩ ⟨Nat.zero_le _, Nat.zero_le _⟩ (zO.of gH5 hh)) gH5 rfl (fun H9 lc9 hp_9 gH9 rH9 => ?_)
  refine lv_aload_n hx hb dX3_begin_30 rfl (lv_at hl 0 rfl) ?_
  refine g_getR B fl_RX3_38 gH9.1 kh0 rfl rfl rfl rfl rfl dX3_begin_31 (fun q_10 s_10 k_q_10 => ?_)
  refine lv_iconst (v := (-1)) hx hb dX3_begin_34 (by decide) ?_
  have := kl_m1
  refine zkV (zrS (rest := []) B (c_J7_fill_53178_k38 l E hV H9 gH9.1 q_10 k_q_10 (-1) (by omega) (by omega)) cs_RX3_50 rfl hl.1 rfl (Nat.le_of_ble_eq_true rfl) dX3_begin_35 rfl rfl ⟨rfl, rfl⟩ ⟨Nat.zero_le _, Nat.zero_le _⟩ (zO.of gH9 hh)) gH9 rfl (fun H11 lc11 hp_11 gH11 rH11 => ?_)
  exact rtV B hr hlk hh hQ gH11 trivial dX3_begin_38

theorem dX3_playOut_0 : decode cX3_playOut 0 = .ok (.iconst 2, 1) := by decide +kernel
theorem dX3_playOut_1 : decode cX3_playOut 1 = .ok (.iload_n 1, 1) := by decide +kernel
theorem dX3_playOut_2 : decode cX3_playOut 2 = .ok (.imul, 1) := by decide +kernel
theorem dX3_playOut_3 : decode cX3_playOut 3 = .ok (.iconst 2, 1) := by decide +kernel
theorem dX3_playOut_4 : decode cX3_playOut 4 = .ok (.iadd, 1) := by decide +kernel
theorem dX3_playOut_5 : decode cX3_playOut 5 = .ok (.istore_n 2, 1) := by decide +kernel
theorem dX3_playOut_6 : decode cX3_playOut 6 = .ok (.aload_n 0, 1) := by decide +kernel
theorem dX3_playOut_7 : decode cX3_playOut 7 = .ok (.getfield 34, 3) := by decide +kernel
theorem dX3_playOut_10 : decode cX3_playOut 10 = .ok (.iload_n 2, 1) := by decide +kernel
theorem dX3_playOut_11 : decode cX3_playOut 11 = .ok (.aaload, 1) := by decide +kernel
theorem dX3_playOut_12 : decode cX3_playOut 12 = .ok (.aload_n 0, 1) := by decide +kernel
theorem dX3_playOut_13 : decode cX3_playOut 13 = .ok (.getfield 34, 3) := by decide +kernel
theorem dX3_playOut_16 : decode cX3_playOut 16 = .ok (.iload_n 2, 1) := by decide +kernel
theorem dX3_playOut_17 : decode cX3_playOut 17 = .ok (.iconst 2, 1) := by decide +kernel
theorem dX3_playOut_18 : decode cX3_playOut 18 = .ok (.isub, 1) := by decide +kernel
theorem dX3_playOut_19 : decode cX3_playOut 19 = .ok (.aaload, 1) := by decide +kernel
theorem dX3_playOut_20 : decode cX3_playOut 20 = .ok (.invokevirtual 46, 3) := by decide +kernel
theorem dX3_playOut_23 : decode cX3_playOut 23 = .ok (.aload_n 0, 1) := by decide +kernel
theorem dX3_playOut_24 : decode cX3_playOut 24 = .ok (.getfield 34, 3) := by decide +kernel
theorem dX3_playOut_27 : decode cX3_playOut 27 = .ok (.iload_n 2, 1) := by decide +kernel
theorem dX3_playOut_28 : decode cX3_playOut 28 = .ok (.iconst 1, 1) := by decide +kernel
theorem dX3_playOut_29 : decode cX3_playOut 29 = .ok (.iadd, 1) := by decide +kernel
theorem dX3_playOut_30 : decode cX3_playOut 30 = .ok (.aaload, 1) := by decide +kernel
theorem dX3_playOut_31 : decode cX3_playOut 31 = .ok (.aload_n 0, 1) := by decide +kernel
theorem dX3_playOut_32 : decode cX3_playOut 32 = .ok (.getfield 34, 3) := by decide +kernel
theorem dX3_playOut_35 : decode cX3_playOut 35 = .ok (.iload_n 2, 1) := by decide +kernel
theorem dX3_playOut_36 : decode cX3_playOut 36 = .ok (.iconst 1, 1) := by decide +kernel
theorem dX3_playOut_37 : decode cX3_playOut 37 = .ok (.isub, 1) := by decide +kernel
theorem dX3_playOut_38 : decode cX3_playOut 38 = .ok (.aaload, 1) := by decide +kernel
theorem dX3_playOut_39 : decode cX3_playOut 39 = .ok (.invokevirtual 46, 3) := by decide +kernel
theorem dX3_playOut_42 : decode cX3_playOut 42 = .ok (.aload_n 0, 1) := by decide +kernel
theorem dX3_playOut_43 : decode cX3_playOut 43 = .ok (.getfield 29, 3) := by decide +kernel
theorem dX3_playOut_46 : decode cX3_playOut 46 = .ok (.iload_n 1, 1) := by decide +kernel
theorem dX3_playOut_47 : decode cX3_playOut 47 = .ok (.iconst 0, 1) := by decide +kernel
theorem dX3_playOut_48 : decode cX3_playOut 48 = .ok (.bastore, 1) := by decide +kernel
theorem dX3_playOut_49 : decode cX3_playOut 49 = .ok (.aload_n 0, 1) := by decide +kernel
theorem dX3_playOut_50 : decode cX3_playOut 50 = .ok (.getfield 18, 3) := by decide +kernel
theorem dX3_playOut_53 : decode cX3_playOut 53 = .ok (.iload_n 1, 1) := by decide +kernel
theorem dX3_playOut_54 : decode cX3_playOut 54 = .ok (.iaload, 1) := by decide +kernel
theorem dX3_playOut_55 : decode cX3_playOut 55 = .ok (.istore_n 3, 1) := by decide +kernel
theorem dX3_playOut_56 : decode cX3_playOut 56 = .ok (.iload_n 3, 1) := by decide +kernel
theorem dX3_playOut_57 : decode cX3_playOut 57 = .ok (.iconst (-1), 1) := by decide +kernel
theorem dX3_playOut_58 : decode cX3_playOut 58 = .ok (.if_icmp .eq 73, 3) := by decide +kernel
theorem dX3_playOut_61 : decode cX3_playOut 61 = .ok (.aload_n 0, 1) := by decide +kernel
theorem dX3_playOut_62 : decode cX3_playOut 62 = .ok (.getfield 41, 3) := by decide +kernel
theorem dX3_playOut_65 : decode cX3_playOut 65 = .ok (.aload_n 0, 1) := by decide +kernel
theorem dX3_playOut_66 : decode cX3_playOut 66 = .ok (.getfield 34, 3) := by decide +kernel
theorem dX3_playOut_69 : decode cX3_playOut 69 = .ok (.iload_n 2, 1) := by decide +kernel
theorem dX3_playOut_70 : decode cX3_playOut 70 = .ok (.iload_n 3, 1) := by decide +kernel
theorem dX3_playOut_71 : decode cX3_playOut 71 = .ok (.iadd, 1) := by decide +kernel
theorem dX3_playOut_72 : decode cX3_playOut 72 = .ok (.aaload, 1) := by decide +kernel
theorem dX3_playOut_73 : decode cX3_playOut 73 = .ok (.iload_n 3, 1) := by decide +kernel
theorem dX3_playOut_74 : decode cX3_playOut 74 = .ok (.aload_n 0, 1) := by decide +kernel
theorem dX3_playOut_75 : decode cX3_playOut 75 = .ok (.getfield 22, 3) := by decide +kernel
theorem dX3_playOut_78 : decode cX3_playOut 78 = .ok (.iload_n 1, 1) := by decide +kernel
theorem dX3_playOut_79 : decode cX3_playOut 79 = .ok (.iaload, 1) := by decide +kernel
theorem dX3_playOut_80 : decode cX3_playOut 80 = .ok (.invokevirtual 60, 3) := by decide +kernel
theorem dX3_playOut_83 : decode cX3_playOut 83 = .ok (.pop, 1) := by decide +kernel
theorem dX3_playOut_84 : decode cX3_playOut 84 = .ok (.aload_n 0, 1) := by decide +kernel
theorem dX3_playOut_85 : decode cX3_playOut 85 = .ok (.getfield 29, 3) := by decide +kernel
theorem dX3_playOut_88 : decode cX3_playOut 88 = .ok (.iload_n 1, 1) := by decide +kernel
theorem dX3_playOut_89 : decode cX3_playOut 89 = .ok (.aload_n 0, 1) := by decide +kernel
theorem dX3_playOut_90 : decode cX3_playOut 90 = .ok (.getfield 25, 3) := by decide +kernel
theorem dX3_playOut_93 : decode cX3_playOut 93 = .ok (.iload_n 1, 1) := by decide +kernel
theorem dX3_playOut_94 : decode cX3_playOut 94 = .ok (.baload, 1) := by decide +kernel
theorem dX3_playOut_95 : decode cX3_playOut 95 = .ok (.ifCond .eq 34, 3) := by decide +kernel
theorem dX3_playOut_98 : decode cX3_playOut 98 = .ok (.aload_n 0, 1) := by decide +kernel
theorem dX3_playOut_99 : decode cX3_playOut 99 = .ok (.getfield 41, 3) := by decide +kernel
theorem dX3_playOut_102 : decode cX3_playOut 102 = .ok (.aload_n 0, 1) := by decide +kernel
theorem dX3_playOut_103 : decode cX3_playOut 103 = .ok (.getfield 34, 3) := by decide +kernel
theorem dX3_playOut_106 : decode cX3_playOut 106 = .ok (.iload_n 2, 1) := by decide +kernel
theorem dX3_playOut_107 : decode cX3_playOut 107 = .ok (.iconst 1, 1) := by decide +kernel
theorem dX3_playOut_108 : decode cX3_playOut 108 = .ok (.iadd, 1) := by decide +kernel
theorem dX3_playOut_109 : decode cX3_playOut 109 = .ok (.iload_n 3, 1) := by decide +kernel
theorem dX3_playOut_110 : decode cX3_playOut 110 = .ok (.isub, 1) := by decide +kernel
theorem dX3_playOut_111 : decode cX3_playOut 111 = .ok (.aaload, 1) := by decide +kernel
theorem dX3_playOut_112 : decode cX3_playOut 112 = .ok (.iload_n 3, 1) := by decide +kernel
theorem dX3_playOut_113 : decode cX3_playOut 113 = .ok (.aload_n 0, 1) := by decide +kernel
theorem dX3_playOut_114 : decode cX3_playOut 114 = .ok (.getfield 22, 3) := by decide +kernel
theorem dX3_playOut_117 : decode cX3_playOut 117 = .ok (.iload_n 1, 1) := by decide +kernel
theorem dX3_playOut_118 : decode cX3_playOut 118 = .ok (.iaload, 1) := by decide +kernel
theorem dX3_playOut_119 : decode cX3_playOut 119 = .ok (.invokevirtual 60, 3) := by decide +kernel
theorem dX3_playOut_122 : decode cX3_playOut 122 = .ok (.ifCond .ne 7, 3) := by decide +kernel
theorem dX3_playOut_125 : decode cX3_playOut 125 = .ok (.iconst 1, 1) := by decide +kernel
theorem dX3_playOut_126 : decode cX3_playOut 126 = .ok (.goto 4, 3) := by decide +kernel
theorem dX3_playOut_129 : decode cX3_playOut 129 = .ok (.iconst 0, 1) := by decide +kernel
theorem dX3_playOut_130 : decode cX3_playOut 130 = .ok (.bastore, 1) := by decide +kernel
theorem dX3_playOut_131 : decode cX3_playOut 131 = .ok (.return_, 1) := by decide +kernel
def rm_X3_playOut : Room := { frames := 4, cells := 0, slots := 0, locals := 109 }
abbrev wS_X3_playOut : List (Nat × Nat) := [(5, 0), (5, 1), (5, 2), (5, 3), (5, 4), (5, 5), (5, 6), (36, 99)]
set_option maxRecDepth 100000 in
set_option maxHeartbeats 4000000 in
theorem c_X3_playOut (l : Launch) (E : zE) (hV : zV E) (H0 : Heap) (hT0 : HT E H0) (h0 : Nat) (kh0 : eK E h0 = 4) (p0 : Int32) (p0_lo : 0 ≤ p0.toInt) (p0_hi : p0.toInt ≤ 59) : Met l yX3_playOut (zws yX3_playOut cX3_playOut 4 none) rm_X3_playOut (zP E H0 [.ref h0, .int p0]) (zQV E E wS_X3_playOut (fun H1 => True)) 0 0 (zfr E) := by
  refine zEnt (by decide) (Nat.le_of_ble_eq_true rfl) (fun p e s m args below meth c ls Q B hr hlk hh hQ hl => ?_)
  have hx := B.1
  have hb := B.2.1
  have hG0 : zG E wS_X3_playOut H0 H0 [] := zG.rf hT0
  have hl : lv_has ls 4 [(0, .ref h0), (1, .int p0)] := hl
  refine lv_iconst (v := 2) hx hb dX3_playOut_0 (by decide) ?_
  refine lv_iload_n hx hb dX3_playOut_1 rfl (lv_at hl 1 rfl) ?_
  refine lv_imul hx hb dX3_playOut_2 ?_
  refine lv_topi (fun x_1 e_1 => ?_)
  have t_1 := z_mul e_1 kl_2 rfl (by omega) (by omega)
  refine lv_iconst (v := 2) hx hb dX3_playOut_3 (by decide) ?_
  refine lv_iadd hx hb dX3_playOut_4 ?_
  refine lv_topi (fun x_2 e_2 => ?_)
  have t_2 := z_add e_2 rfl kl_2 (by omega) (by omega)
  refine lv_istore_n (lv' := [(2, .int x_2), (0, .ref h0), (1, .int p0)]) hx hb dX3_playOut_5 rfl hl (by decide) rfl (fun ls hl => ?_)
  refine lv_aload_n hx hb dX3_playOut_6 rfl (lv_at hl 1 rfl) ?_
  refine g_getR B fl_RX3_34 hT0 kh0 rfl rfl rfl rfl rfl dX3_playOut_7 (fun q_3 s_3 k_q_3 => ?_)
  refine lv_iload_n hx hb dX3_playOut_10 rfl (lv_at hl 0 rfl) ?_
  refine g_aaldI (i := x_2) (N := 122) B hT0 k_q_3 rfl rfl rfl rfl rfl (by omega) (by omega) rfl dX3_playOut_11 (fun q_4 s_4 k_q_4 => ?_)
  refine lv_aload_n hx hb dX3_playOut_12 rfl (lv_at hl 1 rfl) ?_
  refine g_get B fl_RX3_34 hT0 kh0 rfl rfl rfl dX3_playOut_13 s_3 ?_
  refine lv_iload_n hx hb dX3_playOut_16 rfl (lv_at hl 0 rfl) ?_
  refine lv_iconst (v := 2) hx hb dX3_playOut_17 (by decide) ?_
  refine lv_isub hx hb dX3_playOut_18 ?_
  refine lv_topi (fun x_5 e_5 => ?_)
  have t_5 := z_sub e_5 rfl kl_2 (by omega) (by omega)
  refine g_aaldI (i := x_5) (N := 122) B hT0 k_q_3 rfl rfl rfl rfl rfl (by omega) (by omega) rfl dX3_playOut_19 (fun q_6 s_6 k_q_6 => ?_)
  refine zkV (zrV (rest := []) B (c_X4_copyOf l E hV H0 hT0 q_4 k_q_4 q_6 k_q_6) cl_RX3_46 hT0 k_q_4 rfl rfl rfl rfl hl.1 rfl (Nat.le_of_ble_eq_true rfl) dX3_playOut_20 rfl rfl ⟨rfl, rfl⟩ ⟨Nat.zero_le _, Nat.zero_le _⟩ (zO.of hG0 hh)) hG0 rfl (fun H7 lc7 hp_7 gH7 rH7 => ?_)
  have s_8 := rH7.keep hV kh0 rfl s_3
  have s_9 := rH7.keepA k_q_3 rfl s_4
  have s_10 := rH7.keepA k_q_3 rfl s_6
  refine lv_aload_n hx hb dX3_playOut_23 rfl (lv_at hl 1 rfl) ?_
  refine g_get B fl_RX3_34 gH7.1 kh0 rfl rfl rfl dX3_playOut_24 s_8 ?_
  refine lv_iload_n hx hb dX3_playOut_27 rfl (lv_at hl 0 rfl) ?_
  refine lv_iconst (v := 1) hx hb dX3_playOut_28 (by decide) ?_
  refine lv_iadd hx hb dX3_playOut_29 ?_
  refine lv_topi (fun x_11 e_11 => ?_)
  have t_11 := z_add e_11 rfl kl_1 (by omega) (by omega)
  refine g_aaldI (i := x_11) (N := 122) B gH7.1 k_q_3 rfl rfl rfl rfl rfl (by omega) (by omega) rfl dX3_playOut_30 (fun q_12 s_12 k_q_12 => ?_)
  refine lv_aload_n hx hb dX3_playOut_31 rfl (lv_at hl 1 rfl) ?_
  refine g_get B fl_RX3_34 gH7.1 kh0 rfl rfl rfl dX3_playOut_32 s_8 ?_
  refine lv_iload_n hx hb dX3_playOut_35 rfl (lv_at hl 0 rfl) ?_
  refine lv_iconst (v := 1) hx hb dX3_playOut_36 (by decide) ?_
  refine lv_isub hx hb dX3_playOut_37 ?_
  refine lv_topi (fun x_13 e_13 => ?_)
  have t_13 := z_sub e_13 rfl kl_1 (by omega) (by omega)
  refine g_aaldI (i := x_13) (N := 122) B gH7.1 k_q_3 rfl rfl rfl rfl rfl (by omega) (by omega) rfl dX3_playOut_38 (fun q_14 s_14 k_q_14 => ?_)
  refine zkV (zrV (rest := []) B (c_X4_copyOf l E hV H7 gH7.1 q_12 k_q_12 q_14 k_q_14) cl_RX3_46 gH7.1 k_q_12 rfl rfl rfl rfl hl.1 rfl (Nat.le_of_ble_eq_true rfl) dX3_playOut_39 rfl rfl ⟨rfl, rfl⟩ ⟨Nat.zero_le _, Nat.zero_le _⟩ (zO.of gH7 hh)) gH7 rfl (fun H15 lc15 hp_15 gH15 rH15 => ?_)
  have s_16 := rH15.keep hV kh0 rfl s_8
  have s_17 := rH15.keepA k_q_3 rfl s_9
  have s_18 := rH15.keepA k_q_3 rfl s_10
  have s_19 := rH15.keepA k_q_3 rfl s_12
  have s_20 := rH15.keepA k_q_3 rfl s_14
  refine lv_aload_n hx hb dX3_playOut_42 rfl (lv_at hl 1 rfl) ?_
  refine g_getR B fl_RX3_29 gH15.1 kh0 rfl rfl rfl rfl rfl dX3_playOut_43 (fun q_21 s_21 k_q_21 => ?_)
  refine lv_iload_n hx hb dX3_playOut_46 rfl (lv_at hl 2 rfl) ?_
  refine lv_iconst (v := 0) hx hb dX3_playOut_47 (by decide) ?_
  have := kl_0
  refine g_zastI (i := p0) (N := 60) B hV gH15 k_q_21 rfl rfl rfl rfl (by omega) (by omega) rfl (by omega) (by omega) rfl dX3_playOut_48 (fun H22 lc22 gH22 uH22 => ?_)
  have s_23 := uH22.keep (Or.inl (k_ne kh0 k_q_21 rfl)) s_16
  have s_24 := uH22.keep (Or.inl (k_ne k_q_3 k_q_21 rfl)) s_17
  have s_25 := uH22.keep (Or.inl (k_ne k_q_3 k_q_21 rfl)) s_18
  have s_26 := uH22.keep (Or.inl (k_ne k_q_3 k_q_21 rfl)) s_19
  have s_27 := uH22.keep (Or.inl (k_ne k_q_3 k_q_21 rfl)) s_20
  have s_28 := uH22.keep (Or.inl (k_ne kh0 k_q_21 rfl)) s_21
  refine lv_aload_n hx hb dX3_playOut_49 rfl (lv_at hl 1 rfl) ?_
  refine g_getR B fl_RX3_18 gH22.1 kh0 rfl rfl rfl rfl rfl dX3_playOut_50 (fun q_29 s_29 k_q_29 => ?_)
  refine lv_iload_n hx hb dX3_playOut_53 rfl (lv_at hl 2 rfl) ?_
  refine g_ialdI (i := p0) (N := 240) B gH22.1 k_q_29 rfl rfl rfl rfl (by omega) (by omega) rfl dX3_playOut_54 (fun x_30 s_30 a_30 b_30 => ?_)
  refine lv_istore_n (lv' := [(3, .int x_30), (2, .int x_2), (0, .ref h0), (1, .int p0)]) hx hb dX3_playOut_55 rfl hl (by decide) rfl (fun ls hl => ?_)
  refine lv_iload_n hx hb dX3_playOut_56 rfl (lv_at hl 0 rfl) ?_
  refine lv_iconst (v := (-1)) hx hb dX3_playOut_57 (by decide) ?_
  refine lv_icmp_eq (tgt := 131) hx hb dX3_playOut_58 (by decide) (fun c_31 => ?_) (fun c_31 => ?_)
  · have f_31 := z_eq c_31 rfl kl_m1
    exact rtV B hr hlk hh hQ gH22 trivial dX3_playOut_131
  · have f_31 := z_ne c_31 rfl kl_m1
    refine lv_aload_n hx hb dX3_playOut_61 rfl (lv_at hl 2 rfl) ?_
    refine g_getR B fl_RX3_41 gH22.1 kh0 rfl rfl rfl rfl rfl dX3_playOut_62 (fun q_32 s_32 k_q_32 => ?_)
    refine lv_aload_n hx hb dX3_playOut_65 rfl (lv_at hl 2 rfl) ?_
    refine g_get B fl_RX3_34 gH22.1 kh0 rfl rfl rfl dX3_playOut_66 s_23 ?_
    refine lv_iload_n hx hb dX3_playOut_69 rfl (lv_at hl 1 rfl) ?_
    refine lv_iload_n hx hb dX3_playOut_70 rfl (lv_at hl 0 rfl) ?_
    refine lv_iadd hx hb dX3_playOut_71 ?_
    refine lv_topi (fun x_33 e_33 => ?_)
    have t_33 := z_add e_33 rfl rfl (by omega) (by omega)
    refine g_aaldI (i := x_33) (N := 122) B gH22.1 k_q_3 rfl rfl rfl rfl rfl (by omega) (by omega) rfl dX3_playOut_72 (fun q_34 s_34 k_q_34 => ?_)
    refine lv_iload_n hx hb dX3_playOut_73 rfl (lv_at hl 0 rfl) ?_
    refine lv_aload_n hx hb dX3_playOut_74 rfl (lv_at hl 2 rfl) ?_
    refine g_getR B fl_RX3_22 gH22.1 kh0 rfl rfl rfl rfl rfl dX3_playOut_75 (fun q_35 s_35 k_q_35 => ?_)
    refine lv_iload_n hx hb dX3_playOut_78 rfl (lv_at hl 3 rfl) ?_
    refine g_ialdI (i := p0) (N := 240) B gH22.1 k_q_35 rfl rfl rfl rfl (by omega) (by omega) rfl dX3_playOut_79 (fun x_36 s_36 a_36 b_36 => ?_)
    refine zkI (zrV (rest := []) B (c_X2_make l E hV H22 gH22.1 q_32 k_q_32 q_34 k_q_34 x_30 x_36) cl_RX3_60 gH22.1 k_q_32 rfl rfl rfl rfl hl.1 rfl (Nat.le_of_ble_eq_true rfl) dX3_playOut_80 rfl rfl ⟨rfl, rfl⟩ ⟨Nat.zero_le _, Nat.zero_le _⟩ (zO.of gH22 hh)) gH22 rfl (fun x_37 H37 lc37 hp_37 gH37 rH37 => ?_)
    have s_38 := rH37.keep hV kh0 rfl s_23
    have s_39 := rH37.keepA k_q_3 rfl s_24
    have s_40 := rH37.keepA k_q_3 rfl s_25
    have s_41 := rH37.keepA k_q_3 rfl s_26
    have s_42 := rH37.keepA k_q_3 rfl s_27
    have s_43 := rH37.keep hV kh0 rfl s_28
    have s_44 := rH37.keepA k_q_21 rfl uH22.2.1
    have s_45 := rH37.keepA k_q_29 rfl s_30
    have s_46 := rH37.keep hV kh0 rfl s_32
    have s_47 := rH37.keepA k_q_3 rfl s_34
    have s_48 := rH37.keep hV kh0 rfl s_35
    have s_49 := rH37.keepA k_q_35 rfl s_36
    obtain ⟨hp_37_1, hp_37_2⟩ := hp_37
    refine lv_pop hx hb dX3_playOut_83 rfl ?_
    refine lv_aload_n hx hb dX3_playOut_84 rfl (lv_at hl 2 rfl) ?_
    refine g_get B fl_RX3_29 gH37.1 kh0 rfl rfl rfl dX3_playOut_85 s_43 ?_
    refine lv_iload_n hx hb dX3_playOut_88 rfl (lv_at hl 3 rfl) ?_
    refine lv_aload_n hx hb dX3_playOut_89 rfl (lv_at hl 2 rfl) ?_
    refine g_getR B fl_RX3_25 gH37.1 kh0 rfl rfl rfl rfl rfl dX3_playOut_90 (fun q_50 s_50 k_q_50 => ?_)
    refine lv_iload_n hx hb dX3_playOut_93 rfl (lv_at hl 3 rfl) ?_
    refine g_zaldI (i := p0) (N := 240) B gH37.1 k_q_50 rfl rfl rfl rfl (by omega) (by omega) rfl dX3_playOut_94 (fun x_51 s_51 a_51 b_51 => ?_)
    refine lv_if_eq (tgt := 129) hx hb dX3_playOut_95 (by decide) (fun c_52 => ?_) (fun c_52 => ?_)
    · have f_52 := z_eq c_52 rfl kl_0
      refine lv_iconst (v := 0) hx hb dX3_playOut_129 (by decide) ?_
      have := kl_0
      refine g_zastI (i := p0) (N := 60) B hV gH37 k_q_21 rfl rfl rfl rfl (by omega) (by omega) rfl (by omega) (by omega) rfl dX3_playOut_130 (fun H53 lc53 gH53 uH53 => ?_)
      exact rtV B hr hlk hh hQ gH53 trivial dX3_playOut_131
    · have f_52 := z_ne c_52 rfl kl_0
      refine lv_aload_n hx hb dX3_playOut_98 rfl (lv_at hl 2 rfl) ?_
      refine g_get B fl_RX3_41 gH37.1 kh0 rfl rfl rfl dX3_playOut_99 s_46 ?_
      refine lv_aload_n hx hb dX3_playOut_102 rfl (lv_at hl 2 rfl) ?_
      refine g_get B fl_RX3_34 gH37.1 kh0 rfl rfl rfl dX3_playOut_103 s_38 ?_
      refine lv_iload_n hx hb dX3_playOut_106 rfl (lv_at hl 1 rfl) ?_
      refine lv_iconst (v := 1) hx hb dX3_playOut_107 (by decide) ?_
      refine lv_iadd hx hb dX3_playOut_108 ?_
      refine lv_topi (fun x_54 e_54 => ?_)
      have t_54 := z_add e_54 rfl kl_1 (by omega) (by omega)
      refine lv_iload_n hx hb dX3_playOut_109 rfl (lv_at hl 0 rfl) ?_
      refine lv_isub hx hb dX3_playOut_110 ?_
      refine lv_topi (fun x_55 e_55 => ?_)
      have t_55 := z_sub e_55 rfl rfl (by omega) (by omega)
      refine g_aaldI (i := x_55) (N := 122) B gH37.1 k_q_3 rfl rfl rfl rfl rfl (by omega) (by omega) rfl dX3_playOut_111 (fun q_56 s_56 k_q_56 => ?_)
      refine lv_iload_n hx hb dX3_playOut_112 rfl (lv_at hl 0 rfl) ?_
      refine lv_aload_n hx hb dX3_playOut_113 rfl (lv_at hl 2 rfl) ?_
      refine g_get B fl_RX3_22 gH37.1 kh0 rfl rfl rfl dX3_playOut_114 s_48 ?_
      refine lv_iload_n hx hb dX3_playOut_117 rfl (lv_at hl 3 rfl) ?_
      refine g_iald (i := p0) (N := 240) B gH37.1 k_q_35 rfl rfl rfl rfl (by omega) (by omega) s_49 dX3_playOut_118 ?_
      refine zkI (zrV (rest := [.int p0, .ref q_21]) B (c_X2_make l E hV H37 gH37.1 q_32 k_q_32 q_56 k_q_56 x_30 x_36) cl_RX3_60 gH37.1 k_q_32 rfl rfl rfl rfl hl.1 rfl (Nat.le_of_ble_eq_true rfl) dX3_playOut_119 rfl rfl ⟨rfl, rfl⟩ ⟨Nat.zero_le _, Nat.zero_le _⟩ (zO.of gH37 hh)) gH37 rfl (fun x_57 H57 lc57 hp_57 gH57 rH57 => ?_)
      obtain ⟨hp_57_1, hp_57_2⟩ := hp_57
      refine lv_if_ne (tgt := 129) hx hb dX3_playOut_122 (by decide) (fun c_58 => ?_) (fun c_58 => ?_)
      · have f_58 := z_ne c_58 rfl kl_0
        refine lv_iconst (v := 0) hx hb dX3_playOut_129 (by decide) ?_
        have := kl_0
        refine g_zastI (i := p0) (N := 60) B hV gH57 k_q_21 rfl rfl rfl rfl (by omega) (by omega) rfl (by omega) (by omega) rfl dX3_playOut_130 (fun H59 lc59 gH59 uH59 => ?_)
        exact rtV B hr hlk hh hQ gH59 trivial dX3_playOut_131
      · have f_58 := z_eq c_58 rfl kl_0
        refine lv_iconst (v := 1) hx hb dX3_playOut_125 (by decide) ?_
        refine lv_goto (tgt := 130) hx hb dX3_playOut_126 (by decide) ?_
        have := kl_1
        refine g_zastI (i := p0) (N := 60) B hV gH57 k_q_21 rfl rfl rfl rfl (by omega) (by omega) rfl (by omega) (by omega) rfl dX3_playOut_130 (fun H60 lc60 gH60 uH60 => ?_)
        exact rtV B hr hlk hh hQ gH60 trivial dX3_playOut_131

theorem dX3_add_0 : decode cX3_add 0 = .ok (.aload_n 0, 1) := by decide +kernel
theorem dX3_add_1 : decode cX3_add 1 = .ok (.getfield 9, 3) := by decide +kernel
theorem dX3_add_4 : decode cX3_add 4 = .ok (.bipush 60, 2) := by decide +kernel
theorem dX3_add_6 : decode cX3_add 6 = .ok (.if_icmp .lt 5, 3) := by decide +kernel
theorem dX3_add_9 : decode cX3_add 9 = .ok (.iconst (-1), 1) := by decide +kernel
theorem dX3_add_10 : decode cX3_add 10 = .ok (.ireturn, 1) := by decide +kernel
theorem dX3_add_11 : decode cX3_add 11 = .ok (.aload_n 0, 1) := by decide +kernel
theorem dX3_add_12 : decode cX3_add 12 = .ok (.getfield 18, 3) := by decide +kernel
theorem dX3_add_15 : decode cX3_add 15 = .ok (.aload_n 0, 1) := by decide +kernel
theorem dX3_add_16 : decode cX3_add 16 = .ok (.getfield 9, 3) := by decide +kernel
theorem dX3_add_19 : decode cX3_add 19 = .ok (.iload_n 1, 1) := by decide +kernel
theorem dX3_add_20 : decode cX3_add 20 = .ok (.iastore, 1) := by decide +kernel
theorem dX3_add_21 : decode cX3_add 21 = .ok (.aload_n 0, 1) := by decide +kernel
theorem dX3_add_22 : decode cX3_add 22 = .ok (.getfield 22, 3) := by decide +kernel
theorem dX3_add_25 : decode cX3_add 25 = .ok (.aload_n 0, 1) := by decide +kernel
theorem dX3_add_26 : decode cX3_add 26 = .ok (.getfield 9, 3) := by decide +kernel
theorem dX3_add_29 : decode cX3_add 29 = .ok (.iload_n 2, 1) := by decide +kernel
theorem dX3_add_30 : decode cX3_add 30 = .ok (.iastore, 1) := by decide +kernel
theorem dX3_add_31 : decode cX3_add 31 = .ok (.aload_n 0, 1) := by decide +kernel
theorem dX3_add_32 : decode cX3_add 32 = .ok (.getfield 25, 3) := by decide +kernel
theorem dX3_add_35 : decode cX3_add 35 = .ok (.aload_n 0, 1) := by decide +kernel
theorem dX3_add_36 : decode cX3_add 36 = .ok (.getfield 9, 3) := by decide +kernel
theorem dX3_add_39 : decode cX3_add 39 = .ok (.iload_n 3, 1) := by decide +kernel
theorem dX3_add_40 : decode cX3_add 40 = .ok (.bastore, 1) := by decide +kernel
theorem dX3_add_41 : decode cX3_add 41 = .ok (.aload_n 0, 1) := by decide +kernel
theorem dX3_add_42 : decode cX3_add 42 = .ok (.aload_n 0, 1) := by decide +kernel
theorem dX3_add_43 : decode cX3_add 43 = .ok (.getfield 9, 3) := by decide +kernel
theorem dX3_add_46 : decode cX3_add 46 = .ok (.invokevirtual 56, 3) := by decide +kernel
theorem dX3_add_49 : decode cX3_add 49 = .ok (.aload_n 0, 1) := by decide +kernel
theorem dX3_add_50 : decode cX3_add 50 = .ok (.dup, 1) := by decide +kernel
theorem dX3_add_51 : decode cX3_add 51 = .ok (.getfield 9, 3) := by decide +kernel
theorem dX3_add_54 : decode cX3_add 54 = .ok (.iconst 1, 1) := by decide +kernel
theorem dX3_add_55 : decode cX3_add 55 = .ok (.iadd, 1) := by decide +kernel
theorem dX3_add_56 : decode cX3_add 56 = .ok (.putfield 9, 3) := by decide +kernel
theorem dX3_add_59 : decode cX3_add 59 = .ok (.aload_n 0, 1) := by decide +kernel
theorem dX3_add_60 : decode cX3_add 60 = .ok (.aload_n 0, 1) := by decide +kernel
theorem dX3_add_61 : decode cX3_add 61 = .ok (.getfield 9, 3) := by decide +kernel
theorem dX3_add_64 : decode cX3_add 64 = .ok (.putfield 15, 3) := by decide +kernel
theorem dX3_add_67 : decode cX3_add 67 = .ok (.aload_n 0, 1) := by decide +kernel
theorem dX3_add_68 : decode cX3_add 68 = .ok (.getfield 9, 3) := by decide +kernel
theorem dX3_add_71 : decode cX3_add 71 = .ok (.iconst 1, 1) := by decide +kernel
theorem dX3_add_72 : decode cX3_add 72 = .ok (.isub, 1) := by decide +kernel
theorem dX3_add_73 : decode cX3_add 73 = .ok (.ireturn, 1) := by decide +kernel
def rm_X3_add : Room := { frames := 5, cells := 0, slots := 0, locals := 132 }
abbrev wS_X3_add : List (Nat × Nat) := [(4, 0), (4, 1), (5, 0), (5, 1), (5, 2), (5, 3), (5, 4), (5, 5), (5, 6), (33, 99), (34, 99), (35, 99), (36, 99)]
set_option maxRecDepth 100000 in
set_option maxHeartbeats 4000000 in
theorem c_X3_add (l : Launch) (E : zE) (hV : zV E) (H0 : Heap) (hT0 : HT E H0) (h0 : Nat) (kh0 : eK E h0 = 4) (p0 : Int32) (p0_lo : (-1) ≤ p0.toInt) (p0_hi : p0.toInt ≤ 1) (p1 : Int32) (p2 : Int32) (p2_lo : 0 ≤ p2.toInt) (p2_hi : p2.toInt ≤ 1) : Met l yX3_add (zws yX3_add cX3_add 4 (some .int)) rm_X3_add (zP E H0 [.ref h0, .int p0, .int p1, .int p2]) (zQI E E wS_X3_add (fun r H1 => (-1) ≤ r.toInt ∧ r.toInt ≤ 59)) 0 0 (zfr E) := by
  refine zEnt (by decide) (Nat.le_of_ble_eq_true rfl) (fun p e s m args below meth c ls Q B hr hlk hh hQ hl => ?_)
  have hx := B.1
  have hb := B.2.1
  have hG0 : zG E wS_X3_add H0 H0 [] := zG.rf hT0
  have hl : lv_has ls 4 [(0, .ref h0), (1, .int p0), (2, .int p1), (3, .int p2)] := hl
  refine lv_aload_n hx hb dX3_add_0 rfl (lv_at hl 0 rfl) ?_
  refine g_getI B fl_RX3_9 hT0 kh0 rfl rfl rfl rfl rfl dX3_add_1 (fun x_1 s_1 a_1 b_1 => ?_)
  refine lv_bipush (v := 60) hx hb dX3_add_4 (by decide) ?_
  refine lv_icmp_lt (tgt := 11) hx hb dX3_add_6 (by decide) (fun c_2 => ?_) (fun c_2 => ?_)
  · have f_2 := z_lt c_2 rfl kl_60
    refine lv_aload_n hx hb dX3_add_11 rfl (lv_at hl 0 rfl) ?_
    refine g_getR B fl_RX3_18 hT0 kh0 rfl rfl rfl rfl rfl dX3_add_12 (fun q_3 s_3 k_q_3 => ?_)
    refine lv_aload_n hx hb dX3_add_15 rfl (lv_at hl 0 rfl) ?_
    refine g_get B fl_RX3_9 hT0 kh0 rfl rfl rfl dX3_add_16 s_1 ?_
    refine lv_iload_n hx hb dX3_add_19 rfl (lv_at hl 1 rfl) ?_
    refine g_iastI (i := x_1) (N := 240) B hV hG0 k_q_3 rfl rfl rfl rfl (by omega) (by omega) rfl (by omega) (by omega) rfl dX3_add_20 (fun H4 lc4 gH4 uH4 => ?_)
    have s_5 := uH4.keep (Or.inl (k_ne kh0 k_q_3 rfl)) s_1
    refine lv_aload_n hx hb dX3_add_21 rfl (lv_at hl 0 rfl) ?_
    refine g_getR B fl_RX3_22 gH4.1 kh0 rfl rfl rfl rfl rfl dX3_add_22 (fun q_6 s_6 k_q_6 => ?_)
    refine lv_aload_n hx hb dX3_add_25 rfl (lv_at hl 0 rfl) ?_
    refine g_get B fl_RX3_9 gH4.1 kh0 rfl rfl rfl dX3_add_26 s_5 ?_
    refine lv_iload_n hx hb dX3_add_29 rfl (lv_at hl 2 rfl) ?_
    refine g_iastI (i := x_1) (N := 240) B hV gH4 k_q_6 rfl rfl rfl rfl (by omega) (by omega) rfl (z_rng _).1 (z_rng _).2 rfl dX3_add_30 (fun H7 lc7 gH7 uH7 => ?_)
    have s_8 := uH7.keep (Or.inl (k_ne kh0 k_q_6 rfl)) s_5
    refine lv_aload_n hx hb dX3_add_31 rfl (lv_at hl 0 rfl) ?_
    refine g_getR B fl_RX3_25 gH7.1 kh0 rfl rfl rfl rfl rfl dX3_add_32 (fun q_9 s_9 k_q_9 => ?_)
    refine lv_aload_n hx hb dX3_add_35 rfl (lv_at hl 0 rfl) ?_
    refine g_get B fl_RX3_9 gH7.1 kh0 rfl rfl rfl dX3_add_36 s_8 ?_
    refine lv_iload_n hx hb dX3_add_39 rfl (lv_at hl 3 rfl) ?_
    refine g_zastI (i := x_1) (N := 240) B hV gH7 k_q_9 rfl rfl rfl rfl (by omega) (by omega) rfl (by omega) (by omega) rfl dX3_add_40 (fun H10 lc10 gH10 uH10 => ?_)
    have s_11 := uH10.keep (Or.inl (k_ne kh0 k_q_9 rfl)) s_8
    refine lv_aload_n hx hb dX3_add_41 rfl (lv_at hl 0 rfl) ?_
    refine lv_aload_n hx hb dX3_add_42 rfl (lv_at hl 0 rfl) ?_
    refine g_get B fl_RX3_9 gH10.1 kh0 rfl rfl rfl dX3_add_43 s_11 ?_
    refine zkV (zrV (rest := []) B (c_X3_playOut l E hV H10 gH10.1 h0 kh0 x_1 (by omega) (by omega)) cl_RX3_56 gH10.1 kh0 rfl rfl rfl rfl hl.1 rfl (Nat.le_of_ble_eq_true rfl) dX3_add_46 rfl rfl ⟨rfl, rfl⟩ ⟨Nat.zero_le _, Nat.zero_le _⟩ (zO.of gH10 hh)) gH10 rfl (fun H12 lc12 hp_12 gH12 rH12 => ?_)
    have s_13 := rH12.keep hV kh0 rfl s_11
    refine lv_aload_n hx hb dX3_add_49 rfl (lv_at hl 0 rfl) ?_
    refine lv_dup hx hb dX3_add_50 rfl ?_
    refine g_get B fl_RX3_9 gH12.1 kh0 rfl rfl rfl dX3_add_51 s_13 ?_
    refine lv_iconst (v := 1) hx hb dX3_add_54 (by decide) ?_
    refine lv_iadd hx hb dX3_add_55 ?_
    refine lv_topi (fun x_14 e_14 => ?_)
    have t_14 := z_add e_14 rfl kl_1 (by omega) (by omega)
    refine g_putI B fp_RX3_9 hV gH12 kh0 rfl rfl rfl rfl rfl (by omega) (by omega) rfl dX3_add_56 (fun H15 lc15 gH15 uH15 => ?_)
    refine lv_aload_n hx hb dX3_add_59 rfl (lv_at hl 0 rfl) ?_
    refine lv_aload_n hx hb dX3_add_60 rfl (lv_at hl 0 rfl) ?_
    refine g_get B fl_RX3_9 gH15.1 kh0 rfl rfl rfl dX3_add_61 uH15.2.1 ?_
    refine g_putI B fp_RX3_15 hV gH15 kh0 rfl rfl rfl rfl rfl (by omega) (by omega) rfl dX3_add_64 (fun H16 lc16 gH16 uH16 => ?_)
    have s_17 := uH16.keep (Or.inr (j_ne hV rfl rfl rfl rfl)) uH15.2.1
    refine lv_aload_n hx hb dX3_add_67 rfl (lv_at hl 0 rfl) ?_
    refine g_get B fl_RX3_9 gH16.1 kh0 rfl rfl rfl dX3_add_68 s_17 ?_
    refine lv_iconst (v := 1) hx hb dX3_add_71 (by decide) ?_
    refine lv_isub hx hb dX3_add_72 ?_
    refine lv_topi (fun x_18 e_18 => ?_)
    have t_18 := z_sub e_18 rfl kl_1 (by omega) (by omega)
    exact rtI (v := x_18) B hr hlk hh hQ gH16 rfl ⟨by omega, by omega⟩ dX3_add_73
  · have f_2 := z_nlt c_2 rfl kl_60
    refine lv_iconst (v := (-1)) hx hb dX3_add_9 (by decide) ?_
    have := kl_m1
    have := kl_m1
    exact rtI (v := (-1)) B hr hlk hh hQ hG0 rfl ⟨by omega, by omega⟩ dX3_add_10

theorem dX3_copyNights_0 : decode cX3_copyNights 0 = .ok (.iconst 0, 1) := by decide +kernel
theorem dX3_copyNights_1 : decode cX3_copyNights 1 = .ok (.istore 4, 2) := by decide +kernel
theorem dX3_copyNights_3 : decode cX3_copyNights 3 = .ok (.iload 4, 2) := by decide +kernel
theorem dX3_copyNights_5 : decode cX3_copyNights 5 = .ok (.iload_n 3, 1) := by decide +kernel
theorem dX3_copyNights_6 : decode cX3_copyNights 6 = .ok (.if_icmp .ge 70, 3) := by decide +kernel
theorem dX3_copyNights_9 : decode cX3_copyNights 9 = .ok (.iload 4, 2) := by decide +kernel
theorem dX3_copyNights_11 : decode cX3_copyNights 11 = .ok (.bipush 60, 2) := by decide +kernel
theorem dX3_copyNights_13 : decode cX3_copyNights 13 = .ok (.if_icmp .ge 63, 3) := by decide +kernel
theorem dX3_copyNights_16 : decode cX3_copyNights 16 = .ok (.aload_n 0, 1) := by decide +kernel
theorem dX3_copyNights_17 : decode cX3_copyNights 17 = .ok (.getfield 18, 3) := by decide +kernel
theorem dX3_copyNights_20 : decode cX3_copyNights 20 = .ok (.iload_n 2, 1) := by decide +kernel
theorem dX3_copyNights_21 : decode cX3_copyNights 21 = .ok (.iload 4, 2) := by decide +kernel
theorem dX3_copyNights_23 : decode cX3_copyNights 23 = .ok (.iadd, 1) := by decide +kernel
theorem dX3_copyNights_24 : decode cX3_copyNights 24 = .ok (.aload_n 0, 1) := by decide +kernel
theorem dX3_copyNights_25 : decode cX3_copyNights 25 = .ok (.getfield 18, 3) := by decide +kernel
theorem dX3_copyNights_28 : decode cX3_copyNights 28 = .ok (.iload_n 1, 1) := by decide +kernel
theorem dX3_copyNights_29 : decode cX3_copyNights 29 = .ok (.iload 4, 2) := by decide +kernel
theorem dX3_copyNights_31 : decode cX3_copyNights 31 = .ok (.iadd, 1) := by decide +kernel
theorem dX3_copyNights_32 : decode cX3_copyNights 32 = .ok (.iaload, 1) := by decide +kernel
theorem dX3_copyNights_33 : decode cX3_copyNights 33 = .ok (.iastore, 1) := by decide +kernel
theorem dX3_copyNights_34 : decode cX3_copyNights 34 = .ok (.aload_n 0, 1) := by decide +kernel
theorem dX3_copyNights_35 : decode cX3_copyNights 35 = .ok (.getfield 22, 3) := by decide +kernel
theorem dX3_copyNights_38 : decode cX3_copyNights 38 = .ok (.iload_n 2, 1) := by decide +kernel
theorem dX3_copyNights_39 : decode cX3_copyNights 39 = .ok (.iload 4, 2) := by decide +kernel
theorem dX3_copyNights_41 : decode cX3_copyNights 41 = .ok (.iadd, 1) := by decide +kernel
theorem dX3_copyNights_42 : decode cX3_copyNights 42 = .ok (.aload_n 0, 1) := by decide +kernel
theorem dX3_copyNights_43 : decode cX3_copyNights 43 = .ok (.getfield 22, 3) := by decide +kernel
theorem dX3_copyNights_46 : decode cX3_copyNights 46 = .ok (.iload_n 1, 1) := by decide +kernel
theorem dX3_copyNights_47 : decode cX3_copyNights 47 = .ok (.iload 4, 2) := by decide +kernel
theorem dX3_copyNights_49 : decode cX3_copyNights 49 = .ok (.iadd, 1) := by decide +kernel
theorem dX3_copyNights_50 : decode cX3_copyNights 50 = .ok (.iaload, 1) := by decide +kernel
theorem dX3_copyNights_51 : decode cX3_copyNights 51 = .ok (.iastore, 1) := by decide +kernel
theorem dX3_copyNights_52 : decode cX3_copyNights 52 = .ok (.aload_n 0, 1) := by decide +kernel
theorem dX3_copyNights_53 : decode cX3_copyNights 53 = .ok (.getfield 25, 3) := by decide +kernel
theorem dX3_copyNights_56 : decode cX3_copyNights 56 = .ok (.iload_n 2, 1) := by decide +kernel
theorem dX3_copyNights_57 : decode cX3_copyNights 57 = .ok (.iload 4, 2) := by decide +kernel
theorem dX3_copyNights_59 : decode cX3_copyNights 59 = .ok (.iadd, 1) := by decide +kernel
theorem dX3_copyNights_60 : decode cX3_copyNights 60 = .ok (.aload_n 0, 1) := by decide +kernel
theorem dX3_copyNights_61 : decode cX3_copyNights 61 = .ok (.getfield 25, 3) := by decide +kernel
theorem dX3_copyNights_64 : decode cX3_copyNights 64 = .ok (.iload_n 1, 1) := by decide +kernel
theorem dX3_copyNights_65 : decode cX3_copyNights 65 = .ok (.iload 4, 2) := by decide +kernel
theorem dX3_copyNights_67 : decode cX3_copyNights 67 = .ok (.iadd, 1) := by decide +kernel
theorem dX3_copyNights_68 : decode cX3_copyNights 68 = .ok (.baload, 1) := by decide +kernel
theorem dX3_copyNights_69 : decode cX3_copyNights 69 = .ok (.bastore, 1) := by decide +kernel
theorem dX3_copyNights_70 : decode cX3_copyNights 70 = .ok (.iinc 4 1, 3) := by decide +kernel
theorem dX3_copyNights_73 : decode cX3_copyNights 73 = .ok (.goto (-70), 3) := by decide +kernel
theorem dX3_copyNights_76 : decode cX3_copyNights 76 = .ok (.return_, 1) := by decide +kernel
def rm_X3_copyNights : Room := { frames := 0, cells := 0, slots := 0, locals := 0 }
abbrev wS_X3_copyNights : List (Nat × Nat) := [(33, 99), (34, 99), (35, 99)]
set_option maxRecDepth 100000 in
set_option maxHeartbeats 4000000 in
theorem c_X3_copyNights (l : Launch) (E : zE) (hV : zV E) (H0 : Heap) (hT0 : HT E H0) (h0 : Nat) (kh0 : eK E h0 = 4) (p0 : Int32) (p0_lo : 0 ≤ p0.toInt) (p0_hi : p0.toInt ≤ 180) (p1 : Int32) (p1_lo : 0 ≤ p1.toInt) (p1_hi : p1.toInt ≤ 180) (p2 : Int32) : Met l yX3_copyNights (zws yX3_copyNights cX3_copyNights 5 none) rm_X3_copyNights (zP E H0 [.ref h0, .int p0, .int p1, .int p2]) (zQV E E wS_X3_copyNights (fun H1 => True)) 0 0 (zfr E) := by
  refine zEnt (by decide) (Nat.le_of_ble_eq_true rfl) (fun p e s m args below meth c ls Q B hr hlk hh hQ hl => ?_)
  have hx := B.1
  have hb := B.2.1
  have hG0 : zG E wS_X3_copyNights H0 H0 [] := zG.rf hT0
  have hl : lv_has ls 5 [(0, .ref h0), (1, .int p0), (2, .int p1), (3, .int p2)] := hl
  have b3 : ∀ (n3 : Nat) (H3 : Heap) (lc3 : List Loc) (ls : Array Slot) (v3_4 : Int32), 60 - v3_4.toInt < (n3 : Int) → zG E wS_X3_copyNights H0 H3 lc3 → lv_has ls 5 [(0, .ref h0), (1, .int p0), (2, .int p1), (3, .int p2), (4, .int v3_4)] → 0 ≤ v3_4.toInt → v3_4.toInt ≤ 60 → W p l e rm_X3_copyNights s m args below meth c H3 lc3 0 0 Q (F0 m 3 ls []) := by
    intro n3
    induction n3 with
    | zero =>
      intro H3 lc3 ls v3_4 hm3 gH3 hl f3_1 f3_2
      exact absurd hm3 (by omega)
    | succ n3 ih3 =>
      intro H3 lc3 ls v3_4 hm3 gH3 hl f3_1 f3_2
      refine lv_iload hx hb dX3_copyNights_3 (lv_at hl 4 rfl) ?_
      refine lv_iload_n hx hb dX3_copyNights_5 rfl (lv_at hl 3 rfl) ?_
      refine lv_icmp_ge (tgt := 76) hx hb dX3_copyNights_6 (by decide) (fun c_1 => ?_) (fun c_1 => ?_)
      · have f_1 := z_le c_1 rfl rfl
        exact rtV B hr hlk hh hQ gH3 trivial dX3_copyNights_76
      · have f_1 := z_nle c_1 rfl rfl
        refine lv_iload hx hb dX3_copyNights_9 (lv_at hl 4 rfl) ?_
        refine lv_bipush (v := 60) hx hb dX3_copyNights_11 (by decide) ?_
        refine lv_icmp_ge (tgt := 76) hx hb dX3_copyNights_13 (by decide) (fun c_2 => ?_) (fun c_2 => ?_)
        · have f_2 := z_le c_2 kl_60 rfl
          exact rtV B hr hlk hh hQ gH3 trivial dX3_copyNights_76
        · have f_2 := z_nle c_2 kl_60 rfl
          refine lv_aload_n hx hb dX3_copyNights_16 rfl (lv_at hl 0 rfl) ?_
          refine g_getR B fl_RX3_18 gH3.1 kh0 rfl rfl rfl rfl rfl dX3_copyNights_17 (fun q_3 s_3 k_q_3 => ?_)
          refine lv_iload_n hx hb dX3_copyNights_20 rfl (lv_at hl 2 rfl) ?_
          refine lv_iload hx hb dX3_copyNights_21 (lv_at hl 4 rfl) ?_
          refine lv_iadd hx hb dX3_copyNights_23 ?_
          refine lv_topi (fun x_4 e_4 => ?_)
          have t_4 := z_add e_4 rfl rfl (by omega) (by omega)
          refine lv_aload_n hx hb dX3_copyNights_24 rfl (lv_at hl 0 rfl) ?_
          refine g_get B fl_RX3_18 gH3.1 kh0 rfl rfl rfl dX3_copyNights_25 s_3 ?_
          refine lv_iload_n hx hb dX3_copyNights_28 rfl (lv_at hl 1 rfl) ?_
          refine lv_iload hx hb dX3_copyNights_29 (lv_at hl 4 rfl) ?_
          refine lv_iadd hx hb dX3_copyNights_31 ?_
          refine lv_topi (fun x_5 e_5 => ?_)
          have t_5 := z_add e_5 rfl rfl (by omega) (by omega)
          refine g_ialdI (i := x_5) (N := 240) B gH3.1 k_q_3 rfl rfl rfl rfl (by omega) (by omega) rfl dX3_copyNights_32 (fun x_6 s_6 a_6 b_6 => ?_)
          refine g_iastI (i := x_4) (N := 240) B hV gH3 k_q_3 rfl rfl rfl rfl (by omega) (by omega) rfl (by omega) (by omega) rfl dX3_copyNights_33 (fun H7 lc7 gH7 uH7 => ?_)
          have s_8 := uH7.keep (Or.inl (k_ne kh0 k_q_3 rfl)) s_3
          refine lv_aload_n hx hb dX3_copyNights_34 rfl (lv_at hl 0 rfl) ?_
          refine g_getR B fl_RX3_22 gH7.1 kh0 rfl rfl rfl rfl rfl dX3_copyNights_35 (fun q_9 s_9 k_q_9 => ?_)
          refine lv_iload_n hx hb dX3_copyNights_38 rfl (lv_at hl 2 rfl) ?_
          refine lv_iload hx hb dX3_copyNights_39 (lv_at hl 4 rfl) ?_
          refine lv_iadd hx hb dX3_copyNights_41 ?_
          refine lv_topi (fun x_10 e_10 => ?_)
          have t_10 := z_add e_10 rfl rfl (by omega) (by omega)
          refine lv_aload_n hx hb dX3_copyNights_42 rfl (lv_at hl 0 rfl) ?_
          refine g_get B fl_RX3_22 gH7.1 kh0 rfl rfl rfl dX3_copyNights_43 s_9 ?_
          refine lv_iload_n hx hb dX3_copyNights_46 rfl (lv_at hl 1 rfl) ?_
          refine lv_iload hx hb dX3_copyNights_47 (lv_at hl 4 rfl) ?_
          refine lv_iadd hx hb dX3_copyNights_49 ?_
          refine lv_topi (fun x_11 e_11 => ?_)
          have t_11 := z_add e_11 rfl rfl (by omega) (by omega)
          refine g_ialdI (i := x_11) (N := 240) B gH7.1 k_q_9 rfl rfl rfl rfl (by omega) (by omega) rfl dX3_copyNights_50 (fun x_12 s_12 a_12 b_12 => ?_)
          refine g_iastI (i := x_10) (N := 240) B hV gH7 k_q_9 rfl rfl rfl rfl (by omega) (by omega) rfl (z_rng _).1 (z_rng _).2 rfl dX3_copyNights_51 (fun H13 lc13 gH13 uH13 => ?_)
          have s_14 := uH13.keep (Or.inl (k_ne kh0 k_q_9 rfl)) s_8
          have s_15 := uH13.keep (Or.inl (k_ne k_q_3 k_q_9 rfl)) uH7.2.1
          have s_16 := uH13.keep (Or.inl (k_ne kh0 k_q_9 rfl)) s_9
          refine lv_aload_n hx hb dX3_copyNights_52 rfl (lv_at hl 0 rfl) ?_
          refine g_getR B fl_RX3_25 gH13.1 kh0 rfl rfl rfl rfl rfl dX3_copyNights_53 (fun q_17 s_17 k_q_17 => ?_)
          refine lv_iload_n hx hb dX3_copyNights_56 rfl (lv_at hl 2 rfl) ?_
          refine lv_iload hx hb dX3_copyNights_57 (lv_at hl 4 rfl) ?_
          refine lv_iadd hx hb dX3_copyNights_59 ?_
          refine lv_topi (fun x_18 e_18 => ?_)
          have t_18 := z_add e_18 rfl rfl (by omega) (by omega)
          refine lv_aload_n hx hb dX3_copyNights_60 rfl (lv_at hl 0 rfl) ?_
          refine g_get B fl_RX3_25 gH13.1 kh0 rfl rfl rfl dX3_copyNights_61 s_17 ?_
          refine lv_iload_n hx hb dX3_copyNights_64 rfl (lv_at hl 1 rfl) ?_
          refine lv_iload hx hb dX3_copyNights_65 (lv_at hl 4 rfl) ?_
          refine lv_iadd hx hb dX3_copyNights_67 ?_
          refine lv_topi (fun x_19 e_19 => ?_)
          have t_19 := z_add e_19 rfl rfl (by omega) (by omega)
          refine g_zaldI (i := x_19) (N := 240) B gH13.1 k_q_17 rfl rfl rfl rfl (by omega) (by omega) rfl dX3_copyNights_68 (fun x_20 s_20 a_20 b_20 => ?_)
          refine g_zastI (i := x_18) (N := 240) B hV gH13 k_q_17 rfl rfl rfl rfl (by omega) (by omega) rfl (by omega) (by omega) rfl dX3_copyNights_69 (fun H21 lc21 gH21 uH21 => ?_)
          have s_22 := uH21.keep (Or.inl (k_ne kh0 k_q_17 rfl)) s_14
          have s_23 := uH21.keep (Or.inl (k_ne k_q_3 k_q_17 rfl)) s_15
          have s_24 := uH21.keep (Or.inl (k_ne kh0 k_q_17 rfl)) s_16
          have s_25 := uH21.keep (Or.inl (k_ne k_q_9 k_q_17 rfl)) uH13.2.1
          have s_26 := uH21.keep (Or.inl (k_ne kh0 k_q_17 rfl)) s_17
          obtain ⟨x_27, e_27⟩ : ∃ y : Int32, (v3_4 : Int32) + Int32.ofInt 1 = y := ⟨_, rfl⟩
          refine lv_iinc (v := x_27) (lv' := [(4, .int x_27), (0, .ref h0), (1, .int p0), (2, .int p1), (3, .int p2)]) hx hb dX3_copyNights_70 hl (k := 4) rfl e_27 (by decide) rfl (fun ls hl => ?_)
          have t_27 := z_inc2 e_27 rfl (by decide) (by omega) (by omega)
          refine lv_goto (tgt := 3) hx hb dX3_copyNights_73 (by decide) ?_
          exact ih3 H21 lc21 ls x_27 (by omega) gH21 (lv_sub hl [1, 2, 3, 4, 0] rfl) (by omega) (by omega)
  refine lv_iconst (v := 0) hx hb dX3_copyNights_0 (by decide) ?_
  refine lv_istore (lv' := [(4, .int 0), (0, .ref h0), (1, .int p0), (2, .int p1), (3, .int p2)]) hx hb dX3_copyNights_1 hl (by decide) rfl (fun ls hl => ?_)
  have := kl_0
  exact b3 61 H0 [] ls 0 (by omega) hG0 (lv_sub hl [1, 2, 3, 4, 0] rfl) (by omega) (by omega)

theorem dX3_keep_0 : decode cX3_keep 0 = .ok (.aload_n 0, 1) := by decide +kernel
theorem dX3_keep_1 : decode cX3_keep 1 = .ok (.getfield 38, 3) := by decide +kernel
theorem dX3_keep_4 : decode cX3_keep 4 = .ok (.iload_n 1, 1) := by decide +kernel
theorem dX3_keep_5 : decode cX3_keep 5 = .ok (.aload_n 0, 1) := by decide +kernel
theorem dX3_keep_6 : decode cX3_keep 6 = .ok (.getfield 9, 3) := by decide +kernel
theorem dX3_keep_9 : decode cX3_keep 9 = .ok (.iastore, 1) := by decide +kernel
theorem dX3_keep_10 : decode cX3_keep 10 = .ok (.aload_n 0, 1) := by decide +kernel
theorem dX3_keep_11 : decode cX3_keep 11 = .ok (.iconst 0, 1) := by decide +kernel
theorem dX3_keep_12 : decode cX3_keep 12 = .ok (.iconst 1, 1) := by decide +kernel
theorem dX3_keep_13 : decode cX3_keep 13 = .ok (.iload_n 1, 1) := by decide +kernel
theorem dX3_keep_14 : decode cX3_keep 14 = .ok (.iadd, 1) := by decide +kernel
theorem dX3_keep_15 : decode cX3_keep 15 = .ok (.bipush 60, 2) := by decide +kernel
theorem dX3_keep_17 : decode cX3_keep 17 = .ok (.imul, 1) := by decide +kernel
theorem dX3_keep_18 : decode cX3_keep 18 = .ok (.aload_n 0, 1) := by decide +kernel
theorem dX3_keep_19 : decode cX3_keep 19 = .ok (.getfield 9, 3) := by decide +kernel
theorem dX3_keep_22 : decode cX3_keep 22 = .ok (.invokevirtual 66, 3) := by decide +kernel
theorem dX3_keep_25 : decode cX3_keep 25 = .ok (.aload_n 0, 1) := by decide +kernel
theorem dX3_keep_26 : decode cX3_keep 26 = .ok (.getfield 9, 3) := by decide +kernel
theorem dX3_keep_29 : decode cX3_keep 29 = .ok (.ireturn, 1) := by decide +kernel
def rm_X3_keep : Room := { frames := 1, cells := 0, slots := 0, locals := 24 }
abbrev wS_X3_keep : List (Nat × Nat) := [(33, 99), (34, 99), (35, 99), (38, 99)]
set_option maxRecDepth 100000 in
set_option maxHeartbeats 4000000 in
theorem c_X3_keep (l : Launch) (E : zE) (hV : zV E) (H0 : Heap) (hT0 : HT E H0) (h0 : Nat) (kh0 : eK E h0 = 4) (p0 : Int32) (p0_lo : 0 ≤ p0.toInt) (p0_hi : p0.toInt ≤ 2) : Met l yX3_keep (zws yX3_keep cX3_keep 2 (some .int)) rm_X3_keep (zP E H0 [.ref h0, .int p0]) (zQI E E wS_X3_keep (fun r H1 => 0 ≤ r.toInt ∧ r.toInt ≤ 60)) 0 0 (zfr E) := by
  refine zEnt (by decide) (Nat.le_of_ble_eq_true rfl) (fun p e s m args below meth c ls Q B hr hlk hh hQ hl => ?_)
  have hx := B.1
  have hb := B.2.1
  have hG0 : zG E wS_X3_keep H0 H0 [] := zG.rf hT0
  have hl : lv_has ls 2 [(0, .ref h0), (1, .int p0)] := hl
  refine lv_aload_n hx hb dX3_keep_0 rfl (lv_at hl 0 rfl) ?_
  refine g_getR B fl_RX3_38 hT0 kh0 rfl rfl rfl rfl rfl dX3_keep_1 (fun q_1 s_1 k_q_1 => ?_)
  refine lv_iload_n hx hb dX3_keep_4 rfl (lv_at hl 1 rfl) ?_
  refine lv_aload_n hx hb dX3_keep_5 rfl (lv_at hl 0 rfl) ?_
  refine g_getI B fl_RX3_9 hT0 kh0 rfl rfl rfl rfl rfl dX3_keep_6 (fun x_2 s_2 a_2 b_2 => ?_)
  refine g_iastI (i := p0) (N := 3) B hV hG0 k_q_1 rfl rfl rfl rfl (by omega) (by omega) rfl (by omega) (by omega) rfl dX3_keep_9 (fun H3 lc3 gH3 uH3 => ?_)
  have s_4 := uH3.keep (Or.inl (k_ne kh0 k_q_1 rfl)) s_2
  refine lv_aload_n hx hb dX3_keep_10 rfl (lv_at hl 0 rfl) ?_
  refine lv_iconst (v := 0) hx hb dX3_keep_11 (by decide) ?_
  refine lv_iconst (v := 1) hx hb dX3_keep_12 (by decide) ?_
  refine lv_iload_n hx hb dX3_keep_13 rfl (lv_at hl 1 rfl) ?_
  refine lv_iadd hx hb dX3_keep_14 ?_
  refine lv_topi (fun x_5 e_5 => ?_)
  have t_5 := z_add e_5 kl_1 rfl (by omega) (by omega)
  refine lv_bipush (v := 60) hx hb dX3_keep_15 (by decide) ?_
  refine lv_imul hx hb dX3_keep_17 ?_
  refine lv_topi (fun x_6 e_6 => ?_)
  have t_6 := z_mul e_6 rfl kl_60 (by omega) (by omega)
  refine lv_aload_n hx hb dX3_keep_18 rfl (lv_at hl 0 rfl) ?_
  refine g_get B fl_RX3_9 gH3.1 kh0 rfl rfl rfl dX3_keep_19 s_4 ?_
  have := kl_0
  refine zkV (zrV (rest := []) B (c_X3_copyNights l E hV H3 gH3.1 h0 kh0 0 (by omega) (by omega) x_6 (by omega) (by omega) x_2) cl_RX3_66 gH3.1 kh0 rfl rfl rfl rfl hl.1 rfl (Nat.le_of_ble_eq_true rfl) dX3_keep_22 rfl rfl ⟨rfl, rfl⟩ ⟨Nat.zero_le _, Nat.zero_le _⟩ (zO.of gH3 hh)) gH3 rfl (fun H7 lc7 hp_7 gH7 rH7 => ?_)
  have s_8 := rH7.keep hV kh0 rfl s_4
  refine lv_aload_n hx hb dX3_keep_25 rfl (lv_at hl 0 rfl) ?_
  refine g_get B fl_RX3_9 gH7.1 kh0 rfl rfl rfl dX3_keep_26 s_8 ?_
  exact rtI (v := x_2) B hr hlk hh hQ gH7 rfl ⟨by omega, by omega⟩ dX3_keep_29

theorem dX3_goBack_0 : decode cX3_goBack 0 = .ok (.aload_n 0, 1) := by decide +kernel
theorem dX3_goBack_1 : decode cX3_goBack 1 = .ok (.getfield 38, 3) := by decide +kernel
theorem dX3_goBack_4 : decode cX3_goBack 4 = .ok (.iload_n 1, 1) := by decide +kernel
theorem dX3_goBack_5 : decode cX3_goBack 5 = .ok (.iaload, 1) := by decide +kernel
theorem dX3_goBack_6 : decode cX3_goBack 6 = .ok (.iconst (-1), 1) := by decide +kernel
theorem dX3_goBack_7 : decode cX3_goBack 7 = .ok (.if_icmp .ne 5, 3) := by decide +kernel
theorem dX3_goBack_10 : decode cX3_goBack 10 = .ok (.iconst (-1), 1) := by decide +kernel
theorem dX3_goBack_11 : decode cX3_goBack 11 = .ok (.ireturn, 1) := by decide +kernel
theorem dX3_goBack_12 : decode cX3_goBack 12 = .ok (.aload_n 0, 1) := by decide +kernel
theorem dX3_goBack_13 : decode cX3_goBack 13 = .ok (.aload_n 0, 1) := by decide +kernel
theorem dX3_goBack_14 : decode cX3_goBack 14 = .ok (.getfield 38, 3) := by decide +kernel
theorem dX3_goBack_17 : decode cX3_goBack 17 = .ok (.iload_n 1, 1) := by decide +kernel
theorem dX3_goBack_18 : decode cX3_goBack 18 = .ok (.iaload, 1) := by decide +kernel
theorem dX3_goBack_19 : decode cX3_goBack 19 = .ok (.putfield 9, 3) := by decide +kernel
theorem dX3_goBack_22 : decode cX3_goBack 22 = .ok (.aload_n 0, 1) := by decide +kernel
theorem dX3_goBack_23 : decode cX3_goBack 23 = .ok (.aload_n 0, 1) := by decide +kernel
theorem dX3_goBack_24 : decode cX3_goBack 24 = .ok (.getfield 9, 3) := by decide +kernel
theorem dX3_goBack_27 : decode cX3_goBack 27 = .ok (.putfield 15, 3) := by decide +kernel
theorem dX3_goBack_30 : decode cX3_goBack 30 = .ok (.aload_n 0, 1) := by decide +kernel
theorem dX3_goBack_31 : decode cX3_goBack 31 = .ok (.iconst 1, 1) := by decide +kernel
theorem dX3_goBack_32 : decode cX3_goBack 32 = .ok (.iload_n 1, 1) := by decide +kernel
theorem dX3_goBack_33 : decode cX3_goBack 33 = .ok (.iadd, 1) := by decide +kernel
theorem dX3_goBack_34 : decode cX3_goBack 34 = .ok (.bipush 60, 2) := by decide +kernel
theorem dX3_goBack_36 : decode cX3_goBack 36 = .ok (.imul, 1) := by decide +kernel
theorem dX3_goBack_37 : decode cX3_goBack 37 = .ok (.iconst 0, 1) := by decide +kernel
theorem dX3_goBack_38 : decode cX3_goBack 38 = .ok (.aload_n 0, 1) := by decide +kernel
theorem dX3_goBack_39 : decode cX3_goBack 39 = .ok (.getfield 9, 3) := by decide +kernel
theorem dX3_goBack_42 : decode cX3_goBack 42 = .ok (.invokevirtual 66, 3) := by decide +kernel
theorem dX3_goBack_45 : decode cX3_goBack 45 = .ok (.iconst 0, 1) := by decide +kernel
theorem dX3_goBack_46 : decode cX3_goBack 46 = .ok (.istore_n 2, 1) := by decide +kernel
theorem dX3_goBack_47 : decode cX3_goBack 47 = .ok (.iload_n 2, 1) := by decide +kernel
theorem dX3_goBack_48 : decode cX3_goBack 48 = .ok (.aload_n 0, 1) := by decide +kernel
theorem dX3_goBack_49 : decode cX3_goBack 49 = .ok (.getfield 9, 3) := by decide +kernel
theorem dX3_goBack_52 : decode cX3_goBack 52 = .ok (.if_icmp .ge 14, 3) := by decide +kernel
theorem dX3_goBack_55 : decode cX3_goBack 55 = .ok (.aload_n 0, 1) := by decide +kernel
theorem dX3_goBack_56 : decode cX3_goBack 56 = .ok (.iload_n 2, 1) := by decide +kernel
theorem dX3_goBack_57 : decode cX3_goBack 57 = .ok (.invokevirtual 56, 3) := by decide +kernel
theorem dX3_goBack_60 : decode cX3_goBack 60 = .ok (.iinc 2 1, 3) := by decide +kernel
theorem dX3_goBack_63 : decode cX3_goBack 63 = .ok (.goto (-16), 3) := by decide +kernel
theorem dX3_goBack_66 : decode cX3_goBack 66 = .ok (.aload_n 0, 1) := by decide +kernel
theorem dX3_goBack_67 : decode cX3_goBack 67 = .ok (.getfield 9, 3) := by decide +kernel
theorem dX3_goBack_70 : decode cX3_goBack 70 = .ok (.ireturn, 1) := by decide +kernel
def rm_X3_goBack : Room := { frames := 5, cells := 0, slots := 0, locals := 132 }
abbrev wS_X3_goBack : List (Nat × Nat) := [(4, 0), (4, 1), (5, 0), (5, 1), (5, 2), (5, 3), (5, 4), (5, 5), (5, 6), (33, 99), (34, 99), (35, 99), (36, 99)]
set_option maxRecDepth 100000 in
set_option maxHeartbeats 4000000 in
theorem c_X3_goBack (l : Launch) (E : zE) (hV : zV E) (H0 : Heap) (hT0 : HT E H0) (h0 : Nat) (kh0 : eK E h0 = 4) (p0 : Int32) (p0_lo : 0 ≤ p0.toInt) (p0_hi : p0.toInt ≤ 2) : Met l yX3_goBack (zws yX3_goBack cX3_goBack 3 (some .int)) rm_X3_goBack (zP E H0 [.ref h0, .int p0]) (zQI E E wS_X3_goBack (fun r H1 => (-1) ≤ r.toInt ∧ r.toInt ≤ 60)) 0 0 (zfr E) := by
  refine zEnt (by decide) (Nat.le_of_ble_eq_true rfl) (fun p e s m args below meth c ls Q B hr hlk hh hQ hl => ?_)
  have hx := B.1
  have hb := B.2.1
  have hG0 : zG E wS_X3_goBack H0 H0 [] := zG.rf hT0
  have hl : lv_has ls 3 [(0, .ref h0), (1, .int p0)] := hl
  have b47 : ∀ (n47 : Nat) (H47 : Heap) (lc47 : List Loc) (ls : Array Slot) (v47_2 : Int32) (u47_h0_0 : Int32), 60 - v47_2.toInt < (n47 : Int) → zG E wS_X3_goBack H0 H47 lc47 → lv_has ls 3 [(0, .ref h0), (2, .int v47_2)] → 0 ≤ v47_2.toInt → v47_2.toInt ≤ 60 → 0 ≤ u47_h0_0.toInt → u47_h0_0.toInt ≤ 60 → sl H47 h0 (zix E 4 0) = some (.int u47_h0_0) → W p l e rm_X3_goBack s m args below meth c H47 lc47 0 0 Q (F0 m 47 ls []) := by
    intro n47
    induction n47 with
    | zero =>
      intro H47 lc47 ls v47_2 u47_h0_0 hm47 gH47 hl f47_1 f47_2 f47_3 f47_4 s47_u47_h0_0
      exact absurd hm47 (by omega)
    | succ n47 ih47 =>
      intro H47 lc47 ls v47_2 u47_h0_0 hm47 gH47 hl f47_1 f47_2 f47_3 f47_4 s47_u47_h0_0
      refine lv_iload_n hx hb dX3_goBack_47 rfl (lv_at hl 1 rfl) ?_
      refine lv_aload_n hx hb dX3_goBack_48 rfl (lv_at hl 0 rfl) ?_
      refine g_get B fl_RX3_9 gH47.1 kh0 rfl rfl rfl dX3_goBack_49 s47_u47_h0_0 ?_
      refine lv_icmp_ge (tgt := 66) hx hb dX3_goBack_52 (by decide) (fun c_1 => ?_) (fun c_1 => ?_)
      · have f_1 := z_le c_1 rfl rfl
        refine lv_aload_n hx hb dX3_goBack_66 rfl (lv_at hl 0 rfl) ?_
        refine g_get B fl_RX3_9 gH47.1 kh0 rfl rfl rfl dX3_goBack_67 s47_u47_h0_0 ?_
        exact rtI (v := u47_h0_0) B hr hlk hh hQ gH47 rfl ⟨by omega, by omega⟩ dX3_goBack_70
      · have f_1 := z_nle c_1 rfl rfl
        refine lv_aload_n hx hb dX3_goBack_55 rfl (lv_at hl 0 rfl) ?_
        refine lv_iload_n hx hb dX3_goBack_56 rfl (lv_at hl 1 rfl) ?_
        refine zkV (zrV (rest := []) B (c_X3_playOut l E hV H47 gH47.1 h0 kh0 v47_2 (by omega) (by omega)) cl_RX3_56 gH47.1 kh0 rfl rfl rfl rfl hl.1 rfl (Nat.le_of_ble_eq_true rfl) dX3_goBack_57 rfl rfl ⟨rfl, rfl⟩ ⟨Nat.zero_le _, Nat.zero_le _⟩ (zO.of gH47 hh)) gH47 rfl (fun H2 lc2 hp_2 gH2 rH2 => ?_)
        have s_3 := rH2.keep hV kh0 rfl s47_u47_h0_0
        obtain ⟨x_4, e_4⟩ : ∃ y : Int32, (v47_2 : Int32) + Int32.ofInt 1 = y := ⟨_, rfl⟩
        refine lv_iinc (v := x_4) (lv' := [(2, .int x_4), (0, .ref h0)]) hx hb dX3_goBack_60 hl (k := 1) rfl e_4 (by decide) rfl (fun ls hl => ?_)
        have t_4 := z_inc2 e_4 rfl (by decide) (by omega) (by omega)
        refine lv_goto (tgt := 47) hx hb dX3_goBack_63 (by decide) ?_
        exact ih47 H2 lc2 ls x_4 u47_h0_0 (by omega) gH2 (lv_sub hl [1, 0] rfl) (by omega) (by omega) (by omega) (by omega) s_3
  refine lv_aload_n hx hb dX3_goBack_0 rfl (lv_at hl 0 rfl) ?_
  refine g_getR B fl_RX3_38 hT0 kh0 rfl rfl rfl rfl rfl dX3_goBack_1 (fun q_5 s_5 k_q_5 => ?_)
  refine lv_iload_n hx hb dX3_goBack_4 rfl (lv_at hl 1 rfl) ?_
  refine g_ialdI (i := p0) (N := 3) B hT0 k_q_5 rfl rfl rfl rfl (by omega) (by omega) rfl dX3_goBack_5 (fun x_6 s_6 a_6 b_6 => ?_)
  refine lv_iconst (v := (-1)) hx hb dX3_goBack_6 (by decide) ?_
  refine lv_icmp_ne (tgt := 12) hx hb dX3_goBack_7 (by decide) (fun c_7 => ?_) (fun c_7 => ?_)
  · have f_7 := z_ne c_7 rfl kl_m1
    refine lv_aload_n hx hb dX3_goBack_12 rfl (lv_at hl 0 rfl) ?_
    refine lv_aload_n hx hb dX3_goBack_13 rfl (lv_at hl 0 rfl) ?_
    refine g_get B fl_RX3_38 hT0 kh0 rfl rfl rfl dX3_goBack_14 s_5 ?_
    refine lv_iload_n hx hb dX3_goBack_17 rfl (lv_at hl 1 rfl) ?_
    refine g_iald (i := p0) (N := 3) B hT0 k_q_5 rfl rfl rfl rfl (by omega) (by omega) s_6 dX3_goBack_18 ?_
    refine g_putI B fp_RX3_9 hV hG0 kh0 rfl rfl rfl rfl rfl (by omega) (by omega) rfl dX3_goBack_19 (fun H8 lc8 gH8 uH8 => ?_)
    refine lv_aload_n hx hb dX3_goBack_22 rfl (lv_at hl 0 rfl) ?_
    refine lv_aload_n hx hb dX3_goBack_23 rfl (lv_at hl 0 rfl) ?_
    refine g_get B fl_RX3_9 gH8.1 kh0 rfl rfl rfl dX3_goBack_24 uH8.2.1 ?_
    refine g_putI B fp_RX3_15 hV gH8 kh0 rfl rfl rfl rfl rfl (by omega) (by omega) rfl dX3_goBack_27 (fun H9 lc9 gH9 uH9 => ?_)
    have s_10 := uH9.keep (Or.inr (j_ne hV rfl rfl rfl rfl)) uH8.2.1
    refine lv_aload_n hx hb dX3_goBack_30 rfl (lv_at hl 0 rfl) ?_
    refine lv_iconst (v := 1) hx hb dX3_goBack_31 (by decide) ?_
    refine lv_iload_n hx hb dX3_goBack_32 rfl (lv_at hl 1 rfl) ?_
    refine lv_iadd hx hb dX3_goBack_33 ?_
    refine lv_topi (fun x_11 e_11 => ?_)
    have t_11 := z_add e_11 kl_1 rfl (by omega) (by omega)
    refine lv_bipush (v := 60) hx hb dX3_goBack_34 (by decide) ?_
    refine lv_imul hx hb dX3_goBack_36 ?_
    refine lv_topi (fun x_12 e_12 => ?_)
    have t_12 := z_mul e_12 rfl kl_60 (by omega) (by omega)
    refine lv_iconst (v := 0) hx hb dX3_goBack_37 (by decide) ?_
    refine lv_aload_n hx hb dX3_goBack_38 rfl (lv_at hl 0 rfl) ?_
    refine g_get B fl_RX3_9 gH9.1 kh0 rfl rfl rfl dX3_goBack_39 s_10 ?_
    have := kl_0
    refine zkV (zrV (rest := []) B (c_X3_copyNights l E hV H9 gH9.1 h0 kh0 x_12 (by omega) (by omega) 0 (by omega) (by omega) x_6) cl_RX3_66 gH9.1 kh0 rfl rfl rfl rfl hl.1 rfl (Nat.le_of_ble_eq_true rfl) dX3_goBack_42 rfl rfl ⟨rfl, rfl⟩ ⟨Nat.zero_le _, Nat.zero_le _⟩ (zO.of gH9 hh)) gH9 rfl (fun H13 lc13 hp_13 gH13 rH13 => ?_)
    have s_14 := rH13.keep hV kh0 rfl s_10
    refine lv_iconst (v := 0) hx hb dX3_goBack_45 (by decide) ?_
    refine lv_istore_n (lv' := [(2, .int 0), (0, .ref h0), (1, .int p0)]) hx hb dX3_goBack_46 rfl hl (by decide) rfl (fun ls hl => ?_)
    have := kl_0
    exact b47 61 H13 lc13 ls 0 x_6 (by omega) gH13 (lv_sub hl [1, 0] rfl) (by omega) (by omega) (by omega) (by omega) s_14
  · have f_7 := z_eq c_7 rfl kl_m1
    refine lv_iconst (v := (-1)) hx hb dX3_goBack_10 (by decide) ?_
    have := kl_m1
    have := kl_m1
    exact rtI (v := (-1)) B hr hlk hh hQ hG0 rfl ⟨by omega, by omega⟩ dX3_goBack_11

theorem dX3_firstApart_0 : decode cX3_firstApart 0 = .ok (.aload_n 0, 1) := by decide +kernel
theorem dX3_firstApart_1 : decode cX3_firstApart 1 = .ok (.getfield 9, 3) := by decide +kernel
theorem dX3_firstApart_4 : decode cX3_firstApart 4 = .ok (.istore_n 1, 1) := by decide +kernel
theorem dX3_firstApart_5 : decode cX3_firstApart 5 = .ok (.iload_n 1, 1) := by decide +kernel
theorem dX3_firstApart_6 : decode cX3_firstApart 6 = .ok (.ifCond .le 33, 3) := by decide +kernel
theorem dX3_firstApart_9 : decode cX3_firstApart 9 = .ok (.aload_n 0, 1) := by decide +kernel
theorem dX3_firstApart_10 : decode cX3_firstApart 10 = .ok (.getfield 34, 3) := by decide +kernel
theorem dX3_firstApart_13 : decode cX3_firstApart 13 = .ok (.iconst 2, 1) := by decide +kernel
theorem dX3_firstApart_14 : decode cX3_firstApart 14 = .ok (.iload_n 1, 1) := by decide +kernel
theorem dX3_firstApart_15 : decode cX3_firstApart 15 = .ok (.imul, 1) := by decide +kernel
theorem dX3_firstApart_16 : decode cX3_firstApart 16 = .ok (.aaload, 1) := by decide +kernel
theorem dX3_firstApart_17 : decode cX3_firstApart 17 = .ok (.aload_n 0, 1) := by decide +kernel
theorem dX3_firstApart_18 : decode cX3_firstApart 18 = .ok (.getfield 34, 3) := by decide +kernel
theorem dX3_firstApart_21 : decode cX3_firstApart 21 = .ok (.iconst 2, 1) := by decide +kernel
theorem dX3_firstApart_22 : decode cX3_firstApart 22 = .ok (.iload_n 1, 1) := by decide +kernel
theorem dX3_firstApart_23 : decode cX3_firstApart 23 = .ok (.imul, 1) := by decide +kernel
theorem dX3_firstApart_24 : decode cX3_firstApart 24 = .ok (.iconst 1, 1) := by decide +kernel
theorem dX3_firstApart_25 : decode cX3_firstApart 25 = .ok (.iadd, 1) := by decide +kernel
theorem dX3_firstApart_26 : decode cX3_firstApart 26 = .ok (.aaload, 1) := by decide +kernel
theorem dX3_firstApart_27 : decode cX3_firstApart 27 = .ok (.invokevirtual 70, 3) := by decide +kernel
theorem dX3_firstApart_30 : decode cX3_firstApart 30 = .ok (.ifCond .ne 9, 3) := by decide +kernel
theorem dX3_firstApart_33 : decode cX3_firstApart 33 = .ok (.iinc 1 (-1), 3) := by decide +kernel
theorem dX3_firstApart_36 : decode cX3_firstApart 36 = .ok (.goto (-31), 3) := by decide +kernel
theorem dX3_firstApart_39 : decode cX3_firstApart 39 = .ok (.iload_n 1, 1) := by decide +kernel
theorem dX3_firstApart_40 : decode cX3_firstApart 40 = .ok (.aload_n 0, 1) := by decide +kernel
theorem dX3_firstApart_41 : decode cX3_firstApart 41 = .ok (.getfield 9, 3) := by decide +kernel
theorem dX3_firstApart_44 : decode cX3_firstApart 44 = .ok (.if_icmp .ne 7, 3) := by decide +kernel
theorem dX3_firstApart_47 : decode cX3_firstApart 47 = .ok (.iconst (-1), 1) := by decide +kernel
theorem dX3_firstApart_48 : decode cX3_firstApart 48 = .ok (.goto 4, 3) := by decide +kernel
theorem dX3_firstApart_51 : decode cX3_firstApart 51 = .ok (.iload_n 1, 1) := by decide +kernel
theorem dX3_firstApart_52 : decode cX3_firstApart 52 = .ok (.ireturn, 1) := by decide +kernel
def rm_X3_firstApart : Room := { frames := 2, cells := 0, slots := 0, locals := 42 }
set_option maxRecDepth 100000 in
set_option maxHeartbeats 4000000 in
theorem c_X3_firstApart (l : Launch) (E : zE) (hV : zV E) (H0 : Heap) (hT0 : HT E H0) (h0 : Nat) (kh0 : eK E h0 = 4) : Met l yX3_firstApart (zws yX3_firstApart cX3_firstApart 2 (some .int)) rm_X3_firstApart (zP E H0 [.ref h0]) (zPI (fun r => (-1) ≤ r.toInt ∧ r.toInt ≤ 60)) 0 0 (fun _ => False) := by
  refine zEnt (by decide) (Nat.le_of_ble_eq_true rfl) (fun p e s m args below meth c ls Q B hr hlk hh hQ hl => ?_)
  have hx := B.1
  have hb := B.2.1
  have hl : lv_has ls 2 [(0, .ref h0)] := hl
  have b39 : ∀ (ls : Array Slot) (v39_1 : Int32) (u39_h0_0 : Int32), lv_has ls 2 [(0, .ref h0), (1, .int v39_1)] → 0 ≤ v39_1.toInt → v39_1.toInt ≤ 60 → 0 ≤ u39_h0_0.toInt → u39_h0_0.toInt ≤ 60 → sl H0 h0 (zix E 4 0) = some (.int u39_h0_0) → W p l e rm_X3_firstApart s m args below meth c H0 [] 0 0 Q (F0 m 39 ls []) := by
    intro ls v39_1 u39_h0_0 hl f39_1 f39_2 f39_3 f39_4 s39_u39_h0_0
    refine lv_iload_n hx hb dX3_firstApart_39 rfl (lv_at hl 1 rfl) ?_
    refine lv_aload_n hx hb dX3_firstApart_40 rfl (lv_at hl 0 rfl) ?_
    refine g_get B fl_RX3_9 hT0 kh0 rfl rfl rfl dX3_firstApart_41 s39_u39_h0_0 ?_
    refine lv_icmp_ne (tgt := 51) hx hb dX3_firstApart_44 (by decide) (fun c_1 => ?_) (fun c_1 => ?_)
    · have f_1 := z_ne c_1 rfl rfl
      refine lv_iload_n hx hb dX3_firstApart_51 rfl (lv_at hl 1 rfl) ?_
      exact rtPI (v := v39_1) B hr hlk hh hQ rfl ⟨by omega, by omega⟩ dX3_firstApart_52
    · have f_1 := z_eq c_1 rfl rfl
      refine lv_iconst (v := (-1)) hx hb dX3_firstApart_47 (by decide) ?_
      refine lv_goto (tgt := 52) hx hb dX3_firstApart_48 (by decide) ?_
      have := kl_m1
      have := kl_m1
      exact rtPI (v := (-1)) B hr hlk hh hQ rfl ⟨by omega, by omega⟩ dX3_firstApart_52
  have b5 : ∀ (n5 : Nat) (ls : Array Slot) (v5_1 : Int32) (u5_h0_0 : Int32), v5_1.toInt - 0 < (n5 : Int) → lv_has ls 2 [(0, .ref h0), (1, .int v5_1)] → 0 ≤ v5_1.toInt → v5_1.toInt ≤ 60 → 0 ≤ u5_h0_0.toInt → u5_h0_0.toInt ≤ 60 → sl H0 h0 (zix E 4 0) = some (.int u5_h0_0) → W p l e rm_X3_firstApart s m args below meth c H0 [] 0 0 Q (F0 m 5 ls []) := by
    intro n5
    induction n5 with
    | zero =>
      intro ls v5_1 u5_h0_0 hm5 hl f5_1 f5_2 f5_3 f5_4 s5_u5_h0_0
      exact absurd hm5 (by omega)
    | succ n5 ih5 =>
      intro ls v5_1 u5_h0_0 hm5 hl f5_1 f5_2 f5_3 f5_4 s5_u5_h0_0
      refine lv_iload_n hx hb dX3_firstApart_5 rfl (lv_at hl 1 rfl) ?_
      refine lv_if_le (tgt := 39) hx hb dX3_firstApart_6 (by decide) (fun c_2 => ?_) (fun c_2 => ?_)
      · have f_2 := z_le c_2 rfl kl_0
        exact b39 ls v5_1 u5_h0_0 (lv_sub hl [0, 1] rfl) (by omega) (by omega) (by omega) (by omega) s5_u5_h0_0
      · have f_2 := z_nle c_2 rfl kl_0
        refine lv_aload_n hx hb dX3_firstApart_9 rfl (lv_at hl 0 rfl) ?_
        refine g_getR B fl_RX3_34 hT0 kh0 rfl rfl rfl rfl rfl dX3_firstApart_10 (fun q_3 s_3 k_q_3 => ?_)
        refine lv_iconst (v := 2) hx hb dX3_firstApart_13 (by decide) ?_
        refine lv_iload_n hx hb dX3_firstApart_14 rfl (lv_at hl 1 rfl) ?_
        refine lv_imul hx hb dX3_firstApart_15 ?_
        refine lv_topi (fun x_4 e_4 => ?_)
        have t_4 := z_mul e_4 kl_2 rfl (by omega) (by omega)
        refine g_aaldI (i := x_4) (N := 122) B hT0 k_q_3 rfl rfl rfl rfl rfl (by omega) (by omega) rfl dX3_firstApart_16 (fun q_5 s_5 k_q_5 => ?_)
        refine lv_aload_n hx hb dX3_firstApart_17 rfl (lv_at hl 0 rfl) ?_
        refine g_get B fl_RX3_34 hT0 kh0 rfl rfl rfl dX3_firstApart_18 s_3 ?_
        refine lv_iconst (v := 2) hx hb dX3_firstApart_21 (by decide) ?_
        refine lv_iload_n hx hb dX3_firstApart_22 rfl (lv_at hl 1 rfl) ?_
        refine lv_imul hx hb dX3_firstApart_23 ?_
        refine lv_topi (fun x_6 e_6 => ?_)
        have t_6 := z_mul e_6 kl_2 rfl (by omega) (by omega)
        refine lv_iconst (v := 1) hx hb dX3_firstApart_24 (by decide) ?_
        refine lv_iadd hx hb dX3_firstApart_25 ?_
        refine lv_topi (fun x_7 e_7 => ?_)
        have t_7 := z_add e_7 rfl kl_1 (by omega) (by omega)
        refine g_aaldI (i := x_7) (N := 122) B hT0 k_q_3 rfl rfl rfl rfl rfl (by omega) (by omega) rfl dX3_firstApart_26 (fun q_8 s_8 k_q_8 => ?_)
        refine zkPI (zrV (rest := []) B (c_X4_isLike l E hV H0 hT0 q_5 k_q_5 q_8 k_q_8) cl_RX3_70 hT0 k_q_5 rfl rfl rfl rfl hl.1 rfl (Nat.le_of_ble_eq_true rfl) dX3_firstApart_27 rfl rfl ⟨rfl, rfl⟩ ⟨Nat.zero_le _, Nat.zero_le _⟩ (zO.rf hh)) (fun x_9 hp_9 => ?_)
        obtain ⟨hp_9_1, hp_9_2⟩ := hp_9
        refine lv_if_ne (tgt := 39) hx hb dX3_firstApart_30 (by decide) (fun c_10 => ?_) (fun c_10 => ?_)
        · have f_10 := z_ne c_10 rfl kl_0
          exact b39 ls v5_1 u5_h0_0 (lv_sub hl [0, 1] rfl) (by omega) (by omega) (by omega) (by omega) s5_u5_h0_0
        · have f_10 := z_eq c_10 rfl kl_0
          obtain ⟨x_11, e_11⟩ : ∃ y : Int32, (v5_1 : Int32) + Int32.ofInt (-1) = y := ⟨_, rfl⟩
          refine lv_iinc (v := x_11) (lv' := [(1, .int x_11), (0, .ref h0)]) hx hb dX3_firstApart_33 hl (k := 1) rfl e_11 (by decide) rfl (fun ls hl => ?_)
          have t_11 := z_inc2 e_11 rfl (by decide) (by omega) (by omega)
          refine lv_goto (tgt := 5) hx hb dX3_firstApart_36 (by decide) ?_
          exact ih5 ls x_11 u5_h0_0 (by omega) (lv_sub hl [1, 0] rfl) (by omega) (by omega) (by omega) (by omega) s5_u5_h0_0
  refine lv_aload_n hx hb dX3_firstApart_0 rfl (lv_at hl 0 rfl) ?_
  refine g_getI B fl_RX3_9 hT0 kh0 rfl rfl rfl rfl rfl dX3_firstApart_1 (fun x_12 s_12 a_12 b_12 => ?_)
  refine lv_istore_n (lv' := [(1, .int x_12), (0, .ref h0)]) hx hb dX3_firstApart_4 rfl hl (by decide) rfl (fun ls hl => ?_)
  exact b5 61 ls x_12 x_12 (by omega) (lv_sub hl [1, 0] rfl) (by omega) (by omega) (by omega) (by omega) s_12

theorem dX3_countNoticed_0 : decode cX3_countNoticed 0 = .ok (.iconst 0, 1) := by decide +kernel
theorem dX3_countNoticed_1 : decode cX3_countNoticed 1 = .ok (.istore_n 1, 1) := by decide +kernel
theorem dX3_countNoticed_2 : decode cX3_countNoticed 2 = .ok (.iconst 0, 1) := by decide +kernel
theorem dX3_countNoticed_3 : decode cX3_countNoticed 3 = .ok (.istore_n 2, 1) := by decide +kernel
theorem dX3_countNoticed_4 : decode cX3_countNoticed 4 = .ok (.iload_n 2, 1) := by decide +kernel
theorem dX3_countNoticed_5 : decode cX3_countNoticed 5 = .ok (.aload_n 0, 1) := by decide +kernel
theorem dX3_countNoticed_6 : decode cX3_countNoticed 6 = .ok (.getfield 9, 3) := by decide +kernel
theorem dX3_countNoticed_9 : decode cX3_countNoticed 9 = .ok (.if_icmp .ge 26, 3) := by decide +kernel
theorem dX3_countNoticed_12 : decode cX3_countNoticed 12 = .ok (.iload_n 1, 1) := by decide +kernel
theorem dX3_countNoticed_13 : decode cX3_countNoticed 13 = .ok (.aload_n 0, 1) := by decide +kernel
theorem dX3_countNoticed_14 : decode cX3_countNoticed 14 = .ok (.getfield 29, 3) := by decide +kernel
theorem dX3_countNoticed_17 : decode cX3_countNoticed 17 = .ok (.iload_n 2, 1) := by decide +kernel
theorem dX3_countNoticed_18 : decode cX3_countNoticed 18 = .ok (.baload, 1) := by decide +kernel
theorem dX3_countNoticed_19 : decode cX3_countNoticed 19 = .ok (.ifCond .eq 7, 3) := by decide +kernel
theorem dX3_countNoticed_22 : decode cX3_countNoticed 22 = .ok (.iconst 1, 1) := by decide +kernel
theorem dX3_countNoticed_23 : decode cX3_countNoticed 23 = .ok (.goto 4, 3) := by decide +kernel
theorem dX3_countNoticed_26 : decode cX3_countNoticed 26 = .ok (.iconst 0, 1) := by decide +kernel
theorem dX3_countNoticed_27 : decode cX3_countNoticed 27 = .ok (.iadd, 1) := by decide +kernel
theorem dX3_countNoticed_28 : decode cX3_countNoticed 28 = .ok (.istore_n 1, 1) := by decide +kernel
theorem dX3_countNoticed_29 : decode cX3_countNoticed 29 = .ok (.iinc 2 1, 3) := by decide +kernel
theorem dX3_countNoticed_32 : decode cX3_countNoticed 32 = .ok (.goto (-28), 3) := by decide +kernel
theorem dX3_countNoticed_35 : decode cX3_countNoticed 35 = .ok (.iload_n 1, 1) := by decide +kernel
theorem dX3_countNoticed_36 : decode cX3_countNoticed 36 = .ok (.ireturn, 1) := by decide +kernel
def rm_X3_countNoticed : Room := { frames := 0, cells := 0, slots := 0, locals := 0 }
set_option maxRecDepth 100000 in
set_option maxHeartbeats 4000000 in
theorem c_X3_countNoticed (l : Launch) (E : zE) (hV : zV E) (H0 : Heap) (hT0 : HT E H0) (h0 : Nat) (kh0 : eK E h0 = 4) : Met l yX3_countNoticed (zws yX3_countNoticed cX3_countNoticed 3 (some .int)) rm_X3_countNoticed (zP E H0 [.ref h0]) (zPI (fun r => True)) 0 0 (fun _ => False) := by
  refine zEnt (by decide) (Nat.le_of_ble_eq_true rfl) (fun p e s m args below meth c ls Q B hr hlk hh hQ hl => ?_)
  have hx := B.1
  have hb := B.2.1
  have hl : lv_has ls 3 [(0, .ref h0)] := hl
  have b4 : ∀ (n4 : Nat) (ls : Array Slot) (v4_1 : Int32) (v4_2 : Int32), 60 - v4_2.toInt < (n4 : Int) → lv_has ls 3 [(0, .ref h0), (1, .int v4_1), (2, .int v4_2)] → 0 ≤ v4_2.toInt → v4_2.toInt ≤ 60 → W p l e rm_X3_countNoticed s m args below meth c H0 [] 0 0 Q (F0 m 4 ls []) := by
    intro n4
    induction n4 with
    | zero =>
      intro ls v4_1 v4_2 hm4 hl f4_1 f4_2
      exact absurd hm4 (by omega)
    | succ n4 ih4 =>
      intro ls v4_1 v4_2 hm4 hl f4_1 f4_2
      have b27 : ∀ (ls : Array Slot) (w27_0 : Int32) (u27_h0_0 : Int32) (u27_h0_5 : Nat), lv_has ls 3 [(0, .ref h0), (2, .int v4_2)] → eK E u27_h0_5 = 36 → v4_2.toInt ≤ 59 → 0 ≤ w27_0.toInt → w27_0.toInt ≤ 1 → 1 ≤ u27_h0_0.toInt → u27_h0_0.toInt ≤ 60 → sl H0 h0 (zix E 4 0) = some (.int u27_h0_0) → sl H0 h0 (zix E 4 5) = some (.ref u27_h0_5) → W p l e rm_X3_countNoticed s m args below meth c H0 [] 0 0 Q (F0 m 27 ls [.int w27_0, .int v4_1]) := by
        intro ls w27_0 u27_h0_0 u27_h0_5 hl k_u27_h0_5 f27_1 f27_2 f27_3 f27_4 f27_5 s27_u27_h0_0 s27_u27_h0_5
        refine lv_iadd hx hb dX3_countNoticed_27 ?_
        refine lv_topi (fun x_1 e_1 => ?_)
        refine lv_istore_n (lv' := [(1, .int x_1), (0, .ref h0), (2, .int v4_2)]) hx hb dX3_countNoticed_28 rfl hl (by decide) rfl (fun ls hl => ?_)
        obtain ⟨x_2, e_2⟩ : ∃ y : Int32, (v4_2 : Int32) + Int32.ofInt 1 = y := ⟨_, rfl⟩
        refine lv_iinc (v := x_2) (lv' := [(2, .int x_2), (1, .int x_1), (0, .ref h0)]) hx hb dX3_countNoticed_29 hl (k := 2) rfl e_2 (by decide) rfl (fun ls hl => ?_)
        have t_2 := z_inc2 e_2 rfl (by decide) (by omega) (by omega)
        refine lv_goto (tgt := 4) hx hb dX3_countNoticed_32 (by decide) ?_
        exact ih4 ls x_1 x_2 (by omega) (lv_sub hl [2, 1, 0] rfl) (by omega) (by omega)
      refine lv_iload_n hx hb dX3_countNoticed_4 rfl (lv_at hl 2 rfl) ?_
      refine lv_aload_n hx hb dX3_countNoticed_5 rfl (lv_at hl 0 rfl) ?_
      refine g_getI B fl_RX3_9 hT0 kh0 rfl rfl rfl rfl rfl dX3_countNoticed_6 (fun x_3 s_3 a_3 b_3 => ?_)
      refine lv_icmp_ge (tgt := 35) hx hb dX3_countNoticed_9 (by decide) (fun c_4 => ?_) (fun c_4 => ?_)
      · have f_4 := z_le c_4 rfl rfl
        refine lv_iload_n hx hb dX3_countNoticed_35 rfl (lv_at hl 1 rfl) ?_
        exact rtPI (v := v4_1) B hr hlk hh hQ rfl trivial dX3_countNoticed_36
      · have f_4 := z_nle c_4 rfl rfl
        refine lv_iload_n hx hb dX3_countNoticed_12 rfl (lv_at hl 1 rfl) ?_
        refine lv_aload_n hx hb dX3_countNoticed_13 rfl (lv_at hl 0 rfl) ?_
        refine g_getR B fl_RX3_29 hT0 kh0 rfl rfl rfl rfl rfl dX3_countNoticed_14 (fun q_5 s_5 k_q_5 => ?_)
        refine lv_iload_n hx hb dX3_countNoticed_17 rfl (lv_at hl 2 rfl) ?_
        refine g_zaldI (i := v4_2) (N := 60) B hT0 k_q_5 rfl rfl rfl rfl (by omega) (by omega) rfl dX3_countNoticed_18 (fun x_6 s_6 a_6 b_6 => ?_)
        refine lv_if_eq (tgt := 26) hx hb dX3_countNoticed_19 (by decide) (fun c_7 => ?_) (fun c_7 => ?_)
        · have f_7 := z_eq c_7 rfl kl_0
          refine lv_iconst (v := 0) hx hb dX3_countNoticed_26 (by decide) ?_
          have := kl_0
          exact b27 ls 0 x_3 q_5 (lv_sub hl [0, 2] rfl) k_q_5 (by omega) (by omega) (by omega) (by omega) (by omega) s_3 s_5
        · have f_7 := z_ne c_7 rfl kl_0
          refine lv_iconst (v := 1) hx hb dX3_countNoticed_22 (by decide) ?_
          refine lv_goto (tgt := 27) hx hb dX3_countNoticed_23 (by decide) ?_
          have := kl_1
          exact b27 ls 1 x_3 q_5 (lv_sub hl [0, 2] rfl) k_q_5 (by omega) (by omega) (by omega) (by omega) (by omega) s_3 s_5
  refine lv_iconst (v := 0) hx hb dX3_countNoticed_0 (by decide) ?_
  refine lv_istore_n (lv' := [(1, .int 0), (0, .ref h0)]) hx hb dX3_countNoticed_1 rfl hl (by decide) rfl (fun ls hl => ?_)
  refine lv_iconst (v := 0) hx hb dX3_countNoticed_2 (by decide) ?_
  refine lv_istore_n (lv' := [(2, .int 0), (1, .int 0), (0, .ref h0)]) hx hb dX3_countNoticed_3 rfl hl (by decide) rfl (fun ls hl => ?_)
  have := kl_0
  have := kl_0
  exact b4 61 ls 0 0 (by omega) (lv_sub hl [2, 1, 0] rfl) (by omega) (by omega)

theorem dX3_countFlashesOf_0 : decode cX3_countFlashesOf 0 = .ok (.iconst 0, 1) := by decide +kernel
theorem dX3_countFlashesOf_1 : decode cX3_countFlashesOf 1 = .ok (.istore_n 2, 1) := by decide +kernel
theorem dX3_countFlashesOf_2 : decode cX3_countFlashesOf 2 = .ok (.iconst 0, 1) := by decide +kernel
theorem dX3_countFlashesOf_3 : decode cX3_countFlashesOf 3 = .ok (.istore_n 3, 1) := by decide +kernel
theorem dX3_countFlashesOf_4 : decode cX3_countFlashesOf 4 = .ok (.iload_n 3, 1) := by decide +kernel
theorem dX3_countFlashesOf_5 : decode cX3_countFlashesOf 5 = .ok (.aload_n 0, 1) := by decide +kernel
theorem dX3_countFlashesOf_6 : decode cX3_countFlashesOf 6 = .ok (.getfield 9, 3) := by decide +kernel
theorem dX3_countFlashesOf_9 : decode cX3_countFlashesOf 9 = .ok (.if_icmp .ge 27, 3) := by decide +kernel
theorem dX3_countFlashesOf_12 : decode cX3_countFlashesOf 12 = .ok (.iload_n 2, 1) := by decide +kernel
theorem dX3_countFlashesOf_13 : decode cX3_countFlashesOf 13 = .ok (.aload_n 0, 1) := by decide +kernel
theorem dX3_countFlashesOf_14 : decode cX3_countFlashesOf 14 = .ok (.getfield 18, 3) := by decide +kernel
theorem dX3_countFlashesOf_17 : decode cX3_countFlashesOf 17 = .ok (.iload_n 3, 1) := by decide +kernel
theorem dX3_countFlashesOf_18 : decode cX3_countFlashesOf 18 = .ok (.iaload, 1) := by decide +kernel
theorem dX3_countFlashesOf_19 : decode cX3_countFlashesOf 19 = .ok (.iload_n 1, 1) := by decide +kernel
theorem dX3_countFlashesOf_20 : decode cX3_countFlashesOf 20 = .ok (.if_icmp .ne 7, 3) := by decide +kernel
theorem dX3_countFlashesOf_23 : decode cX3_countFlashesOf 23 = .ok (.iconst 1, 1) := by decide +kernel
theorem dX3_countFlashesOf_24 : decode cX3_countFlashesOf 24 = .ok (.goto 4, 3) := by decide +kernel
theorem dX3_countFlashesOf_27 : decode cX3_countFlashesOf 27 = .ok (.iconst 0, 1) := by decide +kernel
theorem dX3_countFlashesOf_28 : decode cX3_countFlashesOf 28 = .ok (.iadd, 1) := by decide +kernel
theorem dX3_countFlashesOf_29 : decode cX3_countFlashesOf 29 = .ok (.istore_n 2, 1) := by decide +kernel
theorem dX3_countFlashesOf_30 : decode cX3_countFlashesOf 30 = .ok (.iinc 3 1, 3) := by decide +kernel
theorem dX3_countFlashesOf_33 : decode cX3_countFlashesOf 33 = .ok (.goto (-29), 3) := by decide +kernel
theorem dX3_countFlashesOf_36 : decode cX3_countFlashesOf 36 = .ok (.iload_n 2, 1) := by decide +kernel
theorem dX3_countFlashesOf_37 : decode cX3_countFlashesOf 37 = .ok (.ireturn, 1) := by decide +kernel
def rm_X3_countFlashesOf : Room := { frames := 0, cells := 0, slots := 0, locals := 0 }
set_option maxRecDepth 100000 in
set_option maxHeartbeats 4000000 in
theorem c_X3_countFlashesOf (l : Launch) (E : zE) (hV : zV E) (H0 : Heap) (hT0 : HT E H0) (h0 : Nat) (kh0 : eK E h0 = 4) (p0 : Int32) : Met l yX3_countFlashesOf (zws yX3_countFlashesOf cX3_countFlashesOf 4 (some .int)) rm_X3_countFlashesOf (zP E H0 [.ref h0, .int p0]) (zPI (fun r => True)) 0 0 (fun _ => False) := by
  refine zEnt (by decide) (Nat.le_of_ble_eq_true rfl) (fun p e s m args below meth c ls Q B hr hlk hh hQ hl => ?_)
  have hx := B.1
  have hb := B.2.1
  have hl : lv_has ls 4 [(0, .ref h0), (1, .int p0)] := hl
  have b4 : ∀ (n4 : Nat) (ls : Array Slot) (v4_2 : Int32) (v4_3 : Int32), 60 - v4_3.toInt < (n4 : Int) → lv_has ls 4 [(0, .ref h0), (1, .int p0), (2, .int v4_2), (3, .int v4_3)] → 0 ≤ v4_3.toInt → v4_3.toInt ≤ 60 → W p l e rm_X3_countFlashesOf s m args below meth c H0 [] 0 0 Q (F0 m 4 ls []) := by
    intro n4
    induction n4 with
    | zero =>
      intro ls v4_2 v4_3 hm4 hl f4_1 f4_2
      exact absurd hm4 (by omega)
    | succ n4 ih4 =>
      intro ls v4_2 v4_3 hm4 hl f4_1 f4_2
      have b28 : ∀ (ls : Array Slot) (w28_0 : Int32) (u28_h0_0 : Int32) (u28_h0_2 : Nat), lv_has ls 4 [(0, .ref h0), (1, .int p0), (3, .int v4_3)] → eK E u28_h0_2 = 33 → v4_3.toInt ≤ 59 → 0 ≤ w28_0.toInt → w28_0.toInt ≤ 1 → 1 ≤ u28_h0_0.toInt → u28_h0_0.toInt ≤ 60 → sl H0 h0 (zix E 4 0) = some (.int u28_h0_0) → sl H0 h0 (zix E 4 2) = some (.ref u28_h0_2) → W p l e rm_X3_countFlashesOf s m args below meth c H0 [] 0 0 Q (F0 m 28 ls [.int w28_0, .int v4_2]) := by
        intro ls w28_0 u28_h0_0 u28_h0_2 hl k_u28_h0_2 f28_1 f28_2 f28_3 f28_4 f28_5 s28_u28_h0_0 s28_u28_h0_2
        refine lv_iadd hx hb dX3_countFlashesOf_28 ?_
        refine lv_topi (fun x_1 e_1 => ?_)
        refine lv_istore_n (lv' := [(2, .int x_1), (0, .ref h0), (1, .int p0), (3, .int v4_3)]) hx hb dX3_countFlashesOf_29 rfl hl (by decide) rfl (fun ls hl => ?_)
        obtain ⟨x_2, e_2⟩ : ∃ y : Int32, (v4_3 : Int32) + Int32.ofInt 1 = y := ⟨_, rfl⟩
        refine lv_iinc (v := x_2) (lv' := [(3, .int x_2), (2, .int x_1), (0, .ref h0), (1, .int p0)]) hx hb dX3_countFlashesOf_30 hl (k := 3) rfl e_2 (by decide) rfl (fun ls hl => ?_)
        have t_2 := z_inc2 e_2 rfl (by decide) (by omega) (by omega)
        refine lv_goto (tgt := 4) hx hb dX3_countFlashesOf_33 (by decide) ?_
        exact ih4 ls x_1 x_2 (by omega) (lv_sub hl [2, 3, 1, 0] rfl) (by omega) (by omega)
      refine lv_iload_n hx hb dX3_countFlashesOf_4 rfl (lv_at hl 3 rfl) ?_
      refine lv_aload_n hx hb dX3_countFlashesOf_5 rfl (lv_at hl 0 rfl) ?_
      refine g_getI B fl_RX3_9 hT0 kh0 rfl rfl rfl rfl rfl dX3_countFlashesOf_6 (fun x_3 s_3 a_3 b_3 => ?_)
      refine lv_icmp_ge (tgt := 36) hx hb dX3_countFlashesOf_9 (by decide) (fun c_4 => ?_) (fun c_4 => ?_)
      · have f_4 := z_le c_4 rfl rfl
        refine lv_iload_n hx hb dX3_countFlashesOf_36 rfl (lv_at hl 2 rfl) ?_
        exact rtPI (v := v4_2) B hr hlk hh hQ rfl trivial dX3_countFlashesOf_37
      · have f_4 := z_nle c_4 rfl rfl
        refine lv_iload_n hx hb dX3_countFlashesOf_12 rfl (lv_at hl 2 rfl) ?_
        refine lv_aload_n hx hb dX3_countFlashesOf_13 rfl (lv_at hl 0 rfl) ?_
        refine g_getR B fl_RX3_18 hT0 kh0 rfl rfl rfl rfl rfl dX3_countFlashesOf_14 (fun q_5 s_5 k_q_5 => ?_)
        refine lv_iload_n hx hb dX3_countFlashesOf_17 rfl (lv_at hl 3 rfl) ?_
        refine g_ialdI (i := v4_3) (N := 240) B hT0 k_q_5 rfl rfl rfl rfl (by omega) (by omega) rfl dX3_countFlashesOf_18 (fun x_6 s_6 a_6 b_6 => ?_)
        refine lv_iload_n hx hb dX3_countFlashesOf_19 rfl (lv_at hl 1 rfl) ?_
        refine lv_icmp_ne (tgt := 27) hx hb dX3_countFlashesOf_20 (by decide) (fun c_7 => ?_) (fun c_7 => ?_)
        · have f_7 := z_ne c_7 rfl rfl
          refine lv_iconst (v := 0) hx hb dX3_countFlashesOf_27 (by decide) ?_
          have := kl_0
          exact b28 ls 0 x_3 q_5 (lv_sub hl [0, 1, 3] rfl) k_q_5 (by omega) (by omega) (by omega) (by omega) (by omega) s_3 s_5
        · have f_7 := z_eq c_7 rfl rfl
          refine lv_iconst (v := 1) hx hb dX3_countFlashesOf_23 (by decide) ?_
          refine lv_goto (tgt := 28) hx hb dX3_countFlashesOf_24 (by decide) ?_
          have := kl_1
          exact b28 ls 1 x_3 q_5 (lv_sub hl [0, 1, 3] rfl) k_q_5 (by omega) (by omega) (by omega) (by omega) (by omega) s_3 s_5
  refine lv_iconst (v := 0) hx hb dX3_countFlashesOf_0 (by decide) ?_
  refine lv_istore_n (lv' := [(2, .int 0), (0, .ref h0), (1, .int p0)]) hx hb dX3_countFlashesOf_1 rfl hl (by decide) rfl (fun ls hl => ?_)
  refine lv_iconst (v := 0) hx hb dX3_countFlashesOf_2 (by decide) ?_
  refine lv_istore_n (lv' := [(3, .int 0), (2, .int 0), (0, .ref h0), (1, .int p0)]) hx hb dX3_countFlashesOf_3 rfl hl (by decide) rfl (fun ls hl => ?_)
  have := kl_0
  have := kl_0
  exact b4 61 ls 0 0 (by omega) (lv_sub hl [2, 3, 1, 0] rfl) (by omega) (by omega)
