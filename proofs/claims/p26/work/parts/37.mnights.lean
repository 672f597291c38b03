theorem dX12_newNight_0 : decode cX12_newNight 0 = .ok (.aload_n 0, 1) := by decide +kernel
theorem dX12_newNight_1 : decode cX12_newNight 1 = .ok (.aload_n 0, 1) := by decide +kernel
theorem dX12_newNight_2 : decode cX12_newNight 2 = .ok (.iconst 0, 1) := by decide +kernel
theorem dX12_newNight_3 : decode cX12_newNight 3 = .ok (.invokevirtual 314, 3) := by decide +kernel
theorem dX12_newNight_6 : decode cX12_newNight 6 = .ok (.aload_n 0, 1) := by decide +kernel
theorem dX12_newNight_7 : decode cX12_newNight 7 = .ok (.iconst 0, 1) := by decide +kernel
theorem dX12_newNight_8 : decode cX12_newNight 8 = .ok (.invokevirtual 314, 3) := by decide +kernel
theorem dX12_newNight_11 : decode cX12_newNight 11 = .ok (.iconst 2, 1) := by decide +kernel
theorem dX12_newNight_12 : decode cX12_newNight 12 = .ok (.iadd, 1) := by decide +kernel
theorem dX12_newNight_13 : decode cX12_newNight 13 = .ok (.invokevirtual 326, 3) := by decide +kernel
theorem dX12_newNight_16 : decode cX12_newNight 16 = .ok (.aload_n 0, 1) := by decide +kernel
theorem dX12_newNight_17 : decode cX12_newNight 17 = .ok (.aload_n 0, 1) := by decide +kernel
theorem dX12_newNight_18 : decode cX12_newNight 18 = .ok (.iconst 1, 1) := by decide +kernel
theorem dX12_newNight_19 : decode cX12_newNight 19 = .ok (.invokevirtual 314, 3) := by decide +kernel
theorem dX12_newNight_22 : decode cX12_newNight 22 = .ok (.aload_n 0, 1) := by decide +kernel
theorem dX12_newNight_23 : decode cX12_newNight 23 = .ok (.iconst 1, 1) := by decide +kernel
theorem dX12_newNight_24 : decode cX12_newNight 24 = .ok (.invokevirtual 314, 3) := by decide +kernel
theorem dX12_newNight_27 : decode cX12_newNight 27 = .ok (.iconst 2, 1) := by decide +kernel
theorem dX12_newNight_28 : decode cX12_newNight 28 = .ok (.iadd, 1) := by decide +kernel
theorem dX12_newNight_29 : decode cX12_newNight 29 = .ok (.invokevirtual 326, 3) := by decide +kernel
theorem dX12_newNight_32 : decode cX12_newNight 32 = .ok (.aload_n 0, 1) := by decide +kernel
theorem dX12_newNight_33 : decode cX12_newNight 33 = .ok (.getfield 74, 3) := by decide +kernel
theorem dX12_newNight_36 : decode cX12_newNight 36 = .ok (.aload_n 0, 1) := by decide +kernel
theorem dX12_newNight_37 : decode cX12_newNight 37 = .ok (.getfield 305, 3) := by decide +kernel
theorem dX12_newNight_40 : decode cX12_newNight 40 = .ok (.iconst (-1), 1) := by decide +kernel
theorem dX12_newNight_41 : decode cX12_newNight 41 = .ok (.iastore, 1) := by decide +kernel
theorem dX12_newNight_42 : decode cX12_newNight 42 = .ok (.aload_n 0, 1) := by decide +kernel
theorem dX12_newNight_43 : decode cX12_newNight 43 = .ok (.getfield 77, 3) := by decide +kernel
theorem dX12_newNight_46 : decode cX12_newNight 46 = .ok (.aload_n 0, 1) := by decide +kernel
theorem dX12_newNight_47 : decode cX12_newNight 47 = .ok (.getfield 305, 3) := by decide +kernel
theorem dX12_newNight_50 : decode cX12_newNight 50 = .ok (.iconst (-1), 1) := by decide +kernel
theorem dX12_newNight_51 : decode cX12_newNight 51 = .ok (.iastore, 1) := by decide +kernel
theorem dX12_newNight_52 : decode cX12_newNight 52 = .ok (.aload_n 0, 1) := by decide +kernel
theorem dX12_newNight_53 : decode cX12_newNight 53 = .ok (.getfield 80, 3) := by decide +kernel
theorem dX12_newNight_56 : decode cX12_newNight 56 = .ok (.aload_n 0, 1) := by decide +kernel
theorem dX12_newNight_57 : decode cX12_newNight 57 = .ok (.getfield 305, 3) := by decide +kernel
theorem dX12_newNight_60 : decode cX12_newNight 60 = .ok (.iconst 0, 1) := by decide +kernel
theorem dX12_newNight_61 : decode cX12_newNight 61 = .ok (.bastore, 1) := by decide +kernel
theorem dX12_newNight_62 : decode cX12_newNight 62 = .ok (.aload_n 0, 1) := by decide +kernel
theorem dX12_newNight_63 : decode cX12_newNight 63 = .ok (.getfield 83, 3) := by decide +kernel
theorem dX12_newNight_66 : decode cX12_newNight 66 = .ok (.aload_n 0, 1) := by decide +kernel
theorem dX12_newNight_67 : decode cX12_newNight 67 = .ok (.getfield 305, 3) := by decide +kernel
theorem dX12_newNight_70 : decode cX12_newNight 70 = .ok (.iconst 0, 1) := by decide +kernel
theorem dX12_newNight_71 : decode cX12_newNight 71 = .ok (.bastore, 1) := by decide +kernel
theorem dX12_newNight_72 : decode cX12_newNight 72 = .ok (.aload_n 0, 1) := by decide +kernel
theorem dX12_newNight_73 : decode cX12_newNight 73 = .ok (.dup, 1) := by decide +kernel
theorem dX12_newNight_74 : decode cX12_newNight 74 = .ok (.getfield 305, 3) := by decide +kernel
theorem dX12_newNight_77 : decode cX12_newNight 77 = .ok (.iconst 1, 1) := by decide +kernel
theorem dX12_newNight_78 : decode cX12_newNight 78 = .ok (.iadd, 1) := by decide +kernel
theorem dX12_newNight_79 : decode cX12_newNight 79 = .ok (.putfield 305, 3) := by decide +kernel
theorem dX12_newNight_82 : decode cX12_newNight 82 = .ok (.aload_n 0, 1) := by decide +kernel
theorem dX12_newNight_83 : decode cX12_newNight 83 = .ok (.iconst 0, 1) := by decide +kernel
theorem dX12_newNight_84 : decode cX12_newNight 84 = .ok (.putfield 335, 3) := by decide +kernel
theorem dX12_newNight_87 : decode cX12_newNight 87 = .ok (.return_, 1) := by decide +kernel
def rm_X12_newNight : Room := { frames := 2, cells := 0, slots := 0, locals := 46 }
abbrev wS_X12_newNight : List (Nat × Nat) := [(13, 37), (13, 38), (60, 99), (77, 99), (78, 99), (79, 99), (80, 99)]
set_option maxRecDepth 100000 in
set_option maxHeartbeats 4000000 in
theorem c_X12_newNight (l : Launch) (E : zE) (hV : zV E) (H0 : Heap) (hT0 : HT E H0) (h0 : Nat) (kh0 : eK E h0 = 13) (n0 : Int32) (s_n0 : sl H0 h0 (zix E 13 37) = some (.int n0)) (n0_lo : 0 ≤ n0.toInt) (n0_hi : n0.toInt ≤ 59) : Met l yX12_newNight (zws yX12_newNight cX12_newNight 1 none) rm_X12_newNight (zP E H0 [.ref h0]) (zQV E E wS_X12_newNight (fun H1 => (∃ n1 : Int32, sl H1 h0 (zix E 13 37) = some (.int n1) ∧ 1 ≤ n1.toInt ∧ n1.toInt ≤ 60 ∧ (n1.toInt = n0.toInt + 1)) ∧ (∃ u1 : Int32, sl H1 h0 (zix E 13 38) = some (.int u1) ∧ 0 ≤ u1.toInt ∧ u1.toInt ≤ 0))) 0 0 (zfr E) := by
  refine zEnt (by decide) (Nat.le_of_ble_eq_true rfl) (fun p e s m args below meth c ls Q B hr hlk hh hQ hl => ?_)
  have hx := B.1
  have hb := B.2.1
  have hG0 : zG E wS_X12_newNight H0 H0 [] := zG.rf hT0
  have hl : lv_has ls 1 [(0, .ref h0)] := hl
  refine lv_aload_n hx hb dX12_newNight_0 rfl (lv_at hl 0 rfl) ?_
  refine lv_aload_n hx hb dX12_newNight_1 rfl (lv_at hl 0 rfl) ?_
  refine lv_iconst (v := 0) hx hb dX12_newNight_2 (by decide) ?_
  have := kl_0
  refine zkPI (zrV (rest := [.ref h0]) B (c_X12_boardOf l E hV H0 hT0 h0 kh0 0 (by omega) (by omega)) cl_RX12_314 hT0 kh0 rfl rfl rfl rfl hl.1 rfl (Nat.le_of_ble_eq_true rfl) dX12_newNight_3 rfl rfl ⟨rfl, rfl⟩ ⟨Nat.zero_le _, Nat.zero_le _⟩ (zO.of hG0 hh)) (fun x_1 hp_1 => ?_)
  obtain ⟨hp_1_1, hp_1_2⟩ := hp_1
  refine lv_aload_n hx hb dX12_newNight_6 rfl (lv_at hl 0 rfl) ?_
  refine lv_iconst (v := 0) hx hb dX12_newNight_7 (by decide) ?_
  have := kl_0
  refine zkPI (zrV (rest := [.int x_1, .ref h0]) B (c_X12_boardOf l E hV H0 hT0 h0 kh0 0 (by omega) (by omega)) cl_RX12_314 hT0 kh0 rfl rfl rfl rfl hl.1 rfl (Nat.le_of_ble_eq_true rfl) dX12_newNight_8 rfl rfl ⟨rfl, rfl⟩ ⟨Nat.zero_le _, Nat.zero_le _⟩ (zO.of hG0 hh)) (fun x_2 hp_2 => ?_)
  obtain ⟨hp_2_1, hp_2_2⟩ := hp_2
  refine lv_iconst (v := 2) hx hb dX12_newNight_11 (by decide) ?_
  refine lv_iadd hx hb dX12_newNight_12 ?_
  refine lv_topi (fun x_3 e_3 => ?_)
  have t_3 := z_add e_3 rfl kl_2 (by omega) (by omega)
  refine zkV (zrV (rest := []) B (c_X12_copy l E hV H0 hT0 h0 kh0 x_1 (by omega) (by omega) x_3 (by omega) (by omega)) cl_RX12_326 hT0 kh0 rfl rfl rfl rfl hl.1 rfl (Nat.le_of_ble_eq_true rfl) dX12_newNight_13 rfl rfl ⟨rfl, rfl⟩ ⟨Nat.zero_le _, Nat.zero_le _⟩ (zO.of hG0 hh)) hG0 rfl (fun H4 lc4 hp_4 gH4 rH4 => ?_)
  have s_5 := rH4.keep hV kh0 rfl s_n0
  refine lv_aload_n hx hb dX12_newNight_16 rfl (lv_at hl 0 rfl) ?_
  refine lv_aload_n hx hb dX12_newNight_17 rfl (lv_at hl 0 rfl) ?_
  refine lv_iconst (v := 1) hx hb dX12_newNight_18 (by decide) ?_
  have := kl_1
  refine zkPI (zrV (rest := [.ref h0]) B (c_X12_boardOf l E hV H4 gH4.1 h0 kh0 1 (by omega) (by omega)) cl_RX12_314 gH4.1 kh0 rfl rfl rfl rfl hl.1 rfl (Nat.le_of_ble_eq_true rfl) dX12_newNight_19 rfl rfl ⟨rfl, rfl⟩ ⟨Nat.zero_le _, Nat.zero_le _⟩ (zO.of gH4 hh)) (fun x_6 hp_6 => ?_)
  obtain ⟨hp_6_1, hp_6_2⟩ := hp_6
  refine lv_aload_n hx hb dX12_newNight_22 rfl (lv_at hl 0 rfl) ?_
  refine lv_iconst (v := 1) hx hb dX12_newNight_23 (by decide) ?_
  have := kl_1
  refine zkPI (zrV (rest := [.int x_6, .ref h0]) B (c_X12_boardOf l E hV H4 gH4.1 h0 kh0 1 (by omega) (by omega)) cl_RX12_314 gH4.1 kh0 rfl rfl rfl rfl hl.1 rfl (Nat.le_of_ble_eq_true rfl) dX12_newNight_24 rfl rfl ⟨rfl, rfl⟩ ⟨Nat.zero_le _, Nat.zero_le _⟩ (zO.of gH4 hh)) (fun x_7 hp_7 => ?_)
  obtain ⟨hp_7_1, hp_7_2⟩ := hp_7
  refine lv_iconst (v := 2) hx hb dX12_newNight_27 (by decide) ?_
  refine lv_iadd hx hb dX12_newNight_28 ?_
  refine lv_topi (fun x_8 e_8 => ?_)
  have t_8 := z_add e_8 rfl kl_2 (by omega) (by omega)
  refine zkV (zrV (rest := []) B (c_X12_copy l E hV H4 gH4.1 h0 kh0 x_6 (by omega) (by omega) x_8 (by omega) (by omega)) cl_RX12_326 gH4.1 kh0 rfl rfl rfl rfl hl.1 rfl (Nat.le_of_ble_eq_true rfl) dX12_newNight_29 rfl rfl ⟨rfl, rfl⟩ ⟨Nat.zero_le _, Nat.zero_le _⟩ (zO.of gH4 hh)) gH4 rfl (fun H9 lc9 hp_9 gH9 rH9 => ?_)
  have s_10 := rH9.keep hV kh0 rfl s_5
  refine lv_aload_n hx hb dX12_newNight_32 rfl (lv_at hl 0 rfl) ?_
  refine g_getR B fl_RX12_74 gH9.1 kh0 rfl rfl rfl rfl rfl dX12_newNight_33 (fun q_11 s_11 k_q_11 => ?_)
  refine lv_aload_n hx hb dX12_newNight_36 rfl (lv_at hl 0 rfl) ?_
  refine g_get B fl_RX12_305 gH9.1 kh0 rfl rfl rfl dX12_newNight_37 s_10 ?_
  refine lv_iconst (v := (-1)) hx hb dX12_newNight_40 (by decide) ?_
  have := kl_m1
  refine g_iastI (i := n0) (N := 60) B hV gH9 k_q_11 rfl rfl rfl rfl (by omega) (by omega) rfl (by omega) (by omega) rfl dX12_newNight_41 (fun H12 lc12 gH12 uH12 => ?_)
  have s_13 := uH12.keep (Or.inl (k_ne kh0 k_q_11 rfl)) s_10
  refine lv_aload_n hx hb dX12_newNight_42 rfl (lv_at hl 0 rfl) ?_
  refine g_getR B fl_RX12_77 gH12.1 kh0 rfl rfl rfl rfl rfl dX12_newNight_43 (fun q_14 s_14 k_q_14 => ?_)
  refine lv_aload_n hx hb dX12_newNight_46 rfl (lv_at hl 0 rfl) ?_
  refine g_get B fl_RX12_305 gH12.1 kh0 rfl rfl rfl dX12_newNight_47 s_13 ?_
  refine lv_iconst (v := (-1)) hx hb dX12_newNight_50 (by decide) ?_
  have := kl_m1
  refine g_iastI (i := n0) (N := 60) B hV gH12 k_q_14 rfl rfl rfl rfl (by omega) (by omega) rfl (z_rng _).1 (z_rng _).2 rfl dX12_newNight_51 (fun H15 lc15 gH15 uH15 => ?_)
  have s_16 := uH15.keep (Or.inl (k_ne kh0 k_q_14 rfl)) s_13
  refine lv_aload_n hx hb dX12_newNight_52 rfl (lv_at hl 0 rfl) ?_
  refine g_getR B fl_RX12_80 gH15.1 kh0 rfl rfl rfl rfl rfl dX12_newNight_53 (fun q_17 s_17 k_q_17 => ?_)
  refine lv_aload_n hx hb dX12_newNight_56 rfl (lv_at hl 0 rfl) ?_
  refine g_get B fl_RX12_305 gH15.1 kh0 rfl rfl rfl dX12_newNight_57 s_16 ?_
  refine lv_iconst (v := 0) hx hb dX12_newNight_60 (by decide) ?_
  have := kl_0
  refine g_zastI (i := n0) (N := 60) B hV gH15 k_q_17 rfl rfl rfl rfl (by omega) (by omega) rfl (by omega) (by omega) rfl dX12_newNight_61 (fun H18 lc18 gH18 uH18 => ?_)
  have s_19 := uH18.keep (Or.inl (k_ne kh0 k_q_17 rfl)) s_16
  refine lv_aload_n hx hb dX12_newNight_62 rfl (lv_at hl 0 rfl) ?_
  refine g_getR B fl_RX12_83 gH18.1 kh0 rfl rfl rfl rfl rfl dX12_newNight_63 (fun q_20 s_20 k_q_20 => ?_)
  refine lv_aload_n hx hb dX12_newNight_66 rfl (lv_at hl 0 rfl) ?_
  refine g_get B fl_RX12_305 gH18.1 kh0 rfl rfl rfl dX12_newNight_67 s_19 ?_
  refine lv_iconst (v := 0) hx hb dX12_newNight_70 (by decide) ?_
  have := kl_0
  refine g_zastI (i := n0) (N := 60) B hV gH18 k_q_20 rfl rfl rfl rfl (by omega) (by omega) rfl (by omega) (by omega) rfl dX12_newNight_71 (fun H21 lc21 gH21 uH21 => ?_)
  have s_22 := uH21.keep (Or.inl (k_ne kh0 k_q_20 rfl)) s_19
  refine lv_aload_n hx hb dX12_newNight_72 rfl (lv_at hl 0 rfl) ?_
  refine lv_dup hx hb dX12_newNight_73 rfl ?_
  refine g_get B fl_RX12_305 gH21.1 kh0 rfl rfl rfl dX12_newNight_74 s_22 ?_
  refine lv_iconst (v := 1) hx hb dX12_newNight_77 (by decide) ?_
  refine lv_iadd hx hb dX12_newNight_78 ?_
  refine lv_topi (fun x_23 e_23 => ?_)
  have t_23 := z_add e_23 rfl kl_1 (by omega) (by omega)
  refine g_putI B fp_RX12_305 hV gH21 kh0 rfl rfl rfl rfl rfl (by omega) (by omega) rfl dX12_newNight_79 (fun H24 lc24 gH24 uH24 => ?_)
  refine lv_aload_n hx hb dX12_newNight_82 rfl (lv_at hl 0 rfl) ?_
  refine lv_iconst (v := 0) hx hb dX12_newNight_83 (by decide) ?_
  have := kl_0
  refine g_putI B fp_RX12_335 hV gH24 kh0 rfl rfl rfl rfl rfl (by omega) (by omega) rfl dX12_newNight_84 (fun H25 lc25 gH25 uH25 => ?_)
  have s_26 := uH25.keep (Or.inr (j_ne hV rfl rfl rfl rfl)) uH24.2.1
  have := kl_0
  exact rtV B hr hlk hh hQ gH25 ⟨⟨x_23, s_26, by omega, by omega, by omega⟩, ⟨0, uH25.2.1, by omega, by omega⟩⟩ dX12_newNight_87

theorem dX12_night_0 : decode cX12_night 0 = .ok (.iload_n 1, 1) := by decide +kernel
theorem dX12_night_1 : decode cX12_night 1 = .ok (.invokestatic 308, 3) := by decide +kernel
theorem dX12_night_4 : decode cX12_night 4 = .ok (.ifCond .eq 38, 3) := by decide +kernel
theorem dX12_night_7 : decode cX12_night 7 = .ok (.aload_n 0, 1) := by decide +kernel
theorem dX12_night_8 : decode cX12_night 8 = .ok (.getfield 305, 3) := by decide +kernel
theorem dX12_night_11 : decode cX12_night 11 = .ok (.bipush 60, 2) := by decide +kernel
theorem dX12_night_13 : decode cX12_night 13 = .ok (.if_icmp .eq 29, 3) := by decide +kernel
theorem dX12_night_16 : decode cX12_night 16 = .ok (.aload_n 0, 1) := by decide +kernel
theorem dX12_night_17 : decode cX12_night 17 = .ok (.aload_n 0, 1) := by decide +kernel
theorem dX12_night_18 : decode cX12_night 18 = .ok (.iload_n 1, 1) := by decide +kernel
theorem dX12_night_19 : decode cX12_night 19 = .ok (.invokevirtual 314, 3) := by decide +kernel
theorem dX12_night_22 : decode cX12_night 22 = .ok (.invokevirtual 281, 3) := by decide +kernel
theorem dX12_night_25 : decode cX12_night 25 = .ok (.iload_n 1, 1) := by decide +kernel
theorem dX12_night_26 : decode cX12_night 26 = .ok (.if_icmp .ne 16, 3) := by decide +kernel
theorem dX12_night_29 : decode cX12_night 29 = .ok (.aload_n 0, 1) := by decide +kernel
theorem dX12_night_30 : decode cX12_night 30 = .ok (.aload_n 0, 1) := by decide +kernel
theorem dX12_night_31 : decode cX12_night 31 = .ok (.iload_n 1, 1) := by decide +kernel
theorem dX12_night_32 : decode cX12_night 32 = .ok (.invokevirtual 314, 3) := by decide +kernel
theorem dX12_night_35 : decode cX12_night 35 = .ok (.iload_n 2, 1) := by decide +kernel
theorem dX12_night_36 : decode cX12_night 36 = .ok (.invokevirtual 317, 3) := by decide +kernel
theorem dX12_night_39 : decode cX12_night 39 = .ok (.ifCond .ne 5, 3) := by decide +kernel
theorem dX12_night_42 : decode cX12_night 42 = .ok (.iconst (-1), 1) := by decide +kernel
theorem dX12_night_43 : decode cX12_night 43 = .ok (.ireturn, 1) := by decide +kernel
theorem dX12_night_44 : decode cX12_night 44 = .ok (.aload_n 0, 1) := by decide +kernel
theorem dX12_night_45 : decode cX12_night 45 = .ok (.invokevirtual 338, 3) := by decide +kernel
theorem dX12_night_48 : decode cX12_night 48 = .ok (.aload_n 0, 1) := by decide +kernel
theorem dX12_night_49 : decode cX12_night 49 = .ok (.getfield 305, 3) := by decide +kernel
theorem dX12_night_52 : decode cX12_night 52 = .ok (.iconst 1, 1) := by decide +kernel
theorem dX12_night_53 : decode cX12_night 53 = .ok (.isub, 1) := by decide +kernel
theorem dX12_night_54 : decode cX12_night 54 = .ok (.istore 4, 2) := by decide +kernel
theorem dX12_night_56 : decode cX12_night 56 = .ok (.aload_n 0, 1) := by decide +kernel
theorem dX12_night_57 : decode cX12_night 57 = .ok (.getfield 74, 3) := by decide +kernel
theorem dX12_night_60 : decode cX12_night 60 = .ok (.iload 4, 2) := by decide +kernel
theorem dX12_night_62 : decode cX12_night 62 = .ok (.iload_n 1, 1) := by decide +kernel
theorem dX12_night_63 : decode cX12_night 63 = .ok (.iastore, 1) := by decide +kernel
theorem dX12_night_64 : decode cX12_night 64 = .ok (.aload_n 0, 1) := by decide +kernel
theorem dX12_night_65 : decode cX12_night 65 = .ok (.getfield 77, 3) := by decide +kernel
theorem dX12_night_68 : decode cX12_night 68 = .ok (.iload 4, 2) := by decide +kernel
theorem dX12_night_70 : decode cX12_night 70 = .ok (.iload_n 2, 1) := by decide +kernel
theorem dX12_night_71 : decode cX12_night 71 = .ok (.iastore, 1) := by decide +kernel
theorem dX12_night_72 : decode cX12_night 72 = .ok (.aload_n 0, 1) := by decide +kernel
theorem dX12_night_73 : decode cX12_night 73 = .ok (.getfield 80, 3) := by decide +kernel
theorem dX12_night_76 : decode cX12_night 76 = .ok (.iload 4, 2) := by decide +kernel
theorem dX12_night_78 : decode cX12_night 78 = .ok (.iload_n 3, 1) := by decide +kernel
theorem dX12_night_79 : decode cX12_night 79 = .ok (.bastore, 1) := by decide +kernel
theorem dX12_night_80 : decode cX12_night 80 = .ok (.aload_n 0, 1) := by decide +kernel
theorem dX12_night_81 : decode cX12_night 81 = .ok (.aload_n 0, 1) := by decide +kernel
theorem dX12_night_82 : decode cX12_night 82 = .ok (.iload_n 1, 1) := by decide +kernel
theorem dX12_night_83 : decode cX12_night 83 = .ok (.invokevirtual 314, 3) := by decide +kernel
theorem dX12_night_86 : decode cX12_night 86 = .ok (.iload_n 2, 1) := by decide +kernel
theorem dX12_night_87 : decode cX12_night 87 = .ok (.invokevirtual 317, 3) := by decide +kernel
theorem dX12_night_90 : decode cX12_night 90 = .ok (.pop, 1) := by decide +kernel
theorem dX12_night_91 : decode cX12_night 91 = .ok (.aload_n 0, 1) := by decide +kernel
theorem dX12_night_92 : decode cX12_night 92 = .ok (.aload_n 0, 1) := by decide +kernel
theorem dX12_night_93 : decode cX12_night 93 = .ok (.iload_n 1, 1) := by decide +kernel
theorem dX12_night_94 : decode cX12_night 94 = .ok (.invokevirtual 314, 3) := by decide +kernel
theorem dX12_night_97 : decode cX12_night 97 = .ok (.invokevirtual 332, 3) := by decide +kernel
theorem dX12_night_100 : decode cX12_night 100 = .ok (.iload_n 3, 1) := by decide +kernel
theorem dX12_night_101 : decode cX12_night 101 = .ok (.ifCond .ne 6, 3) := by decide +kernel
theorem dX12_night_104 : decode cX12_night 104 = .ok (.iload 4, 2) := by decide +kernel
theorem dX12_night_106 : decode cX12_night 106 = .ok (.ireturn, 1) := by decide +kernel
theorem dX12_night_107 : decode cX12_night 107 = .ok (.aload_n 0, 1) := by decide +kernel
theorem dX12_night_108 : decode cX12_night 108 = .ok (.iconst 1, 1) := by decide +kernel
theorem dX12_night_109 : decode cX12_night 109 = .ok (.iload_n 1, 1) := by decide +kernel
theorem dX12_night_110 : decode cX12_night 110 = .ok (.isub, 1) := by decide +kernel
theorem dX12_night_111 : decode cX12_night 111 = .ok (.invokevirtual 314, 3) := by decide +kernel
theorem dX12_night_114 : decode cX12_night 114 = .ok (.istore 5, 2) := by decide +kernel
theorem dX12_night_116 : decode cX12_night 116 = .ok (.aload_n 0, 1) := by decide +kernel
theorem dX12_night_117 : decode cX12_night 117 = .ok (.getfield 83, 3) := by decide +kernel
theorem dX12_night_120 : decode cX12_night 120 = .ok (.iload 4, 2) := by decide +kernel
theorem dX12_night_122 : decode cX12_night 122 = .ok (.aload_n 0, 1) := by decide +kernel
theorem dX12_night_123 : decode cX12_night 123 = .ok (.iload 5, 2) := by decide +kernel
theorem dX12_night_125 : decode cX12_night 125 = .ok (.invokevirtual 281, 3) := by decide +kernel
theorem dX12_night_128 : decode cX12_night 128 = .ok (.iload_n 1, 1) := by decide +kernel
theorem dX12_night_129 : decode cX12_night 129 = .ok (.if_icmp .ne 13, 3) := by decide +kernel
theorem dX12_night_132 : decode cX12_night 132 = .ok (.aload_n 0, 1) := by decide +kernel
theorem dX12_night_133 : decode cX12_night 133 = .ok (.iload 5, 2) := by decide +kernel
theorem dX12_night_135 : decode cX12_night 135 = .ok (.iload_n 2, 1) := by decide +kernel
theorem dX12_night_136 : decode cX12_night 136 = .ok (.invokevirtual 317, 3) := by decide +kernel
theorem dX12_night_139 : decode cX12_night 139 = .ok (.ifCond .ne 7, 3) := by decide +kernel
theorem dX12_night_142 : decode cX12_night 142 = .ok (.iconst 1, 1) := by decide +kernel
theorem dX12_night_143 : decode cX12_night 143 = .ok (.goto 4, 3) := by decide +kernel
theorem dX12_night_146 : decode cX12_night 146 = .ok (.iconst 0, 1) := by decide +kernel
theorem dX12_night_147 : decode cX12_night 147 = .ok (.bastore, 1) := by decide +kernel
theorem dX12_night_148 : decode cX12_night 148 = .ok (.aload_n 0, 1) := by decide +kernel
theorem dX12_night_149 : decode cX12_night 149 = .ok (.getfield 83, 3) := by decide +kernel
theorem dX12_night_152 : decode cX12_night 152 = .ok (.iload 4, 2) := by decide +kernel
theorem dX12_night_154 : decode cX12_night 154 = .ok (.baload, 1) := by decide +kernel
theorem dX12_night_155 : decode cX12_night 155 = .ok (.ifCond .ne 9, 3) := by decide +kernel
theorem dX12_night_158 : decode cX12_night 158 = .ok (.aload_n 0, 1) := by decide +kernel
theorem dX12_night_159 : decode cX12_night 159 = .ok (.iload 5, 2) := by decide +kernel
theorem dX12_night_161 : decode cX12_night 161 = .ok (.invokevirtual 332, 3) := by decide +kernel
theorem dX12_night_164 : decode cX12_night 164 = .ok (.iload 4, 2) := by decide +kernel
theorem dX12_night_166 : decode cX12_night 166 = .ok (.ireturn, 1) := by decide +kernel
def rm_X12_night : Room := { frames := 5, cells := 0, slots := 0, locals := 128 }
abbrev wS_X12_night : List (Nat × Nat) := [(13, 28), (13, 29), (13, 37), (13, 38), (60, 99), (77, 99), (78, 99), (79, 99), (80, 99)]
set_option maxRecDepth 100000 in
set_option maxHeartbeats 4000000 in
theorem c_X12_night (l : Launch) (E : zE) (hV : zV E) (H0 : Heap) (hT0 : HT E H0) (h0 : Nat) (kh0 : eK E h0 = 13) (p0 : Int32) (p1 : Int32) (p2 : Int32) (p2_lo : 0 ≤ p2.toInt) (p2_hi : p2.toInt ≤ 1) (n0 : Int32) (s_n0 : sl H0 h0 (zix E 13 37) = some (.int n0)) (u0 : Int32) (s_u0 : sl H0 h0 (zix E 13 38) = some (.int u0)) (pr_0 : n0.toInt + u0.toInt ≤ 60) : Met l yX12_night (zws yX12_night cX12_night 6 (some .int)) rm_X12_night (zP E H0 [.ref h0, .int p0, .int p1, .int p2]) (zQI E E wS_X12_night (fun r H1 => (-1) ≤ r.toInt ∧ r.toInt ≤ 59 ∧ ∃ n1 : Int32, sl H1 h0 (zix E 13 37) = some (.int n1) ∧ 0 ≤ n1.toInt ∧ n1.toInt ≤ 60 ∧ ∃ u1 : Int32, sl H1 h0 (zix E 13 38) = some (.int u1) ∧ 0 ≤ u1.toInt ∧ u1.toInt ≤ 60 ∧ (n1.toInt + u1.toInt ≤ 60))) 0 0 (zfr E) := by
  refine zEnt (by decide) (Nat.le_of_ble_eq_true rfl) (fun p e s m args below meth c ls Q B hr hlk hh hQ hl => ?_)
  have hx := B.1
  have hb := B.2.1
  have hG0 : zG E wS_X12_night H0 H0 [] := zG.rf hT0
  have hl : lv_has ls 6 [(0, .ref h0), (1, .int p0), (2, .int p1), (3, .int p2)] := hl
  have bd_n0 := HT.bdI hT0 kh0 rfl (j := 37) (by decide) rfl s_n0
  have bd_u0 := HT.bdI hT0 kh0 rfl (j := 38) (by decide) rfl s_u0
  have b147 : ∀ (H147 : Heap) (lc147 : List Loc) (ls : Array Slot) (v147_4 : Int32) (v147_5 : Int32) (w147_0 : Int32) (w147_1 : Int32) (w147_2 : Nat) (u147_h0_37 : Int32) (u147_h0_38 : Int32) (u147_h0_36 : Nat), zG E wS_X12_night H0 H147 lc147 → lv_has ls 6 [(0, .ref h0), (4, .int v147_4), (5, .int v147_5)] → eK E w147_2 = 80 → eK E u147_h0_36 = 80 → 0 ≤ v147_4.toInt → v147_4.toInt ≤ 59 → 0 ≤ v147_5.toInt → v147_5.toInt ≤ 121 → 0 ≤ w147_0.toInt → w147_0.toInt ≤ 1 → 0 ≤ w147_1.toInt → w147_1.toInt ≤ 59 → 1 ≤ u147_h0_37.toInt → u147_h0_37.toInt ≤ 60 → 0 ≤ u147_h0_38.toInt → u147_h0_38.toInt ≤ 0 → sl H147 h0 (zix E 13 37) = some (.int u147_h0_37) → sl H147 h0 (zix E 13 38) = some (.int u147_h0_38) → sl H147 h0 (zix E 13 36) = some (.ref u147_h0_36) → W p l e rm_X12_night s m args below meth c H147 lc147 0 0 Q (F0 m 147 ls [.int w147_0, .int w147_1, .ref w147_2]) := by
    intro H147 lc147 ls v147_4 v147_5 w147_0 w147_1 w147_2 u147_h0_37 u147_h0_38 u147_h0_36 gH147 hl k_w147_2 k_u147_h0_36 f147_1 f147_2 f147_3 f147_4 f147_5 f147_6 f147_7 f147_8 f147_9 f147_10 f147_11 f147_12 s147_u147_h0_37 s147_u147_h0_38 s147_u147_h0_36
    refine g_zastI (i := w147_1) (N := 60) B hV gH147 k_w147_2 rfl rfl rfl rfl (by omega) (by omega) rfl (by omega) (by omega) rfl dX12_night_147 (fun H1 lc1 gH1 uH1 => ?_)
    have s_2 := uH1.keep (Or.inl (k_ne kh0 k_w147_2 rfl)) s147_u147_h0_37
    have s_3 := uH1.keep (Or.inl (k_ne kh0 k_w147_2 rfl)) s147_u147_h0_38
    have s_4 := uH1.keep (Or.inl (k_ne kh0 k_w147_2 rfl)) s147_u147_h0_36
    refine lv_aload_n hx hb dX12_night_148 rfl (lv_at hl 0 rfl) ?_
    refine g_get B fl_RX12_83 gH1.1 kh0 rfl rfl rfl dX12_night_149 s_4 ?_
    refine lv_iload hx hb dX12_night_152 (lv_at hl 1 rfl) ?_
    refine g_zaldI (i := v147_4) (N := 60) B gH1.1 k_u147_h0_36 rfl rfl rfl rfl (by omega) (by omega) rfl dX12_night_154 (fun x_5 s_5 a_5 b_5 => ?_)
    refine lv_if_ne (tgt := 164) hx hb dX12_night_155 (by decide) (fun c_6 => ?_) (fun c_6 => ?_)
    · have f_6 := z_ne c_6 rfl kl_0
      refine lv_iload hx hb dX12_night_164 (lv_at hl 1 rfl) ?_
      exact rtI (v := v147_4) B hr hlk hh hQ gH1 rfl ⟨by omega, by omega, u147_h0_37, s_2, by omega, by omega, u147_h0_38, s_3, by omega, by omega, by omega⟩ dX12_night_166
    · have f_6 := z_eq c_6 rfl kl_0
      refine lv_aload_n hx hb dX12_night_158 rfl (lv_at hl 0 rfl) ?_
      refine lv_iload hx hb dX12_night_159 (lv_at hl 2 rfl) ?_
      refine zkV (zrV (rest := []) B (c_X12_makes l E hV H1 gH1.1 h0 kh0 v147_5 (by omega) (by omega)) cl_RX12_332 gH1.1 kh0 rfl rfl rfl rfl hl.1 rfl (Nat.le_of_ble_eq_true rfl) dX12_night_161 rfl rfl ⟨rfl, rfl⟩ ⟨Nat.zero_le _, Nat.zero_le _⟩ (zO.of gH1 hh)) gH1 rfl (fun H7 lc7 hp_7 gH7 rH7 => ?_)
      have s_8 := rH7.keep hV kh0 rfl s_2
      have s_9 := rH7.keep hV kh0 rfl s_3
      refine lv_iload hx hb dX12_night_164 (lv_at hl 1 rfl) ?_
      exact rtI (v := v147_4) B hr hlk hh hQ gH7 rfl ⟨by omega, by omega, u147_h0_37, s_8, by omega, by omega, u147_h0_38, s_9, by omega, by omega, by omega⟩ dX12_night_166
  have b142 : ∀ (H142 : Heap) (lc142 : List Loc) (ls : Array Slot) (v142_4 : Int32) (v142_5 : Int32) (w142_0 : Int32) (w142_1 : Nat) (u142_h0_37 : Int32) (u142_h0_38 : Int32) (u142_h0_36 : Nat), zG E wS_X12_night H0 H142 lc142 → lv_has ls 6 [(0, .ref h0), (4, .int v142_4), (5, .int v142_5)] → eK E w142_1 = 80 → eK E u142_h0_36 = 80 → 0 ≤ v142_4.toInt → v142_4.toInt ≤ 59 → 0 ≤ v142_5.toInt → v142_5.toInt ≤ 121 → 0 ≤ w142_0.toInt → w142_0.toInt ≤ 59 → 1 ≤ u142_h0_37.toInt → u142_h0_37.toInt ≤ 60 → 0 ≤ u142_h0_38.toInt → u142_h0_38.toInt ≤ 0 → sl H142 h0 (zix E 13 37) = some (.int u142_h0_37) → sl H142 h0 (zix E 13 38) = some (.int u142_h0_38) → sl H142 h0 (zix E 13 36) = some (.ref u142_h0_36) → W p l e rm_X12_night s m args below meth c H142 lc142 0 0 Q (F0 m 142 ls [.int w142_0, .ref w142_1]) := by
    intro H142 lc142 ls v142_4 v142_5 w142_0 w142_1 u142_h0_37 u142_h0_38 u142_h0_36 gH142 hl k_w142_1 k_u142_h0_36 f142_1 f142_2 f142_3 f142_4 f142_5 f142_6 f142_7 f142_8 f142_9 f142_10 s142_u142_h0_37 s142_u142_h0_38 s142_u142_h0_36
    refine lv_iconst (v := 1) hx hb dX12_night_142 (by decide) ?_
    refine lv_goto (tgt := 147) hx hb dX12_night_143 (by decide) ?_
    have := kl_1
    exact b147 H142 lc142 ls v142_4 v142_5 1 w142_0 w142_1 u142_h0_37 u142_h0_38 u142_h0_36 gH142 (lv_sub hl [0, 1, 2] rfl) k_w142_1 k_u142_h0_36 (by omega) (by omega) (by omega) (by omega) (by omega) (by omega) (by omega) (by omega) (by omega) (by omega) (by omega) (by omega) s142_u142_h0_37 s142_u142_h0_38 s142_u142_h0_36
  refine lv_iload_n hx hb dX12_night_0 rfl (lv_at hl 1 rfl) ?_
  refine zkPI (zrS (rest := []) B (c_X12_isKeeper l E hV H0 hT0 p0) cs_RX12_308 rfl hl.1 rfl (Nat.le_of_ble_eq_true rfl) dX12_night_1 rfl rfl ⟨rfl, rfl⟩ ⟨Nat.zero_le _, Nat.zero_le _⟩ (zO.of hG0 hh)) (fun x_10 hp_10 => ?_)
  obtain ⟨hp_10_1, hp_10_2, hp_10_3⟩ := hp_10
  refine lv_if_eq (tgt := 42) hx hb dX12_night_4 (by decide) (fun c_11 => ?_) (fun c_11 => ?_)
  · have f_11 := z_eq c_11 rfl kl_0
    refine lv_iconst (v := (-1)) hx hb dX12_night_42 (by decide) ?_
    have := kl_m1
    have := kl_m1
    exact rtI (v := (-1)) B hr hlk hh hQ hG0 rfl ⟨by omega, by omega, n0, s_n0, by omega, by omega, u0, s_u0, by omega, by omega, by omega⟩ dX12_night_43
  · have f_11 := z_ne c_11 rfl kl_0
    refine lv_aload_n hx hb dX12_night_7 rfl (lv_at hl 0 rfl) ?_
    refine g_get B fl_RX12_305 hT0 kh0 rfl rfl rfl dX12_night_8 s_n0 ?_
    refine lv_bipush (v := 60) hx hb dX12_night_11 (by decide) ?_
    refine lv_icmp_eq (tgt := 42) hx hb dX12_night_13 (by decide) (fun c_12 => ?_) (fun c_12 => ?_)
    · have f_12 := z_eq c_12 rfl kl_60
      refine lv_iconst (v := (-1)) hx hb dX12_night_42 (by decide) ?_
      have := kl_m1
      have := kl_m1
      exact rtI (v := (-1)) B hr hlk hh hQ hG0 rfl ⟨by omega, by omega, n0, s_n0, by omega, by omega, u0, s_u0, by omega, by omega, by omega⟩ dX12_night_43
    · have f_12 := z_ne c_12 rfl kl_60
      refine lv_aload_n hx hb dX12_night_16 rfl (lv_at hl 0 rfl) ?_
      refine lv_aload_n hx hb dX12_night_17 rfl (lv_at hl 0 rfl) ?_
      refine lv_iload_n hx hb dX12_night_18 rfl (lv_at hl 1 rfl) ?_
      refine zkPI (zrV (rest := [.ref h0]) B (c_X12_boardOf l E hV H0 hT0 h0 kh0 p0 (by omega) (by omega)) cl_RX12_314 hT0 kh0 rfl rfl rfl rfl hl.1 rfl (Nat.le_of_ble_eq_true rfl) dX12_night_19 rfl rfl ⟨rfl, rfl⟩ ⟨Nat.zero_le _, Nat.zero_le _⟩ (zO.of hG0 hh)) (fun x_13 hp_13 => ?_)
      obtain ⟨hp_13_1, hp_13_2⟩ := hp_13
      refine zkPI (zrV (rest := []) B (c_X12_turnOf l E hV H0 hT0 h0 kh0 x_13 (by omega) (by omega)) cl_RX12_281 hT0 kh0 rfl rfl rfl rfl hl.1 rfl (Nat.le_of_ble_eq_true rfl) dX12_night_22 rfl rfl ⟨rfl, rfl⟩ ⟨Nat.zero_le _, Nat.zero_le _⟩ (zO.of hG0 hh)) (fun x_14 hp_14 => ?_)
      refine lv_iload_n hx hb dX12_night_25 rfl (lv_at hl 1 rfl) ?_
      refine lv_icmp_ne (tgt := 42) hx hb dX12_night_26 (by decide) (fun c_15 => ?_) (fun c_15 => ?_)
      · have f_15 := z_ne c_15 rfl rfl
        refine lv_iconst (v := (-1)) hx hb dX12_night_42 (by decide) ?_
        have := kl_m1
        have := kl_m1
        exact rtI (v := (-1)) B hr hlk hh hQ hG0 rfl ⟨by omega, by omega, n0, s_n0, by omega, by omega, u0, s_u0, by omega, by omega, by omega⟩ dX12_night_43
      · have f_15 := z_eq c_15 rfl rfl
        refine lv_aload_n hx hb dX12_night_29 rfl (lv_at hl 0 rfl) ?_
        refine lv_aload_n hx hb dX12_night_30 rfl (lv_at hl 0 rfl) ?_
        refine lv_iload_n hx hb dX12_night_31 rfl (lv_at hl 1 rfl) ?_
        refine zkPI (zrV (rest := [.ref h0]) B (c_X12_boardOf l E hV H0 hT0 h0 kh0 p0 (by omega) (by omega)) cl_RX12_314 hT0 kh0 rfl rfl rfl rfl hl.1 rfl (Nat.le_of_ble_eq_true rfl) dX12_night_32 rfl rfl ⟨rfl, rfl⟩ ⟨Nat.zero_le _, Nat.zero_le _⟩ (zO.of hG0 hh)) (fun x_16 hp_16 => ?_)
        obtain ⟨hp_16_1, hp_16_2⟩ := hp_16
        refine lv_iload_n hx hb dX12_night_35 rfl (lv_at hl 2 rfl) ?_
        obtain ⟨q_17, s_17, k_q_17⟩ := HT.atR hT0 kh0 rfl (j := 12) (by decide) rfl
        obtain ⟨x_18, s_18, a_18, b_18⟩ := HT.atI hT0 kh0 rfl (j := 26) (by decide) rfl
        obtain ⟨x_19, s_19, a_19, b_19⟩ := HT.elI (i := x_18) (N := 2) hT0 k_q_17 rfl rfl rfl (by omega) (by omega) rfl
        refine zkI (zrV (rest := []) B (c_X12_findMove l E hV H0 hT0 h0 kh0 x_16 (by omega) (by omega) p1 q_17 k_q_17 s_17 x_18 s_18 x_19 s_19) cl_RX12_317 hT0 kh0 rfl rfl rfl rfl hl.1 rfl (Nat.le_of_ble_eq_true rfl) dX12_night_36 rfl rfl ⟨rfl, rfl⟩ ⟨Nat.zero_le _, Nat.zero_le _⟩ (zO.of hG0 hh)) hG0 rfl (fun x_20 H20 lc20 hp_20 gH20 rH20 => ?_)
        have s_21 := rH20.keep hV kh0 rfl s_n0
        have s_22 := rH20.keep hV kh0 rfl s_u0
        have s_23 := rH20.keepA k_q_17 rfl s_19
        obtain ⟨hp_20_1, hp_20_2, hp_20_3⟩ := hp_20
        refine lv_if_ne (tgt := 44) hx hb dX12_night_39 (by decide) (fun c_24 => ?_) (fun c_24 => ?_)
        · have f_24 := z_ne c_24 rfl kl_0
          refine lv_aload_n hx hb dX12_night_44 rfl (lv_at hl 0 rfl) ?_
          refine zkV (zrV (rest := []) B (c_X12_newNight l E hV H20 gH20.1 h0 kh0 n0 s_21 (by omega) (by omega)) cl_RX12_338 gH20.1 kh0 rfl rfl rfl rfl hl.1 rfl (Nat.le_of_ble_eq_true rfl) dX12_night_45 rfl rfl ⟨rfl, rfl⟩ ⟨Nat.zero_le _, Nat.zero_le _⟩ (zO.of gH20 hh)) gH20 rfl (fun H25 lc25 hp_25 gH25 rH25 => ?_)
          have s_26 := rH25.keepA k_q_17 rfl s_23
          obtain ⟨⟨k_27, sk_27, ak_27, bk_27, fk_27_0⟩, ⟨k_28, sk_28, ak_28, bk_28⟩⟩ := hp_25
          refine lv_aload_n hx hb dX12_night_48 rfl (lv_at hl 0 rfl) ?_
          refine g_get B fl_RX12_305 gH25.1 kh0 rfl rfl rfl dX12_night_49 sk_27 ?_
          refine lv_iconst (v := 1) hx hb dX12_night_52 (by decide) ?_
          refine lv_isub hx hb dX12_night_53 ?_
          refine lv_topi (fun x_29 e_29 => ?_)
          have t_29 := z_sub e_29 rfl kl_1 (by omega) (by omega)
          refine lv_istore (lv' := [(4, .int x_29), (0, .ref h0), (1, .int p0), (2, .int p1), (3, .int p2)]) hx hb dX12_night_54 hl (by decide) rfl (fun ls hl => ?_)
          refine lv_aload_n hx hb dX12_night_56 rfl (lv_at hl 1 rfl) ?_
          refine g_getR B fl_RX12_74 gH25.1 kh0 rfl rfl rfl rfl rfl dX12_night_57 (fun q_30 s_30 k_q_30 => ?_)
          refine lv_iload hx hb dX12_night_60 (lv_at hl 0 rfl) ?_
          refine lv_iload_n hx hb dX12_night_62 rfl (lv_at hl 2 rfl) ?_
          refine g_iastI (i := x_29) (N := 60) B hV gH25 k_q_30 rfl rfl rfl rfl (by omega) (by omega) rfl (by omega) (by omega) rfl dX12_night_63 (fun H31 lc31 gH31 uH31 => ?_)
          have s_32 := uH31.keep (Or.inl (k_ne k_q_17 k_q_30 rfl)) s_26
          have s_33 := uH31.keep (Or.inl (k_ne kh0 k_q_30 rfl)) sk_27
          have s_34 := uH31.keep (Or.inl (k_ne kh0 k_q_30 rfl)) sk_28
          refine lv_aload_n hx hb dX12_night_64 rfl (lv_at hl 1 rfl) ?_
          refine g_getR B fl_RX12_77 gH31.1 kh0 rfl rfl rfl rfl rfl dX12_night_65 (fun q_35 s_35 k_q_35 => ?_)
          refine lv_iload hx hb dX12_night_68 (lv_at hl 0 rfl) ?_
          refine lv_iload_n hx hb dX12_night_70 rfl (lv_at hl 3 rfl) ?_
          refine g_iastI (i := x_29) (N := 60) B hV gH31 k_q_35 rfl rfl rfl rfl (by omega) (by omega) rfl (z_rng _).1 (z_rng _).2 rfl dX12_night_71 (fun H36 lc36 gH36 uH36 => ?_)
          have s_37 := uH36.keep (Or.inl (k_ne k_q_17 k_q_35 rfl)) s_32
          have s_38 := uH36.keep (Or.inl (k_ne kh0 k_q_35 rfl)) s_33
          have s_39 := uH36.keep (Or.inl (k_ne kh0 k_q_35 rfl)) s_34
          have s_40 := uH36.keep (Or.inl (k_ne k_q_30 k_q_35 rfl)) uH31.2.1
          refine lv_aload_n hx hb dX12_night_72 rfl (lv_at hl 1 rfl) ?_
          refine g_getR B fl_RX12_80 gH36.1 kh0 rfl rfl rfl rfl rfl dX12_night_73 (fun q_41 s_41 k_q_41 => ?_)
          refine lv_iload hx hb dX12_night_76 (lv_at hl 0 rfl) ?_
          refine lv_iload_n hx hb dX12_night_78 rfl (lv_at hl 4 rfl) ?_
          refine g_zastI (i := x_29) (N := 60) B hV gH36 k_q_41 rfl rfl rfl rfl (by omega) (by omega) rfl (by omega) (by omega) rfl dX12_night_79 (fun H42 lc42 gH42 uH42 => ?_)
          have s_43 := uH42.keep (Or.inl (k_ne k_q_17 k_q_41 rfl)) s_37
          have s_44 := uH42.keep (Or.inl (k_ne kh0 k_q_41 rfl)) s_38
          have s_45 := uH42.keep (Or.inl (k_ne kh0 k_q_41 rfl)) s_39
          have s_46 := uH42.keep (Or.inl (k_ne k_q_30 k_q_41 rfl)) s_40
          have s_47 := uH42.keep (Or.inl (k_ne k_q_35 k_q_41 rfl)) uH36.2.1
          refine lv_aload_n hx hb dX12_night_80 rfl (lv_at hl 1 rfl) ?_
          refine lv_aload_n hx hb dX12_night_81 rfl (lv_at hl 1 rfl) ?_
          refine lv_iload_n hx hb dX12_night_82 rfl (lv_at hl 2 rfl) ?_
          refine zkPI (zrV (rest := [.ref h0]) B (c_X12_boardOf l E hV H42 gH42.1 h0 kh0 p0 (by omega) (by omega)) cl_RX12_314 gH42.1 kh0 rfl rfl rfl rfl hl.1 rfl (Nat.le_of_ble_eq_true rfl) dX12_night_83 rfl rfl ⟨rfl, rfl⟩ ⟨Nat.zero_le _, Nat.zero_le _⟩ (zO.of gH42 hh)) (fun x_48 hp_48 => ?_)
          obtain ⟨hp_48_1, hp_48_2⟩ := hp_48
          refine lv_iload_n hx hb dX12_night_86 rfl (lv_at hl 3 rfl) ?_
          obtain ⟨q_49, s_49, k_q_49⟩ := HT.atR gH42.1 kh0 rfl (j := 12) (by decide) rfl
          obtain ⟨x_50, s_50, a_50, b_50⟩ := HT.atI gH42.1 kh0 rfl (j := 26) (by decide) rfl
          obtain ⟨x_51, s_51, a_51, b_51⟩ := HT.elI (i := x_50) (N := 2) gH42.1 k_q_49 rfl rfl rfl (by omega) (by omega) rfl
          refine zkI (zrV (rest := []) B (c_X12_findMove l E hV H42 gH42.1 h0 kh0 x_48 (by omega) (by omega) p1 q_49 k_q_49 s_49 x_50 s_50 x_51 s_51) cl_RX12_317 gH42.1 kh0 rfl rfl rfl rfl hl.1 rfl (Nat.le_of_ble_eq_true rfl) dX12_night_87 rfl rfl ⟨rfl, rfl⟩ ⟨Nat.zero_le _, Nat.zero_le _⟩ (zO.of gH42 hh)) gH42 rfl (fun x_52 H52 lc52 hp_52 gH52 rH52 => ?_)
          have s_53 := rH52.keepA k_q_17 rfl s_43
          have s_54 := rH52.keep hV kh0 rfl s_44
          have s_55 := rH52.keep hV kh0 rfl s_45
          have s_56 := rH52.keepA k_q_30 rfl s_46
          have s_57 := rH52.keepA k_q_35 rfl s_47
          have s_58 := rH52.keepA k_q_41 rfl uH42.2.1
          have s_59 := rH52.keepA k_q_49 rfl s_51
          obtain ⟨hp_52_1, hp_52_2, hp_52_3⟩ := hp_52
          refine lv_pop hx hb dX12_night_90 rfl ?_
          refine lv_aload_n hx hb dX12_night_91 rfl (lv_at hl 1 rfl) ?_
          refine lv_aload_n hx hb dX12_night_92 rfl (lv_at hl 1 rfl) ?_
          refine lv_iload_n hx hb dX12_night_93 rfl (lv_at hl 2 rfl) ?_
          refine zkPI (zrV (rest := [.ref h0]) B (c_X12_boardOf l E hV H52 gH52.1 h0 kh0 p0 (by omega) (by omega)) cl_RX12_314 gH52.1 kh0 rfl rfl rfl rfl hl.1 rfl (Nat.le_of_ble_eq_true rfl) dX12_night_94 rfl rfl ⟨rfl, rfl⟩ ⟨Nat.zero_le _, Nat.zero_le _⟩ (zO.of gH52 hh)) (fun x_60 hp_60 => ?_)
          obtain ⟨hp_60_1, hp_60_2⟩ := hp_60
          refine zkV (zrV (rest := []) B (c_X12_makes l E hV H52 gH52.1 h0 kh0 x_60 (by omega) (by omega)) cl_RX12_332 gH52.1 kh0 rfl rfl rfl rfl hl.1 rfl (Nat.le_of_ble_eq_true rfl) dX12_night_97 rfl rfl ⟨rfl, rfl⟩ ⟨Nat.zero_le _, Nat.zero_le _⟩ (zO.of gH52 hh)) gH52 rfl (fun H61 lc61 hp_61 gH61 rH61 => ?_)
          have s_62 := rH61.keepA k_q_17 rfl s_53
          have s_63 := rH61.keep hV kh0 rfl s_54
          have s_64 := rH61.keep hV kh0 rfl s_55
          have s_65 := rH61.keepA k_q_30 rfl s_56
          have s_66 := rH61.keepA k_q_35 rfl s_57
          have s_67 := rH61.keepA k_q_41 rfl s_58
          have s_68 := rH61.keepA k_q_49 rfl s_59
          refine lv_iload_n hx hb dX12_night_100 rfl (lv_at hl 4 rfl) ?_
          refine lv_if_ne (tgt := 107) hx hb dX12_night_101 (by decide) (fun c_69 => ?_) (fun c_69 => ?_)
          · have f_69 := z_ne c_69 rfl kl_0
            refine lv_aload_n hx hb dX12_night_107 rfl (lv_at hl 1 rfl) ?_
            refine lv_iconst (v := 1) hx hb dX12_night_108 (by decide) ?_
            refine lv_iload_n hx hb dX12_night_109 rfl (lv_at hl 2 rfl) ?_
            refine lv_isub hx hb dX12_night_110 ?_
            refine lv_topi (fun x_70 e_70 => ?_)
            have t_70 := z_sub e_70 kl_1 rfl (by omega) (by omega)
            refine zkPI (zrV (rest := []) B (c_X12_boardOf l E hV H61 gH61.1 h0 kh0 x_70 (by omega) (by omega)) cl_RX12_314 gH61.1 kh0 rfl rfl rfl rfl hl.1 rfl (Nat.le_of_ble_eq_true rfl) dX12_night_111 rfl rfl ⟨rfl, rfl⟩ ⟨Nat.zero_le _, Nat.zero_le _⟩ (zO.of gH61 hh)) (fun x_71 hp_71 => ?_)
            obtain ⟨hp_71_1, hp_71_2⟩ := hp_71
            refine lv_istore (lv' := [(5, .int x_71), (4, .int x_29), (0, .ref h0), (1, .int p0), (2, .int p1), (3, .int p2)]) hx hb dX12_night_114 hl (by decide) rfl (fun ls hl => ?_)
            refine lv_aload_n hx hb dX12_night_116 rfl (lv_at hl 2 rfl) ?_
            refine g_getR B fl_RX12_83 gH61.1 kh0 rfl rfl rfl rfl rfl dX12_night_117 (fun q_72 s_72 k_q_72 => ?_)
            refine lv_iload hx hb dX12_night_120 (lv_at hl 1 rfl) ?_
            refine lv_aload_n hx hb dX12_night_122 rfl (lv_at hl 2 rfl) ?_
            refine lv_iload hx hb dX12_night_123 (lv_at hl 0 rfl) ?_
            refine zkPI (zrV (rest := [.int x_29, .ref q_72]) B (c_X12_turnOf l E hV H61 gH61.1 h0 kh0 x_71 (by omega) (by omega)) cl_RX12_281 gH61.1 kh0 rfl rfl rfl rfl hl.1 rfl (Nat.le_of_ble_eq_true rfl) dX12_night_125 rfl rfl ⟨rfl, rfl⟩ ⟨Nat.zero_le _, Nat.zero_le _⟩ (zO.of gH61 hh)) (fun x_73 hp_73 => ?_)
            refine lv_iload_n hx hb dX12_night_128 rfl (lv_at hl 3 rfl) ?_
            refine lv_icmp_ne (tgt := 142) hx hb dX12_night_129 (by decide) (fun c_74 => ?_) (fun c_74 => ?_)
            · have f_74 := z_ne c_74 rfl rfl
              exact b142 H61 lc61 ls x_29 x_71 x_29 q_72 k_27 k_28 q_72 gH61 (lv_sub hl [2, 1, 0] rfl) k_q_72 k_q_72 (by omega) (by omega) (by omega) (by omega) (by omega) (by omega) (by omega) (by omega) (by omega) (by omega) s_63 s_64 s_72
            · have f_74 := z_eq c_74 rfl rfl
              refine lv_aload_n hx hb dX12_night_132 rfl (lv_at hl 2 rfl) ?_
              refine lv_iload hx hb dX12_night_133 (lv_at hl 0 rfl) ?_
              refine lv_iload_n hx hb dX12_night_135 rfl (lv_at hl 4 rfl) ?_
              obtain ⟨q_75, s_75, k_q_75⟩ := HT.atR gH61.1 kh0 rfl (j := 12) (by decide) rfl
              obtain ⟨x_76, s_76, a_76, b_76⟩ := HT.atI gH61.1 kh0 rfl (j := 26) (by decide) rfl
              obtain ⟨x_77, s_77, a_77, b_77⟩ := HT.elI (i := x_76) (N := 2) gH61.1 k_q_75 rfl rfl rfl (by omega) (by omega) rfl
              refine zkI (zrV (rest := [.int x_29, .ref q_72]) B (c_X12_findMove l E hV H61 gH61.1 h0 kh0 x_71 (by omega) (by omega) p1 q_75 k_q_75 s_75 x_76 s_76 x_77 s_77) cl_RX12_317 gH61.1 kh0 rfl rfl rfl rfl hl.1 rfl (Nat.le_of_ble_eq_true rfl) dX12_night_136 rfl rfl ⟨rfl, rfl⟩ ⟨Nat.zero_le _, Nat.zero_le _⟩ (zO.of gH61 hh)) gH61 rfl (fun x_78 H78 lc78 hp_78 gH78 rH78 => ?_)
              have s_79 := rH78.keepA k_q_17 rfl s_62
              have s_80 := rH78.keep hV kh0 rfl s_63
              have s_81 := rH78.keep hV kh0 rfl s_64
              have s_82 := rH78.keepA k_q_30 rfl s_65
              have s_83 := rH78.keepA k_q_35 rfl s_66
              have s_84 := rH78.keepA k_q_41 rfl s_67
              have s_85 := rH78.keepA k_q_49 rfl s_68
              have s_86 := rH78.keep hV kh0 rfl s_72
              have s_87 := rH78.keepA k_q_75 rfl s_77
              obtain ⟨hp_78_1, hp_78_2, hp_78_3⟩ := hp_78
              refine lv_if_ne (tgt := 146) hx hb dX12_night_139 (by decide) (fun c_88 => ?_) (fun c_88 => ?_)
              · have f_88 := z_ne c_88 rfl kl_0
                refine lv_iconst (v := 0) hx hb dX12_night_146 (by decide) ?_
                have := kl_0
                exact b147 H78 lc78 ls x_29 x_71 0 x_29 q_72 k_27 k_28 q_72 gH78 (lv_sub hl [2, 1, 0] rfl) k_q_72 k_q_72 (by omega) (by omega) (by omega) (by omega) (by omega) (by omega) (by omega) (by omega) (by omega) (by omega) (by omega) (by omega) s_80 s_81 s_86
              · have f_88 := z_eq c_88 rfl kl_0
                exact b142 H78 lc78 ls x_29 x_71 x_29 q_72 k_27 k_28 q_72 gH78 (lv_sub hl [2, 1, 0] rfl) k_q_72 k_q_72 (by omega) (by omega) (by omega) (by omega) (by omega) (by omega) (by omega) (by omega) (by omega) (by omega) s_80 s_81 s_86
          · have f_69 := z_eq c_69 rfl kl_0
            refine lv_iload hx hb dX12_night_104 (lv_at hl 0 rfl) ?_
            exact rtI (v := x_29) B hr hlk hh hQ gH61 rfl ⟨by omega, by omega, k_27, s_63, by omega, by omega, k_28, s_64, by omega, by omega, by omega⟩ dX12_night_106
        · have f_24 := z_eq c_24 rfl kl_0
          refine lv_iconst (v := (-1)) hx hb dX12_night_42 (by decide) ?_
          have := kl_m1
          have := kl_m1
          exact rtI (v := (-1)) B hr hlk hh hQ gH20 rfl ⟨by omega, by omega, n0, s_21, by omega, by omega, u0, s_22, by omega, by omega, by omega⟩ dX12_night_43

theorem dX12_blank_0 : decode cX12_blank 0 = .ok (.aload_n 0, 1) := by decide +kernel
theorem dX12_blank_1 : decode cX12_blank 1 = .ok (.getfield 305, 3) := by decide +kernel
theorem dX12_blank_4 : decode cX12_blank 4 = .ok (.bipush 60, 2) := by decide +kernel
theorem dX12_blank_6 : decode cX12_blank 6 = .ok (.if_icmp .ne 5, 3) := by decide +kernel
theorem dX12_blank_9 : decode cX12_blank 9 = .ok (.iconst (-1), 1) := by decide +kernel
theorem dX12_blank_10 : decode cX12_blank 10 = .ok (.ireturn, 1) := by decide +kernel
theorem dX12_blank_11 : decode cX12_blank 11 = .ok (.aload_n 0, 1) := by decide +kernel
theorem dX12_blank_12 : decode cX12_blank 12 = .ok (.invokevirtual 338, 3) := by decide +kernel
theorem dX12_blank_15 : decode cX12_blank 15 = .ok (.aload_n 0, 1) := by decide +kernel
theorem dX12_blank_16 : decode cX12_blank 16 = .ok (.getfield 305, 3) := by decide +kernel
theorem dX12_blank_19 : decode cX12_blank 19 = .ok (.iconst 1, 1) := by decide +kernel
theorem dX12_blank_20 : decode cX12_blank 20 = .ok (.isub, 1) := by decide +kernel
theorem dX12_blank_21 : decode cX12_blank 21 = .ok (.ireturn, 1) := by decide +kernel
def rm_X12_blank : Room := { frames := 3, cells := 0, slots := 0, locals := 66 }
abbrev wS_X12_blank : List (Nat × Nat) := [(13, 37), (13, 38), (60, 99), (77, 99), (78, 99), (79, 99), (80, 99)]
set_option maxRecDepth 100000 in
set_option maxHeartbeats 4000000 in
theorem c_X12_blank (l : Launch) (E : zE) (hV : zV E) (H0 : Heap) (hT0 : HT E H0) (h0 : Nat) (kh0 : eK E h0 = 13) (n0 : Int32) (s_n0 : sl H0 h0 (zix E 13 37) = some (.int n0)) (u0 : Int32) (s_u0 : sl H0 h0 (zix E 13 38) = some (.int u0)) (pr_0 : n0.toInt + u0.toInt ≤ 60) : Met l yX12_blank (zws yX12_blank cX12_blank 1 (some .int)) rm_X12_blank (zP E H0 [.ref h0]) (zQI E E wS_X12_blank (fun r H1 => (-1) ≤ r.toInt ∧ r.toInt ≤ 59 ∧ ∃ n1 : Int32, sl H1 h0 (zix E 13 37) = some (.int n1) ∧ 0 ≤ n1.toInt ∧ n1.toInt ≤ 60 ∧ ∃ u1 : Int32, sl H1 h0 (zix E 13 38) = some (.int u1) ∧ 0 ≤ u1.toInt ∧ u1.toInt ≤ 60 ∧ (n1.toInt + u1.toInt ≤ 60))) 0 0 (zfr E) := by
  refine zEnt (by decide) (Nat.le_of_ble_eq_true rfl) (fun p e s m args below meth c ls Q B hr hlk hh hQ hl => ?_)
  have hx := B.1
  have hb := B.2.1
  have hG0 : zG E wS_X12_blank H0 H0 [] := zG.rf hT0
  have hl : lv_has ls 1 [(0, .ref h0)] := hl
  have bd_n0 := HT.bdI hT0 kh0 rfl (j := 37) (by decide) rfl s_n0
  have bd_u0 := HT.bdI hT0 kh0 rfl (j := 38) (by decide) rfl s_u0
  refine lv_aload_n hx hb dX12_blank_0 rfl (lv_at hl 0 rfl) ?_
  refine g_get B fl_RX12_305 hT0 kh0 rfl rfl rfl dX12_blank_1 s_n0 ?_
  refine lv_bipush (v := 60) hx hb dX12_blank_4 (by decide) ?_
  refine lv_icmp_ne (tgt := 11) hx hb dX12_blank_6 (by decide) (fun c_1 => ?_) (fun c_1 => ?_)
  · have f_1 := z_ne c_1 rfl kl_60
    refine lv_aload_n hx hb dX12_blank_11 rfl (lv_at hl 0 rfl) ?_
    refine zkV (zrV (rest := []) B (c_X12_newNight l E hV H0 hT0 h0 kh0 n0 s_n0 (by omega) (by omega)) cl_RX12_338 hT0 kh0 rfl rfl rfl rfl hl.1 rfl (Nat.le_of_ble_eq_true rfl) dX12_blank_12 rfl rfl ⟨rfl, rfl⟩ ⟨Nat.zero_le _, Nat.zero_le _⟩ (zO.of hG0 hh)) hG0 rfl (fun H2 lc2 hp_2 gH2 rH2 => ?_)
    obtain ⟨⟨k_3, sk_3, ak_3, bk_3, fk_3_0⟩, ⟨k_4, sk_4, ak_4, bk_4⟩⟩ := hp_2
    refine lv_aload_n hx hb dX12_blank_15 rfl (lv_at hl 0 rfl) ?_
    refine g_get B fl_RX12_305 gH2.1 kh0 rfl rfl rfl dX12_blank_16 sk_3 ?_
    refine lv_iconst (v := 1) hx hb dX12_blank_19 (by decide) ?_
    refine lv_isub hx hb dX12_blank_20 ?_
    refine lv_topi (fun x_5 e_5 => ?_)
    have t_5 := z_sub e_5 rfl kl_1 (by omega) (by omega)
    exact rtI (v := x_5) B hr hlk hh hQ gH2 rfl ⟨by omega, by omega, k_3, sk_3, by omega, by omega, k_4, sk_4, by omega, by omega, by omega⟩ dX12_blank_21
  · have f_1 := z_eq c_1 rfl kl_60
    refine lv_iconst (v := (-1)) hx hb dX12_blank_9 (by decide) ?_
    have := kl_m1
    have := kl_m1
    exact rtI (v := (-1)) B hr hlk hh hQ hG0 rfl ⟨by omega, by omega, n0, s_n0, by omega, by omega, u0, s_u0, by omega, by omega, by omega⟩ dX12_blank_10

theorem dX12_undo_0 : decode cX12_undo 0 = .ok (.aload_n 0, 1) := by decide +kernel
theorem dX12_undo_1 : decode cX12_undo 1 = .ok (.getfield 305, 3) := by decide +kernel
theorem dX12_undo_4 : decode cX12_undo 4 = .ok (.ifCond .ne 5, 3) := by decide +kernel
theorem dX12_undo_7 : decode cX12_undo 7 = .ok (.iconst 0, 1) := by decide +kernel
theorem dX12_undo_8 : decode cX12_undo 8 = .ok (.ireturn, 1) := by decide +kernel
theorem dX12_undo_9 : decode cX12_undo 9 = .ok (.aload_n 0, 1) := by decide +kernel
theorem dX12_undo_10 : decode cX12_undo 10 = .ok (.dup, 1) := by decide +kernel
theorem dX12_undo_11 : decode cX12_undo 11 = .ok (.getfield 305, 3) := by decide +kernel
theorem dX12_undo_14 : decode cX12_undo 14 = .ok (.iconst 1, 1) := by decide +kernel
theorem dX12_undo_15 : decode cX12_undo 15 = .ok (.isub, 1) := by decide +kernel
theorem dX12_undo_16 : decode cX12_undo 16 = .ok (.putfield 305, 3) := by decide +kernel
theorem dX12_undo_19 : decode cX12_undo 19 = .ok (.aload_n 0, 1) := by decide +kernel
theorem dX12_undo_20 : decode cX12_undo 20 = .ok (.dup, 1) := by decide +kernel
theorem dX12_undo_21 : decode cX12_undo 21 = .ok (.getfield 335, 3) := by decide +kernel
theorem dX12_undo_24 : decode cX12_undo 24 = .ok (.iconst 1, 1) := by decide +kernel
theorem dX12_undo_25 : decode cX12_undo 25 = .ok (.iadd, 1) := by decide +kernel
theorem dX12_undo_26 : decode cX12_undo 26 = .ok (.putfield 335, 3) := by decide +kernel
theorem dX12_undo_29 : decode cX12_undo 29 = .ok (.iconst 1, 1) := by decide +kernel
theorem dX12_undo_30 : decode cX12_undo 30 = .ok (.ireturn, 1) := by decide +kernel
def rm_X12_undo : Room := { frames := 0, cells := 0, slots := 0, locals := 0 }
abbrev wS_X12_undo : List (Nat × Nat) := [(13, 37), (13, 38)]
set_option maxRecDepth 100000 in
set_option maxHeartbeats 4000000 in
theorem c_X12_undo (l : Launch) (E : zE) (hV : zV E) (H0 : Heap) (hT0 : HT E H0) (h0 : Nat) (kh0 : eK E h0 = 13) (n0 : Int32) (s_n0 : sl H0 h0 (zix E 13 37) = some (.int n0)) (u0 : Int32) (s_u0 : sl H0 h0 (zix E 13 38) = some (.int u0)) (pr_0 : n0.toInt + u0.toInt ≤ 60) : Met l yX12_undo (zws yX12_undo cX12_undo 1 (some .boolean)) rm_X12_undo (zP E H0 [.ref h0]) (zQI E E wS_X12_undo (fun r H1 => 0 ≤ r.toInt ∧ r.toInt ≤ 1 ∧ ∃ n1 : Int32, sl H1 h0 (zix E 13 37) = some (.int n1) ∧ 0 ≤ n1.toInt ∧ n1.toInt ≤ 60 ∧ ∃ u1 : Int32, sl H1 h0 (zix E 13 38) = some (.int u1) ∧ 0 ≤ u1.toInt ∧ u1.toInt ≤ 60 ∧ (n1.toInt + u1.toInt ≤ 60))) 0 0 (zfr E) := by
  refine zEnt (by decide) (Nat.le_of_ble_eq_true rfl) (fun p e s m args below meth c ls Q B hr hlk hh hQ hl => ?_)
  have hx := B.1
  have hb := B.2.1
  have hG0 : zG E wS_X12_undo H0 H0 [] := zG.rf hT0
  have hl : lv_has ls 1 [(0, .ref h0)] := hl
  have bd_n0 := HT.bdI hT0 kh0 rfl (j := 37) (by decide) rfl s_n0
  have bd_u0 := HT.bdI hT0 kh0 rfl (j := 38) (by decide) rfl s_u0
  refine lv_aload_n hx hb dX12_undo_0 rfl (lv_at hl 0 rfl) ?_
  refine g_get B fl_RX12_305 hT0 kh0 rfl rfl rfl dX12_undo_1 s_n0 ?_
  refine lv_if_ne (tgt := 9) hx hb dX12_undo_4 (by decide) (fun c_1 => ?_) (fun c_1 => ?_)
  · have f_1 := z_ne c_1 rfl kl_0
    refine lv_aload_n hx hb dX12_undo_9 rfl (lv_at hl 0 rfl) ?_
    refine lv_dup hx hb dX12_undo_10 rfl ?_
    refine g_get B fl_RX12_305 hT0 kh0 rfl rfl rfl dX12_undo_11 s_n0 ?_
    refine lv_iconst (v := 1) hx hb dX12_undo_14 (by decide) ?_
    refine lv_isub hx hb dX12_undo_15 ?_
    refine lv_topi (fun x_2 e_2 => ?_)
    have t_2 := z_sub e_2 rfl kl_1 (by omega) (by omega)
    refine g_putI B fp_RX12_305 hV hG0 kh0 rfl rfl rfl rfl rfl (by omega) (by omega) rfl dX12_undo_16 (fun H3 lc3 gH3 uH3 => ?_)
    have s_4 := uH3.keep (Or.inr (j_ne hV rfl rfl rfl rfl)) s_u0
    refine lv_aload_n hx hb dX12_undo_19 rfl (lv_at hl 0 rfl) ?_
    refine lv_dup hx hb dX12_undo_20 rfl ?_
    refine g_get B fl_RX12_335 gH3.1 kh0 rfl rfl rfl dX12_undo_21 s_4 ?_
    refine lv_iconst (v := 1) hx hb dX12_undo_24 (by decide) ?_
    refine lv_iadd hx hb dX12_undo_25 ?_
    refine lv_topi (fun x_5 e_5 => ?_)
    have t_5 := z_add e_5 rfl kl_1 (by omega) (by omega)
    refine g_putI B fp_RX12_335 hV gH3 kh0 rfl rfl rfl rfl rfl (by omega) (by omega) rfl dX12_undo_26 (fun H6 lc6 gH6 uH6 => ?_)
    have s_7 := uH6.keep (Or.inr (j_ne hV rfl rfl rfl rfl)) uH3.2.1
    refine lv_iconst (v := 1) hx hb dX12_undo_29 (by decide) ?_
    have := kl_1
    have := kl_1
    exact rtI (v := 1) B hr hlk hh hQ gH6 rfl ⟨by omega, by omega, x_2, s_7, by omega, by omega, x_5, uH6.2.1, by omega, by omega, by omega⟩ dX12_undo_30
  · have f_1 := z_eq c_1 rfl kl_0
    refine lv_iconst (v := 0) hx hb dX12_undo_7 (by decide) ?_
    have := kl_0
    have := kl_0
    exact rtI (v := 0) B hr hlk hh hQ hG0 rfl ⟨by omega, by omega, n0, s_n0, by omega, by omega, u0, s_u0, by omega, by omega, by omega⟩ dX12_undo_8

theorem dX12_redo_0 : decode cX12_redo 0 = .ok (.aload_n 0, 1) := by decide +kernel
theorem dX12_redo_1 : decode cX12_redo 1 = .ok (.getfield 335, 3) := by decide +kernel
theorem dX12_redo_4 : decode cX12_redo 4 = .ok (.ifCond .ne 5, 3) := by decide +kernel
theorem dX12_redo_7 : decode cX12_redo 7 = .ok (.iconst 0, 1) := by decide +kernel
theorem dX12_redo_8 : decode cX12_redo 8 = .ok (.ireturn, 1) := by decide +kernel
theorem dX12_redo_9 : decode cX12_redo 9 = .ok (.aload_n 0, 1) := by decide +kernel
theorem dX12_redo_10 : decode cX12_redo 10 = .ok (.dup, 1) := by decide +kernel
theorem dX12_redo_11 : decode cX12_redo 11 = .ok (.getfield 305, 3) := by decide +kernel
theorem dX12_redo_14 : decode cX12_redo 14 = .ok (.iconst 1, 1) := by decide +kernel
theorem dX12_redo_15 : decode cX12_redo 15 = .ok (.iadd, 1) := by decide +kernel
theorem dX12_redo_16 : decode cX12_redo 16 = .ok (.putfield 305, 3) := by decide +kernel
theorem dX12_redo_19 : decode cX12_redo 19 = .ok (.aload_n 0, 1) := by decide +kernel
theorem dX12_redo_20 : decode cX12_redo 20 = .ok (.dup, 1) := by decide +kernel
theorem dX12_redo_21 : decode cX12_redo 21 = .ok (.getfield 335, 3) := by decide +kernel
theorem dX12_redo_24 : decode cX12_redo 24 = .ok (.iconst 1, 1) := by decide +kernel
theorem dX12_redo_25 : decode cX12_redo 25 = .ok (.isub, 1) := by decide +kernel
theorem dX12_redo_26 : decode cX12_redo 26 = .ok (.putfield 335, 3) := by decide +kernel
theorem dX12_redo_29 : decode cX12_redo 29 = .ok (.iconst 1, 1) := by decide +kernel
theorem dX12_redo_30 : decode cX12_redo 30 = .ok (.ireturn, 1) := by decide +kernel
def rm_X12_redo : Room := { frames := 0, cells := 0, slots := 0, locals := 0 }
abbrev wS_X12_redo : List (Nat × Nat) := [(13, 37), (13, 38)]
set_option maxRecDepth 100000 in
set_option maxHeartbeats 4000000 in
theorem c_X12_redo (l : Launch) (E : zE) (hV : zV E) (H0 : Heap) (hT0 : HT E H0) (h0 : Nat) (kh0 : eK E h0 = 13) (n0 : Int32) (s_n0 : sl H0 h0 (zix E 13 37) = some (.int n0)) (u0 : Int32) (s_u0 : sl H0 h0 (zix E 13 38) = some (.int u0)) (pr_0 : n0.toInt + u0.toInt ≤ 60) : Met l yX12_redo (zws yX12_redo cX12_redo 1 (some .boolean)) rm_X12_redo (zP E H0 [.ref h0]) (zQI E E wS_X12_redo (fun r H1 => 0 ≤ r.toInt ∧ r.toInt ≤ 1 ∧ ∃ n1 : Int32, sl H1 h0 (zix E 13 37) = some (.int n1) ∧ 0 ≤ n1.toInt ∧ n1.toInt ≤ 60 ∧ ∃ u1 : Int32, sl H1 h0 (zix E 13 38) = some (.int u1) ∧ 0 ≤ u1.toInt ∧ u1.toInt ≤ 60 ∧ (n1.toInt + u1.toInt ≤ 60))) 0 0 (zfr E) := by
  refine zEnt (by decide) (Nat.le_of_ble_eq_true rfl) (fun p e s m args below meth c ls Q B hr hlk hh hQ hl => ?_)
  have hx := B.1
  have hb := B.2.1
  have hG0 : zG E wS_X12_redo H0 H0 [] := zG.rf hT0
  have hl : lv_has ls 1 [(0, .ref h0)] := hl
  have bd_n0 := HT.bdI hT0 kh0 rfl (j := 37) (by decide) rfl s_n0
  have bd_u0 := HT.bdI hT0 kh0 rfl (j := 38) (by decide) rfl s_u0
  refine lv_aload_n hx hb dX12_redo_0 rfl (lv_at hl 0 rfl) ?_
  refine g_get B fl_RX12_335 hT0 kh0 rfl rfl rfl dX12_redo_1 s_u0 ?_
  refine lv_if_ne (tgt := 9) hx hb dX12_redo_4 (by decide) (fun c_1 => ?_) (fun c_1 => ?_)
  · have f_1 := z_ne c_1 rfl kl_0
    refine lv_aload_n hx hb dX12_redo_9 rfl (lv_at hl 0 rfl) ?_
    refine lv_dup hx hb dX12_redo_10 rfl ?_
    refine g_get B fl_RX12_305 hT0 kh0 rfl rfl rfl dX12_redo_11 s_n0 ?_
    refine lv_iconst (v := 1) hx hb dX12_redo_14 (by decide) ?_
    refine lv_iadd hx hb dX12_redo_15 ?_
    refine lv_topi (fun x_2 e_2 => ?_)
    have t_2 := z_add e_2 rfl kl_1 (by omega) (by omega)
    refine g_putI B fp_RX12_305 hV hG0 kh0 rfl rfl rfl rfl rfl (by omega) (by omega) rfl dX12_redo_16 (fun H3 lc3 gH3 uH3 => ?_)
    have s_4 := uH3.keep (Or.inr (j_ne hV rfl rfl rfl rfl)) s_u0
    refine lv_aload_n hx hb dX12_redo_19 rfl (lv_at hl 0 rfl) ?_
    refine lv_dup hx hb dX12_redo_20 rfl ?_
    refine g_get B fl_RX12_335 gH3.1 kh0 rfl rfl rfl dX12_redo_21 s_4 ?_
    refine lv_iconst (v := 1) hx hb dX12_redo_24 (by decide) ?_
    refine lv_isub hx hb dX12_redo_25 ?_
    refine lv_topi (fun x_5 e_5 => ?_)
    have t_5 := z_sub e_5 rfl kl_1 (by omega) (by omega)
    refine g_putI B fp_RX12_335 hV gH3 kh0 rfl rfl rfl rfl rfl (by omega) (by omega) rfl dX12_redo_26 (fun H6 lc6 gH6 uH6 => ?_)
    have s_7 := uH6.keep (Or.inr (j_ne hV rfl rfl rfl rfl)) uH3.2.1
    refine lv_iconst (v := 1) hx hb dX12_redo_29 (by decide) ?_
    have := kl_1
    have := kl_1
    exact rtI (v := 1) B hr hlk hh hQ gH6 rfl ⟨by omega, by omega, x_2, s_7, by omega, by omega, x_5, uH6.2.1, by omega, by omega, by omega⟩ dX12_redo_30
  · have f_1 := z_eq c_1 rfl kl_0
    refine lv_iconst (v := 0) hx hb dX12_redo_7 (by decide) ?_
    have := kl_0
    have := kl_0
    exact rtI (v := 0) B hr hlk hh hQ hG0 rfl ⟨by omega, by omega, n0, s_n0, by omega, by omega, u0, s_u0, by omega, by omega, by omega⟩ dX12_redo_8

theorem dX12_book_0 : decode cX12_book 0 = .ok (.iload_n 1, 1) := by decide +kernel
theorem dX12_book_1 : decode cX12_book 1 = .ok (.iconst 0, 1) := by decide +kernel
theorem dX12_book_2 : decode cX12_book 2 = .ok (.aload_n 0, 1) := by decide +kernel
theorem dX12_book_3 : decode cX12_book 3 = .ok (.getfield 305, 3) := by decide +kernel
theorem dX12_book_6 : decode cX12_book 6 = .ok (.iconst 1, 1) := by decide +kernel
theorem dX12_book_7 : decode cX12_book 7 = .ok (.isub, 1) := by decide +kernel
theorem dX12_book_8 : decode cX12_book 8 = .ok (.invokestatic 260, 3) := by decide +kernel
theorem dX12_book_11 : decode cX12_book 11 = .ok (.ifCond .ne 6, 3) := by decide +kernel
theorem dX12_book_14 : decode cX12_book 14 = .ok (.bipush (-2), 2) := by decide +kernel
theorem dX12_book_16 : decode cX12_book 16 = .ok (.ireturn, 1) := by decide +kernel
theorem dX12_book_17 : decode cX12_book 17 = .ok (.iload_n 2, 1) := by decide +kernel
theorem dX12_book_18 : decode cX12_book 18 = .ok (.tableswitch 74 0 3 #[30, 37, 44, 59], 30) := by decide +kernel
theorem dX12_book_48 : decode cX12_book 48 = .ok (.aload_n 0, 1) := by decide +kernel
theorem dX12_book_49 : decode cX12_book 49 = .ok (.getfield 74, 3) := by decide +kernel
theorem dX12_book_52 : decode cX12_book 52 = .ok (.iload_n 1, 1) := by decide +kernel
theorem dX12_book_53 : decode cX12_book 53 = .ok (.iaload, 1) := by decide +kernel
theorem dX12_book_54 : decode cX12_book 54 = .ok (.ireturn, 1) := by decide +kernel
theorem dX12_book_55 : decode cX12_book 55 = .ok (.aload_n 0, 1) := by decide +kernel
theorem dX12_book_56 : decode cX12_book 56 = .ok (.getfield 77, 3) := by decide +kernel
theorem dX12_book_59 : decode cX12_book 59 = .ok (.iload_n 1, 1) := by decide +kernel
theorem dX12_book_60 : decode cX12_book 60 = .ok (.iaload, 1) := by decide +kernel
theorem dX12_book_61 : decode cX12_book 61 = .ok (.ireturn, 1) := by decide +kernel
theorem dX12_book_62 : decode cX12_book 62 = .ok (.aload_n 0, 1) := by decide +kernel
theorem dX12_book_63 : decode cX12_book 63 = .ok (.getfield 80, 3) := by decide +kernel
theorem dX12_book_66 : decode cX12_book 66 = .ok (.iload_n 1, 1) := by decide +kernel
theorem dX12_book_67 : decode cX12_book 67 = .ok (.baload, 1) := by decide +kernel
theorem dX12_book_68 : decode cX12_book 68 = .ok (.ifCond .eq 7, 3) := by decide +kernel
theorem dX12_book_71 : decode cX12_book 71 = .ok (.iconst 1, 1) := by decide +kernel
theorem dX12_book_72 : decode cX12_book 72 = .ok (.goto 4, 3) := by decide +kernel
theorem dX12_book_75 : decode cX12_book 75 = .ok (.iconst 0, 1) := by decide +kernel
theorem dX12_book_76 : decode cX12_book 76 = .ok (.ireturn, 1) := by decide +kernel
theorem dX12_book_77 : decode cX12_book 77 = .ok (.aload_n 0, 1) := by decide +kernel
theorem dX12_book_78 : decode cX12_book 78 = .ok (.getfield 83, 3) := by decide +kernel
theorem dX12_book_81 : decode cX12_book 81 = .ok (.iload_n 1, 1) := by decide +kernel
theorem dX12_book_82 : decode cX12_book 82 = .ok (.baload, 1) := by decide +kernel
theorem dX12_book_83 : decode cX12_book 83 = .ok (.ifCond .eq 7, 3) := by decide +kernel
theorem dX12_book_86 : decode cX12_book 86 = .ok (.iconst 1, 1) := by decide +kernel
theorem dX12_book_87 : decode cX12_book 87 = .ok (.goto 4, 3) := by decide +kernel
theorem dX12_book_90 : decode cX12_book 90 = .ok (.iconst 0, 1) := by decide +kernel
theorem dX12_book_91 : decode cX12_book 91 = .ok (.ireturn, 1) := by decide +kernel
theorem dX12_book_92 : decode cX12_book 92 = .ok (.bipush (-2), 2) := by decide +kernel
theorem dX12_book_94 : decode cX12_book 94 = .ok (.ireturn, 1) := by decide +kernel
def rm_X12_book : Room := { frames := 1, cells := 0, slots := 0, locals := 22 }
set_option maxRecDepth 100000 in
set_option maxHeartbeats 4000000 in
theorem c_X12_book (l : Launch) (E : zE) (hV : zV E) (H0 : Heap) (hT0 : HT E H0) (h0 : Nat) (kh0 : eK E h0 = 13) (p0 : Int32) (p1 : Int32) : Met l yX12_book (zws yX12_book cX12_book 3 (some .int)) rm_X12_book (zP E H0 [.ref h0, .int p0, .int p1]) (zPI (fun r => True)) 0 0 (fun _ => False) := by
  refine zEnt (by decide) (Nat.le_of_ble_eq_true rfl) (fun p e s m args below meth c ls Q B hr hlk hh hQ hl => ?_)
  have hx := B.1
  have hb := B.2.1
  have hl : lv_has ls 3 [(0, .ref h0), (1, .int p0), (2, .int p1)] := hl
  refine lv_iload_n hx hb dX12_book_0 rfl (lv_at hl 1 rfl) ?_
  refine lv_iconst (v := 0) hx hb dX12_book_1 (by decide) ?_
  refine lv_aload_n hx hb dX12_book_2 rfl (lv_at hl 0 rfl) ?_
  refine g_getI B fl_RX12_305 hT0 kh0 rfl rfl rfl rfl rfl dX12_book_3 (fun x_1 s_1 a_1 b_1 => ?_)
  refine lv_iconst (v := 1) hx hb dX12_book_6 (by decide) ?_
  refine lv_isub hx hb dX12_book_7 ?_
  refine lv_topi (fun x_2 e_2 => ?_)
  have t_2 := z_sub e_2 rfl kl_1 (by omega) (by omega)
  refine zkPI (zrS (rest := []) B (c_X12_isIn l E hV H0 hT0 p0 0 x_2) cs_RX12_260 rfl hl.1 rfl (Nat.le_of_ble_eq_true rfl) dX12_book_8 rfl rfl ⟨rfl, rfl⟩ ⟨Nat.zero_le _, Nat.zero_le _⟩ (zO.rf hh)) (fun x_3 hp_3 => ?_)
  obtain ⟨hp_3_1, hp_3_2, hp_3_3⟩ := hp_3
  have := kl_0
  refine lv_if_ne (tgt := 17) hx hb dX12_book_11 (by decide) (fun c_4 => ?_) (fun c_4 => ?_)
  · have f_4 := z_ne c_4 rfl kl_0
    refine lv_iload_n hx hb dX12_book_17 rfl (lv_at hl 2 rfl) ?_
    by_cases c_5 : 0 ≤ p1.toInt ∧ p1.toInt ≤ 3
    · have : p1.toInt = 0 ∨ p1.toInt = 1 ∨ p1.toInt = 2 ∨ p1.toInt = 3 := by omega
      rcases this with h_5 | h_5 | h_5 | h_5
      · refine lv_tableIn (off := 30) (tgt := 48) hx hb dX12_book_18 (by omega) (by omega) (by rw [h_5]; rfl) (by decide) ?_
        refine lv_aload_n hx hb dX12_book_48 rfl (lv_at hl 0 rfl) ?_
        refine g_getR B fl_RX12_74 hT0 kh0 rfl rfl rfl rfl rfl dX12_book_49 (fun q_6 s_6 k_q_6 => ?_)
        refine lv_iload_n hx hb dX12_book_52 rfl (lv_at hl 1 rfl) ?_
        refine g_ialdI (i := p0) (N := 60) B hT0 k_q_6 rfl rfl rfl rfl (by omega) (by omega) rfl dX12_book_53 (fun x_7 s_7 a_7 b_7 => ?_)
        exact rtPI (v := x_7) B hr hlk hh hQ rfl trivial dX12_book_54
      · refine lv_tableIn (off := 37) (tgt := 55) hx hb dX12_book_18 (by omega) (by omega) (by rw [h_5]; rfl) (by decide) ?_
        refine lv_aload_n hx hb dX12_book_55 rfl (lv_at hl 0 rfl) ?_
        refine g_getR B fl_RX12_77 hT0 kh0 rfl rfl rfl rfl rfl dX12_book_56 (fun q_8 s_8 k_q_8 => ?_)
        refine lv_iload_n hx hb dX12_book_59 rfl (lv_at hl 1 rfl) ?_
        refine g_ialdI (i := p0) (N := 60) B hT0 k_q_8 rfl rfl rfl rfl (by omega) (by omega) rfl dX12_book_60 (fun x_9 s_9 a_9 b_9 => ?_)
        exact rtPI (v := x_9) B hr hlk hh hQ rfl trivial dX12_book_61
      · refine lv_tableIn (off := 44) (tgt := 62) hx hb dX12_book_18 (by omega) (by omega) (by rw [h_5]; rfl) (by decide) ?_
        refine lv_aload_n hx hb dX12_book_62 rfl (lv_at hl 0 rfl) ?_
        refine g_getR B fl_RX12_80 hT0 kh0 rfl rfl rfl rfl rfl dX12_book_63 (fun q_10 s_10 k_q_10 => ?_)
        refine lv_iload_n hx hb dX12_book_66 rfl (lv_at hl 1 rfl) ?_
        refine g_zaldI (i := p0) (N := 60) B hT0 k_q_10 rfl rfl rfl rfl (by omega) (by omega) rfl dX12_book_67 (fun x_11 s_11 a_11 b_11 => ?_)
        refine lv_if_eq (tgt := 75) hx hb dX12_book_68 (by decide) (fun c_12 => ?_) (fun c_12 => ?_)
        · have f_12 := z_eq c_12 rfl kl_0
          refine lv_iconst (v := 0) hx hb dX12_book_75 (by decide) ?_
          have := kl_0
          have := kl_0
          exact rtPI (v := 0) B hr hlk hh hQ rfl trivial dX12_book_76
        · have f_12 := z_ne c_12 rfl kl_0
          refine lv_iconst (v := 1) hx hb dX12_book_71 (by decide) ?_
          refine lv_goto (tgt := 76) hx hb dX12_book_72 (by decide) ?_
          have := kl_1
          have := kl_1
          exact rtPI (v := 1) B hr hlk hh hQ rfl trivial dX12_book_76
      · refine lv_tableIn (off := 59) (tgt := 77) hx hb dX12_book_18 (by omega) (by omega) (by rw [h_5]; rfl) (by decide) ?_
        refine lv_aload_n hx hb dX12_book_77 rfl (lv_at hl 0 rfl) ?_
        refine g_getR B fl_RX12_83 hT0 kh0 rfl rfl rfl rfl rfl dX12_book_78 (fun q_13 s_13 k_q_13 => ?_)
        refine lv_iload_n hx hb dX12_book_81 rfl (lv_at hl 1 rfl) ?_
        refine g_zaldI (i := p0) (N := 60) B hT0 k_q_13 rfl rfl rfl rfl (by omega) (by omega) rfl dX12_book_82 (fun x_14 s_14 a_14 b_14 => ?_)
        refine lv_if_eq (tgt := 90) hx hb dX12_book_83 (by decide) (fun c_15 => ?_) (fun c_15 => ?_)
        · have f_15 := z_eq c_15 rfl kl_0
          refine lv_iconst (v := 0) hx hb dX12_book_90 (by decide) ?_
          have := kl_0
          have := kl_0
          exact rtPI (v := 0) B hr hlk hh hQ rfl trivial dX12_book_91
        · have f_15 := z_ne c_15 rfl kl_0
          refine lv_iconst (v := 1) hx hb dX12_book_86 (by decide) ?_
          refine lv_goto (tgt := 91) hx hb dX12_book_87 (by decide) ?_
          have := kl_1
          have := kl_1
          exact rtPI (v := 1) B hr hlk hh hQ rfl trivial dX12_book_91
    · refine lv_tableOut (tgt := 92) hx hb dX12_book_18 (by omega) (by decide) ?_
      refine lv_bipush (v := (-2)) hx hb dX12_book_92 (by decide) ?_
      have := kl_m2
      have := kl_m2
      exact rtPI (v := (-2)) B hr hlk hh hQ rfl trivial dX12_book_94
  · have f_4 := z_eq c_4 rfl kl_0
    refine lv_bipush (v := (-2)) hx hb dX12_book_14 (by decide) ?_
    have := kl_m2
    have := kl_m2
    exact rtPI (v := (-2)) B hr hlk hh hQ rfl trivial dX12_book_16

theorem dX12_differ_0 : decode cX12_differ 0 = .ok (.iconst 0, 1) := by decide +kernel
theorem dX12_differ_1 : decode cX12_differ 1 = .ok (.istore_n 1, 1) := by decide +kernel
theorem dX12_differ_2 : decode cX12_differ 2 = .ok (.iconst 0, 1) := by decide +kernel
theorem dX12_differ_3 : decode cX12_differ 3 = .ok (.istore_n 2, 1) := by decide +kernel
theorem dX12_differ_4 : decode cX12_differ 4 = .ok (.iload_n 2, 1) := by decide +kernel
theorem dX12_differ_5 : decode cX12_differ 5 = .ok (.aload_n 0, 1) := by decide +kernel
theorem dX12_differ_6 : decode cX12_differ 6 = .ok (.invokevirtual 275, 3) := by decide +kernel
theorem dX12_differ_9 : decode cX12_differ 9 = .ok (.if_icmp .ge 40, 3) := by decide +kernel
theorem dX12_differ_12 : decode cX12_differ 12 = .ok (.iload_n 1, 1) := by decide +kernel
theorem dX12_differ_13 : decode cX12_differ 13 = .ok (.aload_n 0, 1) := by decide +kernel
theorem dX12_differ_14 : decode cX12_differ 14 = .ok (.aload_n 0, 1) := by decide +kernel
theorem dX12_differ_15 : decode cX12_differ 15 = .ok (.iconst 0, 1) := by decide +kernel
theorem dX12_differ_16 : decode cX12_differ 16 = .ok (.invokevirtual 314, 3) := by decide +kernel
theorem dX12_differ_19 : decode cX12_differ 19 = .ok (.iload_n 2, 1) := by decide +kernel
theorem dX12_differ_20 : decode cX12_differ 20 = .ok (.invokevirtual 257, 3) := by decide +kernel
theorem dX12_differ_23 : decode cX12_differ 23 = .ok (.aload_n 0, 1) := by decide +kernel
theorem dX12_differ_24 : decode cX12_differ 24 = .ok (.aload_n 0, 1) := by decide +kernel
theorem dX12_differ_25 : decode cX12_differ 25 = .ok (.iconst 1, 1) := by decide +kernel
theorem dX12_differ_26 : decode cX12_differ 26 = .ok (.invokevirtual 314, 3) := by decide +kernel
theorem dX12_differ_29 : decode cX12_differ 29 = .ok (.iload_n 2, 1) := by decide +kernel
theorem dX12_differ_30 : decode cX12_differ 30 = .ok (.invokevirtual 257, 3) := by decide +kernel
theorem dX12_differ_33 : decode cX12_differ 33 = .ok (.if_icmp .ne 7, 3) := by decide +kernel
theorem dX12_differ_36 : decode cX12_differ 36 = .ok (.iconst 0, 1) := by decide +kernel
theorem dX12_differ_37 : decode cX12_differ 37 = .ok (.goto 4, 3) := by decide +kernel
theorem dX12_differ_40 : decode cX12_differ 40 = .ok (.iconst 1, 1) := by decide +kernel
theorem dX12_differ_41 : decode cX12_differ 41 = .ok (.iadd, 1) := by decide +kernel
theorem dX12_differ_42 : decode cX12_differ 42 = .ok (.istore_n 1, 1) := by decide +kernel
theorem dX12_differ_43 : decode cX12_differ 43 = .ok (.iinc 2 1, 3) := by decide +kernel
theorem dX12_differ_46 : decode cX12_differ 46 = .ok (.goto (-42), 3) := by decide +kernel
theorem dX12_differ_49 : decode cX12_differ 49 = .ok (.iload_n 1, 1) := by decide +kernel
theorem dX12_differ_50 : decode cX12_differ 50 = .ok (.ireturn, 1) := by decide +kernel
def rm_X12_differ : Room := { frames := 1, cells := 0, slots := 0, locals := 22 }
set_option maxRecDepth 100000 in
set_option maxHeartbeats 4000000 in
theorem c_X12_differ (l : Launch) (E : zE) (hV : zV E) (H0 : Heap) (hT0 : HT E H0) (h0 : Nat) (kh0 : eK E h0 = 13) : Met l yX12_differ (zws yX12_differ cX12_differ 3 (some .int)) rm_X12_differ (zP E H0 [.ref h0]) (zPI (fun r => True)) 0 0 (fun _ => False) := by
  refine zEnt (by decide) (Nat.le_of_ble_eq_true rfl) (fun p e s m args below meth c ls Q B hr hlk hh hQ hl => ?_)
  have hx := B.1
  have hb := B.2.1
  have hl : lv_has ls 3 [(0, .ref h0)] := hl
  have b4 : ∀ (n4 : Nat) (ls : Array Slot) (v4_1 : Int32) (v4_2 : Int32), 30 - v4_2.toInt < (n4 : Int) → lv_has ls 3 [(0, .ref h0), (1, .int v4_1), (2, .int v4_2)] → 0 ≤ v4_2.toInt → v4_2.toInt ≤ 30 → W p l e rm_X12_differ s m args below meth c H0 [] 0 0 Q (F0 m 4 ls []) := by
    intro n4
    induction n4 with
    | zero =>
      intro ls v4_1 v4_2 hm4 hl f4_1 f4_2
      exact absurd hm4 (by omega)
    | succ n4 ih4 =>
      intro ls v4_1 v4_2 hm4 hl f4_1 f4_2
      have b41 : ∀ (ls : Array Slot) (w41_0 : Int32), lv_has ls 3 [(0, .ref h0), (2, .int v4_2)] → v4_2.toInt ≤ 29 → 0 ≤ w41_0.toInt → w41_0.toInt ≤ 1 → W p l e rm_X12_differ s m args below meth c H0 [] 0 0 Q (F0 m 41 ls [.int w41_0, .int v4_1]) := by
        intro ls w41_0 hl f41_1 f41_2 f41_3
        refine lv_iadd hx hb dX12_differ_41 ?_
        refine lv_topi (fun x_1 e_1 => ?_)
        refine lv_istore_n (lv' := [(1, .int x_1), (0, .ref h0), (2, .int v4_2)]) hx hb dX12_differ_42 rfl hl (by decide) rfl (fun ls hl => ?_)
        obtain ⟨x_2, e_2⟩ : ∃ y : Int32, (v4_2 : Int32) + Int32.ofInt 1 = y := ⟨_, rfl⟩
        refine lv_iinc (v := x_2) (lv' := [(2, .int x_2), (1, .int x_1), (0, .ref h0)]) hx hb dX12_differ_43 hl (k := 2) rfl e_2 (by decide) rfl (fun ls hl => ?_)
        have t_2 := z_inc2 e_2 rfl (by decide) (by omega) (by omega)
        refine lv_goto (tgt := 4) hx hb dX12_differ_46 (by decide) ?_
        exact ih4 ls x_1 x_2 (by omega) (lv_sub hl [2, 1, 0] rfl) (by omega) (by omega)
      refine lv_iload_n hx hb dX12_differ_4 rfl (lv_at hl 2 rfl) ?_
      refine lv_aload_n hx hb dX12_differ_5 rfl (lv_at hl 0 rfl) ?_
      obtain ⟨q_3, s_3, k_q_3⟩ := HT.atR hT0 kh0 rfl (j := 12) (by decide) rfl
      obtain ⟨x_4, s_4, a_4, b_4⟩ := HT.atI hT0 kh0 rfl (j := 26) (by decide) rfl
      obtain ⟨x_5, s_5, a_5, b_5⟩ := HT.elI (i := x_4) (N := 2) hT0 k_q_3 rfl rfl rfl (by omega) (by omega) rfl
      refine zkPI (zrV (rest := [.int v4_2]) B (c_X12_squares l E hV H0 hT0 h0 kh0 q_3 k_q_3 s_3 x_4 s_4 x_5 s_5) cl_RX12_275 hT0 kh0 rfl rfl rfl rfl hl.1 rfl (Nat.le_of_ble_eq_true rfl) dX12_differ_6 rfl rfl ⟨rfl, rfl⟩ ⟨Nat.zero_le _, Nat.zero_le _⟩ (zO.rf hh)) (fun x_6 hp_6 => ?_)
      obtain ⟨hp_6_1, hp_6_2, hp_6_3⟩ := hp_6
      refine lv_icmp_ge (tgt := 49) hx hb dX12_differ_9 (by decide) (fun c_7 => ?_) (fun c_7 => ?_)
      · have f_7 := z_le c_7 rfl rfl
        refine lv_iload_n hx hb dX12_differ_49 rfl (lv_at hl 1 rfl) ?_
        exact rtPI (v := v4_1) B hr hlk hh hQ rfl trivial dX12_differ_50
      · have f_7 := z_nle c_7 rfl rfl
        refine lv_iload_n hx hb dX12_differ_12 rfl (lv_at hl 1 rfl) ?_
        refine lv_aload_n hx hb dX12_differ_13 rfl (lv_at hl 0 rfl) ?_
        refine lv_aload_n hx hb dX12_differ_14 rfl (lv_at hl 0 rfl) ?_
        refine lv_iconst (v := 0) hx hb dX12_differ_15 (by decide) ?_
        have := kl_0
        refine zkPI (zrV (rest := [.ref h0, .int v4_1]) B (c_X12_boardOf l E hV H0 hT0 h0 kh0 0 (by omega) (by omega)) cl_RX12_314 hT0 kh0 rfl rfl rfl rfl hl.1 rfl (Nat.le_of_ble_eq_true rfl) dX12_differ_16 rfl rfl ⟨rfl, rfl⟩ ⟨Nat.zero_le _, Nat.zero_le _⟩ (zO.rf hh)) (fun x_8 hp_8 => ?_)
        obtain ⟨hp_8_1, hp_8_2⟩ := hp_8
        refine lv_iload_n hx hb dX12_differ_19 rfl (lv_at hl 2 rfl) ?_
        obtain ⟨q_9, s_9, k_q_9⟩ := HT.atR hT0 kh0 rfl (j := 2) (by decide) rfl
        refine zkPI (zrV (rest := [.int v4_1]) B (c_X12_of l E hV H0 hT0 h0 kh0 x_8 (by omega) (by omega) v4_2 (by omega) (by omega) q_9 k_q_9 s_9) cl_RX12_257 hT0 kh0 rfl rfl rfl rfl hl.1 rfl (Nat.le_of_ble_eq_true rfl) dX12_differ_20 rfl rfl ⟨rfl, rfl⟩ ⟨Nat.zero_le _, Nat.zero_le _⟩ (zO.rf hh)) (fun x_10 hp_10 => ?_)
        obtain ⟨hp_10_1, hp_10_2⟩ := hp_10
        refine lv_aload_n hx hb dX12_differ_23 rfl (lv_at hl 0 rfl) ?_
        refine lv_aload_n hx hb dX12_differ_24 rfl (lv_at hl 0 rfl) ?_
        refine lv_iconst (v := 1) hx hb dX12_differ_25 (by decide) ?_
        have := kl_1
        refine zkPI (zrV (rest := [.ref h0, .int x_10, .int v4_1]) B (c_X12_boardOf l E hV H0 hT0 h0 kh0 1 (by omega) (by omega)) cl_RX12_314 hT0 kh0 rfl rfl rfl rfl hl.1 rfl (Nat.le_of_ble_eq_true rfl) dX12_differ_26 rfl rfl ⟨rfl, rfl⟩ ⟨Nat.zero_le _, Nat.zero_le _⟩ (zO.rf hh)) (fun x_11 hp_11 => ?_)
        obtain ⟨hp_11_1, hp_11_2⟩ := hp_11
        refine lv_iload_n hx hb dX12_differ_29 rfl (lv_at hl 2 rfl) ?_
        refine zkPI (zrV (rest := [.int x_10, .int v4_1]) B (c_X12_of l E hV H0 hT0 h0 kh0 x_11 (by omega) (by omega) v4_2 (by omega) (by omega) q_9 k_q_9 s_9) cl_RX12_257 hT0 kh0 rfl rfl rfl rfl hl.1 rfl (Nat.le_of_ble_eq_true rfl) dX12_differ_30 rfl rfl ⟨rfl, rfl⟩ ⟨Nat.zero_le _, Nat.zero_le _⟩ (zO.rf hh)) (fun x_12 hp_12 => ?_)
        obtain ⟨hp_12_1, hp_12_2⟩ := hp_12
        refine lv_icmp_ne (tgt := 40) hx hb dX12_differ_33 (by decide) (fun c_13 => ?_) (fun c_13 => ?_)
        · have f_13 := z_ne c_13 rfl rfl
          refine lv_iconst (v := 1) hx hb dX12_differ_40 (by decide) ?_
          have := kl_1
          exact b41 ls 1 (lv_sub hl [0, 2] rfl) (by omega) (by omega) (by omega)
        · have f_13 := z_eq c_13 rfl rfl
          refine lv_iconst (v := 0) hx hb dX12_differ_36 (by decide) ?_
          refine lv_goto (tgt := 41) hx hb dX12_differ_37 (by decide) ?_
          have := kl_0
          exact b41 ls 0 (lv_sub hl [0, 2] rfl) (by omega) (by omega) (by omega)
  refine lv_iconst (v := 0) hx hb dX12_differ_0 (by decide) ?_
  refine lv_istore_n (lv' := [(1, .int 0), (0, .ref h0)]) hx hb dX12_differ_1 rfl hl (by decide) rfl (fun ls hl => ?_)
  refine lv_iconst (v := 0) hx hb dX12_differ_2 (by decide) ?_
  refine lv_istore_n (lv' := [(2, .int 0), (1, .int 0), (0, .ref h0)]) hx hb dX12_differ_3 rfl hl (by decide) rfl (fun ls hl => ?_)
  have := kl_0
  have := kl_0
  exact b4 31 ls 0 0 (by omega) (lv_sub hl [2, 1, 0] rfl) (by omega) (by omega)

theorem dX12_since_0 : decode cX12_since 0 = .ok (.aload_n 0, 1) := by decide +kernel
theorem dX12_since_1 : decode cX12_since 1 = .ok (.getfield 305, 3) := by decide +kernel
theorem dX12_since_4 : decode cX12_since 4 = .ok (.istore_n 1, 1) := by decide +kernel
theorem dX12_since_5 : decode cX12_since 5 = .ok (.iload_n 1, 1) := by decide +kernel
theorem dX12_since_6 : decode cX12_since 6 = .ok (.ifCond .lt 24, 3) := by decide +kernel
theorem dX12_since_9 : decode cX12_since 9 = .ok (.aload_n 0, 1) := by decide +kernel
theorem dX12_since_10 : decode cX12_since 10 = .ok (.iconst 2, 1) := by decide +kernel
theorem dX12_since_11 : decode cX12_since 11 = .ok (.iload_n 1, 1) := by decide +kernel
theorem dX12_since_12 : decode cX12_since 12 = .ok (.imul, 1) := by decide +kernel
theorem dX12_since_13 : decode cX12_since 13 = .ok (.iconst 2, 1) := by decide +kernel
theorem dX12_since_14 : decode cX12_since 14 = .ok (.iload_n 1, 1) := by decide +kernel
theorem dX12_since_15 : decode cX12_since 15 = .ok (.imul, 1) := by decide +kernel
theorem dX12_since_16 : decode cX12_since 16 = .ok (.iconst 1, 1) := by decide +kernel
theorem dX12_since_17 : decode cX12_since 17 = .ok (.iadd, 1) := by decide +kernel
theorem dX12_since_18 : decode cX12_since 18 = .ok (.invokevirtual 341, 3) := by decide +kernel
theorem dX12_since_21 : decode cX12_since 21 = .ok (.ifCond .ne 9, 3) := by decide +kernel
theorem dX12_since_24 : decode cX12_since 24 = .ok (.iinc 1 (-1), 3) := by decide +kernel
theorem dX12_since_27 : decode cX12_since 27 = .ok (.goto (-22), 3) := by decide +kernel
theorem dX12_since_30 : decode cX12_since 30 = .ok (.iload_n 1, 1) := by decide +kernel
theorem dX12_since_31 : decode cX12_since 31 = .ok (.aload_n 0, 1) := by decide +kernel
theorem dX12_since_32 : decode cX12_since 32 = .ok (.getfield 305, 3) := by decide +kernel
theorem dX12_since_35 : decode cX12_since 35 = .ok (.if_icmp .ne 7, 3) := by decide +kernel
theorem dX12_since_38 : decode cX12_since 38 = .ok (.iconst (-1), 1) := by decide +kernel
theorem dX12_since_39 : decode cX12_since 39 = .ok (.goto 4, 3) := by decide +kernel
theorem dX12_since_42 : decode cX12_since 42 = .ok (.iload_n 1, 1) := by decide +kernel
theorem dX12_since_43 : decode cX12_since 43 = .ok (.ireturn, 1) := by decide +kernel
def rm_X12_since : Room := { frames := 2, cells := 0, slots := 0, locals := 45 }
set_option maxRecDepth 100000 in
set_option maxHeartbeats 4000000 in
theorem c_X12_since (l : Launch) (E : zE) (hV : zV E) (H0 : Heap) (hT0 : HT E H0) (h0 : Nat) (kh0 : eK E h0 = 13) : Met l yX12_since (zws yX12_since cX12_since 2 (some .int)) rm_X12_since (zP E H0 [.ref h0]) (zPI (fun r => (-1) ≤ r.toInt ∧ r.toInt ≤ 60)) 0 0 (fun _ => False) := by
  refine zEnt (by decide) (Nat.le_of_ble_eq_true rfl) (fun p e s m args below meth c ls Q B hr hlk hh hQ hl => ?_)
  have hx := B.1
  have hb := B.2.1
  have hl : lv_has ls 2 [(0, .ref h0)] := hl
  have b30 : ∀ (ls : Array Slot) (v30_1 : Int32) (u30_h0_37 : Int32), lv_has ls 2 [(0, .ref h0), (1, .int v30_1)] → (-1) ≤ v30_1.toInt → v30_1.toInt ≤ 60 → 0 ≤ u30_h0_37.toInt → u30_h0_37.toInt ≤ 60 → sl H0 h0 (zix E 13 37) = some (.int u30_h0_37) → W p l e rm_X12_since s m args below meth c H0 [] 0 0 Q (F0 m 30 ls []) := by
    intro ls v30_1 u30_h0_37 hl f30_1 f30_2 f30_3 f30_4 s30_u30_h0_37
    refine lv_iload_n hx hb dX12_since_30 rfl (lv_at hl 1 rfl) ?_
    refine lv_aload_n hx hb dX12_since_31 rfl (lv_at hl 0 rfl) ?_
    refine g_get B fl_RX12_305 hT0 kh0 rfl rfl rfl dX12_since_32 s30_u30_h0_37 ?_
    refine lv_icmp_ne (tgt := 42) hx hb dX12_since_35 (by decide) (fun c_1 => ?_) (fun c_1 => ?_)
    · have f_1 := z_ne c_1 rfl rfl
      refine lv_iload_n hx hb dX12_since_42 rfl (lv_at hl 1 rfl) ?_
      exact rtPI (v := v30_1) B hr hlk hh hQ rfl ⟨by omega, by omega⟩ dX12_since_43
    · have f_1 := z_eq c_1 rfl rfl
      refine lv_iconst (v := (-1)) hx hb dX12_since_38 (by decide) ?_
      refine lv_goto (tgt := 43) hx hb dX12_since_39 (by decide) ?_
      have := kl_m1
      have := kl_m1
      exact rtPI (v := (-1)) B hr hlk hh hQ rfl ⟨by omega, by omega⟩ dX12_since_43
  have b5 : ∀ (n5 : Nat) (ls : Array Slot) (v5_1 : Int32) (u5_h0_37 : Int32), v5_1.toInt - (-1) < (n5 : Int) → lv_has ls 2 [(0, .ref h0), (1, .int v5_1)] → (-1) ≤ v5_1.toInt → v5_1.toInt ≤ 60 → 0 ≤ u5_h0_37.toInt → u5_h0_37.toInt ≤ 60 → sl H0 h0 (zix E 13 37) = some (.int u5_h0_37) → W p l e rm_X12_since s m args below meth c H0 [] 0 0 Q (F0 m 5 ls []) := by
    intro n5
    induction n5 with
    | zero =>
      intro ls v5_1 u5_h0_37 hm5 hl f5_1 f5_2 f5_3 f5_4 s5_u5_h0_37
      exact absurd hm5 (by omega)
    | succ n5 ih5 =>
      intro ls v5_1 u5_h0_37 hm5 hl f5_1 f5_2 f5_3 f5_4 s5_u5_h0_37
      refine lv_iload_n hx hb dX12_since_5 rfl (lv_at hl 1 rfl) ?_
      refine lv_if_lt (tgt := 30) hx hb dX12_since_6 (by decide) (fun c_2 => ?_) (fun c_2 => ?_)
      · have f_2 := z_lt c_2 rfl kl_0
        exact b30 ls v5_1 u5_h0_37 (lv_sub hl [0, 1] rfl) (by omega) (by omega) (by omega) (by omega) s5_u5_h0_37
      · have f_2 := z_nlt c_2 rfl kl_0
        refine lv_aload_n hx hb dX12_since_9 rfl (lv_at hl 0 rfl) ?_
        refine lv_iconst (v := 2) hx hb dX12_since_10 (by decide) ?_
        refine lv_iload_n hx hb dX12_since_11 rfl (lv_at hl 1 rfl) ?_
        refine lv_imul hx hb dX12_since_12 ?_
        refine lv_topi (fun x_3 e_3 => ?_)
        have t_3 := z_mul e_3 kl_2 rfl (by omega) (by omega)
        refine lv_iconst (v := 2) hx hb dX12_since_13 (by decide) ?_
        refine lv_iload_n hx hb dX12_since_14 rfl (lv_at hl 1 rfl) ?_
        refine lv_imul hx hb dX12_since_15 ?_
        refine lv_topi (fun x_4 e_4 => ?_)
        have t_4 := z_mul e_4 kl_2 rfl (by omega) (by omega)
        refine lv_iconst (v := 1) hx hb dX12_since_16 (by decide) ?_
        refine lv_iadd hx hb dX12_since_17 ?_
        refine lv_topi (fun x_5 e_5 => ?_)
        have t_5 := z_add e_5 rfl kl_1 (by omega) (by omega)
        refine zkPI (zrV (rest := []) B (c_X12_areAlike l E hV H0 hT0 h0 kh0 x_3 (by omega) (by omega) x_5 (by omega) (by omega)) cl_RX12_341 hT0 kh0 rfl rfl rfl rfl hl.1 rfl (Nat.le_of_ble_eq_true rfl) dX12_since_18 rfl rfl ⟨rfl, rfl⟩ ⟨Nat.zero_le _, Nat.zero_le _⟩ (zO.rf hh)) (fun x_6 hp_6 => ?_)
        obtain ⟨hp_6_1, hp_6_2⟩ := hp_6
        refine lv_if_ne (tgt := 30) hx hb dX12_since_21 (by decide) (fun c_7 => ?_) (fun c_7 => ?_)
        · have f_7 := z_ne c_7 rfl kl_0
          exact b30 ls v5_1 u5_h0_37 (lv_sub hl [0, 1] rfl) (by omega) (by omega) (by omega) (by omega) s5_u5_h0_37
        · have f_7 := z_eq c_7 rfl kl_0
          obtain ⟨x_8, e_8⟩ : ∃ y : Int32, (v5_1 : Int32) + Int32.ofInt (-1) = y := ⟨_, rfl⟩
          refine lv_iinc (v := x_8) (lv' := [(1, .int x_8), (0, .ref h0)]) hx hb dX12_since_24 hl (k := 1) rfl e_8 (by decide) rfl (fun ls hl => ?_)
          have t_8 := z_inc2 e_8 rfl (by decide) (by omega) (by omega)
          refine lv_goto (tgt := 5) hx hb dX12_since_27 (by decide) ?_
          exact ih5 ls x_8 u5_h0_37 (by omega) (lv_sub hl [1, 0] rfl) (by omega) (by omega) (by omega) (by omega) s5_u5_h0_37
  refine lv_aload_n hx hb dX12_since_0 rfl (lv_at hl 0 rfl) ?_
  refine g_getI B fl_RX12_305 hT0 kh0 rfl rfl rfl rfl rfl dX12_since_1 (fun x_9 s_9 a_9 b_9 => ?_)
  refine lv_istore_n (lv' := [(1, .int x_9), (0, .ref h0)]) hx hb dX12_since_4 rfl hl (by decide) rfl (fun ls hl => ?_)
  exact b5 62 ls x_9 x_9 (by omega) (lv_sub hl [1, 0] rfl) (by omega) (by omega) (by omega) (by omega) s_9

theorem dX12_couldBe_0 : decode cX12_couldBe 0 = .ok (.aload_n 0, 1) := by decide +kernel
theorem dX12_couldBe_1 : decode cX12_couldBe 1 = .ok (.aload_n 0, 1) := by decide +kernel
theorem dX12_couldBe_2 : decode cX12_couldBe 2 = .ok (.aload_n 0, 1) := by decide +kernel
theorem dX12_couldBe_3 : decode cX12_couldBe 3 = .ok (.getfield 217, 3) := by decide +kernel
theorem dX12_couldBe_6 : decode cX12_couldBe 6 = .ok (.invokevirtual 207, 3) := by decide +kernel
theorem dX12_couldBe_9 : decode cX12_couldBe 9 = .ok (.sipush 192, 3) := by decide +kernel
theorem dX12_couldBe_12 : decode cX12_couldBe 12 = .ok (.invokevirtual 326, 3) := by decide +kernel
theorem dX12_couldBe_15 : decode cX12_couldBe 15 = .ok (.iconst 0, 1) := by decide +kernel
theorem dX12_couldBe_16 : decode cX12_couldBe 16 = .ok (.istore_n 3, 1) := by decide +kernel
theorem dX12_couldBe_17 : decode cX12_couldBe 17 = .ok (.iconst 0, 1) := by decide +kernel
theorem dX12_couldBe_18 : decode cX12_couldBe 18 = .ok (.istore 4, 2) := by decide +kernel
theorem dX12_couldBe_20 : decode cX12_couldBe 20 = .ok (.iload 4, 2) := by decide +kernel
theorem dX12_couldBe_22 : decode cX12_couldBe 22 = .ok (.aload_n 0, 1) := by decide +kernel
theorem dX12_couldBe_23 : decode cX12_couldBe 23 = .ok (.getfield 305, 3) := by decide +kernel
theorem dX12_couldBe_26 : decode cX12_couldBe 26 = .ok (.if_icmp .ge 28, 3) := by decide +kernel
theorem dX12_couldBe_29 : decode cX12_couldBe 29 = .ok (.iload_n 3, 1) := by decide +kernel
theorem dX12_couldBe_30 : decode cX12_couldBe 30 = .ok (.aload_n 0, 1) := by decide +kernel
theorem dX12_couldBe_31 : decode cX12_couldBe 31 = .ok (.getfield 74, 3) := by decide +kernel
theorem dX12_couldBe_34 : decode cX12_couldBe 34 = .ok (.iload 4, 2) := by decide +kernel
theorem dX12_couldBe_36 : decode cX12_couldBe 36 = .ok (.iaload, 1) := by decide +kernel
theorem dX12_couldBe_37 : decode cX12_couldBe 37 = .ok (.iload_n 1, 1) := by decide +kernel
theorem dX12_couldBe_38 : decode cX12_couldBe 38 = .ok (.if_icmp .ne 7, 3) := by decide +kernel
theorem dX12_couldBe_41 : decode cX12_couldBe 41 = .ok (.iconst 1, 1) := by decide +kernel
theorem dX12_couldBe_42 : decode cX12_couldBe 42 = .ok (.goto 4, 3) := by decide +kernel
theorem dX12_couldBe_45 : decode cX12_couldBe 45 = .ok (.iconst 0, 1) := by decide +kernel
theorem dX12_couldBe_46 : decode cX12_couldBe 46 = .ok (.iadd, 1) := by decide +kernel
theorem dX12_couldBe_47 : decode cX12_couldBe 47 = .ok (.istore_n 3, 1) := by decide +kernel
theorem dX12_couldBe_48 : decode cX12_couldBe 48 = .ok (.iinc 4 1, 3) := by decide +kernel
theorem dX12_couldBe_51 : decode cX12_couldBe 51 = .ok (.goto (-31), 3) := by decide +kernel
theorem dX12_couldBe_54 : decode cX12_couldBe 54 = .ok (.iconst 0, 1) := by decide +kernel
theorem dX12_couldBe_55 : decode cX12_couldBe 55 = .ok (.istore 4, 2) := by decide +kernel
theorem dX12_couldBe_57 : decode cX12_couldBe 57 = .ok (.iconst 0, 1) := by decide +kernel
theorem dX12_couldBe_58 : decode cX12_couldBe 58 = .ok (.istore 5, 2) := by decide +kernel
theorem dX12_couldBe_60 : decode cX12_couldBe 60 = .ok (.iload 5, 2) := by decide +kernel
theorem dX12_couldBe_62 : decode cX12_couldBe 62 = .ok (.aload_n 0, 1) := by decide +kernel
theorem dX12_couldBe_63 : decode cX12_couldBe 63 = .ok (.getfield 305, 3) := by decide +kernel
theorem dX12_couldBe_66 : decode cX12_couldBe 66 = .ok (.if_icmp .ge 174, 3) := by decide +kernel
theorem dX12_couldBe_69 : decode cX12_couldBe 69 = .ok (.aload_n 0, 1) := by decide +kernel
theorem dX12_couldBe_70 : decode cX12_couldBe 70 = .ok (.getfield 74, 3) := by decide +kernel
theorem dX12_couldBe_73 : decode cX12_couldBe 73 = .ok (.iload 5, 2) := by decide +kernel
theorem dX12_couldBe_75 : decode cX12_couldBe 75 = .ok (.iaload, 1) := by decide +kernel
theorem dX12_couldBe_76 : decode cX12_couldBe 76 = .ok (.iload_n 1, 1) := by decide +kernel
theorem dX12_couldBe_77 : decode cX12_couldBe 77 = .ok (.if_icmp .ne 100, 3) := by decide +kernel
theorem dX12_couldBe_80 : decode cX12_couldBe 80 = .ok (.iload_n 3, 1) := by decide +kernel
theorem dX12_couldBe_81 : decode cX12_couldBe 81 = .ok (.bipush 6, 2) := by decide +kernel
theorem dX12_couldBe_83 : decode cX12_couldBe 83 = .ok (.if_icmp .ge 8, 3) := by decide +kernel
theorem dX12_couldBe_86 : decode cX12_couldBe 86 = .ok (.iload 4, 2) := by decide +kernel
theorem dX12_couldBe_88 : decode cX12_couldBe 88 = .ok (.goto 10, 3) := by decide +kernel
theorem dX12_couldBe_91 : decode cX12_couldBe 91 = .ok (.iload 4, 2) := by decide +kernel
theorem dX12_couldBe_93 : decode cX12_couldBe 93 = .ok (.iload_n 3, 1) := by decide +kernel
theorem dX12_couldBe_94 : decode cX12_couldBe 94 = .ok (.bipush 6, 2) := by decide +kernel
theorem dX12_couldBe_96 : decode cX12_couldBe 96 = .ok (.isub, 1) := by decide +kernel
theorem dX12_couldBe_97 : decode cX12_couldBe 97 = .ok (.isub, 1) := by decide +kernel
theorem dX12_couldBe_98 : decode cX12_couldBe 98 = .ok (.istore 6, 2) := by decide +kernel
theorem dX12_couldBe_100 : decode cX12_couldBe 100 = .ok (.iload 6, 2) := by decide +kernel
theorem dX12_couldBe_102 : decode cX12_couldBe 102 = .ok (.ifCond .lt 20, 3) := by decide +kernel
theorem dX12_couldBe_105 : decode cX12_couldBe 105 = .ok (.iload_n 2, 1) := by decide +kernel
theorem dX12_couldBe_106 : decode cX12_couldBe 106 = .ok (.iload 6, 2) := by decide +kernel
theorem dX12_couldBe_108 : decode cX12_couldBe 108 = .ok (.ishr, 1) := by decide +kernel
theorem dX12_couldBe_109 : decode cX12_couldBe 109 = .ok (.iconst 1, 1) := by decide +kernel
theorem dX12_couldBe_110 : decode cX12_couldBe 110 = .ok (.iand, 1) := by decide +kernel
theorem dX12_couldBe_111 : decode cX12_couldBe 111 = .ok (.ifCond .ne 7, 3) := by decide +kernel
theorem dX12_couldBe_114 : decode cX12_couldBe 114 = .ok (.iconst 1, 1) := by decide +kernel
theorem dX12_couldBe_115 : decode cX12_couldBe 115 = .ok (.goto 14, 3) := by decide +kernel
theorem dX12_couldBe_118 : decode cX12_couldBe 118 = .ok (.iconst 0, 1) := by decide +kernel
theorem dX12_couldBe_119 : decode cX12_couldBe 119 = .ok (.goto 10, 3) := by decide +kernel
theorem dX12_couldBe_122 : decode cX12_couldBe 122 = .ok (.aload_n 0, 1) := by decide +kernel
theorem dX12_couldBe_123 : decode cX12_couldBe 123 = .ok (.getfield 80, 3) := by decide +kernel
theorem dX12_couldBe_126 : decode cX12_couldBe 126 = .ok (.iload 5, 2) := by decide +kernel
theorem dX12_couldBe_128 : decode cX12_couldBe 128 = .ok (.baload, 1) := by decide +kernel
theorem dX12_couldBe_129 : decode cX12_couldBe 129 = .ok (.istore 7, 2) := by decide +kernel
theorem dX12_couldBe_131 : decode cX12_couldBe 131 = .ok (.iinc 4 1, 3) := by decide +kernel
theorem dX12_couldBe_134 : decode cX12_couldBe 134 = .ok (.iload 7, 2) := by decide +kernel
theorem dX12_couldBe_136 : decode cX12_couldBe 136 = .ok (.ifCond .eq 38, 3) := by decide +kernel
theorem dX12_couldBe_139 : decode cX12_couldBe 139 = .ok (.aload_n 0, 1) := by decide +kernel
theorem dX12_couldBe_140 : decode cX12_couldBe 140 = .ok (.sipush 192, 3) := by decide +kernel
theorem dX12_couldBe_143 : decode cX12_couldBe 143 = .ok (.invokevirtual 281, 3) := by decide +kernel
theorem dX12_couldBe_146 : decode cX12_couldBe 146 = .ok (.iload_n 1, 1) := by decide +kernel
theorem dX12_couldBe_147 : decode cX12_couldBe 147 = .ok (.if_icmp .ne 27, 3) := by decide +kernel
theorem dX12_couldBe_150 : decode cX12_couldBe 150 = .ok (.aload_n 0, 1) := by decide +kernel
theorem dX12_couldBe_151 : decode cX12_couldBe 151 = .ok (.sipush 192, 3) := by decide +kernel
theorem dX12_couldBe_154 : decode cX12_couldBe 154 = .ok (.aload_n 0, 1) := by decide +kernel
theorem dX12_couldBe_155 : decode cX12_couldBe 155 = .ok (.getfield 77, 3) := by decide +kernel
theorem dX12_couldBe_158 : decode cX12_couldBe 158 = .ok (.iload 5, 2) := by decide +kernel
theorem dX12_couldBe_160 : decode cX12_couldBe 160 = .ok (.iaload, 1) := by decide +kernel
theorem dX12_couldBe_161 : decode cX12_couldBe 161 = .ok (.invokevirtual 317, 3) := by decide +kernel
theorem dX12_couldBe_164 : decode cX12_couldBe 164 = .ok (.ifCond .eq 10, 3) := by decide +kernel
theorem dX12_couldBe_167 : decode cX12_couldBe 167 = .ok (.aload_n 0, 1) := by decide +kernel
theorem dX12_couldBe_168 : decode cX12_couldBe 168 = .ok (.sipush 192, 3) := by decide +kernel
theorem dX12_couldBe_171 : decode cX12_couldBe 171 = .ok (.invokevirtual 332, 3) := by decide +kernel
theorem dX12_couldBe_174 : decode cX12_couldBe 174 = .ok (.goto 60, 3) := by decide +kernel
theorem dX12_couldBe_177 : decode cX12_couldBe 177 = .ok (.aload_n 0, 1) := by decide +kernel
theorem dX12_couldBe_178 : decode cX12_couldBe 178 = .ok (.getfield 74, 3) := by decide +kernel
theorem dX12_couldBe_181 : decode cX12_couldBe 181 = .ok (.iload 5, 2) := by decide +kernel
theorem dX12_couldBe_183 : decode cX12_couldBe 183 = .ok (.iaload, 1) := by decide +kernel
theorem dX12_couldBe_184 : decode cX12_couldBe 184 = .ok (.ifCond .lt 50, 3) := by decide +kernel
theorem dX12_couldBe_187 : decode cX12_couldBe 187 = .ok (.aload_n 0, 1) := by decide +kernel
theorem dX12_couldBe_188 : decode cX12_couldBe 188 = .ok (.getfield 80, 3) := by decide +kernel
theorem dX12_couldBe_191 : decode cX12_couldBe 191 = .ok (.iload 5, 2) := by decide +kernel
theorem dX12_couldBe_193 : decode cX12_couldBe 193 = .ok (.baload, 1) := by decide +kernel
theorem dX12_couldBe_194 : decode cX12_couldBe 194 = .ok (.ifCond .eq 40, 3) := by decide +kernel
theorem dX12_couldBe_197 : decode cX12_couldBe 197 = .ok (.aload_n 0, 1) := by decide +kernel
theorem dX12_couldBe_198 : decode cX12_couldBe 198 = .ok (.sipush 192, 3) := by decide +kernel
theorem dX12_couldBe_201 : decode cX12_couldBe 201 = .ok (.invokevirtual 281, 3) := by decide +kernel
theorem dX12_couldBe_204 : decode cX12_couldBe 204 = .ok (.iload_n 1, 1) := by decide +kernel
theorem dX12_couldBe_205 : decode cX12_couldBe 205 = .ok (.if_icmp .eq 20, 3) := by decide +kernel
theorem dX12_couldBe_208 : decode cX12_couldBe 208 = .ok (.aload_n 0, 1) := by decide +kernel
theorem dX12_couldBe_209 : decode cX12_couldBe 209 = .ok (.sipush 192, 3) := by decide +kernel
theorem dX12_couldBe_212 : decode cX12_couldBe 212 = .ok (.aload_n 0, 1) := by decide +kernel
theorem dX12_couldBe_213 : decode cX12_couldBe 213 = .ok (.getfield 77, 3) := by decide +kernel
theorem dX12_couldBe_216 : decode cX12_couldBe 216 = .ok (.iload 5, 2) := by decide +kernel
theorem dX12_couldBe_218 : decode cX12_couldBe 218 = .ok (.iaload, 1) := by decide +kernel
theorem dX12_couldBe_219 : decode cX12_couldBe 219 = .ok (.invokevirtual 317, 3) := by decide +kernel
theorem dX12_couldBe_222 : decode cX12_couldBe 222 = .ok (.ifCond .ne 5, 3) := by decide +kernel
theorem dX12_couldBe_225 : decode cX12_couldBe 225 = .ok (.iconst 0, 1) := by decide +kernel
theorem dX12_couldBe_226 : decode cX12_couldBe 226 = .ok (.ireturn, 1) := by decide +kernel
theorem dX12_couldBe_227 : decode cX12_couldBe 227 = .ok (.aload_n 0, 1) := by decide +kernel
theorem dX12_couldBe_228 : decode cX12_couldBe 228 = .ok (.sipush 192, 3) := by decide +kernel
theorem dX12_couldBe_231 : decode cX12_couldBe 231 = .ok (.invokevirtual 332, 3) := by decide +kernel
theorem dX12_couldBe_234 : decode cX12_couldBe 234 = .ok (.iinc 5 1, 3) := by decide +kernel
theorem dX12_couldBe_237 : decode cX12_couldBe 237 = .ok (.goto (-177), 3) := by decide +kernel
theorem dX12_couldBe_240 : decode cX12_couldBe 240 = .ok (.iconst 1, 1) := by decide +kernel
theorem dX12_couldBe_241 : decode cX12_couldBe 241 = .ok (.ireturn, 1) := by decide +kernel
def rm_X12_couldBe : Room := { frames := 5, cells := 0, slots := 0, locals := 128 }
abbrev wS_X12_couldBe : List (Nat × Nat) := [(13, 28), (13, 29), (60, 99)]
set_option maxRecDepth 100000 in
set_option maxHeartbeats 4000000 in
theorem c_X12_couldBe (l : Launch) (E : zE) (hV : zV E) (H0 : Heap) (hT0 : HT E H0) (h0 : Nat) (kh0 : eK E h0 = 13) (p0 : Int32) (p0_lo : 0 ≤ p0.toInt) (p0_hi : p0.toInt ≤ 1) (p1 : Int32) : Met l yX12_couldBe (zws yX12_couldBe cX12_couldBe 8 (some .boolean)) rm_X12_couldBe (zP E H0 [.ref h0, .int p0, .int p1]) (zQI E E wS_X12_couldBe (fun r H1 => 0 ≤ r.toInt ∧ r.toInt ≤ 1)) 0 0 (zfr E) := by
  refine zEnt (by decide) (Nat.le_of_ble_eq_true rfl) (fun p e s m args below meth c ls Q B hr hlk hh hQ hl => ?_)
  have hx := B.1
  have hb := B.2.1
  have hG0 : zG E wS_X12_couldBe H0 H0 [] := zG.rf hT0
  have hl : lv_has ls 8 [(0, .ref h0), (1, .int p0), (2, .int p1)] := hl
  have b60 : ∀ (n60 : Nat) (H60 : Heap) (lc60 : List Loc) (ls : Array Slot) (v60_3 : Int32) (v60_4 : Int32) (v60_5 : Int32) (u60_h0_37 : Int32), 60 - v60_5.toInt < (n60 : Int) → zG E wS_X12_couldBe H0 H60 lc60 → lv_has ls 8 [(0, .ref h0), (1, .int p0), (2, .int p1), (3, .int v60_3), (4, .int v60_4), (5, .int v60_5)] → 0 ≤ v60_5.toInt → v60_5.toInt ≤ 60 → 0 ≤ u60_h0_37.toInt → u60_h0_37.toInt ≤ 60 → sl H60 h0 (zix E 13 37) = some (.int u60_h0_37) → W p l e rm_X12_couldBe s m args below meth c H60 lc60 0 0 Q (F0 m 60 ls []) := by
    intro n60
    induction n60 with
    | zero =>
      intro H60 lc60 ls v60_3 v60_4 v60_5 u60_h0_37 hm60 gH60 hl f60_1 f60_2 f60_3 f60_4 s60_u60_h0_37
      exact absurd hm60 (by omega)
    | succ n60 ih60 =>
      intro H60 lc60 ls v60_3 v60_4 v60_5 u60_h0_37 hm60 gH60 hl f60_1 f60_2 f60_3 f60_4 s60_u60_h0_37
      have b234 : ∀ (H234 : Heap) (lc234 : List Loc) (ls : Array Slot) (v234_4 : Int32) (u234_h0_33 : Nat), zG E wS_X12_couldBe H0 H234 lc234 → lv_has ls 8 [(0, .ref h0), (1, .int p0), (2, .int p1), (3, .int v60_3), (4, .int v234_4), (5, .int v60_5)] → eK E u234_h0_33 = 77 → v60_5.toInt ≤ 59 → 1 ≤ u60_h0_37.toInt → sl H234 h0 (zix E 13 37) = some (.int u60_h0_37) → sl H234 h0 (zix E 13 33) = some (.ref u234_h0_33) → W p l e rm_X12_couldBe s m args below meth c H234 lc234 0 0 Q (F0 m 234 ls []) := by
        intro H234 lc234 ls v234_4 u234_h0_33 gH234 hl k_u234_h0_33 f234_1 f234_2 s234_u234_h0_37 s234_u234_h0_33
        obtain ⟨x_1, e_1⟩ : ∃ y : Int32, (v60_5 : Int32) + Int32.ofInt 1 = y := ⟨_, rfl⟩
        refine lv_iinc (v := x_1) (lv' := [(5, .int x_1), (0, .ref h0), (1, .int p0), (2, .int p1), (3, .int v60_3), (4, .int v234_4)]) hx hb dX12_couldBe_234 hl (k := 5) rfl e_1 (by decide) rfl (fun ls hl => ?_)
        have t_1 := z_inc2 e_1 rfl (by decide) (by omega) (by omega)
        refine lv_goto (tgt := 60) hx hb dX12_couldBe_237 (by decide) ?_
        exact ih60 H234 lc234 ls v60_3 v234_4 x_1 u60_h0_37 (by omega) gH234 (lv_sub hl [1, 2, 3, 4, 5, 0] rfl) (by omega) (by omega) (by omega) (by omega) s234_u234_h0_37
      have b174 : ∀ (H174 : Heap) (lc174 : List Loc) (ls : Array Slot) (v174_4 : Int32) (u174_h0_33 : Nat), zG E wS_X12_couldBe H0 H174 lc174 → lv_has ls 8 [(0, .ref h0), (1, .int p0), (2, .int p1), (3, .int v60_3), (4, .int v174_4), (5, .int v60_5)] → eK E u174_h0_33 = 77 → v60_5.toInt ≤ 59 → 1 ≤ u60_h0_37.toInt → sl H174 h0 (zix E 13 37) = some (.int u60_h0_37) → sl H174 h0 (zix E 13 33) = some (.ref u174_h0_33) → W p l e rm_X12_couldBe s m args below meth c H174 lc174 0 0 Q (F0 m 174 ls []) := by
        intro H174 lc174 ls v174_4 u174_h0_33 gH174 hl k_u174_h0_33 f174_1 f174_2 s174_u174_h0_37 s174_u174_h0_33
        refine lv_goto (tgt := 234) hx hb dX12_couldBe_174 (by decide) ?_
        exact b234 H174 lc174 ls v174_4 u174_h0_33 gH174 (lv_sub hl [0, 1, 2, 3, 4, 5] rfl) k_u174_h0_33 (by omega) (by omega) s174_u174_h0_37 s174_u174_h0_33
      have b129 : ∀ (ls : Array Slot) (w129_0 : Int32) (u129_h0_33 : Nat), lv_has ls 8 [(0, .ref h0), (1, .int p0), (2, .int p1), (3, .int v60_3), (4, .int v60_4), (5, .int v60_5)] → eK E u129_h0_33 = 77 → v60_5.toInt ≤ 59 → 0 ≤ w129_0.toInt → w129_0.toInt ≤ 1 → 1 ≤ u60_h0_37.toInt → sl H60 h0 (zix E 13 37) = some (.int u60_h0_37) → sl H60 h0 (zix E 13 33) = some (.ref u129_h0_33) → W p l e rm_X12_couldBe s m args below meth c H60 lc60 0 0 Q (F0 m 129 ls [.int w129_0]) := by
        intro ls w129_0 u129_h0_33 hl k_u129_h0_33 f129_1 f129_2 f129_3 f129_4 s129_u129_h0_37 s129_u129_h0_33
        refine lv_istore (lv' := [(7, .int w129_0), (0, .ref h0), (1, .int p0), (2, .int p1), (3, .int v60_3), (4, .int v60_4), (5, .int v60_5)]) hx hb dX12_couldBe_129 hl (by decide) rfl (fun ls hl => ?_)
        obtain ⟨x_2, e_2⟩ : ∃ y : Int32, (v60_4 : Int32) + Int32.ofInt 1 = y := ⟨_, rfl⟩
        refine lv_iinc (v := x_2) (lv' := [(4, .int x_2), (7, .int w129_0), (0, .ref h0), (1, .int p0), (2, .int p1), (3, .int v60_3), (5, .int v60_5)]) hx hb dX12_couldBe_131 hl (k := 5) rfl e_2 (by decide) rfl (fun ls hl => ?_)
        refine lv_iload hx hb dX12_couldBe_134 (lv_at hl 1 rfl) ?_
        refine lv_if_eq (tgt := 174) hx hb dX12_couldBe_136 (by decide) (fun c_3 => ?_) (fun c_3 => ?_)
        · have f_3 := z_eq c_3 rfl kl_0
          exact b174 H60 lc60 ls x_2 u129_h0_33 gH60 (lv_sub hl [2, 3, 4, 5, 0, 6] rfl) k_u129_h0_33 (by omega) (by omega) s129_u129_h0_37 s129_u129_h0_33
        · have f_3 := z_ne c_3 rfl kl_0
          refine lv_aload_n hx hb dX12_couldBe_139 rfl (lv_at hl 2 rfl) ?_
          refine lv_sipush (v := 192) hx hb dX12_couldBe_140 (by decide) ?_
          have := kl_192
          refine zkPI (zrV (rest := []) B (c_X12_turnOf l E hV H60 gH60.1 h0 kh0 192 (by omega) (by omega)) cl_RX12_281 gH60.1 kh0 rfl rfl rfl rfl hl.1 rfl (Nat.le_of_ble_eq_true rfl) dX12_couldBe_143 rfl rfl ⟨rfl, rfl⟩ ⟨Nat.zero_le _, Nat.zero_le _⟩ (zO.of gH60 hh)) (fun x_4 hp_4 => ?_)
          refine lv_iload_n hx hb dX12_couldBe_146 rfl (lv_at hl 3 rfl) ?_
          refine lv_icmp_ne (tgt := 174) hx hb dX12_couldBe_147 (by decide) (fun c_5 => ?_) (fun c_5 => ?_)
          · have f_5 := z_ne c_5 rfl rfl
            exact b174 H60 lc60 ls x_2 u129_h0_33 gH60 (lv_sub hl [2, 3, 4, 5, 0, 6] rfl) k_u129_h0_33 (by omega) (by omega) s129_u129_h0_37 s129_u129_h0_33
          · have f_5 := z_eq c_5 rfl rfl
            refine lv_aload_n hx hb dX12_couldBe_150 rfl (lv_at hl 2 rfl) ?_
            refine lv_sipush (v := 192) hx hb dX12_couldBe_151 (by decide) ?_
            refine lv_aload_n hx hb dX12_couldBe_154 rfl (lv_at hl 2 rfl) ?_
            refine g_getR B fl_RX12_77 gH60.1 kh0 rfl rfl rfl rfl rfl dX12_couldBe_155 (fun q_6 s_6 k_q_6 => ?_)
            refine lv_iload hx hb dX12_couldBe_158 (lv_at hl 6 rfl) ?_
            refine g_ialdI (i := v60_5) (N := 60) B gH60.1 k_q_6 rfl rfl rfl rfl (by omega) (by omega) rfl dX12_couldBe_160 (fun x_7 s_7 a_7 b_7 => ?_)
            have := kl_192
            obtain ⟨q_8, s_8, k_q_8⟩ := HT.atR gH60.1 kh0 rfl (j := 12) (by decide) rfl
            obtain ⟨x_9, s_9, a_9, b_9⟩ := HT.atI gH60.1 kh0 rfl (j := 26) (by decide) rfl
            obtain ⟨x_10, s_10, a_10, b_10⟩ := HT.elI (i := x_9) (N := 2) gH60.1 k_q_8 rfl rfl rfl (by omega) (by omega) rfl
            refine zkI (zrV (rest := []) B (c_X12_findMove l E hV H60 gH60.1 h0 kh0 192 (by omega) (by omega) x_7 q_8 k_q_8 s_8 x_9 s_9 x_10 s_10) cl_RX12_317 gH60.1 kh0 rfl rfl rfl rfl hl.1 rfl (Nat.le_of_ble_eq_true rfl) dX12_couldBe_161 rfl rfl ⟨rfl, rfl⟩ ⟨Nat.zero_le _, Nat.zero_le _⟩ (zO.of gH60 hh)) gH60 rfl (fun x_11 H11 lc11 hp_11 gH11 rH11 => ?_)
            have s_12 := rH11.keep hV kh0 rfl s129_u129_h0_37
            have s_13 := rH11.keep hV kh0 rfl s129_u129_h0_33
            have s_14 := rH11.keep hV kh0 rfl s_6
            have s_15 := rH11.keepA k_q_6 rfl s_7
            have s_16 := rH11.keepA k_q_8 rfl s_10
            obtain ⟨hp_11_1, hp_11_2, hp_11_3⟩ := hp_11
            have := kl_192
            refine lv_if_eq (tgt := 174) hx hb dX12_couldBe_164 (by decide) (fun c_17 => ?_) (fun c_17 => ?_)
            · have f_17 := z_eq c_17 rfl kl_0
              exact b174 H11 lc11 ls x_2 u129_h0_33 gH11 (lv_sub hl [2, 3, 4, 5, 0, 6] rfl) k_u129_h0_33 (by omega) (by omega) s_12 s_13
            · have f_17 := z_ne c_17 rfl kl_0
              refine lv_aload_n hx hb dX12_couldBe_167 rfl (lv_at hl 2 rfl) ?_
              refine lv_sipush (v := 192) hx hb dX12_couldBe_168 (by decide) ?_
              have := kl_192
              refine zkV (zrV (rest := []) B (c_X12_makes l E hV H11 gH11.1 h0 kh0 192 (by omega) (by omega)) cl_RX12_332 gH11.1 kh0 rfl rfl rfl rfl hl.1 rfl (Nat.le_of_ble_eq_true rfl) dX12_couldBe_171 rfl rfl ⟨rfl, rfl⟩ ⟨Nat.zero_le _, Nat.zero_le _⟩ (zO.of gH11 hh)) gH11 rfl (fun H18 lc18 hp_18 gH18 rH18 => ?_)
              have s_19 := rH18.keep hV kh0 rfl s_12
              have s_20 := rH18.keep hV kh0 rfl s_13
              have s_21 := rH18.keep hV kh0 rfl s_14
              have s_22 := rH18.keepA k_q_6 rfl s_15
              have s_23 := rH18.keepA k_q_8 rfl s_16
              exact b174 H18 lc18 ls x_2 u129_h0_33 gH18 (lv_sub hl [2, 3, 4, 5, 0, 6] rfl) k_u129_h0_33 (by omega) (by omega) s_19 s_20
      have b98 : ∀ (ls : Array Slot) (w98_0 : Int32) (u98_h0_33 : Nat), lv_has ls 8 [(0, .ref h0), (1, .int p0), (2, .int p1), (3, .int v60_3), (4, .int v60_4), (5, .int v60_5)] → eK E u98_h0_33 = 77 → v60_5.toInt ≤ 59 → 1 ≤ u60_h0_37.toInt → sl H60 h0 (zix E 13 37) = some (.int u60_h0_37) → sl H60 h0 (zix E 13 33) = some (.ref u98_h0_33) → W p l e rm_X12_couldBe s m args below meth c H60 lc60 0 0 Q (F0 m 98 ls [.int w98_0]) := by
        intro ls w98_0 u98_h0_33 hl k_u98_h0_33 f98_1 f98_2 s98_u98_h0_37 s98_u98_h0_33
        refine lv_istore (lv' := [(6, .int w98_0), (0, .ref h0), (1, .int p0), (2, .int p1), (3, .int v60_3), (4, .int v60_4), (5, .int v60_5)]) hx hb dX12_couldBe_98 hl (by decide) rfl (fun ls hl => ?_)
        refine lv_iload hx hb dX12_couldBe_100 (lv_at hl 0 rfl) ?_
        refine lv_if_lt (tgt := 122) hx hb dX12_couldBe_102 (by decide) (fun c_24 => ?_) (fun c_24 => ?_)
        · have f_24 := z_lt c_24 rfl kl_0
          refine lv_aload_n hx hb dX12_couldBe_122 rfl (lv_at hl 1 rfl) ?_
          refine g_getR B fl_RX12_80 gH60.1 kh0 rfl rfl rfl rfl rfl dX12_couldBe_123 (fun q_25 s_25 k_q_25 => ?_)
          refine lv_iload hx hb dX12_couldBe_126 (lv_at hl 6 rfl) ?_
          refine g_zaldI (i := v60_5) (N := 60) B gH60.1 k_q_25 rfl rfl rfl rfl (by omega) (by omega) rfl dX12_couldBe_128 (fun x_26 s_26 a_26 b_26 => ?_)
          exact b129 ls x_26 u98_h0_33 (lv_sub hl [1, 2, 3, 4, 5, 6] rfl) k_u98_h0_33 (by omega) (by omega) (by omega) (by omega) s98_u98_h0_37 s98_u98_h0_33
        · have f_24 := z_nlt c_24 rfl kl_0
          refine lv_iload_n hx hb dX12_couldBe_105 rfl (lv_at hl 3 rfl) ?_
          refine lv_iload hx hb dX12_couldBe_106 (lv_at hl 0 rfl) ?_
          refine lv_ishr hx hb dX12_couldBe_108 ?_
          refine lv_topi (fun x_27 e_27 => ?_)
          refine lv_iconst (v := 1) hx hb dX12_couldBe_109 (by decide) ?_
          refine lv_iand hx hb dX12_couldBe_110 ?_
          refine lv_topi (fun x_28 e_28 => ?_)
          have t_28 := z_andR e_28 kl_1 (by omega)
          refine lv_if_ne (tgt := 118) hx hb dX12_couldBe_111 (by decide) (fun c_29 => ?_) (fun c_29 => ?_)
          · have f_29 := z_ne c_29 rfl kl_0
            refine lv_iconst (v := 0) hx hb dX12_couldBe_118 (by decide) ?_
            refine lv_goto (tgt := 129) hx hb dX12_couldBe_119 (by decide) ?_
            have := kl_0
            exact b129 ls 0 u98_h0_33 (lv_sub hl [1, 2, 3, 4, 5, 6] rfl) k_u98_h0_33 (by omega) (by omega) (by omega) (by omega) s98_u98_h0_37 s98_u98_h0_33
          · have f_29 := z_eq c_29 rfl kl_0
            refine lv_iconst (v := 1) hx hb dX12_couldBe_114 (by decide) ?_
            refine lv_goto (tgt := 129) hx hb dX12_couldBe_115 (by decide) ?_
            have := kl_1
            exact b129 ls 1 u98_h0_33 (lv_sub hl [1, 2, 3, 4, 5, 6] rfl) k_u98_h0_33 (by omega) (by omega) (by omega) (by omega) s98_u98_h0_37 s98_u98_h0_33
      refine lv_iload hx hb dX12_couldBe_60 (lv_at hl 5 rfl) ?_
      refine lv_aload_n hx hb dX12_couldBe_62 rfl (lv_at hl 0 rfl) ?_
      refine g_get B fl_RX12_305 gH60.1 kh0 rfl rfl rfl dX12_couldBe_63 s60_u60_h0_37 ?_
      refine lv_icmp_ge (tgt := 240) hx hb dX12_couldBe_66 (by decide) (fun c_30 => ?_) (fun c_30 => ?_)
      · have f_30 := z_le c_30 rfl rfl
        refine lv_iconst (v := 1) hx hb dX12_couldBe_240 (by decide) ?_
        have := kl_1
        have := kl_1
        exact rtI (v := 1) B hr hlk hh hQ gH60 rfl ⟨by omega, by omega⟩ dX12_couldBe_241
      · have f_30 := z_nle c_30 rfl rfl
        refine lv_aload_n hx hb dX12_couldBe_69 rfl (lv_at hl 0 rfl) ?_
        refine g_getR B fl_RX12_74 gH60.1 kh0 rfl rfl rfl rfl rfl dX12_couldBe_70 (fun q_31 s_31 k_q_31 => ?_)
        refine lv_iload hx hb dX12_couldBe_73 (lv_at hl 5 rfl) ?_
        refine g_ialdI (i := v60_5) (N := 60) B gH60.1 k_q_31 rfl rfl rfl rfl (by omega) (by omega) rfl dX12_couldBe_75 (fun x_32 s_32 a_32 b_32 => ?_)
        refine lv_iload_n hx hb dX12_couldBe_76 rfl (lv_at hl 1 rfl) ?_
        refine lv_icmp_ne (tgt := 177) hx hb dX12_couldBe_77 (by decide) (fun c_33 => ?_) (fun c_33 => ?_)
        · have f_33 := z_ne c_33 rfl rfl
          refine lv_aload_n hx hb dX12_couldBe_177 rfl (lv_at hl 0 rfl) ?_
          refine g_get B fl_RX12_74 gH60.1 kh0 rfl rfl rfl dX12_couldBe_178 s_31 ?_
          refine lv_iload hx hb dX12_couldBe_181 (lv_at hl 5 rfl) ?_
          refine g_iald (i := v60_5) (N := 60) B gH60.1 k_q_31 rfl rfl rfl rfl (by omega) (by omega) s_32 dX12_couldBe_183 ?_
          refine lv_if_lt (tgt := 234) hx hb dX12_couldBe_184 (by decide) (fun c_34 => ?_) (fun c_34 => ?_)
          · have f_34 := z_lt c_34 rfl kl_0
            exact b234 H60 lc60 ls v60_4 q_31 gH60 (lv_sub hl [0, 1, 2, 3, 4, 5] rfl) k_q_31 (by omega) (by omega) s60_u60_h0_37 s_31
          · have f_34 := z_nlt c_34 rfl kl_0
            refine lv_aload_n hx hb dX12_couldBe_187 rfl (lv_at hl 0 rfl) ?_
            refine g_getR B fl_RX12_80 gH60.1 kh0 rfl rfl rfl rfl rfl dX12_couldBe_188 (fun q_35 s_35 k_q_35 => ?_)
            refine lv_iload hx hb dX12_couldBe_191 (lv_at hl 5 rfl) ?_
            refine g_zaldI (i := v60_5) (N := 60) B gH60.1 k_q_35 rfl rfl rfl rfl (by omega) (by omega) rfl dX12_couldBe_193 (fun x_36 s_36 a_36 b_36 => ?_)
            refine lv_if_eq (tgt := 234) hx hb dX12_couldBe_194 (by decide) (fun c_37 => ?_) (fun c_37 => ?_)
            · have f_37 := z_eq c_37 rfl kl_0
              exact b234 H60 lc60 ls v60_4 q_31 gH60 (lv_sub hl [0, 1, 2, 3, 4, 5] rfl) k_q_31 (by omega) (by omega) s60_u60_h0_37 s_31
            · have f_37 := z_ne c_37 rfl kl_0
              refine lv_aload_n hx hb dX12_couldBe_197 rfl (lv_at hl 0 rfl) ?_
              refine lv_sipush (v := 192) hx hb dX12_couldBe_198 (by decide) ?_
              have := kl_192
              refine zkPI (zrV (rest := []) B (c_X12_turnOf l E hV H60 gH60.1 h0 kh0 192 (by omega) (by omega)) cl_RX12_281 gH60.1 kh0 rfl rfl rfl rfl hl.1 rfl (Nat.le_of_ble_eq_true rfl) dX12_couldBe_201 rfl rfl ⟨rfl, rfl⟩ ⟨Nat.zero_le _, Nat.zero_le _⟩ (zO.of gH60 hh)) (fun x_38 hp_38 => ?_)
              refine lv_iload_n hx hb dX12_couldBe_204 rfl (lv_at hl 1 rfl) ?_
              refine lv_icmp_eq (tgt := 225) hx hb dX12_couldBe_205 (by decide) (fun c_39 => ?_) (fun c_39 => ?_)
              · have f_39 := z_eq c_39 rfl rfl
                refine lv_iconst (v := 0) hx hb dX12_couldBe_225 (by decide) ?_
                have := kl_0
                have := kl_0
                exact rtI (v := 0) B hr hlk hh hQ gH60 rfl ⟨by omega, by omega⟩ dX12_couldBe_226
              · have f_39 := z_ne c_39 rfl rfl
                refine lv_aload_n hx hb dX12_couldBe_208 rfl (lv_at hl 0 rfl) ?_
                refine lv_sipush (v := 192) hx hb dX12_couldBe_209 (by decide) ?_
                refine lv_aload_n hx hb dX12_couldBe_212 rfl (lv_at hl 0 rfl) ?_
                refine g_getR B fl_RX12_77 gH60.1 kh0 rfl rfl rfl rfl rfl dX12_couldBe_213 (fun q_40 s_40 k_q_40 => ?_)
                refine lv_iload hx hb dX12_couldBe_216 (lv_at hl 5 rfl) ?_
                refine g_ialdI (i := v60_5) (N := 60) B gH60.1 k_q_40 rfl rfl rfl rfl (by omega) (by omega) rfl dX12_couldBe_218 (fun x_41 s_41 a_41 b_41 => ?_)
                have := kl_192
                obtain ⟨q_42, s_42, k_q_42⟩ := HT.atR gH60.1 kh0 rfl (j := 12) (by decide) rfl
                obtain ⟨x_43, s_43, a_43, b_43⟩ := HT.atI gH60.1 kh0 rfl (j := 26) (by decide) rfl
                obtain ⟨x_44, s_44, a_44, b_44⟩ := HT.elI (i := x_43) (N := 2) gH60.1 k_q_42 rfl rfl rfl (by omega) (by omega) rfl
                refine zkI (zrV (rest := []) B (c_X12_findMove l E hV H60 gH60.1 h0 kh0 192 (by omega) (by omega) x_41 q_42 k_q_42 s_42 x_43 s_43 x_44 s_44) cl_RX12_317 gH60.1 kh0 rfl rfl rfl rfl hl.1 rfl (Nat.le_of_ble_eq_true rfl) dX12_couldBe_219 rfl rfl ⟨rfl, rfl⟩ ⟨Nat.zero_le _, Nat.zero_le _⟩ (zO.of gH60 hh)) gH60 rfl (fun x_45 H45 lc45 hp_45 gH45 rH45 => ?_)
                have s_46 := rH45.keep hV kh0 rfl s60_u60_h0_37
                have s_47 := rH45.keep hV kh0 rfl s_31
                have s_48 := rH45.keepA k_q_31 rfl s_32
                have s_49 := rH45.keep hV kh0 rfl s_35
                have s_50 := rH45.keepA k_q_35 rfl s_36
                have s_51 := rH45.keep hV kh0 rfl s_40
                have s_52 := rH45.keepA k_q_40 rfl s_41
                have s_53 := rH45.keepA k_q_42 rfl s_44
                obtain ⟨hp_45_1, hp_45_2, hp_45_3⟩ := hp_45
                have := kl_192
                refine lv_if_ne (tgt := 227) hx hb dX12_couldBe_222 (by decide) (fun c_54 => ?_) (fun c_54 => ?_)
                · have f_54 := z_ne c_54 rfl kl_0
                  refine lv_aload_n hx hb dX12_couldBe_227 rfl (lv_at hl 0 rfl) ?_
                  refine lv_sipush (v := 192) hx hb dX12_couldBe_228 (by decide) ?_
                  have := kl_192
                  refine zkV (zrV (rest := []) B (c_X12_makes l E hV H45 gH45.1 h0 kh0 192 (by omega) (by omega)) cl_RX12_332 gH45.1 kh0 rfl rfl rfl rfl hl.1 rfl (Nat.le_of_ble_eq_true rfl) dX12_couldBe_231 rfl rfl ⟨rfl, rfl⟩ ⟨Nat.zero_le _, Nat.zero_le _⟩ (zO.of gH45 hh)) gH45 rfl (fun H55 lc55 hp_55 gH55 rH55 => ?_)
                  have s_56 := rH55.keep hV kh0 rfl s_46
                  have s_57 := rH55.keep hV kh0 rfl s_47
                  have s_58 := rH55.keepA k_q_31 rfl s_48
                  have s_59 := rH55.keep hV kh0 rfl s_49
                  have s_60 := rH55.keepA k_q_35 rfl s_50
                  have s_61 := rH55.keep hV kh0 rfl s_51
                  have s_62 := rH55.keepA k_q_40 rfl s_52
                  have s_63 := rH55.keepA k_q_42 rfl s_53
                  exact b234 H55 lc55 ls v60_4 q_31 gH55 (lv_sub hl [0, 1, 2, 3, 4, 5] rfl) k_q_31 (by omega) (by omega) s_56 s_57
                · have f_54 := z_eq c_54 rfl kl_0
                  refine lv_iconst (v := 0) hx hb dX12_couldBe_225 (by decide) ?_
                  have := kl_0
                  have := kl_0
                  exact rtI (v := 0) B hr hlk hh hQ gH45 rfl ⟨by omega, by omega⟩ dX12_couldBe_226
        · have f_33 := z_eq c_33 rfl rfl
          refine lv_iload_n hx hb dX12_couldBe_80 rfl (lv_at hl 3 rfl) ?_
          refine lv_bipush (v := 6) hx hb dX12_couldBe_81 (by decide) ?_
          refine lv_icmp_ge (tgt := 91) hx hb dX12_couldBe_83 (by decide) (fun c_64 => ?_) (fun c_64 => ?_)
          · have f_64 := z_le c_64 kl_6 rfl
            refine lv_iload hx hb dX12_couldBe_91 (lv_at hl 4 rfl) ?_
            refine lv_iload_n hx hb dX12_couldBe_93 rfl (lv_at hl 3 rfl) ?_
            refine lv_bipush (v := 6) hx hb dX12_couldBe_94 (by decide) ?_
            refine lv_isub hx hb dX12_couldBe_96 ?_
            refine lv_topi (fun x_65 e_65 => ?_)
            have := z_rng v60_3
            have t_65 := z_sub e_65 rfl kl_6 (by omega) (by omega)
            refine lv_isub hx hb dX12_couldBe_97 ?_
            refine lv_topi (fun x_66 e_66 => ?_)
            exact b98 ls x_66 q_31 (lv_sub hl [0, 1, 2, 3, 4, 5] rfl) k_q_31 (by omega) (by omega) s60_u60_h0_37 s_31
          · have f_64 := z_nle c_64 kl_6 rfl
            refine lv_iload hx hb dX12_couldBe_86 (lv_at hl 4 rfl) ?_
            refine lv_goto (tgt := 98) hx hb dX12_couldBe_88 (by decide) ?_
            exact b98 ls v60_4 q_31 (lv_sub hl [0, 1, 2, 3, 4, 5] rfl) k_q_31 (by omega) (by omega) s60_u60_h0_37 s_31
  have b20 : ∀ (n20 : Nat) (H20 : Heap) (lc20 : List Loc) (ls : Array Slot) (v20_3 : Int32) (v20_4 : Int32), 60 - v20_4.toInt < (n20 : Int) → zG E wS_X12_couldBe H0 H20 lc20 → lv_has ls 8 [(0, .ref h0), (1, .int p0), (2, .int p1), (3, .int v20_3), (4, .int v20_4)] → 0 ≤ v20_4.toInt → v20_4.toInt ≤ 60 → W p l e rm_X12_couldBe s m args below meth c H20 lc20 0 0 Q (F0 m 20 ls []) := by
    intro n20
    induction n20 with
    | zero =>
      intro H20 lc20 ls v20_3 v20_4 hm20 gH20 hl f20_1 f20_2
      exact absurd hm20 (by omega)
    | succ n20 ih20 =>
      intro H20 lc20 ls v20_3 v20_4 hm20 gH20 hl f20_1 f20_2
      have b46 : ∀ (ls : Array Slot) (w46_0 : Int32) (u46_h0_37 : Int32) (u46_h0_33 : Nat), lv_has ls 8 [(0, .ref h0), (1, .int p0), (2, .int p1), (4, .int v20_4)] → eK E u46_h0_33 = 77 → v20_4.toInt ≤ 59 → 0 ≤ w46_0.toInt → w46_0.toInt ≤ 1 → 1 ≤ u46_h0_37.toInt → u46_h0_37.toInt ≤ 60 → sl H20 h0 (zix E 13 37) = some (.int u46_h0_37) → sl H20 h0 (zix E 13 33) = some (.ref u46_h0_33) → W p l e rm_X12_couldBe s m args below meth c H20 lc20 0 0 Q (F0 m 46 ls [.int w46_0, .int v20_3]) := by
        intro ls w46_0 u46_h0_37 u46_h0_33 hl k_u46_h0_33 f46_1 f46_2 f46_3 f46_4 f46_5 s46_u46_h0_37 s46_u46_h0_33
        refine lv_iadd hx hb dX12_couldBe_46 ?_
        refine lv_topi (fun x_67 e_67 => ?_)
        refine lv_istore_n (lv' := [(3, .int x_67), (0, .ref h0), (1, .int p0), (2, .int p1), (4, .int v20_4)]) hx hb dX12_couldBe_47 rfl hl (by decide) rfl (fun ls hl => ?_)
        obtain ⟨x_68, e_68⟩ : ∃ y : Int32, (v20_4 : Int32) + Int32.ofInt 1 = y := ⟨_, rfl⟩
        refine lv_iinc (v := x_68) (lv' := [(4, .int x_68), (3, .int x_67), (0, .ref h0), (1, .int p0), (2, .int p1)]) hx hb dX12_couldBe_48 hl (k := 4) rfl e_68 (by decide) rfl (fun ls hl => ?_)
        have t_68 := z_inc2 e_68 rfl (by decide) (by omega) (by omega)
        refine lv_goto (tgt := 20) hx hb dX12_couldBe_51 (by decide) ?_
        exact ih20 H20 lc20 ls x_67 x_68 (by omega) gH20 (lv_sub hl [2, 3, 4, 1, 0] rfl) (by omega) (by omega)
      refine lv_iload hx hb dX12_couldBe_20 (lv_at hl 4 rfl) ?_
      refine lv_aload_n hx hb dX12_couldBe_22 rfl (lv_at hl 0 rfl) ?_
      refine g_getI B fl_RX12_305 gH20.1 kh0 rfl rfl rfl rfl rfl dX12_couldBe_23 (fun x_69 s_69 a_69 b_69 => ?_)
      refine lv_icmp_ge (tgt := 54) hx hb dX12_couldBe_26 (by decide) (fun c_70 => ?_) (fun c_70 => ?_)
      · have f_70 := z_le c_70 rfl rfl
        refine lv_iconst (v := 0) hx hb dX12_couldBe_54 (by decide) ?_
        refine lv_istore (lv' := [(4, .int 0), (0, .ref h0), (1, .int p0), (2, .int p1), (3, .int v20_3)]) hx hb dX12_couldBe_55 hl (by decide) rfl (fun ls hl => ?_)
        refine lv_iconst (v := 0) hx hb dX12_couldBe_57 (by decide) ?_
        refine lv_istore (lv' := [(5, .int 0), (4, .int 0), (0, .ref h0), (1, .int p0), (2, .int p1), (3, .int v20_3)]) hx hb dX12_couldBe_58 hl (by decide) rfl (fun ls hl => ?_)
        have := kl_0
        have := kl_0
        exact b60 61 H20 lc20 ls v20_3 0 0 x_69 (by omega) gH20 (lv_sub hl [2, 3, 4, 5, 1, 0] rfl) (by omega) (by omega) (by omega) (by omega) s_69
      · have f_70 := z_nle c_70 rfl rfl
        refine lv_iload_n hx hb dX12_couldBe_29 rfl (lv_at hl 3 rfl) ?_
        refine lv_aload_n hx hb dX12_couldBe_30 rfl (lv_at hl 0 rfl) ?_
        refine g_getR B fl_RX12_74 gH20.1 kh0 rfl rfl rfl rfl rfl dX12_couldBe_31 (fun q_71 s_71 k_q_71 => ?_)
        refine lv_iload hx hb dX12_couldBe_34 (lv_at hl 4 rfl) ?_
        refine g_ialdI (i := v20_4) (N := 60) B gH20.1 k_q_71 rfl rfl rfl rfl (by omega) (by omega) rfl dX12_couldBe_36 (fun x_72 s_72 a_72 b_72 => ?_)
        refine lv_iload_n hx hb dX12_couldBe_37 rfl (lv_at hl 1 rfl) ?_
        refine lv_icmp_ne (tgt := 45) hx hb dX12_couldBe_38 (by decide) (fun c_73 => ?_) (fun c_73 => ?_)
        · have f_73 := z_ne c_73 rfl rfl
          refine lv_iconst (v := 0) hx hb dX12_couldBe_45 (by decide) ?_
          have := kl_0
          exact b46 ls 0 x_69 q_71 (lv_sub hl [0, 1, 2, 4] rfl) k_q_71 (by omega) (by omega) (by omega) (by omega) (by omega) s_69 s_71
        · have f_73 := z_eq c_73 rfl rfl
          refine lv_iconst (v := 1) hx hb dX12_couldBe_41 (by decide) ?_
          refine lv_goto (tgt := 46) hx hb dX12_couldBe_42 (by decide) ?_
          have := kl_1
          exact b46 ls 1 x_69 q_71 (lv_sub hl [0, 1, 2, 4] rfl) k_q_71 (by omega) (by omega) (by omega) (by omega) (by omega) s_69 s_71
  refine lv_aload_n hx hb dX12_couldBe_0 rfl (lv_at hl 0 rfl) ?_
  refine lv_aload_n hx hb dX12_couldBe_1 rfl (lv_at hl 0 rfl) ?_
  refine lv_aload_n hx hb dX12_couldBe_2 rfl (lv_at hl 0 rfl) ?_
  refine g_getI B fl_RX12_217 hT0 kh0 rfl rfl rfl rfl rfl dX12_couldBe_3 (fun x_74 s_74 a_74 b_74 => ?_)
  refine zkPI (zrV (rest := [.ref h0]) B (c_X12_firstOf l E hV H0 hT0 h0 kh0 x_74 (by omega) (by omega)) cl_RX12_207 hT0 kh0 rfl rfl rfl rfl hl.1 rfl (Nat.le_of_ble_eq_true rfl) dX12_couldBe_6 rfl rfl ⟨rfl, rfl⟩ ⟨Nat.zero_le _, Nat.zero_le _⟩ (zO.of hG0 hh)) (fun x_75 hp_75 => ?_)
  obtain ⟨hp_75_1, hp_75_2⟩ := hp_75
  refine lv_sipush (v := 192) hx hb dX12_couldBe_9 (by decide) ?_
  have := kl_192
  refine zkV (zrV (rest := []) B (c_X12_copy l E hV H0 hT0 h0 kh0 x_75 (by omega) (by omega) 192 (by omega) (by omega)) cl_RX12_326 hT0 kh0 rfl rfl rfl rfl hl.1 rfl (Nat.le_of_ble_eq_true rfl) dX12_couldBe_12 rfl rfl ⟨rfl, rfl⟩ ⟨Nat.zero_le _, Nat.zero_le _⟩ (zO.of hG0 hh)) hG0 rfl (fun H76 lc76 hp_76 gH76 rH76 => ?_)
  refine lv_iconst (v := 0) hx hb dX12_couldBe_15 (by decide) ?_
  refine lv_istore_n (lv' := [(3, .int 0), (0, .ref h0), (1, .int p0), (2, .int p1)]) hx hb dX12_couldBe_16 rfl hl (by decide) rfl (fun ls hl => ?_)
  refine lv_iconst (v := 0) hx hb dX12_couldBe_17 (by decide) ?_
  refine lv_istore (lv' := [(4, .int 0), (3, .int 0), (0, .ref h0), (1, .int p0), (2, .int p1)]) hx hb dX12_couldBe_18 hl (by decide) rfl (fun ls hl => ?_)
  have := kl_0
  have := kl_0
  exact b20 61 H76 lc76 ls 0 0 (by omega) gH76 (lv_sub hl [2, 3, 4, 1, 0] rfl) (by omega) (by omega)

theorem dX12_latestOf_0 : decode cX12_latestOf 0 = .ok (.iconst 0, 1) := by decide +kernel
theorem dX12_latestOf_1 : decode cX12_latestOf 1 = .ok (.istore_n 2, 1) := by decide +kernel
theorem dX12_latestOf_2 : decode cX12_latestOf 2 = .ok (.iconst 0, 1) := by decide +kernel
theorem dX12_latestOf_3 : decode cX12_latestOf 3 = .ok (.istore_n 3, 1) := by decide +kernel
theorem dX12_latestOf_4 : decode cX12_latestOf 4 = .ok (.iload_n 3, 1) := by decide +kernel
theorem dX12_latestOf_5 : decode cX12_latestOf 5 = .ok (.aload_n 0, 1) := by decide +kernel
theorem dX12_latestOf_6 : decode cX12_latestOf 6 = .ok (.getfield 305, 3) := by decide +kernel
theorem dX12_latestOf_9 : decode cX12_latestOf 9 = .ok (.if_icmp .ge 27, 3) := by decide +kernel
theorem dX12_latestOf_12 : decode cX12_latestOf 12 = .ok (.iload_n 2, 1) := by decide +kernel
theorem dX12_latestOf_13 : decode cX12_latestOf 13 = .ok (.aload_n 0, 1) := by decide +kernel
theorem dX12_latestOf_14 : decode cX12_latestOf 14 = .ok (.getfield 74, 3) := by decide +kernel
theorem dX12_latestOf_17 : decode cX12_latestOf 17 = .ok (.iload_n 3, 1) := by decide +kernel
theorem dX12_latestOf_18 : decode cX12_latestOf 18 = .ok (.iaload, 1) := by decide +kernel
theorem dX12_latestOf_19 : decode cX12_latestOf 19 = .ok (.iload_n 1, 1) := by decide +kernel
theorem dX12_latestOf_20 : decode cX12_latestOf 20 = .ok (.if_icmp .ne 7, 3) := by decide +kernel
theorem dX12_latestOf_23 : decode cX12_latestOf 23 = .ok (.iconst 1, 1) := by decide +kernel
theorem dX12_latestOf_24 : decode cX12_latestOf 24 = .ok (.goto 4, 3) := by decide +kernel
theorem dX12_latestOf_27 : decode cX12_latestOf 27 = .ok (.iconst 0, 1) := by decide +kernel
theorem dX12_latestOf_28 : decode cX12_latestOf 28 = .ok (.iadd, 1) := by decide +kernel
theorem dX12_latestOf_29 : decode cX12_latestOf 29 = .ok (.istore_n 2, 1) := by decide +kernel
theorem dX12_latestOf_30 : decode cX12_latestOf 30 = .ok (.iinc 3 1, 3) := by decide +kernel
theorem dX12_latestOf_33 : decode cX12_latestOf 33 = .ok (.goto (-29), 3) := by decide +kernel
theorem dX12_latestOf_36 : decode cX12_latestOf 36 = .ok (.iload_n 2, 1) := by decide +kernel
theorem dX12_latestOf_37 : decode cX12_latestOf 37 = .ok (.bipush 6, 2) := by decide +kernel
theorem dX12_latestOf_39 : decode cX12_latestOf 39 = .ok (.if_icmp .ge 7, 3) := by decide +kernel
theorem dX12_latestOf_42 : decode cX12_latestOf 42 = .ok (.iload_n 2, 1) := by decide +kernel
theorem dX12_latestOf_43 : decode cX12_latestOf 43 = .ok (.goto 5, 3) := by decide +kernel
theorem dX12_latestOf_46 : decode cX12_latestOf 46 = .ok (.bipush 6, 2) := by decide +kernel
theorem dX12_latestOf_48 : decode cX12_latestOf 48 = .ok (.ireturn, 1) := by decide +kernel
def rm_X12_latestOf : Room := { frames := 0, cells := 0, slots := 0, locals := 0 }
set_option maxRecDepth 100000 in
set_option maxHeartbeats 4000000 in
theorem c_X12_latestOf (l : Launch) (E : zE) (hV : zV E) (H0 : Heap) (hT0 : HT E H0) (h0 : Nat) (kh0 : eK E h0 = 13) (p0 : Int32) : Met l yX12_latestOf (zws yX12_latestOf cX12_latestOf 4 (some .int)) rm_X12_latestOf (zP E H0 [.ref h0, .int p0]) (zPI (fun r => 0 ≤ r.toInt ∧ r.toInt ≤ 6)) 0 0 (fun _ => False) := by
  refine zEnt (by decide) (Nat.le_of_ble_eq_true rfl) (fun p e s m args below meth c ls Q B hr hlk hh hQ hl => ?_)
  have hx := B.1
  have hb := B.2.1
  have hl : lv_has ls 4 [(0, .ref h0), (1, .int p0)] := hl
  have b4 : ∀ (n4 : Nat) (ls : Array Slot) (v4_2 : Int32) (v4_3 : Int32), 60 - v4_3.toInt < (n4 : Int) → lv_has ls 4 [(0, .ref h0), (1, .int p0), (2, .int v4_2), (3, .int v4_3)] → 0 ≤ v4_2.toInt → v4_2.toInt ≤ 60 → 0 ≤ v4_3.toInt → v4_3.toInt ≤ 60 → v4_2.toInt ≤ v4_3.toInt → W p l e rm_X12_latestOf s m args below meth c H0 [] 0 0 Q (F0 m 4 ls []) := by
    intro n4
    induction n4 with
    | zero =>
      intro ls v4_2 v4_3 hm4 hl f4_1 f4_2 f4_3 f4_4 f4_5
      exact absurd hm4 (by omega)
    | succ n4 ih4 =>
      intro ls v4_2 v4_3 hm4 hl f4_1 f4_2 f4_3 f4_4 f4_5
      have b28 : ∀ (ls : Array Slot) (w28_0 : Int32) (u28_h0_37 : Int32) (u28_h0_33 : Nat), lv_has ls 4 [(0, .ref h0), (1, .int p0), (3, .int v4_3)] → eK E u28_h0_33 = 77 → v4_3.toInt ≤ 59 → 0 ≤ w28_0.toInt → w28_0.toInt ≤ 1 → 1 ≤ u28_h0_37.toInt → u28_h0_37.toInt ≤ 60 → sl H0 h0 (zix E 13 37) = some (.int u28_h0_37) → sl H0 h0 (zix E 13 33) = some (.ref u28_h0_33) → W p l e rm_X12_latestOf s m args below meth c H0 [] 0 0 Q (F0 m 28 ls [.int w28_0, .int v4_2]) := by
        intro ls w28_0 u28_h0_37 u28_h0_33 hl k_u28_h0_33 f28_1 f28_2 f28_3 f28_4 f28_5 s28_u28_h0_37 s28_u28_h0_33
        refine lv_iadd hx hb dX12_latestOf_28 ?_
        refine lv_topi (fun x_1 e_1 => ?_)
        have t_1 := z_add e_1 rfl rfl (by omega) (by omega)
        refine lv_istore_n (lv' := [(2, .int x_1), (0, .ref h0), (1, .int p0), (3, .int v4_3)]) hx hb dX12_latestOf_29 rfl hl (by decide) rfl (fun ls hl => ?_)
        obtain ⟨x_2, e_2⟩ : ∃ y : Int32, (v4_3 : Int32) + Int32.ofInt 1 = y := ⟨_, rfl⟩
        refine lv_iinc (v := x_2) (lv' := [(3, .int x_2), (2, .int x_1), (0, .ref h0), (1, .int p0)]) hx hb dX12_latestOf_30 hl (k := 3) rfl e_2 (by decide) rfl (fun ls hl => ?_)
        have t_2 := z_inc2 e_2 rfl (by decide) (by omega) (by omega)
        refine lv_goto (tgt := 4) hx hb dX12_latestOf_33 (by decide) ?_
        exact ih4 ls x_1 x_2 (by omega) (lv_sub hl [2, 3, 1, 0] rfl) (by omega) (by omega) (by omega) (by omega) (by omega)
      refine lv_iload_n hx hb dX12_latestOf_4 rfl (lv_at hl 3 rfl) ?_
      refine lv_aload_n hx hb dX12_latestOf_5 rfl (lv_at hl 0 rfl) ?_
      refine g_getI B fl_RX12_305 hT0 kh0 rfl rfl rfl rfl rfl dX12_latestOf_6 (fun x_3 s_3 a_3 b_3 => ?_)
      refine lv_icmp_ge (tgt := 36) hx hb dX12_latestOf_9 (by decide) (fun c_4 => ?_) (fun c_4 => ?_)
      · have f_4 := z_le c_4 rfl rfl
        refine lv_iload_n hx hb dX12_latestOf_36 rfl (lv_at hl 2 rfl) ?_
        refine lv_bipush (v := 6) hx hb dX12_latestOf_37 (by decide) ?_
        refine lv_icmp_ge (tgt := 46) hx hb dX12_latestOf_39 (by decide) (fun c_5 => ?_) (fun c_5 => ?_)
        · have f_5 := z_le c_5 kl_6 rfl
          refine lv_bipush (v := 6) hx hb dX12_latestOf_46 (by decide) ?_
          have := kl_6
          have := kl_6
          exact rtPI (v := 6) B hr hlk hh hQ rfl ⟨by omega, by omega⟩ dX12_latestOf_48
        · have f_5 := z_nle c_5 kl_6 rfl
          refine lv_iload_n hx hb dX12_latestOf_42 rfl (lv_at hl 2 rfl) ?_
          refine lv_goto (tgt := 48) hx hb dX12_latestOf_43 (by decide) ?_
          exact rtPI (v := v4_2) B hr hlk hh hQ rfl ⟨by omega, by omega⟩ dX12_latestOf_48
      · have f_4 := z_nle c_4 rfl rfl
        refine lv_iload_n hx hb dX12_latestOf_12 rfl (lv_at hl 2 rfl) ?_
        refine lv_aload_n hx hb dX12_latestOf_13 rfl (lv_at hl 0 rfl) ?_
        refine g_getR B fl_RX12_74 hT0 kh0 rfl rfl rfl rfl rfl dX12_latestOf_14 (fun q_6 s_6 k_q_6 => ?_)
        refine lv_iload_n hx hb dX12_latestOf_17 rfl (lv_at hl 3 rfl) ?_
        refine g_ialdI (i := v4_3) (N := 60) B hT0 k_q_6 rfl rfl rfl rfl (by omega) (by omega) rfl dX12_latestOf_18 (fun x_7 s_7 a_7 b_7 => ?_)
        refine lv_iload_n hx hb dX12_latestOf_19 rfl (lv_at hl 1 rfl) ?_
        refine lv_icmp_ne (tgt := 27) hx hb dX12_latestOf_20 (by decide) (fun c_8 => ?_) (fun c_8 => ?_)
        · have f_8 := z_ne c_8 rfl rfl
          refine lv_iconst (v := 0) hx hb dX12_latestOf_27 (by decide) ?_
          have := kl_0
          exact b28 ls 0 x_3 q_6 (lv_sub hl [0, 1, 3] rfl) k_q_6 (by omega) (by omega) (by omega) (by omega) (by omega) s_3 s_6
        · have f_8 := z_eq c_8 rfl rfl
          refine lv_iconst (v := 1) hx hb dX12_latestOf_23 (by decide) ?_
          refine lv_goto (tgt := 28) hx hb dX12_latestOf_24 (by decide) ?_
          have := kl_1
          exact b28 ls 1 x_3 q_6 (lv_sub hl [0, 1, 3] rfl) k_q_6 (by omega) (by omega) (by omega) (by omega) (by omega) s_3 s_6
  refine lv_iconst (v := 0) hx hb dX12_latestOf_0 (by decide) ?_
  refine lv_istore_n (lv' := [(2, .int 0), (0, .ref h0), (1, .int p0)]) hx hb dX12_latestOf_1 rfl hl (by decide) rfl (fun ls hl => ?_)
  refine lv_iconst (v := 0) hx hb dX12_latestOf_2 (by decide) ?_
  refine lv_istore_n (lv' := [(3, .int 0), (2, .int 0), (0, .ref h0), (1, .int p0)]) hx hb dX12_latestOf_3 rfl hl (by decide) rfl (fun ls hl => ?_)
  have := kl_0
  have := kl_0
  exact b4 61 ls 0 0 (by omega) (lv_sub hl [2, 3, 1, 0] rfl) (by omega) (by omega) (by omega) (by omega) (by omega)

theorem dX12_layCould_0 : decode cX12_layCould 0 = .ok (.aload_n 0, 1) := by decide +kernel
theorem dX12_layCould_1 : decode cX12_layCould 1 = .ok (.iconst 0, 1) := by decide +kernel
theorem dX12_layCould_2 : decode cX12_layCould 2 = .ok (.putfield 344, 3) := by decide +kernel
theorem dX12_layCould_5 : decode cX12_layCould 5 = .ok (.iconst 0, 1) := by decide +kernel
theorem dX12_layCould_6 : decode cX12_layCould 6 = .ok (.istore_n 2, 1) := by decide +kernel
theorem dX12_layCould_7 : decode cX12_layCould 7 = .ok (.iload_n 2, 1) := by decide +kernel
theorem dX12_layCould_8 : decode cX12_layCould 8 = .ok (.iconst 1, 1) := by decide +kernel
theorem dX12_layCould_9 : decode cX12_layCould 9 = .ok (.aload_n 0, 1) := by decide +kernel
theorem dX12_layCould_10 : decode cX12_layCould 10 = .ok (.iload_n 1, 1) := by decide +kernel
theorem dX12_layCould_11 : decode cX12_layCould 11 = .ok (.invokevirtual 347, 3) := by decide +kernel
theorem dX12_layCould_14 : decode cX12_layCould 14 = .ok (.ishl, 1) := by decide +kernel
theorem dX12_layCould_15 : decode cX12_layCould 15 = .ok (.if_icmp .ge 91, 3) := by decide +kernel
theorem dX12_layCould_18 : decode cX12_layCould 18 = .ok (.aload_n 0, 1) := by decide +kernel
theorem dX12_layCould_19 : decode cX12_layCould 19 = .ok (.iload_n 1, 1) := by decide +kernel
theorem dX12_layCould_20 : decode cX12_layCould 20 = .ok (.iload_n 2, 1) := by decide +kernel
theorem dX12_layCould_21 : decode cX12_layCould 21 = .ok (.invokevirtual 350, 3) := by decide +kernel
theorem dX12_layCould_24 : decode cX12_layCould 24 = .ok (.ifCond .ne 6, 3) := by decide +kernel
theorem dX12_layCould_27 : decode cX12_layCould 27 = .ok (.goto 73, 3) := by decide +kernel
theorem dX12_layCould_30 : decode cX12_layCould 30 = .ok (.iconst 0, 1) := by decide +kernel
theorem dX12_layCould_31 : decode cX12_layCould 31 = .ok (.istore_n 3, 1) := by decide +kernel
theorem dX12_layCould_32 : decode cX12_layCould 32 = .ok (.iconst 0, 1) := by decide +kernel
theorem dX12_layCould_33 : decode cX12_layCould 33 = .ok (.istore 4, 2) := by decide +kernel
theorem dX12_layCould_35 : decode cX12_layCould 35 = .ok (.iload 4, 2) := by decide +kernel
theorem dX12_layCould_37 : decode cX12_layCould 37 = .ok (.aload_n 0, 1) := by decide +kernel
theorem dX12_layCould_38 : decode cX12_layCould 38 = .ok (.getfield 344, 3) := by decide +kernel
theorem dX12_layCould_41 : decode cX12_layCould 41 = .ok (.if_icmp .ge 27, 3) := by decide +kernel
theorem dX12_layCould_44 : decode cX12_layCould 44 = .ok (.iload_n 3, 1) := by decide +kernel
theorem dX12_layCould_45 : decode cX12_layCould 45 = .ok (.ifCond .ne 23, 3) := by decide +kernel
theorem dX12_layCould_48 : decode cX12_layCould 48 = .ok (.aload_n 0, 1) := by decide +kernel
theorem dX12_layCould_49 : decode cX12_layCould 49 = .ok (.sipush 128, 3) := by decide +kernel
theorem dX12_layCould_52 : decode cX12_layCould 52 = .ok (.iload 4, 2) := by decide +kernel
theorem dX12_layCould_54 : decode cX12_layCould 54 = .ok (.iadd, 1) := by decide +kernel
theorem dX12_layCould_55 : decode cX12_layCould 55 = .ok (.sipush 192, 3) := by decide +kernel
theorem dX12_layCould_58 : decode cX12_layCould 58 = .ok (.invokevirtual 341, 3) := by decide +kernel
theorem dX12_layCould_61 : decode cX12_layCould 61 = .ok (.istore_n 3, 1) := by decide +kernel
theorem dX12_layCould_62 : decode cX12_layCould 62 = .ok (.iinc 4 1, 3) := by decide +kernel
theorem dX12_layCould_65 : decode cX12_layCould 65 = .ok (.goto (-30), 3) := by decide +kernel
theorem dX12_layCould_68 : decode cX12_layCould 68 = .ok (.iload_n 3, 1) := by decide +kernel
theorem dX12_layCould_69 : decode cX12_layCould 69 = .ok (.ifCond .eq 6, 3) := by decide +kernel
theorem dX12_layCould_72 : decode cX12_layCould 72 = .ok (.goto 28, 3) := by decide +kernel
theorem dX12_layCould_75 : decode cX12_layCould 75 = .ok (.aload_n 0, 1) := by decide +kernel
theorem dX12_layCould_76 : decode cX12_layCould 76 = .ok (.sipush 192, 3) := by decide +kernel
theorem dX12_layCould_79 : decode cX12_layCould 79 = .ok (.sipush 128, 3) := by decide +kernel
theorem dX12_layCould_82 : decode cX12_layCould 82 = .ok (.aload_n 0, 1) := by decide +kernel
theorem dX12_layCould_83 : decode cX12_layCould 83 = .ok (.getfield 344, 3) := by decide +kernel
theorem dX12_layCould_86 : decode cX12_layCould 86 = .ok (.iadd, 1) := by decide +kernel
theorem dX12_layCould_87 : decode cX12_layCould 87 = .ok (.invokevirtual 326, 3) := by decide +kernel
theorem dX12_layCould_90 : decode cX12_layCould 90 = .ok (.aload_n 0, 1) := by decide +kernel
theorem dX12_layCould_91 : decode cX12_layCould 91 = .ok (.dup, 1) := by decide +kernel
theorem dX12_layCould_92 : decode cX12_layCould 92 = .ok (.getfield 344, 3) := by decide +kernel
theorem dX12_layCould_95 : decode cX12_layCould 95 = .ok (.iconst 1, 1) := by decide +kernel
theorem dX12_layCould_96 : decode cX12_layCould 96 = .ok (.iadd, 1) := by decide +kernel
theorem dX12_layCould_97 : decode cX12_layCould 97 = .ok (.putfield 344, 3) := by decide +kernel
theorem dX12_layCould_100 : decode cX12_layCould 100 = .ok (.iinc 2 1, 3) := by decide +kernel
theorem dX12_layCould_103 : decode cX12_layCould 103 = .ok (.goto (-96), 3) := by decide +kernel
theorem dX12_layCould_106 : decode cX12_layCould 106 = .ok (.return_, 1) := by decide +kernel
def rm_X12_layCould : Room := { frames := 6, cells := 0, slots := 0, locals := 155 }
abbrev wS_X12_layCould : List (Nat × Nat) := [(13, 28), (13, 29), (13, 39), (60, 99)]
set_option maxRecDepth 100000 in
set_option maxHeartbeats 4000000 in
theorem c_X12_layCould (l : Launch) (E : zE) (hV : zV E) (H0 : Heap) (hT0 : HT E H0) (h0 : Nat) (kh0 : eK E h0 = 13) (p0 : Int32) (p0_lo : 0 ≤ p0.toInt) (p0_hi : p0.toInt ≤ 1) : Met l yX12_layCould (zws yX12_layCould cX12_layCould 5 none) rm_X12_layCould (zP E H0 [.ref h0, .int p0]) (zQV E E wS_X12_layCould (fun H1 => True)) 0 0 (zfr E) := by
  refine zEnt (by decide) (Nat.le_of_ble_eq_true rfl) (fun p e s m args below meth c ls Q B hr hlk hh hQ hl => ?_)
  have hx := B.1
  have hb := B.2.1
  have hG0 : zG E wS_X12_layCould H0 H0 [] := zG.rf hT0
  have hl : lv_has ls 5 [(0, .ref h0), (1, .int p0)] := hl
  have b7 : ∀ (n7 : Nat) (H7 : Heap) (lc7 : List Loc) (ls : Array Slot) (v7_2 : Int32) (u7_h0_39 : Int32), 64 - v7_2.toInt < (n7 : Int) → zG E wS_X12_layCould H0 H7 lc7 → lv_has ls 5 [(0, .ref h0), (1, .int p0), (2, .int v7_2)] → 0 ≤ v7_2.toInt → v7_2.toInt ≤ 64 → 0 ≤ u7_h0_39.toInt → u7_h0_39.toInt ≤ 64 → sl H7 h0 (zix E 13 39) = some (.int u7_h0_39) → u7_h0_39.toInt ≤ v7_2.toInt → W p l e rm_X12_layCould s m args below meth c H7 lc7 0 0 Q (F0 m 7 ls []) := by
    intro n7
    induction n7 with
    | zero =>
      intro H7 lc7 ls v7_2 u7_h0_39 hm7 gH7 hl f7_1 f7_2 f7_3 f7_4 s7_u7_h0_39 f7_5
      exact absurd hm7 (by omega)
    | succ n7 ih7 =>
      intro H7 lc7 ls v7_2 u7_h0_39 hm7 gH7 hl f7_1 f7_2 f7_3 f7_4 s7_u7_h0_39 f7_5
      have b100 : ∀ (H100 : Heap) (lc100 : List Loc) (ls : Array Slot) (u100_h0_39 : Int32), zG E wS_X12_layCould H0 H100 lc100 → lv_has ls 5 [(0, .ref h0), (1, .int p0), (2, .int v7_2)] → v7_2.toInt ≤ 63 → 0 ≤ u100_h0_39.toInt → u100_h0_39.toInt ≤ 64 → sl H100 h0 (zix E 13 39) = some (.int u100_h0_39) → u100_h0_39.toInt ≤ v7_2.toInt + 1 → W p l e rm_X12_layCould s m args below meth c H100 lc100 0 0 Q (F0 m 100 ls []) := by
        intro H100 lc100 ls u100_h0_39 gH100 hl f100_1 f100_2 f100_3 s100_u100_h0_39 f100_4
        obtain ⟨x_1, e_1⟩ : ∃ y : Int32, (v7_2 : Int32) + Int32.ofInt 1 = y := ⟨_, rfl⟩
        refine lv_iinc (v := x_1) (lv' := [(2, .int x_1), (0, .ref h0), (1, .int p0)]) hx hb dX12_layCould_100 hl (k := 2) rfl e_1 (by decide) rfl (fun ls hl => ?_)
        have t_1 := z_inc2 e_1 rfl (by decide) (by omega) (by omega)
        refine lv_goto (tgt := 7) hx hb dX12_layCould_103 (by decide) ?_
        exact ih7 H100 lc100 ls x_1 u100_h0_39 (by omega) gH100 (lv_sub hl [1, 2, 0] rfl) (by omega) (by omega) (by omega) (by omega) s100_u100_h0_39 (by omega)
      have b68 : ∀ (H68 : Heap) (lc68 : List Loc) (ls : Array Slot) (v68_3 : Int32), zG E wS_X12_layCould H0 H68 lc68 → lv_has ls 5 [(0, .ref h0), (1, .int p0), (2, .int v7_2), (3, .int v68_3)] → v7_2.toInt ≤ 63 → 0 ≤ v68_3.toInt → v68_3.toInt ≤ 1 → sl H68 h0 (zix E 13 39) = some (.int u7_h0_39) → u7_h0_39.toInt ≤ v7_2.toInt → W p l e rm_X12_layCould s m args below meth c H68 lc68 0 0 Q (F0 m 68 ls []) := by
        intro H68 lc68 ls v68_3 gH68 hl f68_1 f68_2 f68_3 s68_u68_h0_39 f68_4
        refine lv_iload_n hx hb dX12_layCould_68 rfl (lv_at hl 3 rfl) ?_
        refine lv_if_eq (tgt := 75) hx hb dX12_layCould_69 (by decide) (fun c_2 => ?_) (fun c_2 => ?_)
        · have f_2 := z_eq c_2 rfl kl_0
          refine lv_aload_n hx hb dX12_layCould_75 rfl (lv_at hl 0 rfl) ?_
          refine lv_sipush (v := 192) hx hb dX12_layCould_76 (by decide) ?_
          refine lv_sipush (v := 128) hx hb dX12_layCould_79 (by decide) ?_
          refine lv_aload_n hx hb dX12_layCould_82 rfl (lv_at hl 0 rfl) ?_
          refine g_get B fl_RX12_344 gH68.1 kh0 rfl rfl rfl dX12_layCould_83 s68_u68_h0_39 ?_
          refine lv_iadd hx hb dX12_layCould_86 ?_
          refine lv_topi (fun x_3 e_3 => ?_)
          have t_3 := z_add e_3 kl_128 rfl (by omega) (by omega)
          have := kl_192
          refine zkV (zrV (rest := []) B (c_X12_copy l E hV H68 gH68.1 h0 kh0 192 (by omega) (by omega) x_3 (by omega) (by omega)) cl_RX12_326 gH68.1 kh0 rfl rfl rfl rfl hl.1 rfl (Nat.le_of_ble_eq_true rfl) dX12_layCould_87 rfl rfl ⟨rfl, rfl⟩ ⟨Nat.zero_le _, Nat.zero_le _⟩ (zO.of gH68 hh)) gH68 rfl (fun H4 lc4 hp_4 gH4 rH4 => ?_)
          have s_5 := rH4.keep hV kh0 rfl s68_u68_h0_39
          refine lv_aload_n hx hb dX12_layCould_90 rfl (lv_at hl 0 rfl) ?_
          refine lv_dup hx hb dX12_layCould_91 rfl ?_
          refine g_get B fl_RX12_344 gH4.1 kh0 rfl rfl rfl dX12_layCould_92 s_5 ?_
          refine lv_iconst (v := 1) hx hb dX12_layCould_95 (by decide) ?_
          refine lv_iadd hx hb dX12_layCould_96 ?_
          refine lv_topi (fun x_6 e_6 => ?_)
          have t_6 := z_add e_6 rfl kl_1 (by omega) (by omega)
          refine g_putI B fp_RX12_344 hV gH4 kh0 rfl rfl rfl rfl rfl (by omega) (by omega) rfl dX12_layCould_97 (fun H7 lc7 gH7 uH7 => ?_)
          exact b100 H7 lc7 ls x_6 gH7 (lv_sub hl [0, 1, 2] rfl) (by omega) (by omega) (by omega) uH7.2.1 (by omega)
        · have f_2 := z_ne c_2 rfl kl_0
          refine lv_goto (tgt := 100) hx hb dX12_layCould_72 (by decide) ?_
          exact b100 H68 lc68 ls u7_h0_39 gH68 (lv_sub hl [0, 1, 2] rfl) (by omega) (by omega) (by omega) s68_u68_h0_39 (by omega)
      have b35 : ∀ (n35 : Nat) (H35 : Heap) (lc35 : List Loc) (ls : Array Slot) (v35_3 : Int32) (v35_4 : Int32), 64 - v35_4.toInt < (n35 : Int) → zG E wS_X12_layCould H0 H35 lc35 → lv_has ls 5 [(0, .ref h0), (1, .int p0), (2, .int v7_2), (3, .int v35_3), (4, .int v35_4)] → v7_2.toInt ≤ 63 → 0 ≤ v35_3.toInt → v35_3.toInt ≤ 1 → 0 ≤ v35_4.toInt → v35_4.toInt ≤ 64 → sl H35 h0 (zix E 13 39) = some (.int u7_h0_39) → u7_h0_39.toInt ≤ v7_2.toInt → W p l e rm_X12_layCould s m args below meth c H35 lc35 0 0 Q (F0 m 35 ls []) := by
        intro n35
        induction n35 with
        | zero =>
          intro H35 lc35 ls v35_3 v35_4 hm35 gH35 hl f35_1 f35_2 f35_3 f35_4 f35_5 s35_u35_h0_39 f35_6
          exact absurd hm35 (by omega)
        | succ n35 ih35 =>
          intro H35 lc35 ls v35_3 v35_4 hm35 gH35 hl f35_1 f35_2 f35_3 f35_4 f35_5 s35_u35_h0_39 f35_6
          refine lv_iload hx hb dX12_layCould_35 (lv_at hl 4 rfl) ?_
          refine lv_aload_n hx hb dX12_layCould_37 rfl (lv_at hl 0 rfl) ?_
          refine g_get B fl_RX12_344 gH35.1 kh0 rfl rfl rfl dX12_layCould_38 s35_u35_h0_39 ?_
          refine lv_icmp_ge (tgt := 68) hx hb dX12_layCould_41 (by decide) (fun c_8 => ?_) (fun c_8 => ?_)
          · have f_8 := z_le c_8 rfl rfl
            exact b68 H35 lc35 ls v35_3 gH35 (lv_sub hl [0, 1, 2, 3] rfl) (by omega) (by omega) (by omega) s35_u35_h0_39 (by omega)
          · have f_8 := z_nle c_8 rfl rfl
            refine lv_iload_n hx hb dX12_layCould_44 rfl (lv_at hl 3 rfl) ?_
            refine lv_if_ne (tgt := 68) hx hb dX12_layCould_45 (by decide) (fun c_9 => ?_) (fun c_9 => ?_)
            · have f_9 := z_ne c_9 rfl kl_0
              exact b68 H35 lc35 ls v35_3 gH35 (lv_sub hl [0, 1, 2, 3] rfl) (by omega) (by omega) (by omega) s35_u35_h0_39 (by omega)
            · have f_9 := z_eq c_9 rfl kl_0
              refine lv_aload_n hx hb dX12_layCould_48 rfl (lv_at hl 0 rfl) ?_
              refine lv_sipush (v := 128) hx hb dX12_layCould_49 (by decide) ?_
              refine lv_iload hx hb dX12_layCould_52 (lv_at hl 4 rfl) ?_
              refine lv_iadd hx hb dX12_layCould_54 ?_
              refine lv_topi (fun x_10 e_10 => ?_)
              have t_10 := z_add e_10 kl_128 rfl (by omega) (by omega)
              refine lv_sipush (v := 192) hx hb dX12_layCould_55 (by decide) ?_
              have := kl_192
              refine zkPI (zrV (rest := []) B (c_X12_areAlike l E hV H35 gH35.1 h0 kh0 x_10 (by omega) (by omega) 192 (by omega) (by omega)) cl_RX12_341 gH35.1 kh0 rfl rfl rfl rfl hl.1 rfl (Nat.le_of_ble_eq_true rfl) dX12_layCould_58 rfl rfl ⟨rfl, rfl⟩ ⟨Nat.zero_le _, Nat.zero_le _⟩ (zO.of gH35 hh)) (fun x_11 hp_11 => ?_)
              obtain ⟨hp_11_1, hp_11_2⟩ := hp_11
              refine lv_istore_n (lv' := [(3, .int x_11), (0, .ref h0), (1, .int p0), (2, .int v7_2), (4, .int v35_4)]) hx hb dX12_layCould_61 rfl hl (by decide) rfl (fun ls hl => ?_)
              obtain ⟨x_12, e_12⟩ : ∃ y : Int32, (v35_4 : Int32) + Int32.ofInt 1 = y := ⟨_, rfl⟩
              refine lv_iinc (v := x_12) (lv' := [(4, .int x_12), (3, .int x_11), (0, .ref h0), (1, .int p0), (2, .int v7_2)]) hx hb dX12_layCould_62 hl (k := 4) rfl e_12 (by decide) rfl (fun ls hl => ?_)
              have t_12 := z_inc2 e_12 rfl (by decide) (by omega) (by omega)
              refine lv_goto (tgt := 35) hx hb dX12_layCould_65 (by decide) ?_
              exact ih35 H35 lc35 ls x_11 x_12 (by omega) gH35 (lv_sub hl [2, 3, 4, 1, 0] rfl) (by omega) (by omega) (by omega) (by omega) (by omega) s35_u35_h0_39 (by omega)
      refine lv_iload_n hx hb dX12_layCould_7 rfl (lv_at hl 2 rfl) ?_
      refine lv_iconst (v := 1) hx hb dX12_layCould_8 (by decide) ?_
      refine lv_aload_n hx hb dX12_layCould_9 rfl (lv_at hl 0 rfl) ?_
      refine lv_iload_n hx hb dX12_layCould_10 rfl (lv_at hl 1 rfl) ?_
      refine zkPI (zrV (rest := [.int 1, .int v7_2]) B (c_X12_latestOf l E hV H7 gH7.1 h0 kh0 p0) cl_RX12_347 gH7.1 kh0 rfl rfl rfl rfl hl.1 rfl (Nat.le_of_ble_eq_true rfl) dX12_layCould_11 rfl rfl ⟨rfl, rfl⟩ ⟨Nat.zero_le _, Nat.zero_le _⟩ (zO.of gH7 hh)) (fun x_13 hp_13 => ?_)
      obtain ⟨hp_13_1, hp_13_2⟩ := hp_13
      refine lv_ishl hx hb dX12_layCould_14 ?_
      refine lv_topi (fun x_14 e_14 => ?_)
      have t_14 := z_shlV (A := 1) 6 e_14 kl_1 rfl (by omega) (by omega) rfl (by omega) (by omega) (by decide)
      refine lv_icmp_ge (tgt := 106) hx hb dX12_layCould_15 (by decide) (fun c_15 => ?_) (fun c_15 => ?_)
      · have f_15 := z_le c_15 rfl rfl
        exact rtV B hr hlk hh hQ gH7 trivial dX12_layCould_106
      · have f_15 := z_nle c_15 rfl rfl
        refine lv_aload_n hx hb dX12_layCould_18 rfl (lv_at hl 0 rfl) ?_
        refine lv_iload_n hx hb dX12_layCould_19 rfl (lv_at hl 1 rfl) ?_
        refine lv_iload_n hx hb dX12_layCould_20 rfl (lv_at hl 2 rfl) ?_
        refine zkI (zrV (rest := []) B (c_X12_couldBe l E hV H7 gH7.1 h0 kh0 p0 (by omega) (by omega) v7_2) cl_RX12_350 gH7.1 kh0 rfl rfl rfl rfl hl.1 rfl (Nat.le_of_ble_eq_true rfl) dX12_layCould_21 rfl rfl ⟨rfl, rfl⟩ ⟨Nat.zero_le _, Nat.zero_le _⟩ (zO.of gH7 hh)) gH7 rfl (fun x_16 H16 lc16 hp_16 gH16 rH16 => ?_)
        have s_17 := rH16.keep hV kh0 rfl s7_u7_h0_39
        obtain ⟨hp_16_1, hp_16_2⟩ := hp_16
        refine lv_if_ne (tgt := 30) hx hb dX12_layCould_24 (by decide) (fun c_18 => ?_) (fun c_18 => ?_)
        · have f_18 := z_ne c_18 rfl kl_0
          refine lv_iconst (v := 0) hx hb dX12_layCould_30 (by decide) ?_
          refine lv_istore_n (lv' := [(3, .int 0), (0, .ref h0), (1, .int p0), (2, .int v7_2)]) hx hb dX12_layCould_31 rfl hl (by decide) rfl (fun ls hl => ?_)
          refine lv_iconst (v := 0) hx hb dX12_layCould_32 (by decide) ?_
          refine lv_istore (lv' := [(4, .int 0), (3, .int 0), (0, .ref h0), (1, .int p0), (2, .int v7_2)]) hx hb dX12_layCould_33 hl (by decide) rfl (fun ls hl => ?_)
          have := kl_0
          have := kl_0
          exact b35 65 H16 lc16 ls 0 0 (by omega) gH16 (lv_sub hl [2, 3, 4, 1, 0] rfl) (by omega) (by omega) (by omega) (by omega) (by omega) s_17 (by omega)
        · have f_18 := z_eq c_18 rfl kl_0
          refine lv_goto (tgt := 100) hx hb dX12_layCould_27 (by decide) ?_
          exact b100 H16 lc16 ls u7_h0_39 gH16 (lv_sub hl [0, 1, 2] rfl) (by omega) (by omega) (by omega) s_17 (by omega)
  refine lv_aload_n hx hb dX12_layCould_0 rfl (lv_at hl 0 rfl) ?_
  refine lv_iconst (v := 0) hx hb dX12_layCould_1 (by decide) ?_
  have := kl_0
  refine g_putI B fp_RX12_344 hV hG0 kh0 rfl rfl rfl rfl rfl (by omega) (by omega) rfl dX12_layCould_2 (fun H19 lc19 gH19 uH19 => ?_)
  refine lv_iconst (v := 0) hx hb dX12_layCould_5 (by decide) ?_
  refine lv_istore_n (lv' := [(2, .int 0), (0, .ref h0), (1, .int p0)]) hx hb dX12_layCould_6 rfl hl (by decide) rfl (fun ls hl => ?_)
  have := kl_0
  have := kl_0
  exact b7 65 H19 lc19 ls 0 0 (by omega) gH19 (lv_sub hl [1, 2, 0] rfl) (by omega) (by omega) (by omega) (by omega) uH19.2.1 (by omega)

theorem dX12_could_0 : decode cX12_could 0 = .ok (.iload_n 1, 1) := by decide +kernel
theorem dX12_could_1 : decode cX12_could 1 = .ok (.invokestatic 308, 3) := by decide +kernel
theorem dX12_could_4 : decode cX12_could 4 = .ok (.ifCond .ne 5, 3) := by decide +kernel
theorem dX12_could_7 : decode cX12_could 7 = .ok (.iconst (-1), 1) := by decide +kernel
theorem dX12_could_8 : decode cX12_could 8 = .ok (.ireturn, 1) := by decide +kernel
theorem dX12_could_9 : decode cX12_could 9 = .ok (.aload_n 0, 1) := by decide +kernel
theorem dX12_could_10 : decode cX12_could 10 = .ok (.iload_n 1, 1) := by decide +kernel
theorem dX12_could_11 : decode cX12_could 11 = .ok (.invokevirtual 353, 3) := by decide +kernel
theorem dX12_could_14 : decode cX12_could 14 = .ok (.aload_n 0, 1) := by decide +kernel
theorem dX12_could_15 : decode cX12_could 15 = .ok (.getfield 344, 3) := by decide +kernel
theorem dX12_could_18 : decode cX12_could 18 = .ok (.ireturn, 1) := by decide +kernel
def rm_X12_could : Room := { frames := 7, cells := 0, slots := 0, locals := 179 }
abbrev wS_X12_could : List (Nat × Nat) := [(13, 28), (13, 29), (13, 39), (60, 99)]
set_option maxRecDepth 100000 in
set_option maxHeartbeats 4000000 in
theorem c_X12_could (l : Launch) (E : zE) (hV : zV E) (H0 : Heap) (hT0 : HT E H0) (h0 : Nat) (kh0 : eK E h0 = 13) (p0 : Int32) : Met l yX12_could (zws yX12_could cX12_could 2 (some .int)) rm_X12_could (zP E H0 [.ref h0, .int p0]) (zQI E E wS_X12_could (fun r H1 => (-1) ≤ r.toInt ∧ r.toInt ≤ 64)) 0 0 (zfr E) := by
  refine zEnt (by decide) (Nat.le_of_ble_eq_true rfl) (fun p e s m args below meth c ls Q B hr hlk hh hQ hl => ?_)
  have hx := B.1
  have hb := B.2.1
  have hG0 : zG E wS_X12_could H0 H0 [] := zG.rf hT0
  have hl : lv_has ls 2 [(0, .ref h0), (1, .int p0)] := hl
  refine lv_iload_n hx hb dX12_could_0 rfl (lv_at hl 1 rfl) ?_
  refine zkPI (zrS (rest := []) B (c_X12_isKeeper l E hV H0 hT0 p0) cs_RX12_308 rfl hl.1 rfl (Nat.le_of_ble_eq_true rfl) dX12_could_1 rfl rfl ⟨rfl, rfl⟩ ⟨Nat.zero_le _, Nat.zero_le _⟩ (zO.of hG0 hh)) (fun x_1 hp_1 => ?_)
  obtain ⟨hp_1_1, hp_1_2, hp_1_3⟩ := hp_1
  refine lv_if_ne (tgt := 9) hx hb dX12_could_4 (by decide) (fun c_2 => ?_) (fun c_2 => ?_)
  · have f_2 := z_ne c_2 rfl kl_0
    refine lv_aload_n hx hb dX12_could_9 rfl (lv_at hl 0 rfl) ?_
    refine lv_iload_n hx hb dX12_could_10 rfl (lv_at hl 1 rfl) ?_
    refine zkV (zrV (rest := []) B (c_X12_layCould l E hV H0 hT0 h0 kh0 p0 (by omega) (by omega)) cl_RX12_353 hT0 kh0 rfl rfl rfl rfl hl.1 rfl (Nat.le_of_ble_eq_true rfl) dX12_could_11 rfl rfl ⟨rfl, rfl⟩ ⟨Nat.zero_le _, Nat.zero_le _⟩ (zO.of hG0 hh)) hG0 rfl (fun H3 lc3 hp_3 gH3 rH3 => ?_)
    refine lv_aload_n hx hb dX12_could_14 rfl (lv_at hl 0 rfl) ?_
    refine g_getI B fl_RX12_344 gH3.1 kh0 rfl rfl rfl rfl rfl dX12_could_15 (fun x_4 s_4 a_4 b_4 => ?_)
    exact rtI (v := x_4) B hr hlk hh hQ gH3 rfl ⟨by omega, by omega⟩ dX12_could_18
  · have f_2 := z_eq c_2 rfl kl_0
    refine lv_iconst (v := (-1)) hx hb dX12_could_7 (by decide) ?_
    have := kl_m1
    have := kl_m1
    exact rtI (v := (-1)) B hr hlk hh hQ hG0 rfl ⟨by omega, by omega⟩ dX12_could_8

theorem dX12_isLawful_0 : decode cX12_isLawful 0 = .ok (.sipush 128, 3) := by decide +kernel
theorem dX12_isLawful_3 : decode cX12_isLawful 3 = .ok (.istore 4, 2) := by decide +kernel
theorem dX12_isLawful_5 : decode cX12_isLawful 5 = .ok (.iload 4, 2) := by decide +kernel
theorem dX12_isLawful_7 : decode cX12_isLawful 7 = .ok (.sipush 128, 3) := by decide +kernel
theorem dX12_isLawful_10 : decode cX12_isLawful 10 = .ok (.aload_n 0, 1) := by decide +kernel
theorem dX12_isLawful_11 : decode cX12_isLawful 11 = .ok (.getfield 344, 3) := by decide +kernel
theorem dX12_isLawful_14 : decode cX12_isLawful 14 = .ok (.iadd, 1) := by decide +kernel
theorem dX12_isLawful_15 : decode cX12_isLawful 15 = .ok (.if_icmp .ge 54, 3) := by decide +kernel
theorem dX12_isLawful_18 : decode cX12_isLawful 18 = .ok (.aload_n 0, 1) := by decide +kernel
theorem dX12_isLawful_19 : decode cX12_isLawful 19 = .ok (.iload 4, 2) := by decide +kernel
theorem dX12_isLawful_21 : decode cX12_isLawful 21 = .ok (.invokevirtual 281, 3) := by decide +kernel
theorem dX12_isLawful_24 : decode cX12_isLawful 24 = .ok (.iload_n 1, 1) := by decide +kernel
theorem dX12_isLawful_25 : decode cX12_isLawful 25 = .ok (.if_icmp .ne 36, 3) := by decide +kernel
theorem dX12_isLawful_28 : decode cX12_isLawful 28 = .ok (.aload_n 0, 1) := by decide +kernel
theorem dX12_isLawful_29 : decode cX12_isLawful 29 = .ok (.iload 4, 2) := by decide +kernel
theorem dX12_isLawful_31 : decode cX12_isLawful 31 = .ok (.invokevirtual 284, 3) := by decide +kernel
theorem dX12_isLawful_34 : decode cX12_isLawful 34 = .ok (.ifCond .ge 27, 3) := by decide +kernel
theorem dX12_isLawful_37 : decode cX12_isLawful 37 = .ok (.aload_n 0, 1) := by decide +kernel
theorem dX12_isLawful_38 : decode cX12_isLawful 38 = .ok (.iload 4, 2) := by decide +kernel
theorem dX12_isLawful_40 : decode cX12_isLawful 40 = .ok (.iload_n 2, 1) := by decide +kernel
theorem dX12_isLawful_41 : decode cX12_isLawful 41 = .ok (.invokevirtual 287, 3) := by decide +kernel
theorem dX12_isLawful_44 : decode cX12_isLawful 44 = .ok (.ifCond .eq 17, 3) := by decide +kernel
theorem dX12_isLawful_47 : decode cX12_isLawful 47 = .ok (.aload_n 0, 1) := by decide +kernel
theorem dX12_isLawful_48 : decode cX12_isLawful 48 = .ok (.iload 4, 2) := by decide +kernel
theorem dX12_isLawful_50 : decode cX12_isLawful 50 = .ok (.iload_n 2, 1) := by decide +kernel
theorem dX12_isLawful_51 : decode cX12_isLawful 51 = .ok (.invokevirtual 290, 3) := by decide +kernel
theorem dX12_isLawful_54 : decode cX12_isLawful 54 = .ok (.iload_n 3, 1) := by decide +kernel
theorem dX12_isLawful_55 : decode cX12_isLawful 55 = .ok (.ishr, 1) := by decide +kernel
theorem dX12_isLawful_56 : decode cX12_isLawful 56 = .ok (.iconst 1, 1) := by decide +kernel
theorem dX12_isLawful_57 : decode cX12_isLawful 57 = .ok (.iand, 1) := by decide +kernel
theorem dX12_isLawful_58 : decode cX12_isLawful 58 = .ok (.ifCond .ne 5, 3) := by decide +kernel
theorem dX12_isLawful_61 : decode cX12_isLawful 61 = .ok (.iconst 0, 1) := by decide +kernel
theorem dX12_isLawful_62 : decode cX12_isLawful 62 = .ok (.ireturn, 1) := by decide +kernel
theorem dX12_isLawful_63 : decode cX12_isLawful 63 = .ok (.iinc 4 1, 3) := by decide +kernel
theorem dX12_isLawful_66 : decode cX12_isLawful 66 = .ok (.goto (-61), 3) := by decide +kernel
theorem dX12_isLawful_69 : decode cX12_isLawful 69 = .ok (.iconst 1, 1) := by decide +kernel
theorem dX12_isLawful_70 : decode cX12_isLawful 70 = .ok (.ireturn, 1) := by decide +kernel
def rm_X12_isLawful : Room := { frames := 4, cells := 0, slots := 0, locals := 102 }
set_option maxRecDepth 100000 in
set_option maxHeartbeats 4000000 in
theorem c_X12_isLawful (l : Launch) (E : zE) (hV : zV E) (H0 : Heap) (hT0 : HT E H0) (h0 : Nat) (kh0 : eK E h0 = 13) (p0 : Int32) (p0_lo : 0 ≤ p0.toInt) (p0_hi : p0.toInt ≤ 1) (p1 : Int32) (p1_lo : 0 ≤ p1.toInt) (p1_hi : p1.toInt ≤ 29) (p2 : Int32) (p2_lo : 0 ≤ p2.toInt) (p2_hi : p2.toInt ≤ 29) (fa : Nat) (kfa : eK E fa = 61) (s_fa : sl H0 h0 (zix E 13 12) = some (.ref fa)) (bk : Int32) (s_bk : sl H0 h0 (zix E 13 26) = some (.int bk)) (fv : Int32) (s_fv : sl H0 fa bk.toNatClampNeg = some (.int fv)) (fv_lo : 1 ≤ fv.toInt) (fv_hi : fv.toInt ≤ 5) : Met l yX12_isLawful (zws yX12_isLawful cX12_isLawful 5 (some .boolean)) rm_X12_isLawful (zP E H0 [.ref h0, .int p0, .int p1, .int p2]) (zPI (fun r => 0 ≤ r.toInt ∧ r.toInt ≤ 1)) 0 0 (fun _ => False) := by
  refine zEnt (by decide) (Nat.le_of_ble_eq_true rfl) (fun p e s m args below meth c ls Q B hr hlk hh hQ hl => ?_)
  have hx := B.1
  have hb := B.2.1
  have hl : lv_has ls 5 [(0, .ref h0), (1, .int p0), (2, .int p1), (3, .int p2)] := hl
  have bd_bk := HT.bdI hT0 kh0 rfl (j := 26) (by decide) rfl s_bk
  have b5 : ∀ (n5 : Nat) (ls : Array Slot) (v5_4 : Int32), 1073741822 - v5_4.toInt < (n5 : Int) → lv_has ls 5 [(0, .ref h0), (1, .int p0), (2, .int p1), (3, .int p2), (4, .int v5_4)] → 128 ≤ v5_4.toInt → v5_4.toInt ≤ 1073741822 → sl H0 h0 (zix E 13 12) = some (.ref fa) → sl H0 h0 (zix E 13 26) = some (.int bk) → sl H0 fa bk.toNatClampNeg = some (.int fv) → W p l e rm_X12_isLawful s m args below meth c H0 [] 0 0 Q (F0 m 5 ls []) := by
    intro n5
    induction n5 with
    | zero =>
      intro ls v5_4 hm5 hl f5_1 f5_2 s5_u5_h0_12 s5_u5_h0_26 s5_u5_fa_ebk
      exact absurd hm5 (by omega)
    | succ n5 ih5 =>
      intro ls v5_4 hm5 hl f5_1 f5_2 s5_u5_h0_12 s5_u5_h0_26 s5_u5_fa_ebk
      refine lv_iload hx hb dX12_isLawful_5 (lv_at hl 4 rfl) ?_
      refine lv_sipush (v := 128) hx hb dX12_isLawful_7 (by decide) ?_
      refine lv_aload_n hx hb dX12_isLawful_10 rfl (lv_at hl 0 rfl) ?_
      refine g_getI B fl_RX12_344 hT0 kh0 rfl rfl rfl rfl rfl dX12_isLawful_11 (fun x_1 s_1 a_1 b_1 => ?_)
      refine lv_iadd hx hb dX12_isLawful_14 ?_
      refine lv_topi (fun x_2 e_2 => ?_)
      have t_2 := z_add e_2 kl_128 rfl (by omega) (by omega)
      refine lv_icmp_ge (tgt := 69) hx hb dX12_isLawful_15 (by decide) (fun c_3 => ?_) (fun c_3 => ?_)
      · have f_3 := z_le c_3 rfl rfl
        refine lv_iconst (v := 1) hx hb dX12_isLawful_69 (by decide) ?_
        have := kl_1
        have := kl_1
        exact rtPI (v := 1) B hr hlk hh hQ rfl ⟨by omega, by omega⟩ dX12_isLawful_70
      · have f_3 := z_nle c_3 rfl rfl
        refine lv_aload_n hx hb dX12_isLawful_18 rfl (lv_at hl 0 rfl) ?_
        refine lv_iload hx hb dX12_isLawful_19 (lv_at hl 4 rfl) ?_
        refine zkPI (zrV (rest := []) B (c_X12_turnOf l E hV H0 hT0 h0 kh0 v5_4 (by omega) (by omega)) cl_RX12_281 hT0 kh0 rfl rfl rfl rfl hl.1 rfl (Nat.le_of_ble_eq_true rfl) dX12_isLawful_21 rfl rfl ⟨rfl, rfl⟩ ⟨Nat.zero_le _, Nat.zero_le _⟩ (zO.rf hh)) (fun x_4 hp_4 => ?_)
        refine lv_iload_n hx hb dX12_isLawful_24 rfl (lv_at hl 1 rfl) ?_
        refine lv_icmp_ne (tgt := 61) hx hb dX12_isLawful_25 (by decide) (fun c_5 => ?_) (fun c_5 => ?_)
        · have f_5 := z_ne c_5 rfl rfl
          refine lv_iconst (v := 0) hx hb dX12_isLawful_61 (by decide) ?_
          have := kl_0
          have := kl_0
          exact rtPI (v := 0) B hr hlk hh hQ rfl ⟨by omega, by omega⟩ dX12_isLawful_62
        · have f_5 := z_eq c_5 rfl rfl
          refine lv_aload_n hx hb dX12_isLawful_28 rfl (lv_at hl 0 rfl) ?_
          refine lv_iload hx hb dX12_isLawful_29 (lv_at hl 4 rfl) ?_
          refine zkPI (zrV (rest := []) B (c_X12_kingless l E hV H0 hT0 h0 kh0 v5_4 (by omega) (by omega)) cl_RX12_284 hT0 kh0 rfl rfl rfl rfl hl.1 rfl (Nat.le_of_ble_eq_true rfl) dX12_isLawful_31 rfl rfl ⟨rfl, rfl⟩ ⟨Nat.zero_le _, Nat.zero_le _⟩ (zO.rf hh)) (fun x_6 hp_6 => ?_)
          obtain ⟨hp_6_1, hp_6_2⟩ := hp_6
          refine lv_if_ge (tgt := 61) hx hb dX12_isLawful_34 (by decide) (fun c_7 => ?_) (fun c_7 => ?_)
          · have f_7 := z_le c_7 kl_0 rfl
            refine lv_iconst (v := 0) hx hb dX12_isLawful_61 (by decide) ?_
            have := kl_0
            have := kl_0
            exact rtPI (v := 0) B hr hlk hh hQ rfl ⟨by omega, by omega⟩ dX12_isLawful_62
          · have f_7 := z_nle c_7 kl_0 rfl
            refine lv_aload_n hx hb dX12_isLawful_37 rfl (lv_at hl 0 rfl) ?_
            refine lv_iload hx hb dX12_isLawful_38 (lv_at hl 4 rfl) ?_
            refine lv_iload_n hx hb dX12_isLawful_40 rfl (lv_at hl 2 rfl) ?_
            obtain ⟨q_8, s_8, k_q_8⟩ := HT.atR hT0 kh0 rfl (j := 2) (by decide) rfl
            refine zkPI (zrV (rest := []) B (c_X12_isOwn l E hV H0 hT0 h0 kh0 v5_4 (by omega) (by omega) p1 (by omega) (by omega) q_8 k_q_8 s_8) cl_RX12_287 hT0 kh0 rfl rfl rfl rfl hl.1 rfl (Nat.le_of_ble_eq_true rfl) dX12_isLawful_41 rfl rfl ⟨rfl, rfl⟩ ⟨Nat.zero_le _, Nat.zero_le _⟩ (zO.rf hh)) (fun x_9 hp_9 => ?_)
            obtain ⟨hp_9_1, hp_9_2, hp_9_3⟩ := hp_9
            refine lv_if_eq (tgt := 61) hx hb dX12_isLawful_44 (by decide) (fun c_10 => ?_) (fun c_10 => ?_)
            · have f_10 := z_eq c_10 rfl kl_0
              refine lv_iconst (v := 0) hx hb dX12_isLawful_61 (by decide) ?_
              have := kl_0
              have := kl_0
              exact rtPI (v := 0) B hr hlk hh hQ rfl ⟨by omega, by omega⟩ dX12_isLawful_62
            · have f_10 := z_ne c_10 rfl kl_0
              refine lv_aload_n hx hb dX12_isLawful_47 rfl (lv_at hl 0 rfl) ?_
              refine lv_iload hx hb dX12_isLawful_48 (lv_at hl 4 rfl) ?_
              refine lv_iload_n hx hb dX12_isLawful_50 rfl (lv_at hl 2 rfl) ?_
              refine zkPI (zrV (rest := []) B (c_X12_goesTo l E hV H0 hT0 h0 kh0 v5_4 (by omega) (by omega) p1 (by omega) (by omega) fa kfa s5_u5_h0_12 bk s5_u5_h0_26 fv s5_u5_fa_ebk (by omega) (by omega) q_8 k_q_8 s_8 (hp_9_3.resolve_left (by omega))) cl_RX12_290 hT0 kh0 rfl rfl rfl rfl hl.1 rfl (Nat.le_of_ble_eq_true rfl) dX12_isLawful_51 rfl rfl ⟨rfl, rfl⟩ ⟨Nat.zero_le _, Nat.zero_le _⟩ (zO.rf hh)) (fun x_11 hp_11 => ?_)
              obtain ⟨hp_11_1, hp_11_2⟩ := hp_11
              refine lv_iload_n hx hb dX12_isLawful_54 rfl (lv_at hl 3 rfl) ?_
              refine lv_ishr hx hb dX12_isLawful_55 ?_
              refine lv_topi (fun x_12 e_12 => ?_)
              refine lv_iconst (v := 1) hx hb dX12_isLawful_56 (by decide) ?_
              refine lv_iand hx hb dX12_isLawful_57 ?_
              refine lv_topi (fun x_13 e_13 => ?_)
              have t_13 := z_andR e_13 kl_1 (by omega)
              refine lv_if_ne (tgt := 63) hx hb dX12_isLawful_58 (by decide) (fun c_14 => ?_) (fun c_14 => ?_)
              · have f_14 := z_ne c_14 rfl kl_0
                obtain ⟨x_15, e_15⟩ : ∃ y : Int32, (v5_4 : Int32) + Int32.ofInt 1 = y := ⟨_, rfl⟩
                refine lv_iinc (v := x_15) (lv' := [(4, .int x_15), (0, .ref h0), (1, .int p0), (2, .int p1), (3, .int p2)]) hx hb dX12_isLawful_63 hl (k := 4) rfl e_15 (by decide) rfl (fun ls hl => ?_)
                have t_15 := z_inc2 e_15 rfl (by decide) (by omega) (by omega)
                refine lv_goto (tgt := 5) hx hb dX12_isLawful_66 (by decide) ?_
                exact ih5 ls x_15 (by omega) (lv_sub hl [1, 2, 3, 4, 0] rfl) (by omega) (by omega) s5_u5_h0_12 s5_u5_h0_26 s5_u5_fa_ebk
              · have f_14 := z_eq c_14 rfl kl_0
                refine lv_iconst (v := 0) hx hb dX12_isLawful_61 (by decide) ?_
                have := kl_0
                have := kl_0
                exact rtPI (v := 0) B hr hlk hh hQ rfl ⟨by omega, by omega⟩ dX12_isLawful_62
  refine lv_sipush (v := 128) hx hb dX12_isLawful_0 (by decide) ?_
  refine lv_istore (lv' := [(4, .int 128), (0, .ref h0), (1, .int p0), (2, .int p1), (3, .int p2)]) hx hb dX12_isLawful_3 hl (by decide) rfl (fun ls hl => ?_)
  have := kl_128
  exact b5 1073741695 ls 128 (by omega) (lv_sub hl [1, 2, 3, 4, 0] rfl) (by omega) (by omega) s_fa s_bk s_fv

theorem dX12_lawfulBy_0 : decode cX12_lawfulBy 0 = .ok (.aload_n 0, 1) := by decide +kernel
theorem dX12_lawfulBy_1 : decode cX12_lawfulBy 1 = .ok (.iload_n 1, 1) := by decide +kernel
theorem dX12_lawfulBy_2 : decode cX12_lawfulBy 2 = .ok (.invokevirtual 353, 3) := by decide +kernel
theorem dX12_lawfulBy_5 : decode cX12_lawfulBy 5 = .ok (.aload_n 0, 1) := by decide +kernel
theorem dX12_lawfulBy_6 : decode cX12_lawfulBy 6 = .ok (.iload_n 1, 1) := by decide +kernel
theorem dX12_lawfulBy_7 : decode cX12_lawfulBy 7 = .ok (.invokevirtual 314, 3) := by decide +kernel
theorem dX12_lawfulBy_10 : decode cX12_lawfulBy 10 = .ok (.istore_n 3, 1) := by decide +kernel
theorem dX12_lawfulBy_11 : decode cX12_lawfulBy 11 = .ok (.iconst 0, 1) := by decide +kernel
theorem dX12_lawfulBy_12 : decode cX12_lawfulBy 12 = .ok (.istore 4, 2) := by decide +kernel
theorem dX12_lawfulBy_14 : decode cX12_lawfulBy 14 = .ok (.iconst 0, 1) := by decide +kernel
theorem dX12_lawfulBy_15 : decode cX12_lawfulBy 15 = .ok (.istore 5, 2) := by decide +kernel
theorem dX12_lawfulBy_17 : decode cX12_lawfulBy 17 = .ok (.aload_n 0, 1) := by decide +kernel
theorem dX12_lawfulBy_18 : decode cX12_lawfulBy 18 = .ok (.iload_n 3, 1) := by decide +kernel
theorem dX12_lawfulBy_19 : decode cX12_lawfulBy 19 = .ok (.invokevirtual 281, 3) := by decide +kernel
theorem dX12_lawfulBy_22 : decode cX12_lawfulBy 22 = .ok (.iload_n 1, 1) := by decide +kernel
theorem dX12_lawfulBy_23 : decode cX12_lawfulBy 23 = .ok (.if_icmp .ne 50, 3) := by decide +kernel
theorem dX12_lawfulBy_26 : decode cX12_lawfulBy 26 = .ok (.aload_n 0, 1) := by decide +kernel
theorem dX12_lawfulBy_27 : decode cX12_lawfulBy 27 = .ok (.iload_n 3, 1) := by decide +kernel
theorem dX12_lawfulBy_28 : decode cX12_lawfulBy 28 = .ok (.iload 5, 2) := by decide +kernel
theorem dX12_lawfulBy_30 : decode cX12_lawfulBy 30 = .ok (.invokevirtual 317, 3) := by decide +kernel
theorem dX12_lawfulBy_33 : decode cX12_lawfulBy 33 = .ok (.ifCond .eq 40, 3) := by decide +kernel
theorem dX12_lawfulBy_36 : decode cX12_lawfulBy 36 = .ok (.aload_n 0, 1) := by decide +kernel
theorem dX12_lawfulBy_37 : decode cX12_lawfulBy 37 = .ok (.iload_n 1, 1) := by decide +kernel
theorem dX12_lawfulBy_38 : decode cX12_lawfulBy 38 = .ok (.aload_n 0, 1) := by decide +kernel
theorem dX12_lawfulBy_39 : decode cX12_lawfulBy 39 = .ok (.getfield 296, 3) := by decide +kernel
theorem dX12_lawfulBy_42 : decode cX12_lawfulBy 42 = .ok (.aload_n 0, 1) := by decide +kernel
theorem dX12_lawfulBy_43 : decode cX12_lawfulBy 43 = .ok (.getfield 299, 3) := by decide +kernel
theorem dX12_lawfulBy_46 : decode cX12_lawfulBy 46 = .ok (.invokevirtual 356, 3) := by decide +kernel
theorem dX12_lawfulBy_49 : decode cX12_lawfulBy 49 = .ok (.ifCond .ne 6, 3) := by decide +kernel
theorem dX12_lawfulBy_52 : decode cX12_lawfulBy 52 = .ok (.goto 15, 3) := by decide +kernel
theorem dX12_lawfulBy_55 : decode cX12_lawfulBy 55 = .ok (.iload 4, 2) := by decide +kernel
theorem dX12_lawfulBy_57 : decode cX12_lawfulBy 57 = .ok (.iload_n 2, 1) := by decide +kernel
theorem dX12_lawfulBy_58 : decode cX12_lawfulBy 58 = .ok (.if_icmp .ne 6, 3) := by decide +kernel
theorem dX12_lawfulBy_61 : decode cX12_lawfulBy 61 = .ok (.iload 5, 2) := by decide +kernel
theorem dX12_lawfulBy_63 : decode cX12_lawfulBy 63 = .ok (.ireturn, 1) := by decide +kernel
theorem dX12_lawfulBy_64 : decode cX12_lawfulBy 64 = .ok (.iinc 4 1, 3) := by decide +kernel
theorem dX12_lawfulBy_67 : decode cX12_lawfulBy 67 = .ok (.iinc 5 1, 3) := by decide +kernel
theorem dX12_lawfulBy_70 : decode cX12_lawfulBy 70 = .ok (.goto (-53), 3) := by decide +kernel
theorem dX12_lawfulBy_73 : decode cX12_lawfulBy 73 = .ok (.iload_n 2, 1) := by decide +kernel
theorem dX12_lawfulBy_74 : decode cX12_lawfulBy 74 = .ok (.ifCond .ge 8, 3) := by decide +kernel
theorem dX12_lawfulBy_77 : decode cX12_lawfulBy 77 = .ok (.iload 4, 2) := by decide +kernel
theorem dX12_lawfulBy_79 : decode cX12_lawfulBy 79 = .ok (.goto 4, 3) := by decide +kernel
theorem dX12_lawfulBy_82 : decode cX12_lawfulBy 82 = .ok (.iconst (-1), 1) := by decide +kernel
theorem dX12_lawfulBy_83 : decode cX12_lawfulBy 83 = .ok (.ireturn, 1) := by decide +kernel
def rm_X12_lawfulBy : Room := { frames := 7, cells := 0, slots := 0, locals := 179 }
abbrev wS_X12_lawfulBy : List (Nat × Nat) := [(13, 28), (13, 29), (13, 39), (60, 99)]
set_option maxRecDepth 100000 in
set_option maxHeartbeats 4000000 in
theorem c_X12_lawfulBy (l : Launch) (E : zE) (hV : zV E) (H0 : Heap) (hT0 : HT E H0) (h0 : Nat) (kh0 : eK E h0 = 13) (p0 : Int32) (p0_lo : 0 ≤ p0.toInt) (p0_hi : p0.toInt ≤ 1) (p1 : Int32) (fa : Nat) (kfa : eK E fa = 61) (s_fa : sl H0 h0 (zix E 13 12) = some (.ref fa)) (bk : Int32) (s_bk : sl H0 h0 (zix E 13 26) = some (.int bk)) (fv : Int32) (s_fv : sl H0 fa bk.toNatClampNeg = some (.int fv)) : Met l yX12_lawfulBy (zws yX12_lawfulBy cX12_lawfulBy 6 (some .int)) rm_X12_lawfulBy (zP E H0 [.ref h0, .int p0, .int p1]) (zQI E E wS_X12_lawfulBy (fun r H1 => True)) 0 0 (zfr E) := by
  refine zEnt (by decide) (Nat.le_of_ble_eq_true rfl) (fun p e s m args below meth c ls Q B hr hlk hh hQ hl => ?_)
  have hx := B.1
  have hb := B.2.1
  have hG0 : zG E wS_X12_lawfulBy H0 H0 [] := zG.rf hT0
  have hl : lv_has ls 6 [(0, .ref h0), (1, .int p0), (2, .int p1)] := hl
  have bd_bk := HT.bdI hT0 kh0 rfl (j := 26) (by decide) rfl s_bk
  have bd_fv := HT.bdE (i := bk) (N := 2) hT0 kfa rfl rfl rfl (by omega) (by omega) rfl s_fv
  have b73 : ∀ (H73 : Heap) (lc73 : List Loc) (ls : Array Slot) (v73_4 : Int32), zG E wS_X12_lawfulBy H0 H73 lc73 → lv_has ls 6 [(2, .int p1), (4, .int v73_4)] → sl H73 h0 (zix E 13 12) = some (.ref fa) → sl H73 h0 (zix E 13 26) = some (.int bk) → sl H73 fa bk.toNatClampNeg = some (.int fv) → W p l e rm_X12_lawfulBy s m args below meth c H73 lc73 0 0 Q (F0 m 73 ls []) := by
    intro H73 lc73 ls v73_4 gH73 hl s73_u73_h0_12 s73_u73_h0_26 s73_u73_fa_ebk
    refine lv_iload_n hx hb dX12_lawfulBy_73 rfl (lv_at hl 0 rfl) ?_
    refine lv_if_ge (tgt := 82) hx hb dX12_lawfulBy_74 (by decide) (fun c_1 => ?_) (fun c_1 => ?_)
    · have f_1 := z_le c_1 kl_0 rfl
      refine lv_iconst (v := (-1)) hx hb dX12_lawfulBy_82 (by decide) ?_
      have := kl_m1
      have := kl_m1
      exact rtI (v := (-1)) B hr hlk hh hQ gH73 rfl trivial dX12_lawfulBy_83
    · have f_1 := z_nle c_1 kl_0 rfl
      refine lv_iload hx hb dX12_lawfulBy_77 (lv_at hl 1 rfl) ?_
      refine lv_goto (tgt := 83) hx hb dX12_lawfulBy_79 (by decide) ?_
      exact rtI (v := v73_4) B hr hlk hh hQ gH73 rfl trivial dX12_lawfulBy_83
  have b17 : ∀ (n17 : Nat) (H17 : Heap) (lc17 : List Loc) (ls : Array Slot) (v17_3 : Int32) (v17_4 : Int32) (v17_5 : Int32), 900 - v17_5.toInt < (n17 : Int) → zG E wS_X12_lawfulBy H0 H17 lc17 → lv_has ls 6 [(0, .ref h0), (1, .int p0), (2, .int p1), (3, .int v17_3), (4, .int v17_4), (5, .int v17_5)] → 0 ≤ v17_3.toInt → v17_3.toInt ≤ 121 → 0 ≤ v17_5.toInt → v17_5.toInt ≤ 900 → sl H17 h0 (zix E 13 12) = some (.ref fa) → sl H17 h0 (zix E 13 26) = some (.int bk) → sl H17 fa bk.toNatClampNeg = some (.int fv) → W p l e rm_X12_lawfulBy s m args below meth c H17 lc17 0 0 Q (F0 m 17 ls []) := by
    intro n17
    induction n17 with
    | zero =>
      intro H17 lc17 ls v17_3 v17_4 v17_5 hm17 gH17 hl f17_1 f17_2 f17_3 f17_4 s17_u17_h0_12 s17_u17_h0_26 s17_u17_fa_ebk
      exact absurd hm17 (by omega)
    | succ n17 ih17 =>
      intro H17 lc17 ls v17_3 v17_4 v17_5 hm17 gH17 hl f17_1 f17_2 f17_3 f17_4 s17_u17_h0_12 s17_u17_h0_26 s17_u17_fa_ebk
      have b67 : ∀ (H67 : Heap) (lc67 : List Loc) (ls : Array Slot) (v67_4 : Int32) (u67_h0_28 : Int32) (u67_h0_29 : Int32), zG E wS_X12_lawfulBy H0 H67 lc67 → lv_has ls 6 [(0, .ref h0), (1, .int p0), (2, .int p1), (3, .int v17_3), (4, .int v67_4), (5, .int v17_5)] → v17_5.toInt ≤ 899 → 1 ≤ fv.toInt → 0 ≤ u67_h0_28.toInt → u67_h0_28.toInt ≤ 29 → 0 ≤ u67_h0_29.toInt → u67_h0_29.toInt ≤ 29 → sl H67 h0 (zix E 13 12) = some (.ref fa) → sl H67 h0 (zix E 13 26) = some (.int bk) → sl H67 fa bk.toNatClampNeg = some (.int fv) → sl H67 h0 (zix E 13 28) = some (.int u67_h0_28) → sl H67 h0 (zix E 13 29) = some (.int u67_h0_29) → W p l e rm_X12_lawfulBy s m args below meth c H67 lc67 0 0 Q (F0 m 67 ls []) := by
        intro H67 lc67 ls v67_4 u67_h0_28 u67_h0_29 gH67 hl f67_1 f67_2 f67_3 f67_4 f67_5 f67_6 s67_u67_h0_12 s67_u67_h0_26 s67_u67_fa_ebk s67_u67_h0_28 s67_u67_h0_29
        obtain ⟨x_2, e_2⟩ : ∃ y : Int32, (v17_5 : Int32) + Int32.ofInt 1 = y := ⟨_, rfl⟩
        refine lv_iinc (v := x_2) (lv' := [(5, .int x_2), (0, .ref h0), (1, .int p0), (2, .int p1), (3, .int v17_3), (4, .int v67_4)]) hx hb dX12_lawfulBy_67 hl (k := 5) rfl e_2 (by decide) rfl (fun ls hl => ?_)
        have t_2 := z_inc2 e_2 rfl (by decide) (by omega) (by omega)
        refine lv_goto (tgt := 17) hx hb dX12_lawfulBy_70 (by decide) ?_
        exact ih17 H67 lc67 ls v17_3 v67_4 x_2 (by omega) gH67 (lv_sub hl [1, 2, 3, 4, 5, 0] rfl) (by omega) (by omega) (by omega) (by omega) s67_u67_h0_12 s67_u67_h0_26 s67_u67_fa_ebk
      refine lv_aload_n hx hb dX12_lawfulBy_17 rfl (lv_at hl 0 rfl) ?_
      refine lv_iload_n hx hb dX12_lawfulBy_18 rfl (lv_at hl 3 rfl) ?_
      refine zkPI (zrV (rest := []) B (c_X12_turnOf l E hV H17 gH17.1 h0 kh0 v17_3 (by omega) (by omega)) cl_RX12_281 gH17.1 kh0 rfl rfl rfl rfl hl.1 rfl (Nat.le_of_ble_eq_true rfl) dX12_lawfulBy_19 rfl rfl ⟨rfl, rfl⟩ ⟨Nat.zero_le _, Nat.zero_le _⟩ (zO.of gH17 hh)) (fun x_3 hp_3 => ?_)
      refine lv_iload_n hx hb dX12_lawfulBy_22 rfl (lv_at hl 1 rfl) ?_
      refine lv_icmp_ne (tgt := 73) hx hb dX12_lawfulBy_23 (by decide) (fun c_4 => ?_) (fun c_4 => ?_)
      · have f_4 := z_ne c_4 rfl rfl
        exact b73 H17 lc17 ls v17_4 gH17 (lv_sub hl [2, 4] rfl) s17_u17_h0_12 s17_u17_h0_26 s17_u17_fa_ebk
      · have f_4 := z_eq c_4 rfl rfl
        refine lv_aload_n hx hb dX12_lawfulBy_26 rfl (lv_at hl 0 rfl) ?_
        refine lv_iload_n hx hb dX12_lawfulBy_27 rfl (lv_at hl 3 rfl) ?_
        refine lv_iload hx hb dX12_lawfulBy_28 (lv_at hl 5 rfl) ?_
        refine zkI (zrV (rest := []) B (c_X12_findMove l E hV H17 gH17.1 h0 kh0 v17_3 (by omega) (by omega) v17_5 fa kfa s17_u17_h0_12 bk s17_u17_h0_26 fv s17_u17_fa_ebk) cl_RX12_317 gH17.1 kh0 rfl rfl rfl rfl hl.1 rfl (Nat.le_of_ble_eq_true rfl) dX12_lawfulBy_30 rfl rfl ⟨rfl, rfl⟩ ⟨Nat.zero_le _, Nat.zero_le _⟩ (zO.of gH17 hh)) gH17 rfl (fun x_5 H5 lc5 hp_5 gH5 rH5 => ?_)
        have s_6 := rH5.keep hV kh0 rfl s17_u17_h0_12
        have s_7 := rH5.keep hV kh0 rfl s17_u17_h0_26
        have s_8 := rH5.keepA kfa rfl s17_u17_fa_ebk
        obtain ⟨hp_5_1, hp_5_2, hp_5_3⟩ := hp_5
        refine lv_if_eq (tgt := 73) hx hb dX12_lawfulBy_33 (by decide) (fun c_9 => ?_) (fun c_9 => ?_)
        · have f_9 := z_eq c_9 rfl kl_0
          exact b73 H5 lc5 ls v17_4 gH5 (lv_sub hl [2, 4] rfl) s_6 s_7 s_8
        · have f_9 := z_ne c_9 rfl kl_0
          refine lv_aload_n hx hb dX12_lawfulBy_36 rfl (lv_at hl 0 rfl) ?_
          refine lv_iload_n hx hb dX12_lawfulBy_37 rfl (lv_at hl 1 rfl) ?_
          refine lv_aload_n hx hb dX12_lawfulBy_38 rfl (lv_at hl 0 rfl) ?_
          refine g_getI B fl_RX12_296 gH5.1 kh0 rfl rfl rfl rfl rfl dX12_lawfulBy_39 (fun x_10 s_10 a_10 b_10 => ?_)
          refine lv_aload_n hx hb dX12_lawfulBy_42 rfl (lv_at hl 0 rfl) ?_
          refine g_getI B fl_RX12_299 gH5.1 kh0 rfl rfl rfl rfl rfl dX12_lawfulBy_43 (fun x_11 s_11 a_11 b_11 => ?_)
          refine zkPI (zrV (rest := []) B (c_X12_isLawful l E hV H5 gH5.1 h0 kh0 p0 (by omega) (by omega) x_10 (by omega) (by omega) x_11 (by omega) (by omega) fa kfa s_6 bk s_7 fv s_8 (by omega) (by omega)) cl_RX12_356 gH5.1 kh0 rfl rfl rfl rfl hl.1 rfl (Nat.le_of_ble_eq_true rfl) dX12_lawfulBy_46 rfl rfl ⟨rfl, rfl⟩ ⟨Nat.zero_le _, Nat.zero_le _⟩ (zO.of gH5 hh)) (fun x_12 hp_12 => ?_)
          obtain ⟨hp_12_1, hp_12_2⟩ := hp_12
          refine lv_if_ne (tgt := 55) hx hb dX12_lawfulBy_49 (by decide) (fun c_13 => ?_) (fun c_13 => ?_)
          · have f_13 := z_ne c_13 rfl kl_0
            refine lv_iload hx hb dX12_lawfulBy_55 (lv_at hl 4 rfl) ?_
            refine lv_iload_n hx hb dX12_lawfulBy_57 rfl (lv_at hl 2 rfl) ?_
            refine lv_icmp_ne (tgt := 64) hx hb dX12_lawfulBy_58 (by decide) (fun c_14 => ?_) (fun c_14 => ?_)
            · have f_14 := z_ne c_14 rfl rfl
              obtain ⟨x_15, e_15⟩ : ∃ y : Int32, (v17_4 : Int32) + Int32.ofInt 1 = y := ⟨_, rfl⟩
              refine lv_iinc (v := x_15) (lv' := [(4, .int x_15), (0, .ref h0), (1, .int p0), (2, .int p1), (3, .int v17_3), (5, .int v17_5)]) hx hb dX12_lawfulBy_64 hl (k := 4) rfl e_15 (by decide) rfl (fun ls hl => ?_)
              exact b67 H5 lc5 ls x_15 x_10 x_11 gH5 (lv_sub hl [1, 2, 3, 4, 0, 5] rfl) (by omega) (by omega) (by omega) (by omega) (by omega) (by omega) s_6 s_7 s_8 s_10 s_11
            · have f_14 := z_eq c_14 rfl rfl
              refine lv_iload hx hb dX12_lawfulBy_61 (lv_at hl 5 rfl) ?_
              exact rtI (v := v17_5) B hr hlk hh hQ gH5 rfl trivial dX12_lawfulBy_63
          · have f_13 := z_eq c_13 rfl kl_0
            refine lv_goto (tgt := 67) hx hb dX12_lawfulBy_52 (by decide) ?_
            exact b67 H5 lc5 ls v17_4 x_10 x_11 gH5 (lv_sub hl [0, 1, 2, 3, 4, 5] rfl) (by omega) (by omega) (by omega) (by omega) (by omega) (by omega) s_6 s_7 s_8 s_10 s_11
  refine lv_aload_n hx hb dX12_lawfulBy_0 rfl (lv_at hl 0 rfl) ?_
  refine lv_iload_n hx hb dX12_lawfulBy_1 rfl (lv_at hl 1 rfl) ?_
  refine zkV (zrV (rest := []) B (c_X12_layCould l E hV H0 hT0 h0 kh0 p0 (by omega) (by omega)) cl_RX12_353 hT0 kh0 rfl rfl rfl rfl hl.1 rfl (Nat.le_of_ble_eq_true rfl) dX12_lawfulBy_2 rfl rfl ⟨rfl, rfl⟩ ⟨Nat.zero_le _, Nat.zero_le _⟩ (zO.of hG0 hh)) hG0 rfl (fun H16 lc16 hp_16 gH16 rH16 => ?_)
  have s_17 := rH16.keep hV kh0 rfl s_fa
  have s_18 := rH16.keep hV kh0 rfl s_bk
  have s_19 := rH16.keepA kfa rfl s_fv
  refine lv_aload_n hx hb dX12_lawfulBy_5 rfl (lv_at hl 0 rfl) ?_
  refine lv_iload_n hx hb dX12_lawfulBy_6 rfl (lv_at hl 1 rfl) ?_
  refine zkPI (zrV (rest := []) B (c_X12_boardOf l E hV H16 gH16.1 h0 kh0 p0 (by omega) (by omega)) cl_RX12_314 gH16.1 kh0 rfl rfl rfl rfl hl.1 rfl (Nat.le_of_ble_eq_true rfl) dX12_lawfulBy_7 rfl rfl ⟨rfl, rfl⟩ ⟨Nat.zero_le _, Nat.zero_le _⟩ (zO.of gH16 hh)) (fun x_20 hp_20 => ?_)
  obtain ⟨hp_20_1, hp_20_2⟩ := hp_20
  refine lv_istore_n (lv' := [(3, .int x_20), (0, .ref h0), (1, .int p0), (2, .int p1)]) hx hb dX12_lawfulBy_10 rfl hl (by decide) rfl (fun ls hl => ?_)
  refine lv_iconst (v := 0) hx hb dX12_lawfulBy_11 (by decide) ?_
  refine lv_istore (lv' := [(4, .int 0), (3, .int x_20), (0, .ref h0), (1, .int p0), (2, .int p1)]) hx hb dX12_lawfulBy_12 hl (by decide) rfl (fun ls hl => ?_)
  refine lv_iconst (v := 0) hx hb dX12_lawfulBy_14 (by decide) ?_
  refine lv_istore (lv' := [(5, .int 0), (4, .int 0), (3, .int x_20), (0, .ref h0), (1, .int p0), (2, .int p1)]) hx hb dX12_lawfulBy_15 hl (by decide) rfl (fun ls hl => ?_)
  have := kl_0
  have := kl_0
  exact b17 901 H16 lc16 ls x_20 0 0 (by omega) gH16 (lv_sub hl [3, 4, 5, 2, 1, 0] rfl) (by omega) (by omega) (by omega) (by omega) s_17 s_18 s_19

theorem dX12_lawful_0 : decode cX12_lawful 0 = .ok (.iload_n 1, 1) := by decide +kernel
theorem dX12_lawful_1 : decode cX12_lawful 1 = .ok (.invokestatic 308, 3) := by decide +kernel
theorem dX12_lawful_4 : decode cX12_lawful 4 = .ok (.ifCond .eq 12, 3) := by decide +kernel
theorem dX12_lawful_7 : decode cX12_lawful 7 = .ok (.aload_n 0, 1) := by decide +kernel
theorem dX12_lawful_8 : decode cX12_lawful 8 = .ok (.iload_n 1, 1) := by decide +kernel
theorem dX12_lawful_9 : decode cX12_lawful 9 = .ok (.iconst (-1), 1) := by decide +kernel
theorem dX12_lawful_10 : decode cX12_lawful 10 = .ok (.invokevirtual 359, 3) := by decide +kernel
theorem dX12_lawful_13 : decode cX12_lawful 13 = .ok (.goto 4, 3) := by decide +kernel
theorem dX12_lawful_16 : decode cX12_lawful 16 = .ok (.iconst (-1), 1) := by decide +kernel
theorem dX12_lawful_17 : decode cX12_lawful 17 = .ok (.ireturn, 1) := by decide +kernel
def rm_X12_lawful : Room := { frames := 8, cells := 0, slots := 0, locals := 204 }
abbrev wS_X12_lawful : List (Nat × Nat) := [(13, 28), (13, 29), (13, 39), (60, 99)]
set_option maxRecDepth 100000 in
set_option maxHeartbeats 4000000 in
theorem c_X12_lawful (l : Launch) (E : zE) (hV : zV E) (H0 : Heap) (hT0 : HT E H0) (h0 : Nat) (kh0 : eK E h0 = 13) (p0 : Int32) : Met l yX12_lawful (zws yX12_lawful cX12_lawful 2 (some .int)) rm_X12_lawful (zP E H0 [.ref h0, .int p0]) (zQI E E wS_X12_lawful (fun r H1 => True)) 0 0 (zfr E) := by
  refine zEnt (by decide) (Nat.le_of_ble_eq_true rfl) (fun p e s m args below meth c ls Q B hr hlk hh hQ hl => ?_)
  have hx := B.1
  have hb := B.2.1
  have hG0 : zG E wS_X12_lawful H0 H0 [] := zG.rf hT0
  have hl : lv_has ls 2 [(0, .ref h0), (1, .int p0)] := hl
  refine lv_iload_n hx hb dX12_lawful_0 rfl (lv_at hl 1 rfl) ?_
  refine zkPI (zrS (rest := []) B (c_X12_isKeeper l E hV H0 hT0 p0) cs_RX12_308 rfl hl.1 rfl (Nat.le_of_ble_eq_true rfl) dX12_lawful_1 rfl rfl ⟨rfl, rfl⟩ ⟨Nat.zero_le _, Nat.zero_le _⟩ (zO.of hG0 hh)) (fun x_1 hp_1 => ?_)
  obtain ⟨hp_1_1, hp_1_2, hp_1_3⟩ := hp_1
  refine lv_if_eq (tgt := 16) hx hb dX12_lawful_4 (by decide) (fun c_2 => ?_) (fun c_2 => ?_)
  · have f_2 := z_eq c_2 rfl kl_0
    refine lv_iconst (v := (-1)) hx hb dX12_lawful_16 (by decide) ?_
    have := kl_m1
    have := kl_m1
    exact rtI (v := (-1)) B hr hlk hh hQ hG0 rfl trivial dX12_lawful_17
  · have f_2 := z_ne c_2 rfl kl_0
    refine lv_aload_n hx hb dX12_lawful_7 rfl (lv_at hl 0 rfl) ?_
    refine lv_iload_n hx hb dX12_lawful_8 rfl (lv_at hl 1 rfl) ?_
    refine lv_iconst (v := (-1)) hx hb dX12_lawful_9 (by decide) ?_
    obtain ⟨q_3, s_3, k_q_3⟩ := HT.atR hT0 kh0 rfl (j := 12) (by decide) rfl
    obtain ⟨x_4, s_4, a_4, b_4⟩ := HT.atI hT0 kh0 rfl (j := 26) (by decide) rfl
    obtain ⟨x_5, s_5, a_5, b_5⟩ := HT.elI (i := x_4) (N := 2) hT0 k_q_3 rfl rfl rfl (by omega) (by omega) rfl
    refine zkI (zrV (rest := []) B (c_X12_lawfulBy l E hV H0 hT0 h0 kh0 p0 (by omega) (by omega) (-1) q_3 k_q_3 s_3 x_4 s_4 x_5 s_5) cl_RX12_359 hT0 kh0 rfl rfl rfl rfl hl.1 rfl (Nat.le_of_ble_eq_true rfl) dX12_lawful_10 rfl rfl ⟨rfl, rfl⟩ ⟨Nat.zero_le _, Nat.zero_le _⟩ (zO.of hG0 hh)) hG0 rfl (fun x_6 H6 lc6 hp_6 gH6 rH6 => ?_)
    refine lv_goto (tgt := 17) hx hb dX12_lawful_13 (by decide) ?_
    exact rtI (v := x_6) B hr hlk hh hQ gH6 rfl trivial dX12_lawful_17

theorem dX12_lawfulAt_0 : decode cX12_lawfulAt 0 = .ok (.iload_n 1, 1) := by decide +kernel
theorem dX12_lawfulAt_1 : decode cX12_lawfulAt 1 = .ok (.invokestatic 308, 3) := by decide +kernel
theorem dX12_lawfulAt_4 : decode cX12_lawfulAt 4 = .ok (.ifCond .eq 16, 3) := by decide +kernel
theorem dX12_lawfulAt_7 : decode cX12_lawfulAt 7 = .ok (.iload_n 2, 1) := by decide +kernel
theorem dX12_lawfulAt_8 : decode cX12_lawfulAt 8 = .ok (.ifCond .lt 12, 3) := by decide +kernel
theorem dX12_lawfulAt_11 : decode cX12_lawfulAt 11 = .ok (.aload_n 0, 1) := by decide +kernel
theorem dX12_lawfulAt_12 : decode cX12_lawfulAt 12 = .ok (.iload_n 1, 1) := by decide +kernel
theorem dX12_lawfulAt_13 : decode cX12_lawfulAt 13 = .ok (.iload_n 2, 1) := by decide +kernel
theorem dX12_lawfulAt_14 : decode cX12_lawfulAt 14 = .ok (.invokevirtual 359, 3) := by decide +kernel
theorem dX12_lawfulAt_17 : decode cX12_lawfulAt 17 = .ok (.goto 4, 3) := by decide +kernel
theorem dX12_lawfulAt_20 : decode cX12_lawfulAt 20 = .ok (.iconst (-1), 1) := by decide +kernel
theorem dX12_lawfulAt_21 : decode cX12_lawfulAt 21 = .ok (.ireturn, 1) := by decide +kernel
def rm_X12_lawfulAt : Room := { frames := 8, cells := 0, slots := 0, locals := 204 }
abbrev wS_X12_lawfulAt : List (Nat × Nat) := [(13, 28), (13, 29), (13, 39), (60, 99)]
set_option maxRecDepth 100000 in
set_option maxHeartbeats 4000000 in
theorem c_X12_lawfulAt (l : Launch) (E : zE) (hV : zV E) (H0 : Heap) (hT0 : HT E H0) (h0 : Nat) (kh0 : eK E h0 = 13) (p0 : Int32) (p1 : Int32) : Met l yX12_lawfulAt (zws yX12_lawfulAt cX12_lawfulAt 3 (some .int)) rm_X12_lawfulAt (zP E H0 [.ref h0, .int p0, .int p1]) (zQI E E wS_X12_lawfulAt (fun r H1 => True)) 0 0 (zfr E) := by
  refine zEnt (by decide) (Nat.le_of_ble_eq_true rfl) (fun p e s m args below meth c ls Q B hr hlk hh hQ hl => ?_)
  have hx := B.1
  have hb := B.2.1
  have hG0 : zG E wS_X12_lawfulAt H0 H0 [] := zG.rf hT0
  have hl : lv_has ls 3 [(0, .ref h0), (1, .int p0), (2, .int p1)] := hl
  refine lv_iload_n hx hb dX12_lawfulAt_0 rfl (lv_at hl 1 rfl) ?_
  refine zkPI (zrS (rest := []) B (c_X12_isKeeper l E hV H0 hT0 p0) cs_RX12_308 rfl hl.1 rfl (Nat.le_of_ble_eq_true rfl) dX12_lawfulAt_1 rfl rfl ⟨rfl, rfl⟩ ⟨Nat.zero_le _, Nat.zero_le _⟩ (zO.of hG0 hh)) (fun x_1 hp_1 => ?_)
  obtain ⟨hp_1_1, hp_1_2, hp_1_3⟩ := hp_1
  refine lv_if_eq (tgt := 20) hx hb dX12_lawfulAt_4 (by decide) (fun c_2 => ?_) (fun c_2 => ?_)
  · have f_2 := z_eq c_2 rfl kl_0
    refine lv_iconst (v := (-1)) hx hb dX12_lawfulAt_20 (by decide) ?_
    have := kl_m1
    have := kl_m1
    exact rtI (v := (-1)) B hr hlk hh hQ hG0 rfl trivial dX12_lawfulAt_21
  · have f_2 := z_ne c_2 rfl kl_0
    refine lv_iload_n hx hb dX12_lawfulAt_7 rfl (lv_at hl 2 rfl) ?_
    refine lv_if_lt (tgt := 20) hx hb dX12_lawfulAt_8 (by decide) (fun c_3 => ?_) (fun c_3 => ?_)
    · have f_3 := z_lt c_3 rfl kl_0
      refine lv_iconst (v := (-1)) hx hb dX12_lawfulAt_20 (by decide) ?_
      have := kl_m1
      have := kl_m1
      exact rtI (v := (-1)) B hr hlk hh hQ hG0 rfl trivial dX12_lawfulAt_21
    · have f_3 := z_nlt c_3 rfl kl_0
      refine lv_aload_n hx hb dX12_lawfulAt_11 rfl (lv_at hl 0 rfl) ?_
      refine lv_iload_n hx hb dX12_lawfulAt_12 rfl (lv_at hl 1 rfl) ?_
      refine lv_iload_n hx hb dX12_lawfulAt_13 rfl (lv_at hl 2 rfl) ?_
      obtain ⟨q_4, s_4, k_q_4⟩ := HT.atR hT0 kh0 rfl (j := 12) (by decide) rfl
      obtain ⟨x_5, s_5, a_5, b_5⟩ := HT.atI hT0 kh0 rfl (j := 26) (by decide) rfl
      obtain ⟨x_6, s_6, a_6, b_6⟩ := HT.elI (i := x_5) (N := 2) hT0 k_q_4 rfl rfl rfl (by omega) (by omega) rfl
      refine zkI (zrV (rest := []) B (c_X12_lawfulBy l E hV H0 hT0 h0 kh0 p0 (by omega) (by omega) p1 q_4 k_q_4 s_4 x_5 s_5 x_6 s_6) cl_RX12_359 hT0 kh0 rfl rfl rfl rfl hl.1 rfl (Nat.le_of_ble_eq_true rfl) dX12_lawfulAt_14 rfl rfl ⟨rfl, rfl⟩ ⟨Nat.zero_le _, Nat.zero_le _⟩ (zO.of hG0 hh)) hG0 rfl (fun x_7 H7 lc7 hp_7 gH7 rH7 => ?_)
      refine lv_goto (tgt := 21) hx hb dX12_lawfulAt_17 (by decide) ?_
      exact rtI (v := x_7) B hr hlk hh hQ gH7 rfl trivial dX12_lawfulAt_21
