theorem dX10_forget_0 : decode cX10_forget 0 = .ok (.aload_n 0, 1) := by decide +kernel
theorem dX10_forget_1 : decode cX10_forget 1 = .ok (.iconst 0, 1) := by decide +kernel
theorem dX10_forget_2 : decode cX10_forget 2 = .ok (.putfield 9, 3) := by decide +kernel
theorem dX10_forget_5 : decode cX10_forget 5 = .ok (.aload_n 0, 1) := by decide +kernel
theorem dX10_forget_6 : decode cX10_forget 6 = .ok (.iconst 0, 1) := by decide +kernel
theorem dX10_forget_7 : decode cX10_forget 7 = .ok (.putfield 15, 3) := by decide +kernel
theorem dX10_forget_10 : decode cX10_forget 10 = .ok (.aload_n 0, 1) := by decide +kernel
theorem dX10_forget_11 : decode cX10_forget 11 = .ok (.iconst 0, 1) := by decide +kernel
theorem dX10_forget_12 : decode cX10_forget 12 = .ok (.putfield 18, 3) := by decide +kernel
theorem dX10_forget_15 : decode cX10_forget 15 = .ok (.aload_n 0, 1) := by decide +kernel
theorem dX10_forget_16 : decode cX10_forget 16 = .ok (.iconst 0, 1) := by decide +kernel
theorem dX10_forget_17 : decode cX10_forget 17 = .ok (.putfield 21, 3) := by decide +kernel
theorem dX10_forget_20 : decode cX10_forget 20 = .ok (.aload_n 0, 1) := by decide +kernel
theorem dX10_forget_21 : decode cX10_forget 21 = .ok (.iconst 0, 1) := by decide +kernel
theorem dX10_forget_22 : decode cX10_forget 22 = .ok (.putfield 24, 3) := by decide +kernel
theorem dX10_forget_25 : decode cX10_forget 25 = .ok (.aload_n 0, 1) := by decide +kernel
theorem dX10_forget_26 : decode cX10_forget 26 = .ok (.getfield 53, 3) := by decide +kernel
theorem dX10_forget_29 : decode cX10_forget 29 = .ok (.invokevirtual 57, 3) := by decide +kernel
theorem dX10_forget_32 : decode cX10_forget 32 = .ok (.return_, 1) := by decide +kernel
def rm_X10_forget : Room := { frames := 1, cells := 0, slots := 0, locals := 20 }
abbrev wS_X10_forget : List (Nat × Nat) := [(5, 0), (5, 1), (5, 2), (5, 3), (5, 4), (5, 5), (5, 6), (11, 0), (11, 1), (11, 2), (11, 3), (11, 4)]
set_option maxRecDepth 100000 in
set_option maxHeartbeats 4000000 in
theorem c_X10_forget (l : Launch) (E : zE) (hV : zV E) (H0 : Heap) (hT0 : HT E H0) (h0 : Nat) (kh0 : eK E h0 = 11) : Met l yX10_forget (zws yX10_forget cX10_forget 1 none) rm_X10_forget (zP E H0 [.ref h0]) (zQV E E wS_X10_forget (fun H1 => True)) 0 0 (zfr E) := by
  refine zEnt (by decide) (Nat.le_of_ble_eq_true rfl) (fun p e s m args below meth c ls Q B hr hlk hh hQ hl => ?_)
  have hx := B.1
  have hb := B.2.1
  have hG0 : zG E wS_X10_forget H0 H0 [] := zG.rf hT0
  have hl : lv_has ls 1 [(0, .ref h0)] := hl
  refine lv_aload_n hx hb dX10_forget_0 rfl (lv_at hl 0 rfl) ?_
  refine lv_iconst (v := 0) hx hb dX10_forget_1 (by decide) ?_
  have := kl_0
  refine g_putI B fp_RX10_9 hV hG0 kh0 rfl rfl rfl rfl rfl (by omega) (by omega) rfl dX10_forget_2 (fun H1 lc1 gH1 uH1 => ?_)
  refine lv_aload_n hx hb dX10_forget_5 rfl (lv_at hl 0 rfl) ?_
  refine lv_iconst (v := 0) hx hb dX10_forget_6 (by decide) ?_
  have := kl_0
  refine g_putI B fp_RX10_15 hV gH1 kh0 rfl rfl rfl rfl rfl (by omega) (by omega) rfl dX10_forget_7 (fun H2 lc2 gH2 uH2 => ?_)
  refine lv_aload_n hx hb dX10_forget_10 rfl (lv_at hl 0 rfl) ?_
  refine lv_iconst (v := 0) hx hb dX10_forget_11 (by decide) ?_
  have := kl_0
  refine g_putI B fp_RX10_18 hV gH2 kh0 rfl rfl rfl rfl rfl (by omega) (by omega) rfl dX10_forget_12 (fun H3 lc3 gH3 uH3 => ?_)
  refine lv_aload_n hx hb dX10_forget_15 rfl (lv_at hl 0 rfl) ?_
  refine lv_iconst (v := 0) hx hb dX10_forget_16 (by decide) ?_
  have := kl_0
  refine g_putI B fp_RX10_21 hV gH3 kh0 rfl rfl rfl rfl rfl (z_rng _).1 (z_rng _).2 rfl dX10_forget_17 (fun H4 lc4 gH4 uH4 => ?_)
  refine lv_aload_n hx hb dX10_forget_20 rfl (lv_at hl 0 rfl) ?_
  refine lv_iconst (v := 0) hx hb dX10_forget_21 (by decide) ?_
  have := kl_0
  refine g_putI B fp_RX10_24 hV gH4 kh0 rfl rfl rfl rfl rfl (by omega) (by omega) rfl dX10_forget_22 (fun H5 lc5 gH5 uH5 => ?_)
  refine lv_aload_n hx hb dX10_forget_25 rfl (lv_at hl 0 rfl) ?_
  refine g_getR B fl_RX10_53 gH5.1 kh0 rfl rfl rfl rfl rfl dX10_forget_26 (fun q_6 s_6 k_q_6 => ?_)
  refine zkV (zrV (rest := []) B (c_X4_clear l E hV H5 gH5.1 q_6 k_q_6) cl_RX10_57 gH5.1 k_q_6 rfl rfl rfl rfl hl.1 rfl (Nat.le_of_ble_eq_true rfl) dX10_forget_29 rfl rfl ⟨rfl, rfl⟩ ⟨Nat.zero_le _, Nat.zero_le _⟩ (zO.of gH5 hh)) gH5 rfl (fun H7 lc7 hp_7 gH7 rH7 => ?_)
  exact rtV B hr hlk hh hQ gH7 trivial dX10_forget_32

theorem dX10_addPiece_0 : decode cX10_addPiece 0 = .ok (.aload_n 0, 1) := by decide +kernel
theorem dX10_addPiece_1 : decode cX10_addPiece 1 = .ok (.getfield 18, 3) := by decide +kernel
theorem dX10_addPiece_4 : decode cX10_addPiece 4 = .ok (.bipush 6, 2) := by decide +kernel
theorem dX10_addPiece_6 : decode cX10_addPiece 6 = .ok (.if_icmp .ge 43, 3) := by decide +kernel
theorem dX10_addPiece_9 : decode cX10_addPiece 9 = .ok (.aload_n 0, 1) := by decide +kernel
theorem dX10_addPiece_10 : decode cX10_addPiece 10 = .ok (.getfield 27, 3) := by decide +kernel
theorem dX10_addPiece_13 : decode cX10_addPiece 13 = .ok (.aload_n 0, 1) := by decide +kernel
theorem dX10_addPiece_14 : decode cX10_addPiece 14 = .ok (.getfield 18, 3) := by decide +kernel
theorem dX10_addPiece_17 : decode cX10_addPiece 17 = .ok (.iload_n 1, 1) := by decide +kernel
theorem dX10_addPiece_18 : decode cX10_addPiece 18 = .ok (.bastore, 1) := by decide +kernel
theorem dX10_addPiece_19 : decode cX10_addPiece 19 = .ok (.aload_n 0, 1) := by decide +kernel
theorem dX10_addPiece_20 : decode cX10_addPiece 20 = .ok (.getfield 31, 3) := by decide +kernel
theorem dX10_addPiece_23 : decode cX10_addPiece 23 = .ok (.aload_n 0, 1) := by decide +kernel
theorem dX10_addPiece_24 : decode cX10_addPiece 24 = .ok (.getfield 18, 3) := by decide +kernel
theorem dX10_addPiece_27 : decode cX10_addPiece 27 = .ok (.iconst 0, 1) := by decide +kernel
theorem dX10_addPiece_28 : decode cX10_addPiece 28 = .ok (.bastore, 1) := by decide +kernel
theorem dX10_addPiece_29 : decode cX10_addPiece 29 = .ok (.aload_n 0, 1) := by decide +kernel
theorem dX10_addPiece_30 : decode cX10_addPiece 30 = .ok (.getfield 34, 3) := by decide +kernel
theorem dX10_addPiece_33 : decode cX10_addPiece 33 = .ok (.aload_n 0, 1) := by decide +kernel
theorem dX10_addPiece_34 : decode cX10_addPiece 34 = .ok (.getfield 18, 3) := by decide +kernel
theorem dX10_addPiece_37 : decode cX10_addPiece 37 = .ok (.iconst 0, 1) := by decide +kernel
theorem dX10_addPiece_38 : decode cX10_addPiece 38 = .ok (.iastore, 1) := by decide +kernel
theorem dX10_addPiece_39 : decode cX10_addPiece 39 = .ok (.aload_n 0, 1) := by decide +kernel
theorem dX10_addPiece_40 : decode cX10_addPiece 40 = .ok (.dup, 1) := by decide +kernel
theorem dX10_addPiece_41 : decode cX10_addPiece 41 = .ok (.getfield 18, 3) := by decide +kernel
theorem dX10_addPiece_44 : decode cX10_addPiece 44 = .ok (.iconst 1, 1) := by decide +kernel
theorem dX10_addPiece_45 : decode cX10_addPiece 45 = .ok (.iadd, 1) := by decide +kernel
theorem dX10_addPiece_46 : decode cX10_addPiece 46 = .ok (.putfield 18, 3) := by decide +kernel
theorem dX10_addPiece_49 : decode cX10_addPiece 49 = .ok (.return_, 1) := by decide +kernel
def rm_X10_addPiece : Room := { frames := 0, cells := 0, slots := 0, locals := 0 }
abbrev wS_X10_addPiece : List (Nat × Nat) := [(11, 2), (51, 99), (52, 99), (53, 99)]
set_option maxRecDepth 100000 in
set_option maxHeartbeats 4000000 in
theorem c_X10_addPiece (l : Launch) (E : zE) (hV : zV E) (H0 : Heap) (hT0 : HT E H0) (h0 : Nat) (kh0 : eK E h0 = 11) (p0 : Int32) (p0_lo : 0 ≤ p0.toInt) (p0_hi : p0.toInt ≤ 1) : Met l yX10_addPiece (zws yX10_addPiece cX10_addPiece 2 none) rm_X10_addPiece (zP E H0 [.ref h0, .int p0]) (zQV E E wS_X10_addPiece (fun H1 => True)) 0 0 (zfr E) := by
  refine zEnt (by decide) (Nat.le_of_ble_eq_true rfl) (fun p e s m args below meth c ls Q B hr hlk hh hQ hl => ?_)
  have hx := B.1
  have hb := B.2.1
  have hG0 : zG E wS_X10_addPiece H0 H0 [] := zG.rf hT0
  have hl : lv_has ls 2 [(0, .ref h0), (1, .int p0)] := hl
  refine lv_aload_n hx hb dX10_addPiece_0 rfl (lv_at hl 0 rfl) ?_
  refine g_getI B fl_RX10_18 hT0 kh0 rfl rfl rfl rfl rfl dX10_addPiece_1 (fun x_1 s_1 a_1 b_1 => ?_)
  refine lv_bipush (v := 6) hx hb dX10_addPiece_4 (by decide) ?_
  refine lv_icmp_ge (tgt := 49) hx hb dX10_addPiece_6 (by decide) (fun c_2 => ?_) (fun c_2 => ?_)
  · have f_2 := z_le c_2 kl_6 rfl
    exact rtV B hr hlk hh hQ hG0 trivial dX10_addPiece_49
  · have f_2 := z_nle c_2 kl_6 rfl
    refine lv_aload_n hx hb dX10_addPiece_9 rfl (lv_at hl 0 rfl) ?_
    refine g_getR B fl_RX10_27 hT0 kh0 rfl rfl rfl rfl rfl dX10_addPiece_10 (fun q_3 s_3 k_q_3 => ?_)
    refine lv_aload_n hx hb dX10_addPiece_13 rfl (lv_at hl 0 rfl) ?_
    refine g_get B fl_RX10_18 hT0 kh0 rfl rfl rfl dX10_addPiece_14 s_1 ?_
    refine lv_iload_n hx hb dX10_addPiece_17 rfl (lv_at hl 1 rfl) ?_
    refine g_zastI (i := x_1) (N := 6) B hV hG0 k_q_3 rfl rfl rfl rfl (by omega) (by omega) rfl (by omega) (by omega) rfl dX10_addPiece_18 (fun H4 lc4 gH4 uH4 => ?_)
    have s_5 := uH4.keep (Or.inl (k_ne kh0 k_q_3 rfl)) s_1
    refine lv_aload_n hx hb dX10_addPiece_19 rfl (lv_at hl 0 rfl) ?_
    refine g_getR B fl_RX10_31 gH4.1 kh0 rfl rfl rfl rfl rfl dX10_addPiece_20 (fun q_6 s_6 k_q_6 => ?_)
    refine lv_aload_n hx hb dX10_addPiece_23 rfl (lv_at hl 0 rfl) ?_
    refine g_get B fl_RX10_18 gH4.1 kh0 rfl rfl rfl dX10_addPiece_24 s_5 ?_
    refine lv_iconst (v := 0) hx hb dX10_addPiece_27 (by decide) ?_
    have := kl_0
    refine g_zastI (i := x_1) (N := 6) B hV gH4 k_q_6 rfl rfl rfl rfl (by omega) (by omega) rfl (by omega) (by omega) rfl dX10_addPiece_28 (fun H7 lc7 gH7 uH7 => ?_)
    have s_8 := uH7.keep (Or.inl (k_ne kh0 k_q_6 rfl)) s_5
    refine lv_aload_n hx hb dX10_addPiece_29 rfl (lv_at hl 0 rfl) ?_
    refine g_getR B fl_RX10_34 gH7.1 kh0 rfl rfl rfl rfl rfl dX10_addPiece_30 (fun q_9 s_9 k_q_9 => ?_)
    refine lv_aload_n hx hb dX10_addPiece_33 rfl (lv_at hl 0 rfl) ?_
    refine g_get B fl_RX10_18 gH7.1 kh0 rfl rfl rfl dX10_addPiece_34 s_8 ?_
    refine lv_iconst (v := 0) hx hb dX10_addPiece_37 (by decide) ?_
    have := kl_0
    refine g_iastI (i := x_1) (N := 6) B hV gH7 k_q_9 rfl rfl rfl rfl (by omega) (by omega) rfl (by omega) (by omega) rfl dX10_addPiece_38 (fun H10 lc10 gH10 uH10 => ?_)
    have s_11 := uH10.keep (Or.inl (k_ne kh0 k_q_9 rfl)) s_8
    refine lv_aload_n hx hb dX10_addPiece_39 rfl (lv_at hl 0 rfl) ?_
    refine lv_dup hx hb dX10_addPiece_40 rfl ?_
    refine g_get B fl_RX10_18 gH10.1 kh0 rfl rfl rfl dX10_addPiece_41 s_11 ?_
    refine lv_iconst (v := 1) hx hb dX10_addPiece_44 (by decide) ?_
    refine lv_iadd hx hb dX10_addPiece_45 ?_
    refine lv_topi (fun x_12 e_12 => ?_)
    have t_12 := z_add e_12 rfl kl_1 (by omega) (by omega)
    refine g_putI B fp_RX10_18 hV gH10 kh0 rfl rfl rfl rfl rfl (by omega) (by omega) rfl dX10_addPiece_46 (fun H13 lc13 gH13 uH13 => ?_)
    exact rtV B hr hlk hh hQ gH13 trivial dX10_addPiece_49

theorem dX10_addWay_0 : decode cX10_addWay 0 = .ok (.aload_n 0, 1) := by decide +kernel
theorem dX10_addWay_1 : decode cX10_addWay 1 = .ok (.getfield 34, 3) := by decide +kernel
theorem dX10_addWay_4 : decode cX10_addWay 4 = .ok (.iload_n 1, 1) := by decide +kernel
theorem dX10_addWay_5 : decode cX10_addWay 5 = .ok (.iaload, 1) := by decide +kernel
theorem dX10_addWay_6 : decode cX10_addWay 6 = .ok (.bipush 6, 2) := by decide +kernel
theorem dX10_addWay_8 : decode cX10_addWay 8 = .ok (.if_icmp .ge 51, 3) := by decide +kernel
theorem dX10_addWay_11 : decode cX10_addWay 11 = .ok (.iload_n 1, 1) := by decide +kernel
theorem dX10_addWay_12 : decode cX10_addWay 12 = .ok (.bipush 6, 2) := by decide +kernel
theorem dX10_addWay_14 : decode cX10_addWay 14 = .ok (.imul, 1) := by decide +kernel
theorem dX10_addWay_15 : decode cX10_addWay 15 = .ok (.aload_n 0, 1) := by decide +kernel
theorem dX10_addWay_16 : decode cX10_addWay 16 = .ok (.getfield 34, 3) := by decide +kernel
theorem dX10_addWay_19 : decode cX10_addWay 19 = .ok (.iload_n 1, 1) := by decide +kernel
theorem dX10_addWay_20 : decode cX10_addWay 20 = .ok (.iaload, 1) := by decide +kernel
theorem dX10_addWay_21 : decode cX10_addWay 21 = .ok (.iadd, 1) := by decide +kernel
theorem dX10_addWay_22 : decode cX10_addWay 22 = .ok (.istore 5, 2) := by decide +kernel
theorem dX10_addWay_24 : decode cX10_addWay 24 = .ok (.aload_n 0, 1) := by decide +kernel
theorem dX10_addWay_25 : decode cX10_addWay 25 = .ok (.getfield 38, 3) := by decide +kernel
theorem dX10_addWay_28 : decode cX10_addWay 28 = .ok (.iload 5, 2) := by decide +kernel
theorem dX10_addWay_30 : decode cX10_addWay 30 = .ok (.iload_n 2, 1) := by decide +kernel
theorem dX10_addWay_31 : decode cX10_addWay 31 = .ok (.bastore, 1) := by decide +kernel
theorem dX10_addWay_32 : decode cX10_addWay 32 = .ok (.aload_n 0, 1) := by decide +kernel
theorem dX10_addWay_33 : decode cX10_addWay 33 = .ok (.getfield 41, 3) := by decide +kernel
theorem dX10_addWay_36 : decode cX10_addWay 36 = .ok (.iload 5, 2) := by decide +kernel
theorem dX10_addWay_38 : decode cX10_addWay 38 = .ok (.iload_n 3, 1) := by decide +kernel
theorem dX10_addWay_39 : decode cX10_addWay 39 = .ok (.iastore, 1) := by decide +kernel
theorem dX10_addWay_40 : decode cX10_addWay 40 = .ok (.aload_n 0, 1) := by decide +kernel
theorem dX10_addWay_41 : decode cX10_addWay 41 = .ok (.getfield 44, 3) := by decide +kernel
theorem dX10_addWay_44 : decode cX10_addWay 44 = .ok (.iload 5, 2) := by decide +kernel
theorem dX10_addWay_46 : decode cX10_addWay 46 = .ok (.iload 4, 2) := by decide +kernel
theorem dX10_addWay_48 : decode cX10_addWay 48 = .ok (.iastore, 1) := by decide +kernel
theorem dX10_addWay_49 : decode cX10_addWay 49 = .ok (.aload_n 0, 1) := by decide +kernel
theorem dX10_addWay_50 : decode cX10_addWay 50 = .ok (.getfield 34, 3) := by decide +kernel
theorem dX10_addWay_53 : decode cX10_addWay 53 = .ok (.iload_n 1, 1) := by decide +kernel
theorem dX10_addWay_54 : decode cX10_addWay 54 = .ok (.dup2, 1) := by decide +kernel
theorem dX10_addWay_55 : decode cX10_addWay 55 = .ok (.iaload, 1) := by decide +kernel
theorem dX10_addWay_56 : decode cX10_addWay 56 = .ok (.iconst 1, 1) := by decide +kernel
theorem dX10_addWay_57 : decode cX10_addWay 57 = .ok (.iadd, 1) := by decide +kernel
theorem dX10_addWay_58 : decode cX10_addWay 58 = .ok (.iastore, 1) := by decide +kernel
theorem dX10_addWay_59 : decode cX10_addWay 59 = .ok (.return_, 1) := by decide +kernel
def rm_X10_addWay : Room := { frames := 0, cells := 0, slots := 0, locals := 0 }
abbrev wS_X10_addWay : List (Nat × Nat) := [(53, 99), (54, 99), (55, 99), (56, 99)]
set_option maxRecDepth 100000 in
set_option maxHeartbeats 4000000 in
theorem c_X10_addWay (l : Launch) (E : zE) (hV : zV E) (H0 : Heap) (hT0 : HT E H0) (h0 : Nat) (kh0 : eK E h0 = 11) (p0 : Int32) (p0_lo : 0 ≤ p0.toInt) (p0_hi : p0.toInt ≤ 5) (p1 : Int32) (p1_lo : 0 ≤ p1.toInt) (p1_hi : p1.toInt ≤ 1) (p2 : Int32) (p3 : Int32) : Met l yX10_addWay (zws yX10_addWay cX10_addWay 6 none) rm_X10_addWay (zP E H0 [.ref h0, .int p0, .int p1, .int p2, .int p3]) (zQV E E wS_X10_addWay (fun H1 => True)) 0 0 (zfr E) := by
  refine zEnt (by decide) (Nat.le_of_ble_eq_true rfl) (fun p e s m args below meth c ls Q B hr hlk hh hQ hl => ?_)
  have hx := B.1
  have hb := B.2.1
  have hG0 : zG E wS_X10_addWay H0 H0 [] := zG.rf hT0
  have hl : lv_has ls 6 [(0, .ref h0), (1, .int p0), (2, .int p1), (3, .int p2), (4, .int p3)] := hl
  refine lv_aload_n hx hb dX10_addWay_0 rfl (lv_at hl 0 rfl) ?_
  refine g_getR B fl_RX10_34 hT0 kh0 rfl rfl rfl rfl rfl dX10_addWay_1 (fun q_1 s_1 k_q_1 => ?_)
  refine lv_iload_n hx hb dX10_addWay_4 rfl (lv_at hl 1 rfl) ?_
  refine g_ialdI (i := p0) (N := 6) B hT0 k_q_1 rfl rfl rfl rfl (by omega) (by omega) rfl dX10_addWay_5 (fun x_2 s_2 a_2 b_2 => ?_)
  refine lv_bipush (v := 6) hx hb dX10_addWay_6 (by decide) ?_
  refine lv_icmp_ge (tgt := 59) hx hb dX10_addWay_8 (by decide) (fun c_3 => ?_) (fun c_3 => ?_)
  · have f_3 := z_le c_3 kl_6 rfl
    exact rtV B hr hlk hh hQ hG0 trivial dX10_addWay_59
  · have f_3 := z_nle c_3 kl_6 rfl
    refine lv_iload_n hx hb dX10_addWay_11 rfl (lv_at hl 1 rfl) ?_
    refine lv_bipush (v := 6) hx hb dX10_addWay_12 (by decide) ?_
    refine lv_imul hx hb dX10_addWay_14 ?_
    refine lv_topi (fun x_4 e_4 => ?_)
    have t_4 := z_mul e_4 rfl kl_6 (by omega) (by omega)
    refine lv_aload_n hx hb dX10_addWay_15 rfl (lv_at hl 0 rfl) ?_
    refine g_get B fl_RX10_34 hT0 kh0 rfl rfl rfl dX10_addWay_16 s_1 ?_
    refine lv_iload_n hx hb dX10_addWay_19 rfl (lv_at hl 1 rfl) ?_
    refine g_iald (i := p0) (N := 6) B hT0 k_q_1 rfl rfl rfl rfl (by omega) (by omega) s_2 dX10_addWay_20 ?_
    refine lv_iadd hx hb dX10_addWay_21 ?_
    refine lv_topi (fun x_5 e_5 => ?_)
    have t_5 := z_add e_5 rfl rfl (by omega) (by omega)
    refine lv_istore (lv' := [(5, .int x_5), (0, .ref h0), (1, .int p0), (2, .int p1), (3, .int p2), (4, .int p3)]) hx hb dX10_addWay_22 hl (by decide) rfl (fun ls hl => ?_)
    refine lv_aload_n hx hb dX10_addWay_24 rfl (lv_at hl 1 rfl) ?_
    refine g_getR B fl_RX10_38 hT0 kh0 rfl rfl rfl rfl rfl dX10_addWay_25 (fun q_6 s_6 k_q_6 => ?_)
    refine lv_iload hx hb dX10_addWay_28 (lv_at hl 0 rfl) ?_
    refine lv_iload_n hx hb dX10_addWay_30 rfl (lv_at hl 3 rfl) ?_
    refine g_zastI (i := x_5) (N := 36) B hV hG0 k_q_6 rfl rfl rfl rfl (by omega) (by omega) rfl (by omega) (by omega) rfl dX10_addWay_31 (fun H7 lc7 gH7 uH7 => ?_)
    have s_8 := uH7.keep (Or.inl (k_ne kh0 k_q_6 rfl)) s_1
    have s_9 := uH7.keep (Or.inl (k_ne k_q_1 k_q_6 rfl)) s_2
    refine lv_aload_n hx hb dX10_addWay_32 rfl (lv_at hl 1 rfl) ?_
    refine g_getR B fl_RX10_41 gH7.1 kh0 rfl rfl rfl rfl rfl dX10_addWay_33 (fun q_10 s_10 k_q_10 => ?_)
    refine lv_iload hx hb dX10_addWay_36 (lv_at hl 0 rfl) ?_
    refine lv_iload_n hx hb dX10_addWay_38 rfl (lv_at hl 4 rfl) ?_
    refine g_iastI (i := x_5) (N := 36) B hV gH7 k_q_10 rfl rfl rfl rfl (by omega) (by omega) rfl (z_rng _).1 (z_rng _).2 rfl dX10_addWay_39 (fun H11 lc11 gH11 uH11 => ?_)
    have s_12 := uH11.keep (Or.inl (k_ne kh0 k_q_10 rfl)) s_8
    have s_13 := uH11.keep (Or.inl (k_ne k_q_1 k_q_10 rfl)) s_9
    have s_14 := uH11.keep (Or.inl (k_ne k_q_6 k_q_10 rfl)) uH7.2.1
    refine lv_aload_n hx hb dX10_addWay_40 rfl (lv_at hl 1 rfl) ?_
    refine g_getR B fl_RX10_44 gH11.1 kh0 rfl rfl rfl rfl rfl dX10_addWay_41 (fun q_15 s_15 k_q_15 => ?_)
    refine lv_iload hx hb dX10_addWay_44 (lv_at hl 0 rfl) ?_
    refine lv_iload hx hb dX10_addWay_46 (lv_at hl 5 rfl) ?_
    refine g_iastI (i := x_5) (N := 36) B hV gH11 k_q_15 rfl rfl rfl rfl (by omega) (by omega) rfl (z_rng _).1 (z_rng _).2 rfl dX10_addWay_48 (fun H16 lc16 gH16 uH16 => ?_)
    have s_17 := uH16.keep (Or.inl (k_ne kh0 k_q_15 rfl)) s_12
    have s_18 := uH16.keep (Or.inl (k_ne k_q_1 k_q_15 rfl)) s_13
    have s_19 := uH16.keep (Or.inl (k_ne k_q_6 k_q_15 rfl)) s_14
    have s_20 := uH16.keep (Or.inl (k_ne k_q_10 k_q_15 rfl)) uH11.2.1
    refine lv_aload_n hx hb dX10_addWay_49 rfl (lv_at hl 1 rfl) ?_
    refine g_get B fl_RX10_34 gH16.1 kh0 rfl rfl rfl dX10_addWay_50 s_17 ?_
    refine lv_iload_n hx hb dX10_addWay_53 rfl (lv_at hl 2 rfl) ?_
    refine lv_dup2_11 hx hb dX10_addWay_54 rfl rfl ?_
    refine g_iald (i := p0) (N := 6) B gH16.1 k_q_1 rfl rfl rfl rfl (by omega) (by omega) s_18 dX10_addWay_55 ?_
    refine lv_iconst (v := 1) hx hb dX10_addWay_56 (by decide) ?_
    refine lv_iadd hx hb dX10_addWay_57 ?_
    refine lv_topi (fun x_21 e_21 => ?_)
    have t_21 := z_add e_21 rfl kl_1 (by omega) (by omega)
    refine g_iastI (i := p0) (N := 6) B hV gH16 k_q_1 rfl rfl rfl rfl (by omega) (by omega) rfl (by omega) (by omega) rfl dX10_addWay_58 (fun H22 lc22 gH22 uH22 => ?_)
    exact rtV B hr hlk hh hQ gH22 trivial dX10_addWay_59
