theorem dX7_tell_0 : decode cX7_tell 0 = .ok (.aload_n 0, 1) := by decide +kernel
theorem dX7_tell_1 : decode cX7_tell 1 = .ok (.getfield 9, 3) := by decide +kernel
theorem dX7_tell_4 : decode cX7_tell 4 = .ok (.bipush 30, 2) := by decide +kernel
theorem dX7_tell_6 : decode cX7_tell 6 = .ok (.if_icmp .lt 5, 3) := by decide +kernel
theorem dX7_tell_9 : decode cX7_tell 9 = .ok (.iconst (-1), 1) := by decide +kernel
theorem dX7_tell_10 : decode cX7_tell 10 = .ok (.ireturn, 1) := by decide +kernel
theorem dX7_tell_11 : decode cX7_tell 11 = .ok (.aload_n 0, 1) := by decide +kernel
theorem dX7_tell_12 : decode cX7_tell 12 = .ok (.getfield 18, 3) := by decide +kernel
theorem dX7_tell_15 : decode cX7_tell 15 = .ok (.aload_n 0, 1) := by decide +kernel
theorem dX7_tell_16 : decode cX7_tell 16 = .ok (.getfield 9, 3) := by decide +kernel
theorem dX7_tell_19 : decode cX7_tell 19 = .ok (.iload_n 1, 1) := by decide +kernel
theorem dX7_tell_20 : decode cX7_tell 20 = .ok (.iastore, 1) := by decide +kernel
theorem dX7_tell_21 : decode cX7_tell 21 = .ok (.aload_n 0, 1) := by decide +kernel
theorem dX7_tell_22 : decode cX7_tell 22 = .ok (.getfield 22, 3) := by decide +kernel
theorem dX7_tell_25 : decode cX7_tell 25 = .ok (.aload_n 0, 1) := by decide +kernel
theorem dX7_tell_26 : decode cX7_tell 26 = .ok (.getfield 9, 3) := by decide +kernel
theorem dX7_tell_29 : decode cX7_tell 29 = .ok (.iload_n 2, 1) := by decide +kernel
theorem dX7_tell_30 : decode cX7_tell 30 = .ok (.iastore, 1) := by decide +kernel
theorem dX7_tell_31 : decode cX7_tell 31 = .ok (.aload_n 0, 1) := by decide +kernel
theorem dX7_tell_32 : decode cX7_tell 32 = .ok (.getfield 25, 3) := by decide +kernel
theorem dX7_tell_35 : decode cX7_tell 35 = .ok (.aload_n 0, 1) := by decide +kernel
theorem dX7_tell_36 : decode cX7_tell 36 = .ok (.getfield 9, 3) := by decide +kernel
theorem dX7_tell_39 : decode cX7_tell 39 = .ok (.iload_n 3, 1) := by decide +kernel
theorem dX7_tell_40 : decode cX7_tell 40 = .ok (.iastore, 1) := by decide +kernel
theorem dX7_tell_41 : decode cX7_tell 41 = .ok (.aload_n 0, 1) := by decide +kernel
theorem dX7_tell_42 : decode cX7_tell 42 = .ok (.getfield 28, 3) := by decide +kernel
theorem dX7_tell_45 : decode cX7_tell 45 = .ok (.aload_n 0, 1) := by decide +kernel
theorem dX7_tell_46 : decode cX7_tell 46 = .ok (.getfield 9, 3) := by decide +kernel
theorem dX7_tell_49 : decode cX7_tell 49 = .ok (.iload 4, 2) := by decide +kernel
theorem dX7_tell_51 : decode cX7_tell 51 = .ok (.iastore, 1) := by decide +kernel
theorem dX7_tell_52 : decode cX7_tell 52 = .ok (.aload_n 0, 1) := by decide +kernel
theorem dX7_tell_53 : decode cX7_tell 53 = .ok (.getfield 31, 3) := by decide +kernel
theorem dX7_tell_56 : decode cX7_tell 56 = .ok (.aload_n 0, 1) := by decide +kernel
theorem dX7_tell_57 : decode cX7_tell 57 = .ok (.getfield 9, 3) := by decide +kernel
theorem dX7_tell_60 : decode cX7_tell 60 = .ok (.aload_n 0, 1) := by decide +kernel
theorem dX7_tell_61 : decode cX7_tell 61 = .ok (.getfield 15, 3) := by decide +kernel
theorem dX7_tell_64 : decode cX7_tell 64 = .ok (.iastore, 1) := by decide +kernel
theorem dX7_tell_65 : decode cX7_tell 65 = .ok (.aload_n 0, 1) := by decide +kernel
theorem dX7_tell_66 : decode cX7_tell 66 = .ok (.getfield 34, 3) := by decide +kernel
theorem dX7_tell_69 : decode cX7_tell 69 = .ok (.aload_n 0, 1) := by decide +kernel
theorem dX7_tell_70 : decode cX7_tell 70 = .ok (.getfield 9, 3) := by decide +kernel
theorem dX7_tell_73 : decode cX7_tell 73 = .ok (.iconst (-1), 1) := by decide +kernel
theorem dX7_tell_74 : decode cX7_tell 74 = .ok (.iastore, 1) := by decide +kernel
theorem dX7_tell_75 : decode cX7_tell 75 = .ok (.aload_n 0, 1) := by decide +kernel
theorem dX7_tell_76 : decode cX7_tell 76 = .ok (.dup, 1) := by decide +kernel
theorem dX7_tell_77 : decode cX7_tell 77 = .ok (.getfield 9, 3) := by decide +kernel
theorem dX7_tell_80 : decode cX7_tell 80 = .ok (.iconst 1, 1) := by decide +kernel
theorem dX7_tell_81 : decode cX7_tell 81 = .ok (.iadd, 1) := by decide +kernel
theorem dX7_tell_82 : decode cX7_tell 82 = .ok (.putfield 9, 3) := by decide +kernel
theorem dX7_tell_85 : decode cX7_tell 85 = .ok (.aload_n 0, 1) := by decide +kernel
theorem dX7_tell_86 : decode cX7_tell 86 = .ok (.getfield 9, 3) := by decide +kernel
theorem dX7_tell_89 : decode cX7_tell 89 = .ok (.iconst 1, 1) := by decide +kernel
theorem dX7_tell_90 : decode cX7_tell 90 = .ok (.isub, 1) := by decide +kernel
theorem dX7_tell_91 : decode cX7_tell 91 = .ok (.ireturn, 1) := by decide +kernel
def rm_X7_tell : Room := { frames := 0, cells := 0, slots := 0, locals := 0 }
abbrev wS_X7_tell : List (Nat × Nat) := [(8, 0), (41, 99), (42, 99), (43, 99), (44, 99), (45, 99), (46, 99)]
set_option maxRecDepth 100000 in
set_option maxHeartbeats 4000000 in
theorem c_X7_tell (l : Launch) (E : zE) (hV : zV E) (H0 : Heap) (hT0 : HT E H0) (h0 : Nat) (kh0 : eK E h0 = 8) (p0 : Int32) (p1 : Int32) (p2 : Int32) (p3 : Int32) : Met l yX7_tell (zws yX7_tell cX7_tell 5 (some .int)) rm_X7_tell (zP E H0 [.ref h0, .int p0, .int p1, .int p2, .int p3]) (zQI E E wS_X7_tell (fun r H1 => (-1) ≤ r.toInt ∧ r.toInt ≤ 29)) 0 0 (zfr E) := by
  refine zEnt (by decide) (Nat.le_of_ble_eq_true rfl) (fun p e s m args below meth c ls Q B hr hlk hh hQ hl => ?_)
  have hx := B.1
  have hb := B.2.1
  have hG0 : zG E wS_X7_tell H0 H0 [] := zG.rf hT0
  have hl : lv_has ls 5 [(0, .ref h0), (1, .int p0), (2, .int p1), (3, .int p2), (4, .int p3)] := hl
  refine lv_aload_n hx hb dX7_tell_0 rfl (lv_at hl 0 rfl) ?_
  refine g_getI B fl_RX7_9 hT0 kh0 rfl rfl rfl rfl rfl dX7_tell_1 (fun x_1 s_1 a_1 b_1 => ?_)
  refine lv_bipush (v := 30) hx hb dX7_tell_4 (by decide) ?_
  refine lv_icmp_lt (tgt := 11) hx hb dX7_tell_6 (by decide) (fun c_2 => ?_) (fun c_2 => ?_)
  · have f_2 := z_lt c_2 rfl kl_30
    refine lv_aload_n hx hb dX7_tell_11 rfl (lv_at hl 0 rfl) ?_
    refine g_getR B fl_RX7_18 hT0 kh0 rfl rfl rfl rfl rfl dX7_tell_12 (fun q_3 s_3 k_q_3 => ?_)
    refine lv_aload_n hx hb dX7_tell_15 rfl (lv_at hl 0 rfl) ?_
    refine g_get B fl_RX7_9 hT0 kh0 rfl rfl rfl dX7_tell_16 s_1 ?_
    refine lv_iload_n hx hb dX7_tell_19 rfl (lv_at hl 1 rfl) ?_
    refine g_iastI (i := x_1) (N := 30) B hV hG0 k_q_3 rfl rfl rfl rfl (by omega) (by omega) rfl (z_rng _).1 (z_rng _).2 rfl dX7_tell_20 (fun H4 lc4 gH4 uH4 => ?_)
    have s_5 := uH4.keep (Or.inl (k_ne kh0 k_q_3 rfl)) s_1
    refine lv_aload_n hx hb dX7_tell_21 rfl (lv_at hl 0 rfl) ?_
    refine g_getR B fl_RX7_22 gH4.1 kh0 rfl rfl rfl rfl rfl dX7_tell_22 (fun q_6 s_6 k_q_6 => ?_)
    refine lv_aload_n hx hb dX7_tell_25 rfl (lv_at hl 0 rfl) ?_
    refine g_get B fl_RX7_9 gH4.1 kh0 rfl rfl rfl dX7_tell_26 s_5 ?_
    refine lv_iload_n hx hb dX7_tell_29 rfl (lv_at hl 2 rfl) ?_
    refine g_iastI (i := x_1) (N := 30) B hV gH4 k_q_6 rfl rfl rfl rfl (by omega) (by omega) rfl (z_rng _).1 (z_rng _).2 rfl dX7_tell_30 (fun H7 lc7 gH7 uH7 => ?_)
    have s_8 := uH7.keep (Or.inl (k_ne kh0 k_q_6 rfl)) s_5
    refine lv_aload_n hx hb dX7_tell_31 rfl (lv_at hl 0 rfl) ?_
    refine g_getR B fl_RX7_25 gH7.1 kh0 rfl rfl rfl rfl rfl dX7_tell_32 (fun q_9 s_9 k_q_9 => ?_)
    refine lv_aload_n hx hb dX7_tell_35 rfl (lv_at hl 0 rfl) ?_
    refine g_get B fl_RX7_9 gH7.1 kh0 rfl rfl rfl dX7_tell_36 s_8 ?_
    refine lv_iload_n hx hb dX7_tell_39 rfl (lv_at hl 3 rfl) ?_
    refine g_iastI (i := x_1) (N := 30) B hV gH7 k_q_9 rfl rfl rfl rfl (by omega) (by omega) rfl (z_rng _).1 (z_rng _).2 rfl dX7_tell_40 (fun H10 lc10 gH10 uH10 => ?_)
    have s_11 := uH10.keep (Or.inl (k_ne kh0 k_q_9 rfl)) s_8
    refine lv_aload_n hx hb dX7_tell_41 rfl (lv_at hl 0 rfl) ?_
    refine g_getR B fl_RX7_28 gH10.1 kh0 rfl rfl rfl rfl rfl dX7_tell_42 (fun q_12 s_12 k_q_12 => ?_)
    refine lv_aload_n hx hb dX7_tell_45 rfl (lv_at hl 0 rfl) ?_
    refine g_get B fl_RX7_9 gH10.1 kh0 rfl rfl rfl dX7_tell_46 s_11 ?_
    refine lv_iload hx hb dX7_tell_49 (lv_at hl 4 rfl) ?_
    refine g_iastI (i := x_1) (N := 30) B hV gH10 k_q_12 rfl rfl rfl rfl (by omega) (by omega) rfl (z_rng _).1 (z_rng _).2 rfl dX7_tell_51 (fun H13 lc13 gH13 uH13 => ?_)
    have s_14 := uH13.keep (Or.inl (k_ne kh0 k_q_12 rfl)) s_11
    refine lv_aload_n hx hb dX7_tell_52 rfl (lv_at hl 0 rfl) ?_
    refine g_getR B fl_RX7_31 gH13.1 kh0 rfl rfl rfl rfl rfl dX7_tell_53 (fun q_15 s_15 k_q_15 => ?_)
    refine lv_aload_n hx hb dX7_tell_56 rfl (lv_at hl 0 rfl) ?_
    refine g_get B fl_RX7_9 gH13.1 kh0 rfl rfl rfl dX7_tell_57 s_14 ?_
    refine lv_aload_n hx hb dX7_tell_60 rfl (lv_at hl 0 rfl) ?_
    refine g_getI B fl_RX7_15 gH13.1 kh0 rfl rfl rfl rfl rfl dX7_tell_61 (fun x_16 s_16 a_16 b_16 => ?_)
    refine g_iastI (i := x_1) (N := 30) B hV gH13 k_q_15 rfl rfl rfl rfl (by omega) (by omega) rfl (z_rng _).1 (z_rng _).2 rfl dX7_tell_64 (fun H17 lc17 gH17 uH17 => ?_)
    have s_18 := uH17.keep (Or.inl (k_ne kh0 k_q_15 rfl)) s_14
    refine lv_aload_n hx hb dX7_tell_65 rfl (lv_at hl 0 rfl) ?_
    refine g_getR B fl_RX7_34 gH17.1 kh0 rfl rfl rfl rfl rfl dX7_tell_66 (fun q_19 s_19 k_q_19 => ?_)
    refine lv_aload_n hx hb dX7_tell_69 rfl (lv_at hl 0 rfl) ?_
    refine g_get B fl_RX7_9 gH17.1 kh0 rfl rfl rfl dX7_tell_70 s_18 ?_
    refine lv_iconst (v := (-1)) hx hb dX7_tell_73 (by decide) ?_
    have := kl_m1
    refine g_iastI (i := x_1) (N := 30) B hV gH17 k_q_19 rfl rfl rfl rfl (by omega) (by omega) rfl (z_rng _).1 (z_rng _).2 rfl dX7_tell_74 (fun H20 lc20 gH20 uH20 => ?_)
    have s_21 := uH20.keep (Or.inl (k_ne kh0 k_q_19 rfl)) s_18
    refine lv_aload_n hx hb dX7_tell_75 rfl (lv_at hl 0 rfl) ?_
    refine lv_dup hx hb dX7_tell_76 rfl ?_
    refine g_get B fl_RX7_9 gH20.1 kh0 rfl rfl rfl dX7_tell_77 s_21 ?_
    refine lv_iconst (v := 1) hx hb dX7_tell_80 (by decide) ?_
    refine lv_iadd hx hb dX7_tell_81 ?_
    refine lv_topi (fun x_22 e_22 => ?_)
    have t_22 := z_add e_22 rfl kl_1 (by omega) (by omega)
    refine g_putI B fp_RX7_9 hV gH20 kh0 rfl rfl rfl rfl rfl (by omega) (by omega) rfl dX7_tell_82 (fun H23 lc23 gH23 uH23 => ?_)
    refine lv_aload_n hx hb dX7_tell_85 rfl (lv_at hl 0 rfl) ?_
    refine g_get B fl_RX7_9 gH23.1 kh0 rfl rfl rfl dX7_tell_86 uH23.2.1 ?_
    refine lv_iconst (v := 1) hx hb dX7_tell_89 (by decide) ?_
    refine lv_isub hx hb dX7_tell_90 ?_
    refine lv_topi (fun x_24 e_24 => ?_)
    have t_24 := z_sub e_24 rfl kl_1 (by omega) (by omega)
    exact rtI (v := x_24) B hr hlk hh hQ gH23 rfl ⟨by omega, by omega⟩ dX7_tell_91
  · have f_2 := z_nlt c_2 rfl kl_30
    refine lv_iconst (v := (-1)) hx hb dX7_tell_9 (by decide) ?_
    have := kl_m1
    have := kl_m1
    exact rtI (v := (-1)) B hr hlk hh hQ hG0 rfl ⟨by omega, by omega⟩ dX7_tell_10

theorem dX7_takeBack_0 : decode cX7_takeBack 0 = .ok (.iload_n 1, 1) := by decide +kernel
theorem dX7_takeBack_1 : decode cX7_takeBack 1 = .ok (.ifCond .lt 21, 3) := by decide +kernel
theorem dX7_takeBack_4 : decode cX7_takeBack 4 = .ok (.iload_n 1, 1) := by decide +kernel
theorem dX7_takeBack_5 : decode cX7_takeBack 5 = .ok (.aload_n 0, 1) := by decide +kernel
theorem dX7_takeBack_6 : decode cX7_takeBack 6 = .ok (.getfield 9, 3) := by decide +kernel
theorem dX7_takeBack_9 : decode cX7_takeBack 9 = .ok (.if_icmp .ge 13, 3) := by decide +kernel
theorem dX7_takeBack_12 : decode cX7_takeBack 12 = .ok (.aload_n 0, 1) := by decide +kernel
theorem dX7_takeBack_13 : decode cX7_takeBack 13 = .ok (.getfield 34, 3) := by decide +kernel
theorem dX7_takeBack_16 : decode cX7_takeBack 16 = .ok (.iload_n 1, 1) := by decide +kernel
theorem dX7_takeBack_17 : decode cX7_takeBack 17 = .ok (.iaload, 1) := by decide +kernel
theorem dX7_takeBack_18 : decode cX7_takeBack 18 = .ok (.iconst (-1), 1) := by decide +kernel
theorem dX7_takeBack_19 : decode cX7_takeBack 19 = .ok (.if_icmp .eq 5, 3) := by decide +kernel
theorem dX7_takeBack_22 : decode cX7_takeBack 22 = .ok (.iconst 0, 1) := by decide +kernel
theorem dX7_takeBack_23 : decode cX7_takeBack 23 = .ok (.ireturn, 1) := by decide +kernel
theorem dX7_takeBack_24 : decode cX7_takeBack 24 = .ok (.aload_n 0, 1) := by decide +kernel
theorem dX7_takeBack_25 : decode cX7_takeBack 25 = .ok (.getfield 34, 3) := by decide +kernel
theorem dX7_takeBack_28 : decode cX7_takeBack 28 = .ok (.iload_n 1, 1) := by decide +kernel
theorem dX7_takeBack_29 : decode cX7_takeBack 29 = .ok (.aload_n 0, 1) := by decide +kernel
theorem dX7_takeBack_30 : decode cX7_takeBack 30 = .ok (.getfield 15, 3) := by decide +kernel
theorem dX7_takeBack_33 : decode cX7_takeBack 33 = .ok (.iastore, 1) := by decide +kernel
theorem dX7_takeBack_34 : decode cX7_takeBack 34 = .ok (.iconst 1, 1) := by decide +kernel
theorem dX7_takeBack_35 : decode cX7_takeBack 35 = .ok (.ireturn, 1) := by decide +kernel
def rm_X7_takeBack : Room := { frames := 0, cells := 0, slots := 0, locals := 0 }
abbrev wS_X7_takeBack : List (Nat × Nat) := [(46, 99)]
set_option maxRecDepth 100000 in
set_option maxHeartbeats 4000000 in
theorem c_X7_takeBack (l : Launch) (E : zE) (hV : zV E) (H0 : Heap) (hT0 : HT E H0) (h0 : Nat) (kh0 : eK E h0 = 8) (p0 : Int32) : Met l yX7_takeBack (zws yX7_takeBack cX7_takeBack 2 (some .boolean)) rm_X7_takeBack (zP E H0 [.ref h0, .int p0]) (zQI E E wS_X7_takeBack (fun r H1 => 0 ≤ r.toInt ∧ r.toInt ≤ 1)) 0 0 (zfr E) := by
  refine zEnt (by decide) (Nat.le_of_ble_eq_true rfl) (fun p e s m args below meth c ls Q B hr hlk hh hQ hl => ?_)
  have hx := B.1
  have hb := B.2.1
  have hG0 : zG E wS_X7_takeBack H0 H0 [] := zG.rf hT0
  have hl : lv_has ls 2 [(0, .ref h0), (1, .int p0)] := hl
  refine lv_iload_n hx hb dX7_takeBack_0 rfl (lv_at hl 1 rfl) ?_
  refine lv_if_lt (tgt := 22) hx hb dX7_takeBack_1 (by decide) (fun c_1 => ?_) (fun c_1 => ?_)
  · have f_1 := z_lt c_1 rfl kl_0
    refine lv_iconst (v := 0) hx hb dX7_takeBack_22 (by decide) ?_
    have := kl_0
    have := kl_0
    exact rtI (v := 0) B hr hlk hh hQ hG0 rfl ⟨by omega, by omega⟩ dX7_takeBack_23
  · have f_1 := z_nlt c_1 rfl kl_0
    refine lv_iload_n hx hb dX7_takeBack_4 rfl (lv_at hl 1 rfl) ?_
    refine lv_aload_n hx hb dX7_takeBack_5 rfl (lv_at hl 0 rfl) ?_
    refine g_getI B fl_RX7_9 hT0 kh0 rfl rfl rfl rfl rfl dX7_takeBack_6 (fun x_2 s_2 a_2 b_2 => ?_)
    refine lv_icmp_ge (tgt := 22) hx hb dX7_takeBack_9 (by decide) (fun c_3 => ?_) (fun c_3 => ?_)
    · have f_3 := z_le c_3 rfl rfl
      refine lv_iconst (v := 0) hx hb dX7_takeBack_22 (by decide) ?_
      have := kl_0
      have := kl_0
      exact rtI (v := 0) B hr hlk hh hQ hG0 rfl ⟨by omega, by omega⟩ dX7_takeBack_23
    · have f_3 := z_nle c_3 rfl rfl
      refine lv_aload_n hx hb dX7_takeBack_12 rfl (lv_at hl 0 rfl) ?_
      refine g_getR B fl_RX7_34 hT0 kh0 rfl rfl rfl rfl rfl dX7_takeBack_13 (fun q_4 s_4 k_q_4 => ?_)
      refine lv_iload_n hx hb dX7_takeBack_16 rfl (lv_at hl 1 rfl) ?_
      refine g_ialdI (i := p0) (N := 30) B hT0 k_q_4 rfl rfl rfl rfl (by omega) (by omega) rfl dX7_takeBack_17 (fun x_5 s_5 a_5 b_5 => ?_)
      refine lv_iconst (v := (-1)) hx hb dX7_takeBack_18 (by decide) ?_
      refine lv_icmp_eq (tgt := 24) hx hb dX7_takeBack_19 (by decide) (fun c_6 => ?_) (fun c_6 => ?_)
      · have f_6 := z_eq c_6 rfl kl_m1
        refine lv_aload_n hx hb dX7_takeBack_24 rfl (lv_at hl 0 rfl) ?_
        refine g_get B fl_RX7_34 hT0 kh0 rfl rfl rfl dX7_takeBack_25 s_4 ?_
        refine lv_iload_n hx hb dX7_takeBack_28 rfl (lv_at hl 1 rfl) ?_
        refine lv_aload_n hx hb dX7_takeBack_29 rfl (lv_at hl 0 rfl) ?_
        refine g_getI B fl_RX7_15 hT0 kh0 rfl rfl rfl rfl rfl dX7_takeBack_30 (fun x_7 s_7 a_7 b_7 => ?_)
        refine g_iastI (i := p0) (N := 30) B hV hG0 k_q_4 rfl rfl rfl rfl (by omega) (by omega) rfl (z_rng _).1 (z_rng _).2 rfl dX7_takeBack_33 (fun H8 lc8 gH8 uH8 => ?_)
        refine lv_iconst (v := 1) hx hb dX7_takeBack_34 (by decide) ?_
        have := kl_1
        have := kl_1
        exact rtI (v := 1) B hr hlk hh hQ gH8 rfl ⟨by omega, by omega⟩ dX7_takeBack_35
      · have f_6 := z_ne c_6 rfl kl_m1
        refine lv_iconst (v := 0) hx hb dX7_takeBack_22 (by decide) ?_
        have := kl_0
        have := kl_0
        exact rtI (v := 0) B hr hlk hh hQ hG0 rfl ⟨by omega, by omega⟩ dX7_takeBack_23

theorem dX7_countsAt_0 : decode cX7_countsAt 0 = .ok (.aload_n 0, 1) := by decide +kernel
theorem dX7_countsAt_1 : decode cX7_countsAt 1 = .ok (.getfield 31, 3) := by decide +kernel
theorem dX7_countsAt_4 : decode cX7_countsAt 4 = .ok (.iload_n 1, 1) := by decide +kernel
theorem dX7_countsAt_5 : decode cX7_countsAt 5 = .ok (.iaload, 1) := by decide +kernel
theorem dX7_countsAt_6 : decode cX7_countsAt 6 = .ok (.iload_n 2, 1) := by decide +kernel
theorem dX7_countsAt_7 : decode cX7_countsAt 7 = .ok (.if_icmp .gt 27, 3) := by decide +kernel
theorem dX7_countsAt_10 : decode cX7_countsAt 10 = .ok (.aload_n 0, 1) := by decide +kernel
theorem dX7_countsAt_11 : decode cX7_countsAt 11 = .ok (.getfield 34, 3) := by decide +kernel
theorem dX7_countsAt_14 : decode cX7_countsAt 14 = .ok (.iload_n 1, 1) := by decide +kernel
theorem dX7_countsAt_15 : decode cX7_countsAt 15 = .ok (.iaload, 1) := by decide +kernel
theorem dX7_countsAt_16 : decode cX7_countsAt 16 = .ok (.iconst (-1), 1) := by decide +kernel
theorem dX7_countsAt_17 : decode cX7_countsAt 17 = .ok (.if_icmp .eq 13, 3) := by decide +kernel
theorem dX7_countsAt_20 : decode cX7_countsAt 20 = .ok (.aload_n 0, 1) := by decide +kernel
theorem dX7_countsAt_21 : decode cX7_countsAt 21 = .ok (.getfield 34, 3) := by decide +kernel
theorem dX7_countsAt_24 : decode cX7_countsAt 24 = .ok (.iload_n 1, 1) := by decide +kernel
theorem dX7_countsAt_25 : decode cX7_countsAt 25 = .ok (.iaload, 1) := by decide +kernel
theorem dX7_countsAt_26 : decode cX7_countsAt 26 = .ok (.iload_n 2, 1) := by decide +kernel
theorem dX7_countsAt_27 : decode cX7_countsAt 27 = .ok (.if_icmp .le 7, 3) := by decide +kernel
theorem dX7_countsAt_30 : decode cX7_countsAt 30 = .ok (.iconst 1, 1) := by decide +kernel
theorem dX7_countsAt_31 : decode cX7_countsAt 31 = .ok (.goto 4, 3) := by decide +kernel
theorem dX7_countsAt_34 : decode cX7_countsAt 34 = .ok (.iconst 0, 1) := by decide +kernel
theorem dX7_countsAt_35 : decode cX7_countsAt 35 = .ok (.ireturn, 1) := by decide +kernel
def rm_X7_countsAt : Room := { frames := 0, cells := 0, slots := 0, locals := 0 }
set_option maxRecDepth 100000 in
set_option maxHeartbeats 4000000 in
theorem c_X7_countsAt (l : Launch) (E : zE) (hV : zV E) (H0 : Heap) (hT0 : HT E H0) (h0 : Nat) (kh0 : eK E h0 = 8) (p0 : Int32) (p0_lo : 0 ≤ p0.toInt) (p0_hi : p0.toInt ≤ 29) (p1 : Int32) : Met l yX7_countsAt (zws yX7_countsAt cX7_countsAt 3 (some .boolean)) rm_X7_countsAt (zP E H0 [.ref h0, .int p0, .int p1]) (zPI (fun r => 0 ≤ r.toInt ∧ r.toInt ≤ 1)) 0 0 (fun _ => False) := by
  refine zEnt (by decide) (Nat.le_of_ble_eq_true rfl) (fun p e s m args below meth c ls Q B hr hlk hh hQ hl => ?_)
  have hx := B.1
  have hb := B.2.1
  have hl : lv_has ls 3 [(0, .ref h0), (1, .int p0), (2, .int p1)] := hl
  refine lv_aload_n hx hb dX7_countsAt_0 rfl (lv_at hl 0 rfl) ?_
  refine g_getR B fl_RX7_31 hT0 kh0 rfl rfl rfl rfl rfl dX7_countsAt_1 (fun q_1 s_1 k_q_1 => ?_)
  refine lv_iload_n hx hb dX7_countsAt_4 rfl (lv_at hl 1 rfl) ?_
  refine g_ialdI (i := p0) (N := 30) B hT0 k_q_1 rfl rfl rfl rfl (by omega) (by omega) rfl dX7_countsAt_5 (fun x_2 s_2 a_2 b_2 => ?_)
  refine lv_iload_n hx hb dX7_countsAt_6 rfl (lv_at hl 2 rfl) ?_
  refine lv_icmp_gt (tgt := 34) hx hb dX7_countsAt_7 (by decide) (fun c_3 => ?_) (fun c_3 => ?_)
  · have f_3 := z_lt c_3 rfl rfl
    refine lv_iconst (v := 0) hx hb dX7_countsAt_34 (by decide) ?_
    have := kl_0
    have := kl_0
    exact rtPI (v := 0) B hr hlk hh hQ rfl ⟨by omega, by omega⟩ dX7_countsAt_35
  · have f_3 := z_nlt c_3 rfl rfl
    refine lv_aload_n hx hb dX7_countsAt_10 rfl (lv_at hl 0 rfl) ?_
    refine g_getR B fl_RX7_34 hT0 kh0 rfl rfl rfl rfl rfl dX7_countsAt_11 (fun q_4 s_4 k_q_4 => ?_)
    refine lv_iload_n hx hb dX7_countsAt_14 rfl (lv_at hl 1 rfl) ?_
    refine g_ialdI (i := p0) (N := 30) B hT0 k_q_4 rfl rfl rfl rfl (by omega) (by omega) rfl dX7_countsAt_15 (fun x_5 s_5 a_5 b_5 => ?_)
    refine lv_iconst (v := (-1)) hx hb dX7_countsAt_16 (by decide) ?_
    refine lv_icmp_eq (tgt := 30) hx hb dX7_countsAt_17 (by decide) (fun c_6 => ?_) (fun c_6 => ?_)
    · have f_6 := z_eq c_6 rfl kl_m1
      refine lv_iconst (v := 1) hx hb dX7_countsAt_30 (by decide) ?_
      refine lv_goto (tgt := 35) hx hb dX7_countsAt_31 (by decide) ?_
      have := kl_1
      have := kl_1
      exact rtPI (v := 1) B hr hlk hh hQ rfl ⟨by omega, by omega⟩ dX7_countsAt_35
    · have f_6 := z_ne c_6 rfl kl_m1
      refine lv_aload_n hx hb dX7_countsAt_20 rfl (lv_at hl 0 rfl) ?_
      refine g_get B fl_RX7_34 hT0 kh0 rfl rfl rfl dX7_countsAt_21 s_4 ?_
      refine lv_iload_n hx hb dX7_countsAt_24 rfl (lv_at hl 1 rfl) ?_
      refine g_iald (i := p0) (N := 30) B hT0 k_q_4 rfl rfl rfl rfl (by omega) (by omega) s_5 dX7_countsAt_25 ?_
      refine lv_iload_n hx hb dX7_countsAt_26 rfl (lv_at hl 2 rfl) ?_
      refine lv_icmp_le (tgt := 34) hx hb dX7_countsAt_27 (by decide) (fun c_7 => ?_) (fun c_7 => ?_)
      · have f_7 := z_le c_7 rfl rfl
        refine lv_iconst (v := 0) hx hb dX7_countsAt_34 (by decide) ?_
        have := kl_0
        have := kl_0
        exact rtPI (v := 0) B hr hlk hh hQ rfl ⟨by omega, by omega⟩ dX7_countsAt_35
      · have f_7 := z_nle c_7 rfl rfl
        refine lv_iconst (v := 1) hx hb dX7_countsAt_30 (by decide) ?_
        refine lv_goto (tgt := 35) hx hb dX7_countsAt_31 (by decide) ?_
        have := kl_1
        have := kl_1
        exact rtPI (v := 1) B hr hlk hh hQ rfl ⟨by omega, by omega⟩ dX7_countsAt_35

theorem dX7_areSo_0 : decode cX7_areSo 0 = .ok (.iconst 0, 1) := by decide +kernel
theorem dX7_areSo_1 : decode cX7_areSo 1 = .ok (.istore 5, 2) := by decide +kernel
theorem dX7_areSo_3 : decode cX7_areSo 3 = .ok (.iload 5, 2) := by decide +kernel
theorem dX7_areSo_5 : decode cX7_areSo 5 = .ok (.aload_n 0, 1) := by decide +kernel
theorem dX7_areSo_6 : decode cX7_areSo 6 = .ok (.getfield 9, 3) := by decide +kernel
theorem dX7_areSo_9 : decode cX7_areSo 9 = .ok (.if_icmp .ge 72, 3) := by decide +kernel
theorem dX7_areSo_12 : decode cX7_areSo 12 = .ok (.aload_n 0, 1) := by decide +kernel
theorem dX7_areSo_13 : decode cX7_areSo 13 = .ok (.getfield 18, 3) := by decide +kernel
theorem dX7_areSo_16 : decode cX7_areSo 16 = .ok (.iload 5, 2) := by decide +kernel
theorem dX7_areSo_18 : decode cX7_areSo 18 = .ok (.iaload, 1) := by decide +kernel
theorem dX7_areSo_19 : decode cX7_areSo 19 = .ok (.iload_n 1, 1) := by decide +kernel
theorem dX7_areSo_20 : decode cX7_areSo 20 = .ok (.if_icmp .ne 55, 3) := by decide +kernel
theorem dX7_areSo_23 : decode cX7_areSo 23 = .ok (.aload_n 0, 1) := by decide +kernel
theorem dX7_areSo_24 : decode cX7_areSo 24 = .ok (.iload 5, 2) := by decide +kernel
theorem dX7_areSo_26 : decode cX7_areSo 26 = .ok (.iload_n 2, 1) := by decide +kernel
theorem dX7_areSo_27 : decode cX7_areSo 27 = .ok (.invokevirtual 37, 3) := by decide +kernel
theorem dX7_areSo_30 : decode cX7_areSo 30 = .ok (.ifCond .eq 45, 3) := by decide +kernel
theorem dX7_areSo_33 : decode cX7_areSo 33 = .ok (.aload_n 0, 1) := by decide +kernel
theorem dX7_areSo_34 : decode cX7_areSo 34 = .ok (.getfield 22, 3) := by decide +kernel
theorem dX7_areSo_37 : decode cX7_areSo 37 = .ok (.iload 5, 2) := by decide +kernel
theorem dX7_areSo_39 : decode cX7_areSo 39 = .ok (.iaload, 1) := by decide +kernel
theorem dX7_areSo_40 : decode cX7_areSo 40 = .ok (.ifCond .ne 7, 3) := by decide +kernel
theorem dX7_areSo_43 : decode cX7_areSo 43 = .ok (.aload_n 3, 1) := by decide +kernel
theorem dX7_areSo_44 : decode cX7_areSo 44 = .ok (.goto 5, 3) := by decide +kernel
theorem dX7_areSo_47 : decode cX7_areSo 47 = .ok (.aload 4, 2) := by decide +kernel
theorem dX7_areSo_49 : decode cX7_areSo 49 = .ok (.astore 6, 2) := by decide +kernel
theorem dX7_areSo_51 : decode cX7_areSo 51 = .ok (.aload 6, 2) := by decide +kernel
theorem dX7_areSo_53 : decode cX7_areSo 53 = .ok (.aload_n 0, 1) := by decide +kernel
theorem dX7_areSo_54 : decode cX7_areSo 54 = .ok (.getfield 25, 3) := by decide +kernel
theorem dX7_areSo_57 : decode cX7_areSo 57 = .ok (.iload 5, 2) := by decide +kernel
theorem dX7_areSo_59 : decode cX7_areSo 59 = .ok (.iaload, 1) := by decide +kernel
theorem dX7_areSo_60 : decode cX7_areSo 60 = .ok (.invokevirtual 41, 3) := by decide +kernel
theorem dX7_areSo_63 : decode cX7_areSo 63 = .ok (.aload_n 0, 1) := by decide +kernel
theorem dX7_areSo_64 : decode cX7_areSo 64 = .ok (.getfield 28, 3) := by decide +kernel
theorem dX7_areSo_67 : decode cX7_areSo 67 = .ok (.iload 5, 2) := by decide +kernel
theorem dX7_areSo_69 : decode cX7_areSo 69 = .ok (.iaload, 1) := by decide +kernel
theorem dX7_areSo_70 : decode cX7_areSo 70 = .ok (.if_icmp .eq 5, 3) := by decide +kernel
theorem dX7_areSo_73 : decode cX7_areSo 73 = .ok (.iconst 0, 1) := by decide +kernel
theorem dX7_areSo_74 : decode cX7_areSo 74 = .ok (.ireturn, 1) := by decide +kernel
theorem dX7_areSo_75 : decode cX7_areSo 75 = .ok (.iinc 5 1, 3) := by decide +kernel
theorem dX7_areSo_78 : decode cX7_areSo 78 = .ok (.goto (-75), 3) := by decide +kernel
theorem dX7_areSo_81 : decode cX7_areSo 81 = .ok (.iconst 1, 1) := by decide +kernel
theorem dX7_areSo_82 : decode cX7_areSo 82 = .ok (.ireturn, 1) := by decide +kernel
def rm_X7_areSo : Room := { frames := 2, cells := 0, slots := 0, locals := 42 }
set_option maxRecDepth 100000 in
set_option maxHeartbeats 4000000 in
theorem c_X7_areSo (l : Launch) (E : zE) (hV : zV E) (H0 : Heap) (hT0 : HT E H0) (h0 : Nat) (kh0 : eK E h0 = 8) (p0 : Int32) (p1 : Int32) (p2 : Nat) (kp2 : eK E p2 = 5) (p3 : Nat) (kp3 : eK E p3 = 5) : Met l yX7_areSo (zws yX7_areSo cX7_areSo 7 (some .boolean)) rm_X7_areSo (zP E H0 [.ref h0, .int p0, .int p1, .ref p2, .ref p3]) (zPI (fun r => 0 ≤ r.toInt ∧ r.toInt ≤ 1)) 0 0 (fun _ => False) := by
  refine zEnt (by decide) (Nat.le_of_ble_eq_true rfl) (fun p e s m args below meth c ls Q B hr hlk hh hQ hl => ?_)
  have hx := B.1
  have hb := B.2.1
  have hl : lv_has ls 7 [(0, .ref h0), (1, .int p0), (2, .int p1), (3, .ref p2), (4, .ref p3)] := hl
  have b3 : ∀ (n3 : Nat) (ls : Array Slot) (v3_5 : Int32), 30 - v3_5.toInt < (n3 : Int) → lv_has ls 7 [(0, .ref h0), (1, .int p0), (2, .int p1), (3, .ref p2), (4, .ref p3), (5, .int v3_5)] → 0 ≤ v3_5.toInt → v3_5.toInt ≤ 30 → W p l e rm_X7_areSo s m args below meth c H0 [] 0 0 Q (F0 m 3 ls []) := by
    intro n3
    induction n3 with
    | zero =>
      intro ls v3_5 hm3 hl f3_1 f3_2
      exact absurd hm3 (by omega)
    | succ n3 ih3 =>
      intro ls v3_5 hm3 hl f3_1 f3_2
      have b75 : ∀ (ls : Array Slot) (u75_h0_0 : Int32) (u75_h0_2 : Nat), lv_has ls 7 [(0, .ref h0), (1, .int p0), (2, .int p1), (3, .ref p2), (4, .ref p3), (5, .int v3_5)] → eK E u75_h0_2 = 41 → v3_5.toInt ≤ 29 → 1 ≤ u75_h0_0.toInt → u75_h0_0.toInt ≤ 30 → sl H0 h0 (zix E 8 0) = some (.int u75_h0_0) → sl H0 h0 (zix E 8 2) = some (.ref u75_h0_2) → W p l e rm_X7_areSo s m args below meth c H0 [] 0 0 Q (F0 m 75 ls []) := by
        intro ls u75_h0_0 u75_h0_2 hl k_u75_h0_2 f75_1 f75_2 f75_3 s75_u75_h0_0 s75_u75_h0_2
        obtain ⟨x_1, e_1⟩ : ∃ y : Int32, (v3_5 : Int32) + Int32.ofInt 1 = y := ⟨_, rfl⟩
        refine lv_iinc (v := x_1) (lv' := [(5, .int x_1), (0, .ref h0), (1, .int p0), (2, .int p1), (3, .ref p2), (4, .ref p3)]) hx hb dX7_areSo_75 hl (k := 5) rfl e_1 (by decide) rfl (fun ls hl => ?_)
        have t_1 := z_inc2 e_1 rfl (by decide) (by omega) (by omega)
        refine lv_goto (tgt := 3) hx hb dX7_areSo_78 (by decide) ?_
        exact ih3 ls x_1 (by omega) (lv_sub hl [1, 2, 3, 4, 5, 0] rfl) (by omega) (by omega)
      have b49 : ∀ (ls : Array Slot) (w49_0 : Nat) (u49_h0_0 : Int32) (u49_h0_2 : Nat) (u49_h0_3 : Nat), lv_has ls 7 [(0, .ref h0), (1, .int p0), (2, .int p1), (3, .ref p2), (4, .ref p3), (5, .int v3_5)] → eK E w49_0 = 5 → eK E u49_h0_2 = 41 → eK E u49_h0_3 = 42 → v3_5.toInt ≤ 29 → 1 ≤ u49_h0_0.toInt → u49_h0_0.toInt ≤ 30 → sl H0 h0 (zix E 8 0) = some (.int u49_h0_0) → sl H0 h0 (zix E 8 2) = some (.ref u49_h0_2) → sl H0 h0 (zix E 8 3) = some (.ref u49_h0_3) → W p l e rm_X7_areSo s m args below meth c H0 [] 0 0 Q (F0 m 49 ls [.ref w49_0]) := by
        intro ls w49_0 u49_h0_0 u49_h0_2 u49_h0_3 hl k_w49_0 k_u49_h0_2 k_u49_h0_3 f49_1 f49_2 f49_3 s49_u49_h0_0 s49_u49_h0_2 s49_u49_h0_3
        refine lv_astore (lv' := [(6, .ref w49_0), (0, .ref h0), (1, .int p0), (2, .int p1), (3, .ref p2), (4, .ref p3), (5, .int v3_5)]) hx hb dX7_areSo_49 hl (by decide) rfl (fun ls hl => ?_)
        refine lv_aload hx hb dX7_areSo_51 (lv_at hl 0 rfl) ?_
        refine lv_aload_n hx hb dX7_areSo_53 rfl (lv_at hl 1 rfl) ?_
        refine g_getR B fl_RX7_25 hT0 kh0 rfl rfl rfl rfl rfl dX7_areSo_54 (fun q_2 s_2 k_q_2 => ?_)
        refine lv_iload hx hb dX7_areSo_57 (lv_at hl 6 rfl) ?_
        refine g_ialdI (i := v3_5) (N := 30) B hT0 k_q_2 rfl rfl rfl rfl (by omega) (by omega) rfl dX7_areSo_59 (fun x_3 s_3 a_3 b_3 => ?_)
        refine zkPI (zrV (rest := []) B (c_X4_manOn l E hV H0 hT0 w49_0 k_w49_0 x_3) cl_RX7_41 hT0 k_w49_0 rfl rfl rfl rfl hl.1 rfl (Nat.le_of_ble_eq_true rfl) dX7_areSo_60 rfl rfl ⟨rfl, rfl⟩ ⟨Nat.zero_le _, Nat.zero_le _⟩ (zO.rf hh)) (fun x_4 hp_4 => ?_)
        obtain ⟨hp_4_1, hp_4_2⟩ := hp_4
        refine lv_aload_n hx hb dX7_areSo_63 rfl (lv_at hl 1 rfl) ?_
        refine g_getR B fl_RX7_28 hT0 kh0 rfl rfl rfl rfl rfl dX7_areSo_64 (fun q_5 s_5 k_q_5 => ?_)
        refine lv_iload hx hb dX7_areSo_67 (lv_at hl 6 rfl) ?_
        refine g_ialdI (i := v3_5) (N := 30) B hT0 k_q_5 rfl rfl rfl rfl (by omega) (by omega) rfl dX7_areSo_69 (fun x_6 s_6 a_6 b_6 => ?_)
        refine lv_icmp_eq (tgt := 75) hx hb dX7_areSo_70 (by decide) (fun c_7 => ?_) (fun c_7 => ?_)
        · have f_7 := z_eq c_7 rfl rfl
          exact b75 ls u49_h0_0 u49_h0_2 (lv_sub hl [1, 2, 3, 4, 5, 6] rfl) k_u49_h0_2 (by omega) (by omega) (by omega) s49_u49_h0_0 s49_u49_h0_2
        · have f_7 := z_ne c_7 rfl rfl
          refine lv_iconst (v := 0) hx hb dX7_areSo_73 (by decide) ?_
          have := kl_0
          have := kl_0
          exact rtPI (v := 0) B hr hlk hh hQ rfl ⟨by omega, by omega⟩ dX7_areSo_74
      refine lv_iload hx hb dX7_areSo_3 (lv_at hl 5 rfl) ?_
      refine lv_aload_n hx hb dX7_areSo_5 rfl (lv_at hl 0 rfl) ?_
      refine g_getI B fl_RX7_9 hT0 kh0 rfl rfl rfl rfl rfl dX7_areSo_6 (fun x_8 s_8 a_8 b_8 => ?_)
      refine lv_icmp_ge (tgt := 81) hx hb dX7_areSo_9 (by decide) (fun c_9 => ?_) (fun c_9 => ?_)
      · have f_9 := z_le c_9 rfl rfl
        refine lv_iconst (v := 1) hx hb dX7_areSo_81 (by decide) ?_
        have := kl_1
        have := kl_1
        exact rtPI (v := 1) B hr hlk hh hQ rfl ⟨by omega, by omega⟩ dX7_areSo_82
      · have f_9 := z_nle c_9 rfl rfl
        refine lv_aload_n hx hb dX7_areSo_12 rfl (lv_at hl 0 rfl) ?_
        refine g_getR B fl_RX7_18 hT0 kh0 rfl rfl rfl rfl rfl dX7_areSo_13 (fun q_10 s_10 k_q_10 => ?_)
        refine lv_iload hx hb dX7_areSo_16 (lv_at hl 5 rfl) ?_
        refine g_ialdI (i := v3_5) (N := 30) B hT0 k_q_10 rfl rfl rfl rfl (by omega) (by omega) rfl dX7_areSo_18 (fun x_11 s_11 a_11 b_11 => ?_)
        refine lv_iload_n hx hb dX7_areSo_19 rfl (lv_at hl 1 rfl) ?_
        refine lv_icmp_ne (tgt := 75) hx hb dX7_areSo_20 (by decide) (fun c_12 => ?_) (fun c_12 => ?_)
        · have f_12 := z_ne c_12 rfl rfl
          exact b75 ls x_8 q_10 (lv_sub hl [0, 1, 2, 3, 4, 5] rfl) k_q_10 (by omega) (by omega) (by omega) s_8 s_10
        · have f_12 := z_eq c_12 rfl rfl
          refine lv_aload_n hx hb dX7_areSo_23 rfl (lv_at hl 0 rfl) ?_
          refine lv_iload hx hb dX7_areSo_24 (lv_at hl 5 rfl) ?_
          refine lv_iload_n hx hb dX7_areSo_26 rfl (lv_at hl 2 rfl) ?_
          refine zkPI (zrV (rest := []) B (c_X7_countsAt l E hV H0 hT0 h0 kh0 v3_5 (by omega) (by omega) p1) cl_RX7_37 hT0 kh0 rfl rfl rfl rfl hl.1 rfl (Nat.le_of_ble_eq_true rfl) dX7_areSo_27 rfl rfl ⟨rfl, rfl⟩ ⟨Nat.zero_le _, Nat.zero_le _⟩ (zO.rf hh)) (fun x_13 hp_13 => ?_)
          obtain ⟨hp_13_1, hp_13_2⟩ := hp_13
          refine lv_if_eq (tgt := 75) hx hb dX7_areSo_30 (by decide) (fun c_14 => ?_) (fun c_14 => ?_)
          · have f_14 := z_eq c_14 rfl kl_0
            exact b75 ls x_8 q_10 (lv_sub hl [0, 1, 2, 3, 4, 5] rfl) k_q_10 (by omega) (by omega) (by omega) s_8 s_10
          · have f_14 := z_ne c_14 rfl kl_0
            refine lv_aload_n hx hb dX7_areSo_33 rfl (lv_at hl 0 rfl) ?_
            refine g_getR B fl_RX7_22 hT0 kh0 rfl rfl rfl rfl rfl dX7_areSo_34 (fun q_15 s_15 k_q_15 => ?_)
            refine lv_iload hx hb dX7_areSo_37 (lv_at hl 5 rfl) ?_
            refine g_ialdI (i := v3_5) (N := 30) B hT0 k_q_15 rfl rfl rfl rfl (by omega) (by omega) rfl dX7_areSo_39 (fun x_16 s_16 a_16 b_16 => ?_)
            refine lv_if_ne (tgt := 47) hx hb dX7_areSo_40 (by decide) (fun c_17 => ?_) (fun c_17 => ?_)
            · have f_17 := z_ne c_17 rfl kl_0
              refine lv_aload hx hb dX7_areSo_47 (lv_at hl 4 rfl) ?_
              exact b49 ls p3 x_8 q_10 q_15 (lv_sub hl [0, 1, 2, 3, 4, 5] rfl) kp3 k_q_10 k_q_15 (by omega) (by omega) (by omega) s_8 s_10 s_15
            · have f_17 := z_eq c_17 rfl kl_0
              refine lv_aload_n hx hb dX7_areSo_43 rfl (lv_at hl 3 rfl) ?_
              refine lv_goto (tgt := 49) hx hb dX7_areSo_44 (by decide) ?_
              exact b49 ls p2 x_8 q_10 q_15 (lv_sub hl [0, 1, 2, 3, 4, 5] rfl) kp2 k_q_10 k_q_15 (by omega) (by omega) (by omega) s_8 s_10 s_15
  refine lv_iconst (v := 0) hx hb dX7_areSo_0 (by decide) ?_
  refine lv_istore (lv' := [(5, .int 0), (0, .ref h0), (1, .int p0), (2, .int p1), (3, .ref p2), (4, .ref p3)]) hx hb dX7_areSo_1 hl (by decide) rfl (fun ls hl => ?_)
  have := kl_0
  exact b3 31 ls 0 (by omega) (lv_sub hl [1, 2, 3, 4, 5, 0] rfl) (by omega) (by omega)
