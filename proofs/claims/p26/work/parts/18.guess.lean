theorem dX1_turnOver_0 : decode cX1_turnOver 0 = .ok (.aload_n 0, 1) := by decide +kernel
theorem dX1_turnOver_1 : decode cX1_turnOver 1 = .ok (.getfield 11, 3) := by decide +kernel
theorem dX1_turnOver_4 : decode cX1_turnOver 4 = .ok (.astore_n 1, 1) := by decide +kernel
theorem dX1_turnOver_5 : decode cX1_turnOver 5 = .ok (.aload_n 0, 1) := by decide +kernel
theorem dX1_turnOver_6 : decode cX1_turnOver 6 = .ok (.aload_n 0, 1) := by decide +kernel
theorem dX1_turnOver_7 : decode cX1_turnOver 7 = .ok (.getfield 17, 3) := by decide +kernel
theorem dX1_turnOver_10 : decode cX1_turnOver 10 = .ok (.putfield 11, 3) := by decide +kernel
theorem dX1_turnOver_13 : decode cX1_turnOver 13 = .ok (.aload_n 0, 1) := by decide +kernel
theorem dX1_turnOver_14 : decode cX1_turnOver 14 = .ok (.aload_n 1, 1) := by decide +kernel
theorem dX1_turnOver_15 : decode cX1_turnOver 15 = .ok (.putfield 17, 3) := by decide +kernel
theorem dX1_turnOver_18 : decode cX1_turnOver 18 = .ok (.aload_n 0, 1) := by decide +kernel
theorem dX1_turnOver_19 : decode cX1_turnOver 19 = .ok (.aload_n 0, 1) := by decide +kernel
theorem dX1_turnOver_20 : decode cX1_turnOver 20 = .ok (.getfield 24, 3) := by decide +kernel
theorem dX1_turnOver_23 : decode cX1_turnOver 23 = .ok (.putfield 20, 3) := by decide +kernel
theorem dX1_turnOver_26 : decode cX1_turnOver 26 = .ok (.return_, 1) := by decide +kernel
def rm_X1_turnOver : Room := { frames := 0, cells := 0, slots := 0, locals := 0 }
abbrev wS_X1_turnOver : List (Nat × Nat) := [(2, 2), (2, 3), (2, 4)]
set_option maxRecDepth 100000 in
set_option maxHeartbeats 4000000 in
theorem c_X1_turnOver (l : Launch) (E : zE) (hV : zV E) (H0 : Heap) (hT0 : HT E H0) (h0 : Nat) (kh0 : eK E h0 = 2) : Met l yX1_turnOver (zws yX1_turnOver cX1_turnOver 2 none) rm_X1_turnOver (zP E H0 [.ref h0]) (zQV E E wS_X1_turnOver (fun H1 => True)) 0 0 (zfr E) := by
  refine zEnt (by decide) (Nat.le_of_ble_eq_true rfl) (fun p e s m args below meth c ls Q B hr hlk hh hQ hl => ?_)
  have hx := B.1
  have hb := B.2.1
  have hG0 : zG E wS_X1_turnOver H0 H0 [] := zG.rf hT0
  have hl : lv_has ls 2 [(0, .ref h0)] := hl
  refine lv_aload_n hx hb dX1_turnOver_0 rfl (lv_at hl 0 rfl) ?_
  refine g_getR B fl_RX1_11 hT0 kh0 rfl rfl rfl rfl rfl dX1_turnOver_1 (fun q_1 s_1 k_q_1 => ?_)
  refine lv_astore_n (lv' := [(1, .ref q_1), (0, .ref h0)]) hx hb dX1_turnOver_4 rfl hl (by decide) rfl (fun ls hl => ?_)
  refine lv_aload_n hx hb dX1_turnOver_5 rfl (lv_at hl 1 rfl) ?_
  refine lv_aload_n hx hb dX1_turnOver_6 rfl (lv_at hl 1 rfl) ?_
  refine g_getR B fl_RX1_17 hT0 kh0 rfl rfl rfl rfl rfl dX1_turnOver_7 (fun q_2 s_2 k_q_2 => ?_)
  refine g_putR B fp_RX1_11 hV hG0 kh0 rfl rfl rfl rfl rfl k_q_2 rfl rfl rfl dX1_turnOver_10 (fun H3 lc3 gH3 uH3 => ?_)
  refine lv_aload_n hx hb dX1_turnOver_13 rfl (lv_at hl 1 rfl) ?_
  refine lv_aload_n hx hb dX1_turnOver_14 rfl (lv_at hl 0 rfl) ?_
  refine g_putR B fp_RX1_17 hV gH3 kh0 rfl rfl rfl rfl rfl k_q_1 rfl rfl rfl dX1_turnOver_15 (fun H4 lc4 gH4 uH4 => ?_)
  refine lv_aload_n hx hb dX1_turnOver_18 rfl (lv_at hl 1 rfl) ?_
  refine lv_aload_n hx hb dX1_turnOver_19 rfl (lv_at hl 1 rfl) ?_
  refine g_getI B fl_RX1_24 gH4.1 kh0 rfl rfl rfl rfl rfl dX1_turnOver_20 (fun x_5 s_5 a_5 b_5 => ?_)
  refine g_putI B fp_RX1_20 hV gH4 kh0 rfl rfl rfl rfl rfl (by omega) (by omega) rfl dX1_turnOver_23 (fun H6 lc6 gH6 uH6 => ?_)
  exact rtV B hr hlk hh hQ gH6 trivial dX1_turnOver_26

theorem dX1_note_0 : decode cX1_note 0 = .ok (.iconst 0, 1) := by decide +kernel
theorem dX1_note_1 : decode cX1_note 1 = .ok (.istore_n 2, 1) := by decide +kernel
theorem dX1_note_2 : decode cX1_note 2 = .ok (.iload_n 2, 1) := by decide +kernel
theorem dX1_note_3 : decode cX1_note 3 = .ok (.aload_n 0, 1) := by decide +kernel
theorem dX1_note_4 : decode cX1_note 4 = .ok (.getfield 24, 3) := by decide +kernel
theorem dX1_note_7 : decode cX1_note 7 = .ok (.if_icmp .ge 23, 3) := by decide +kernel
theorem dX1_note_10 : decode cX1_note 10 = .ok (.aload_n 0, 1) := by decide +kernel
theorem dX1_note_11 : decode cX1_note 11 = .ok (.getfield 17, 3) := by decide +kernel
theorem dX1_note_14 : decode cX1_note 14 = .ok (.iload_n 2, 1) := by decide +kernel
theorem dX1_note_15 : decode cX1_note 15 = .ok (.aaload, 1) := by decide +kernel
theorem dX1_note_16 : decode cX1_note 16 = .ok (.aload_n 1, 1) := by decide +kernel
theorem dX1_note_17 : decode cX1_note 17 = .ok (.invokevirtual 86, 3) := by decide +kernel
theorem dX1_note_20 : decode cX1_note 20 = .ok (.ifCond .eq 4, 3) := by decide +kernel
theorem dX1_note_23 : decode cX1_note 23 = .ok (.return_, 1) := by decide +kernel
theorem dX1_note_24 : decode cX1_note 24 = .ok (.iinc 2 1, 3) := by decide +kernel
theorem dX1_note_27 : decode cX1_note 27 = .ok (.goto (-25), 3) := by decide +kernel
theorem dX1_note_30 : decode cX1_note 30 = .ok (.aload_n 0, 1) := by decide +kernel
theorem dX1_note_31 : decode cX1_note 31 = .ok (.getfield 24, 3) := by decide +kernel
theorem dX1_note_34 : decode cX1_note 34 = .ok (.bipush 64, 2) := by decide +kernel
theorem dX1_note_36 : decode cX1_note 36 = .ok (.if_icmp .ge 26, 3) := by decide +kernel
theorem dX1_note_39 : decode cX1_note 39 = .ok (.aload_n 0, 1) := by decide +kernel
theorem dX1_note_40 : decode cX1_note 40 = .ok (.getfield 17, 3) := by decide +kernel
theorem dX1_note_43 : decode cX1_note 43 = .ok (.aload_n 0, 1) := by decide +kernel
theorem dX1_note_44 : decode cX1_note 44 = .ok (.getfield 24, 3) := by decide +kernel
theorem dX1_note_47 : decode cX1_note 47 = .ok (.aaload, 1) := by decide +kernel
theorem dX1_note_48 : decode cX1_note 48 = .ok (.aload_n 1, 1) := by decide +kernel
theorem dX1_note_49 : decode cX1_note 49 = .ok (.invokevirtual 46, 3) := by decide +kernel
theorem dX1_note_52 : decode cX1_note 52 = .ok (.aload_n 0, 1) := by decide +kernel
theorem dX1_note_53 : decode cX1_note 53 = .ok (.dup, 1) := by decide +kernel
theorem dX1_note_54 : decode cX1_note 54 = .ok (.getfield 24, 3) := by decide +kernel
theorem dX1_note_57 : decode cX1_note 57 = .ok (.iconst 1, 1) := by decide +kernel
theorem dX1_note_58 : decode cX1_note 58 = .ok (.iadd, 1) := by decide +kernel
theorem dX1_note_59 : decode cX1_note 59 = .ok (.putfield 24, 3) := by decide +kernel
theorem dX1_note_62 : decode cX1_note 62 = .ok (.return_, 1) := by decide +kernel
def rm_X1_note : Room := { frames := 2, cells := 0, slots := 0, locals := 42 }
abbrev wS_X1_note : List (Nat × Nat) := [(2, 5), (5, 0), (5, 1), (5, 2), (5, 3), (5, 4), (5, 5), (5, 6)]
set_option maxRecDepth 100000 in
set_option maxHeartbeats 4000000 in
theorem c_X1_note (l : Launch) (E : zE) (hV : zV E) (H0 : Heap) (hT0 : HT E H0) (h0 : Nat) (kh0 : eK E h0 = 2) (p0 : Nat) (kp0 : eK E p0 = 5) : Met l yX1_note (zws yX1_note cX1_note 3 none) rm_X1_note (zP E H0 [.ref h0, .ref p0]) (zQV E E wS_X1_note (fun H1 => True)) 0 0 (zfr E) := by
  refine zEnt (by decide) (Nat.le_of_ble_eq_true rfl) (fun p e s m args below meth c ls Q B hr hlk hh hQ hl => ?_)
  have hx := B.1
  have hb := B.2.1
  have hG0 : zG E wS_X1_note H0 H0 [] := zG.rf hT0
  have hl : lv_has ls 3 [(0, .ref h0), (1, .ref p0)] := hl
  have b2 : ∀ (n2 : Nat) (ls : Array Slot) (v2_2 : Int32), 64 - v2_2.toInt < (n2 : Int) → lv_has ls 3 [(0, .ref h0), (1, .ref p0), (2, .int v2_2)] → 0 ≤ v2_2.toInt → v2_2.toInt ≤ 64 → W p l e rm_X1_note s m args below meth c H0 [] 0 0 Q (F0 m 2 ls []) := by
    intro n2
    induction n2 with
    | zero =>
      intro ls v2_2 hm2 hl f2_1 f2_2
      exact absurd hm2 (by omega)
    | succ n2 ih2 =>
      intro ls v2_2 hm2 hl f2_1 f2_2
      refine lv_iload_n hx hb dX1_note_2 rfl (lv_at hl 2 rfl) ?_
      refine lv_aload_n hx hb dX1_note_3 rfl (lv_at hl 0 rfl) ?_
      refine g_getI B fl_RX1_24 hT0 kh0 rfl rfl rfl rfl rfl dX1_note_4 (fun x_1 s_1 a_1 b_1 => ?_)
      refine lv_icmp_ge (tgt := 30) hx hb dX1_note_7 (by decide) (fun c_2 => ?_) (fun c_2 => ?_)
      · have f_2 := z_le c_2 rfl rfl
        refine lv_aload_n hx hb dX1_note_30 rfl (lv_at hl 0 rfl) ?_
        refine g_get B fl_RX1_24 hT0 kh0 rfl rfl rfl dX1_note_31 s_1 ?_
        refine lv_bipush (v := 64) hx hb dX1_note_34 (by decide) ?_
        refine lv_icmp_ge (tgt := 62) hx hb dX1_note_36 (by decide) (fun c_3 => ?_) (fun c_3 => ?_)
        · have f_3 := z_le c_3 kl_64 rfl
          exact rtV B hr hlk hh hQ hG0 trivial dX1_note_62
        · have f_3 := z_nle c_3 kl_64 rfl
          refine lv_aload_n hx hb dX1_note_39 rfl (lv_at hl 0 rfl) ?_
          refine g_getR B fl_RX1_17 hT0 kh0 rfl rfl rfl rfl rfl dX1_note_40 (fun q_4 s_4 k_q_4 => ?_)
          refine lv_aload_n hx hb dX1_note_43 rfl (lv_at hl 0 rfl) ?_
          refine g_get B fl_RX1_24 hT0 kh0 rfl rfl rfl dX1_note_44 s_1 ?_
          refine g_aaldI (i := x_1) (N := 64) B hT0 k_q_4 rfl rfl rfl rfl rfl (by omega) (by omega) rfl dX1_note_47 (fun q_5 s_5 k_q_5 => ?_)
          refine lv_aload_n hx hb dX1_note_48 rfl (lv_at hl 1 rfl) ?_
          refine zkV (zrV (rest := []) B (c_X4_copyOf l E hV H0 hT0 q_5 k_q_5 p0 kp0) cl_RX1_46 hT0 k_q_5 rfl rfl rfl rfl hl.1 rfl (Nat.le_of_ble_eq_true rfl) dX1_note_49 rfl rfl ⟨rfl, rfl⟩ ⟨Nat.zero_le _, Nat.zero_le _⟩ (zO.of hG0 hh)) hG0 rfl (fun H6 lc6 hp_6 gH6 rH6 => ?_)
          have s_7 := rH6.keep hV kh0 rfl s_1
          refine lv_aload_n hx hb dX1_note_52 rfl (lv_at hl 0 rfl) ?_
          refine lv_dup hx hb dX1_note_53 rfl ?_
          refine g_get B fl_RX1_24 gH6.1 kh0 rfl rfl rfl dX1_note_54 s_7 ?_
          refine lv_iconst (v := 1) hx hb dX1_note_57 (by decide) ?_
          refine lv_iadd hx hb dX1_note_58 ?_
          refine lv_topi (fun x_8 e_8 => ?_)
          have t_8 := z_add e_8 rfl kl_1 (by omega) (by omega)
          refine g_putI B fp_RX1_24 hV gH6 kh0 rfl rfl rfl rfl rfl (by omega) (by omega) rfl dX1_note_59 (fun H9 lc9 gH9 uH9 => ?_)
          exact rtV B hr hlk hh hQ gH9 trivial dX1_note_62
      · have f_2 := z_nle c_2 rfl rfl
        refine lv_aload_n hx hb dX1_note_10 rfl (lv_at hl 0 rfl) ?_
        refine g_getR B fl_RX1_17 hT0 kh0 rfl rfl rfl rfl rfl dX1_note_11 (fun q_10 s_10 k_q_10 => ?_)
        refine lv_iload_n hx hb dX1_note_14 rfl (lv_at hl 2 rfl) ?_
        refine g_aaldI (i := v2_2) (N := 64) B hT0 k_q_10 rfl rfl rfl rfl rfl (by omega) (by omega) rfl dX1_note_15 (fun q_11 s_11 k_q_11 => ?_)
        refine lv_aload_n hx hb dX1_note_16 rfl (lv_at hl 1 rfl) ?_
        refine zkPI (zrV (rest := []) B (c_X4_isLike l E hV H0 hT0 q_11 k_q_11 p0 kp0) cl_RX1_86 hT0 k_q_11 rfl rfl rfl rfl hl.1 rfl (Nat.le_of_ble_eq_true rfl) dX1_note_17 rfl rfl ⟨rfl, rfl⟩ ⟨Nat.zero_le _, Nat.zero_le _⟩ (zO.of hG0 hh)) (fun x_12 hp_12 => ?_)
        obtain ⟨hp_12_1, hp_12_2⟩ := hp_12
        refine lv_if_eq (tgt := 24) hx hb dX1_note_20 (by decide) (fun c_13 => ?_) (fun c_13 => ?_)
        · have f_13 := z_eq c_13 rfl kl_0
          obtain ⟨x_14, e_14⟩ : ∃ y : Int32, (v2_2 : Int32) + Int32.ofInt 1 = y := ⟨_, rfl⟩
          refine lv_iinc (v := x_14) (lv' := [(2, .int x_14), (0, .ref h0), (1, .ref p0)]) hx hb dX1_note_24 hl (k := 2) rfl e_14 (by decide) rfl (fun ls hl => ?_)
          have t_14 := z_inc2 e_14 rfl (by decide) (by omega) (by omega)
          refine lv_goto (tgt := 2) hx hb dX1_note_27 (by decide) ?_
          exact ih2 ls x_14 (by omega) (lv_sub hl [1, 2, 0] rfl) (by omega) (by omega)
        · have f_13 := z_ne c_13 rfl kl_0
          exact rtV B hr hlk hh hQ hG0 trivial dX1_note_23
  refine lv_iconst (v := 0) hx hb dX1_note_0 (by decide) ?_
  refine lv_istore_n (lv' := [(2, .int 0), (0, .ref h0), (1, .ref p0)]) hx hb dX1_note_1 rfl hl (by decide) rfl (fun ls hl => ?_)
  have := kl_0
  exact b2 65 ls 0 (by omega) (lv_sub hl [1, 2, 0] rfl) (by omega) (by omega)

theorem dX1_goOnByOwn_0 : decode cX1_goOnByOwn 0 = .ok (.aload_n 0, 1) := by decide +kernel
theorem dX1_goOnByOwn_1 : decode cX1_goOnByOwn 1 = .ok (.iconst 0, 1) := by decide +kernel
theorem dX1_goOnByOwn_2 : decode cX1_goOnByOwn 2 = .ok (.putfield 24, 3) := by decide +kernel
theorem dX1_goOnByOwn_5 : decode cX1_goOnByOwn 5 = .ok (.iconst 0, 1) := by decide +kernel
theorem dX1_goOnByOwn_6 : decode cX1_goOnByOwn 6 = .ok (.istore_n 3, 1) := by decide +kernel
theorem dX1_goOnByOwn_7 : decode cX1_goOnByOwn 7 = .ok (.iload_n 3, 1) := by decide +kernel
theorem dX1_goOnByOwn_8 : decode cX1_goOnByOwn 8 = .ok (.aload_n 0, 1) := by decide +kernel
theorem dX1_goOnByOwn_9 : decode cX1_goOnByOwn 9 = .ok (.getfield 20, 3) := by decide +kernel
theorem dX1_goOnByOwn_12 : decode cX1_goOnByOwn 12 = .ok (.if_icmp .ge 102, 3) := by decide +kernel
theorem dX1_goOnByOwn_15 : decode cX1_goOnByOwn 15 = .ok (.iload_n 2, 1) := by decide +kernel
theorem dX1_goOnByOwn_16 : decode cX1_goOnByOwn 16 = .ok (.ifCond .ne 15, 3) := by decide +kernel
theorem dX1_goOnByOwn_19 : decode cX1_goOnByOwn 19 = .ok (.aload_n 0, 1) := by decide +kernel
theorem dX1_goOnByOwn_20 : decode cX1_goOnByOwn 20 = .ok (.getfield 36, 3) := by decide +kernel
theorem dX1_goOnByOwn_23 : decode cX1_goOnByOwn 23 = .ok (.getfield 63, 3) := by decide +kernel
theorem dX1_goOnByOwn_26 : decode cX1_goOnByOwn 26 = .ok (.iload_n 1, 1) := by decide +kernel
theorem dX1_goOnByOwn_27 : decode cX1_goOnByOwn 27 = .ok (.baload, 1) := by decide +kernel
theorem dX1_goOnByOwn_28 : decode cX1_goOnByOwn 28 = .ok (.ifCond .ne 13, 3) := by decide +kernel
theorem dX1_goOnByOwn_31 : decode cX1_goOnByOwn 31 = .ok (.aload_n 0, 1) := by decide +kernel
theorem dX1_goOnByOwn_32 : decode cX1_goOnByOwn 32 = .ok (.aload_n 0, 1) := by decide +kernel
theorem dX1_goOnByOwn_33 : decode cX1_goOnByOwn 33 = .ok (.getfield 11, 3) := by decide +kernel
theorem dX1_goOnByOwn_36 : decode cX1_goOnByOwn 36 = .ok (.iload_n 3, 1) := by decide +kernel
theorem dX1_goOnByOwn_37 : decode cX1_goOnByOwn 37 = .ok (.aaload, 1) := by decide +kernel
theorem dX1_goOnByOwn_38 : decode cX1_goOnByOwn 38 = .ok (.invokevirtual 71, 3) := by decide +kernel
theorem dX1_goOnByOwn_41 : decode cX1_goOnByOwn 41 = .ok (.iload_n 2, 1) := by decide +kernel
theorem dX1_goOnByOwn_42 : decode cX1_goOnByOwn 42 = .ok (.ifCond .ne 15, 3) := by decide +kernel
theorem dX1_goOnByOwn_45 : decode cX1_goOnByOwn 45 = .ok (.aload_n 0, 1) := by decide +kernel
theorem dX1_goOnByOwn_46 : decode cX1_goOnByOwn 46 = .ok (.getfield 36, 3) := by decide +kernel
theorem dX1_goOnByOwn_49 : decode cX1_goOnByOwn 49 = .ok (.getfield 63, 3) := by decide +kernel
theorem dX1_goOnByOwn_52 : decode cX1_goOnByOwn 52 = .ok (.iload_n 1, 1) := by decide +kernel
theorem dX1_goOnByOwn_53 : decode cX1_goOnByOwn 53 = .ok (.baload, 1) := by decide +kernel
theorem dX1_goOnByOwn_54 : decode cX1_goOnByOwn 54 = .ok (.ifCond .eq 54, 3) := by decide +kernel
theorem dX1_goOnByOwn_57 : decode cX1_goOnByOwn 57 = .ok (.aload_n 0, 1) := by decide +kernel
theorem dX1_goOnByOwn_58 : decode cX1_goOnByOwn 58 = .ok (.getfield 28, 3) := by decide +kernel
theorem dX1_goOnByOwn_61 : decode cX1_goOnByOwn 61 = .ok (.aload_n 0, 1) := by decide +kernel
theorem dX1_goOnByOwn_62 : decode cX1_goOnByOwn 62 = .ok (.getfield 11, 3) := by decide +kernel
theorem dX1_goOnByOwn_65 : decode cX1_goOnByOwn 65 = .ok (.iload_n 3, 1) := by decide +kernel
theorem dX1_goOnByOwn_66 : decode cX1_goOnByOwn 66 = .ok (.aaload, 1) := by decide +kernel
theorem dX1_goOnByOwn_67 : decode cX1_goOnByOwn 67 = .ok (.invokevirtual 46, 3) := by decide +kernel
theorem dX1_goOnByOwn_70 : decode cX1_goOnByOwn 70 = .ok (.aload_n 0, 1) := by decide +kernel
theorem dX1_goOnByOwn_71 : decode cX1_goOnByOwn 71 = .ok (.getfield 32, 3) := by decide +kernel
theorem dX1_goOnByOwn_74 : decode cX1_goOnByOwn 74 = .ok (.aload_n 0, 1) := by decide +kernel
theorem dX1_goOnByOwn_75 : decode cX1_goOnByOwn 75 = .ok (.getfield 28, 3) := by decide +kernel
theorem dX1_goOnByOwn_78 : decode cX1_goOnByOwn 78 = .ok (.aload_n 0, 1) := by decide +kernel
theorem dX1_goOnByOwn_79 : decode cX1_goOnByOwn 79 = .ok (.getfield 36, 3) := by decide +kernel
theorem dX1_goOnByOwn_82 : decode cX1_goOnByOwn 82 = .ok (.getfield 55, 3) := by decide +kernel
theorem dX1_goOnByOwn_85 : decode cX1_goOnByOwn 85 = .ok (.iload_n 1, 1) := by decide +kernel
theorem dX1_goOnByOwn_86 : decode cX1_goOnByOwn 86 = .ok (.iaload, 1) := by decide +kernel
theorem dX1_goOnByOwn_87 : decode cX1_goOnByOwn 87 = .ok (.aload_n 0, 1) := by decide +kernel
theorem dX1_goOnByOwn_88 : decode cX1_goOnByOwn 88 = .ok (.getfield 36, 3) := by decide +kernel
theorem dX1_goOnByOwn_91 : decode cX1_goOnByOwn 91 = .ok (.getfield 74, 3) := by decide +kernel
theorem dX1_goOnByOwn_94 : decode cX1_goOnByOwn 94 = .ok (.iload_n 1, 1) := by decide +kernel
theorem dX1_goOnByOwn_95 : decode cX1_goOnByOwn 95 = .ok (.iaload, 1) := by decide +kernel
theorem dX1_goOnByOwn_96 : decode cX1_goOnByOwn 96 = .ok (.invokevirtual 77, 3) := by decide +kernel
theorem dX1_goOnByOwn_99 : decode cX1_goOnByOwn 99 = .ok (.pop, 1) := by decide +kernel
theorem dX1_goOnByOwn_100 : decode cX1_goOnByOwn 100 = .ok (.aload_n 0, 1) := by decide +kernel
theorem dX1_goOnByOwn_101 : decode cX1_goOnByOwn 101 = .ok (.aload_n 0, 1) := by decide +kernel
theorem dX1_goOnByOwn_102 : decode cX1_goOnByOwn 102 = .ok (.getfield 28, 3) := by decide +kernel
theorem dX1_goOnByOwn_105 : decode cX1_goOnByOwn 105 = .ok (.invokevirtual 71, 3) := by decide +kernel
theorem dX1_goOnByOwn_108 : decode cX1_goOnByOwn 108 = .ok (.iinc 3 1, 3) := by decide +kernel
theorem dX1_goOnByOwn_111 : decode cX1_goOnByOwn 111 = .ok (.goto (-104), 3) := by decide +kernel
theorem dX1_goOnByOwn_114 : decode cX1_goOnByOwn 114 = .ok (.aload_n 0, 1) := by decide +kernel
theorem dX1_goOnByOwn_115 : decode cX1_goOnByOwn 115 = .ok (.invokevirtual 83, 3) := by decide +kernel
theorem dX1_goOnByOwn_118 : decode cX1_goOnByOwn 118 = .ok (.return_, 1) := by decide +kernel
def rm_X1_goOnByOwn : Room := { frames := 4, cells := 0, slots := 0, locals := 109 }
abbrev wS_X1_goOnByOwn : List (Nat × Nat) := [(2, 2), (2, 3), (2, 4), (2, 5), (5, 0), (5, 1), (5, 2), (5, 3), (5, 4), (5, 5), (5, 6)]
set_option maxRecDepth 100000 in
set_option maxHeartbeats 4000000 in
theorem c_X1_goOnByOwn (l : Launch) (E : zE) (hV : zV E) (H0 : Heap) (hT0 : HT E H0) (h0 : Nat) (kh0 : eK E h0 = 2) (p0 : Int32) (p0_lo : 0 ≤ p0.toInt) (p0_hi : p0.toInt ≤ 59) (p1 : Int32) (p1_lo : 0 ≤ p1.toInt) (p1_hi : p1.toInt ≤ 1) : Met l yX1_goOnByOwn (zws yX1_goOnByOwn cX1_goOnByOwn 4 none) rm_X1_goOnByOwn (zP E H0 [.ref h0, .int p0, .int p1]) (zQV E E wS_X1_goOnByOwn (fun H1 => True)) 0 0 (zfr E) := by
  refine zEnt (by decide) (Nat.le_of_ble_eq_true rfl) (fun p e s m args below meth c ls Q B hr hlk hh hQ hl => ?_)
  have hx := B.1
  have hb := B.2.1
  have hG0 : zG E wS_X1_goOnByOwn H0 H0 [] := zG.rf hT0
  have hl : lv_has ls 4 [(0, .ref h0), (1, .int p0), (2, .int p1)] := hl
  have b7 : ∀ (n7 : Nat) (H7 : Heap) (lc7 : List Loc) (ls : Array Slot) (v7_3 : Int32), 64 - v7_3.toInt < (n7 : Int) → zG E wS_X1_goOnByOwn H0 H7 lc7 → lv_has ls 4 [(0, .ref h0), (1, .int p0), (2, .int p1), (3, .int v7_3)] → 0 ≤ v7_3.toInt → v7_3.toInt ≤ 64 → W p l e rm_X1_goOnByOwn s m args below meth c H7 lc7 0 0 Q (F0 m 7 ls []) := by
    intro n7
    induction n7 with
    | zero =>
      intro H7 lc7 ls v7_3 hm7 gH7 hl f7_1 f7_2
      exact absurd hm7 (by omega)
    | succ n7 ih7 =>
      intro H7 lc7 ls v7_3 hm7 gH7 hl f7_1 f7_2
      have b108 : ∀ (H108 : Heap) (lc108 : List Loc) (ls : Array Slot) (u108_h0_4 : Int32) (u108_h0_1 : Nat), zG E wS_X1_goOnByOwn H0 H108 lc108 → lv_has ls 4 [(0, .ref h0), (1, .int p0), (2, .int p1), (3, .int v7_3)] → eK E u108_h0_1 = 4 → v7_3.toInt ≤ 63 → 1 ≤ u108_h0_4.toInt → u108_h0_4.toInt ≤ 64 → sl H108 h0 (zix E 2 4) = some (.int u108_h0_4) → sl H108 h0 (zix E 2 1) = some (.ref u108_h0_1) → W p l e rm_X1_goOnByOwn s m args below meth c H108 lc108 0 0 Q (F0 m 108 ls []) := by
        intro H108 lc108 ls u108_h0_4 u108_h0_1 gH108 hl k_u108_h0_1 f108_1 f108_2 f108_3 s108_u108_h0_4 s108_u108_h0_1
        obtain ⟨x_1, e_1⟩ : ∃ y : Int32, (v7_3 : Int32) + Int32.ofInt 1 = y := ⟨_, rfl⟩
        refine lv_iinc (v := x_1) (lv' := [(3, .int x_1), (0, .ref h0), (1, .int p0), (2, .int p1)]) hx hb dX1_goOnByOwn_108 hl (k := 3) rfl e_1 (by decide) rfl (fun ls hl => ?_)
        have t_1 := z_inc2 e_1 rfl (by decide) (by omega) (by omega)
        refine lv_goto (tgt := 7) hx hb dX1_goOnByOwn_111 (by decide) ?_
        exact ih7 H108 lc108 ls x_1 (by omega) gH108 (lv_sub hl [1, 2, 3, 0] rfl) (by omega) (by omega)
      have b57 : ∀ (H57 : Heap) (lc57 : List Loc) (ls : Array Slot) (u57_h0_4 : Int32), zG E wS_X1_goOnByOwn H0 H57 lc57 → lv_has ls 4 [(0, .ref h0), (1, .int p0), (2, .int p1), (3, .int v7_3)] → v7_3.toInt ≤ 63 → 1 ≤ u57_h0_4.toInt → u57_h0_4.toInt ≤ 64 → sl H57 h0 (zix E 2 4) = some (.int u57_h0_4) → W p l e rm_X1_goOnByOwn s m args below meth c H57 lc57 0 0 Q (F0 m 57 ls []) := by
        intro H57 lc57 ls u57_h0_4 gH57 hl f57_1 f57_2 f57_3 s57_u57_h0_4
        refine lv_aload_n hx hb dX1_goOnByOwn_57 rfl (lv_at hl 0 rfl) ?_
        refine g_getR B fl_RX1_28 gH57.1 kh0 rfl rfl rfl rfl rfl dX1_goOnByOwn_58 (fun q_2 s_2 k_q_2 => ?_)
        refine lv_aload_n hx hb dX1_goOnByOwn_61 rfl (lv_at hl 0 rfl) ?_
        refine g_getR B fl_RX1_11 gH57.1 kh0 rfl rfl rfl rfl rfl dX1_goOnByOwn_62 (fun q_3 s_3 k_q_3 => ?_)
        refine lv_iload_n hx hb dX1_goOnByOwn_65 rfl (lv_at hl 3 rfl) ?_
        refine g_aaldI (i := v7_3) (N := 64) B gH57.1 k_q_3 rfl rfl rfl rfl rfl (by omega) (by omega) rfl dX1_goOnByOwn_66 (fun q_4 s_4 k_q_4 => ?_)
        refine zkV (zrV (rest := []) B (c_X4_copyOf l E hV H57 gH57.1 q_2 k_q_2 q_4 k_q_4) cl_RX1_46 gH57.1 k_q_2 rfl rfl rfl rfl hl.1 rfl (Nat.le_of_ble_eq_true rfl) dX1_goOnByOwn_67 rfl rfl ⟨rfl, rfl⟩ ⟨Nat.zero_le _, Nat.zero_le _⟩ (zO.of gH57 hh)) gH57 rfl (fun H5 lc5 hp_5 gH5 rH5 => ?_)
        have s_6 := rH5.keep hV kh0 rfl s57_u57_h0_4
        have s_7 := rH5.keep hV kh0 rfl s_2
        have s_8 := rH5.keep hV kh0 rfl s_3
        have s_9 := rH5.keepA k_q_3 rfl s_4
        refine lv_aload_n hx hb dX1_goOnByOwn_70 rfl (lv_at hl 0 rfl) ?_
        refine g_getR B fl_RX1_32 gH5.1 kh0 rfl rfl rfl rfl rfl dX1_goOnByOwn_71 (fun q_10 s_10 k_q_10 => ?_)
        refine lv_aload_n hx hb dX1_goOnByOwn_74 rfl (lv_at hl 0 rfl) ?_
        refine g_get B fl_RX1_28 gH5.1 kh0 rfl rfl rfl dX1_goOnByOwn_75 s_7 ?_
        refine lv_aload_n hx hb dX1_goOnByOwn_78 rfl (lv_at hl 0 rfl) ?_
        refine g_getR B fl_RX1_36 gH5.1 kh0 rfl rfl rfl rfl rfl dX1_goOnByOwn_79 (fun q_11 s_11 k_q_11 => ?_)
        refine g_getR B fl_RX1_55 gH5.1 k_q_11 rfl rfl rfl rfl rfl dX1_goOnByOwn_82 (fun q_12 s_12 k_q_12 => ?_)
        refine lv_iload_n hx hb dX1_goOnByOwn_85 rfl (lv_at hl 1 rfl) ?_
        refine g_ialdI (i := p0) (N := 240) B gH5.1 k_q_12 rfl rfl rfl rfl (by omega) (by omega) rfl dX1_goOnByOwn_86 (fun x_13 s_13 a_13 b_13 => ?_)
        refine lv_aload_n hx hb dX1_goOnByOwn_87 rfl (lv_at hl 0 rfl) ?_
        refine g_get B fl_RX1_36 gH5.1 kh0 rfl rfl rfl dX1_goOnByOwn_88 s_11 ?_
        refine g_getR B fl_RX1_74 gH5.1 k_q_11 rfl rfl rfl rfl rfl dX1_goOnByOwn_91 (fun q_14 s_14 k_q_14 => ?_)
        refine lv_iload_n hx hb dX1_goOnByOwn_94 rfl (lv_at hl 1 rfl) ?_
        refine g_ialdI (i := p0) (N := 240) B gH5.1 k_q_14 rfl rfl rfl rfl (by omega) (by omega) rfl dX1_goOnByOwn_95 (fun x_15 s_15 a_15 b_15 => ?_)
        refine zkI (zrV (rest := []) B (c_X2_make l E hV H5 gH5.1 q_10 k_q_10 q_2 k_q_2 x_13 x_15) cl_RX1_77 gH5.1 k_q_10 rfl rfl rfl rfl hl.1 rfl (Nat.le_of_ble_eq_true rfl) dX1_goOnByOwn_96 rfl rfl ⟨rfl, rfl⟩ ⟨Nat.zero_le _, Nat.zero_le _⟩ (zO.of gH5 hh)) gH5 rfl (fun x_16 H16 lc16 hp_16 gH16 rH16 => ?_)
        have s_17 := rH16.keep hV kh0 rfl s_6
        have s_18 := rH16.keep hV kh0 rfl s_7
        have s_19 := rH16.keep hV kh0 rfl s_8
        have s_20 := rH16.keepA k_q_3 rfl s_9
        have s_21 := rH16.keep hV kh0 rfl s_10
        have s_22 := rH16.keep hV kh0 rfl s_11
        have s_23 := rH16.keep hV k_q_11 rfl s_12
        have s_24 := rH16.keepA k_q_12 rfl s_13
        have s_25 := rH16.keep hV k_q_11 rfl s_14
        have s_26 := rH16.keepA k_q_14 rfl s_15
        obtain ⟨hp_16_1, hp_16_2⟩ := hp_16
        refine lv_pop hx hb dX1_goOnByOwn_99 rfl ?_
        refine lv_aload_n hx hb dX1_goOnByOwn_100 rfl (lv_at hl 0 rfl) ?_
        refine lv_aload_n hx hb dX1_goOnByOwn_101 rfl (lv_at hl 0 rfl) ?_
        refine g_get B fl_RX1_28 gH16.1 kh0 rfl rfl rfl dX1_goOnByOwn_102 s_18 ?_
        refine zkV (zrV (rest := []) B (c_X1_note l E hV H16 gH16.1 h0 kh0 q_2 k_q_2) cl_RX1_71 gH16.1 kh0 rfl rfl rfl rfl hl.1 rfl (Nat.le_of_ble_eq_true rfl) dX1_goOnByOwn_105 rfl rfl ⟨rfl, rfl⟩ ⟨Nat.zero_le _, Nat.zero_le _⟩ (zO.of gH16 hh)) gH16 rfl (fun H27 lc27 hp_27 gH27 rH27 => ?_)
        have s_28 := rH27.keep hV kh0 rfl s_17
        have s_29 := rH27.keep hV kh0 rfl s_18
        have s_30 := rH27.keep hV kh0 rfl s_19
        have s_31 := rH27.keepA k_q_3 rfl s_20
        have s_32 := rH27.keep hV kh0 rfl s_21
        have s_33 := rH27.keep hV kh0 rfl s_22
        have s_34 := rH27.keep hV k_q_11 rfl s_23
        have s_35 := rH27.keepA k_q_12 rfl s_24
        have s_36 := rH27.keep hV k_q_11 rfl s_25
        have s_37 := rH27.keepA k_q_14 rfl s_26
        exact b108 H27 lc27 ls u57_h0_4 q_11 gH27 (lv_sub hl [0, 1, 2, 3] rfl) k_q_11 (by omega) (by omega) (by omega) s_28 s_33
      have b41 : ∀ (H41 : Heap) (lc41 : List Loc) (ls : Array Slot) (u41_h0_4 : Int32), zG E wS_X1_goOnByOwn H0 H41 lc41 → lv_has ls 4 [(0, .ref h0), (1, .int p0), (2, .int p1), (3, .int v7_3)] → v7_3.toInt ≤ 63 → 1 ≤ u41_h0_4.toInt → u41_h0_4.toInt ≤ 64 → sl H41 h0 (zix E 2 4) = some (.int u41_h0_4) → W p l e rm_X1_goOnByOwn s m args below meth c H41 lc41 0 0 Q (F0 m 41 ls []) := by
        intro H41 lc41 ls u41_h0_4 gH41 hl f41_1 f41_2 f41_3 s41_u41_h0_4
        refine lv_iload_n hx hb dX1_goOnByOwn_41 rfl (lv_at hl 2 rfl) ?_
        refine lv_if_ne (tgt := 57) hx hb dX1_goOnByOwn_42 (by decide) (fun c_38 => ?_) (fun c_38 => ?_)
        · have f_38 := z_ne c_38 rfl kl_0
          exact b57 H41 lc41 ls u41_h0_4 gH41 (lv_sub hl [0, 1, 2, 3] rfl) (by omega) (by omega) (by omega) s41_u41_h0_4
        · have f_38 := z_eq c_38 rfl kl_0
          refine lv_aload_n hx hb dX1_goOnByOwn_45 rfl (lv_at hl 0 rfl) ?_
          refine g_getR B fl_RX1_36 gH41.1 kh0 rfl rfl rfl rfl rfl dX1_goOnByOwn_46 (fun q_39 s_39 k_q_39 => ?_)
          refine g_getR B fl_RX1_63 gH41.1 k_q_39 rfl rfl rfl rfl rfl dX1_goOnByOwn_49 (fun q_40 s_40 k_q_40 => ?_)
          refine lv_iload_n hx hb dX1_goOnByOwn_52 rfl (lv_at hl 1 rfl) ?_
          refine g_zaldI (i := p0) (N := 240) B gH41.1 k_q_40 rfl rfl rfl rfl (by omega) (by omega) rfl dX1_goOnByOwn_53 (fun x_41 s_41 a_41 b_41 => ?_)
          refine lv_if_eq (tgt := 108) hx hb dX1_goOnByOwn_54 (by decide) (fun c_42 => ?_) (fun c_42 => ?_)
          · have f_42 := z_eq c_42 rfl kl_0
            exact b108 H41 lc41 ls u41_h0_4 q_39 gH41 (lv_sub hl [0, 1, 2, 3] rfl) k_q_39 (by omega) (by omega) (by omega) s41_u41_h0_4 s_39
          · have f_42 := z_ne c_42 rfl kl_0
            exact b57 H41 lc41 ls u41_h0_4 gH41 (lv_sub hl [0, 1, 2, 3] rfl) (by omega) (by omega) (by omega) s41_u41_h0_4
      have b31 : ∀ (ls : Array Slot) (u31_h0_4 : Int32), lv_has ls 4 [(0, .ref h0), (1, .int p0), (2, .int p1), (3, .int v7_3)] → v7_3.toInt ≤ 63 → 1 ≤ u31_h0_4.toInt → u31_h0_4.toInt ≤ 64 → sl H7 h0 (zix E 2 4) = some (.int u31_h0_4) → W p l e rm_X1_goOnByOwn s m args below meth c H7 lc7 0 0 Q (F0 m 31 ls []) := by
        intro ls u31_h0_4 hl f31_1 f31_2 f31_3 s31_u31_h0_4
        refine lv_aload_n hx hb dX1_goOnByOwn_31 rfl (lv_at hl 0 rfl) ?_
        refine lv_aload_n hx hb dX1_goOnByOwn_32 rfl (lv_at hl 0 rfl) ?_
        refine g_getR B fl_RX1_11 gH7.1 kh0 rfl rfl rfl rfl rfl dX1_goOnByOwn_33 (fun q_43 s_43 k_q_43 => ?_)
        refine lv_iload_n hx hb dX1_goOnByOwn_36 rfl (lv_at hl 3 rfl) ?_
        refine g_aaldI (i := v7_3) (N := 64) B gH7.1 k_q_43 rfl rfl rfl rfl rfl (by omega) (by omega) rfl dX1_goOnByOwn_37 (fun q_44 s_44 k_q_44 => ?_)
        refine zkV (zrV (rest := []) B (c_X1_note l E hV H7 gH7.1 h0 kh0 q_44 k_q_44) cl_RX1_71 gH7.1 kh0 rfl rfl rfl rfl hl.1 rfl (Nat.le_of_ble_eq_true rfl) dX1_goOnByOwn_38 rfl rfl ⟨rfl, rfl⟩ ⟨Nat.zero_le _, Nat.zero_le _⟩ (zO.of gH7 hh)) gH7 rfl (fun H45 lc45 hp_45 gH45 rH45 => ?_)
        have s_46 := rH45.keep hV kh0 rfl s31_u31_h0_4
        have s_47 := rH45.keep hV kh0 rfl s_43
        have s_48 := rH45.keepA k_q_43 rfl s_44
        exact b41 H45 lc45 ls u31_h0_4 gH45 (lv_sub hl [0, 1, 2, 3] rfl) (by omega) (by omega) (by omega) s_46
      refine lv_iload_n hx hb dX1_goOnByOwn_7 rfl (lv_at hl 3 rfl) ?_
      refine lv_aload_n hx hb dX1_goOnByOwn_8 rfl (lv_at hl 0 rfl) ?_
      refine g_getI B fl_RX1_20 gH7.1 kh0 rfl rfl rfl rfl rfl dX1_goOnByOwn_9 (fun x_49 s_49 a_49 b_49 => ?_)
      refine lv_icmp_ge (tgt := 114) hx hb dX1_goOnByOwn_12 (by decide) (fun c_50 => ?_) (fun c_50 => ?_)
      · have f_50 := z_le c_50 rfl rfl
        refine lv_aload_n hx hb dX1_goOnByOwn_114 rfl (lv_at hl 0 rfl) ?_
        refine zkV (zrV (rest := []) B (c_X1_turnOver l E hV H7 gH7.1 h0 kh0) cl_RX1_83 gH7.1 kh0 rfl rfl rfl rfl hl.1 rfl (Nat.le_of_ble_eq_true rfl) dX1_goOnByOwn_115 rfl rfl ⟨rfl, rfl⟩ ⟨Nat.zero_le _, Nat.zero_le _⟩ (zO.of gH7 hh)) gH7 rfl (fun H51 lc51 hp_51 gH51 rH51 => ?_)
        exact rtV B hr hlk hh hQ gH51 trivial dX1_goOnByOwn_118
      · have f_50 := z_nle c_50 rfl rfl
        refine lv_iload_n hx hb dX1_goOnByOwn_15 rfl (lv_at hl 2 rfl) ?_
        refine lv_if_ne (tgt := 31) hx hb dX1_goOnByOwn_16 (by decide) (fun c_52 => ?_) (fun c_52 => ?_)
        · have f_52 := z_ne c_52 rfl kl_0
          exact b31 ls x_49 (lv_sub hl [0, 1, 2, 3] rfl) (by omega) (by omega) (by omega) s_49
        · have f_52 := z_eq c_52 rfl kl_0
          refine lv_aload_n hx hb dX1_goOnByOwn_19 rfl (lv_at hl 0 rfl) ?_
          refine g_getR B fl_RX1_36 gH7.1 kh0 rfl rfl rfl rfl rfl dX1_goOnByOwn_20 (fun q_53 s_53 k_q_53 => ?_)
          refine g_getR B fl_RX1_63 gH7.1 k_q_53 rfl rfl rfl rfl rfl dX1_goOnByOwn_23 (fun q_54 s_54 k_q_54 => ?_)
          refine lv_iload_n hx hb dX1_goOnByOwn_26 rfl (lv_at hl 1 rfl) ?_
          refine g_zaldI (i := p0) (N := 240) B gH7.1 k_q_54 rfl rfl rfl rfl (by omega) (by omega) rfl dX1_goOnByOwn_27 (fun x_55 s_55 a_55 b_55 => ?_)
          refine lv_if_ne (tgt := 41) hx hb dX1_goOnByOwn_28 (by decide) (fun c_56 => ?_) (fun c_56 => ?_)
          · have f_56 := z_ne c_56 rfl kl_0
            exact b41 H7 lc7 ls x_49 gH7 (lv_sub hl [0, 1, 2, 3] rfl) (by omega) (by omega) (by omega) s_49
          · have f_56 := z_eq c_56 rfl kl_0
            exact b31 ls x_49 (lv_sub hl [0, 1, 2, 3] rfl) (by omega) (by omega) (by omega) s_49
  refine lv_aload_n hx hb dX1_goOnByOwn_0 rfl (lv_at hl 0 rfl) ?_
  refine lv_iconst (v := 0) hx hb dX1_goOnByOwn_1 (by decide) ?_
  have := kl_0
  refine g_putI B fp_RX1_24 hV hG0 kh0 rfl rfl rfl rfl rfl (by omega) (by omega) rfl dX1_goOnByOwn_2 (fun H57 lc57 gH57 uH57 => ?_)
  refine lv_iconst (v := 0) hx hb dX1_goOnByOwn_5 (by decide) ?_
  refine lv_istore_n (lv' := [(3, .int 0), (0, .ref h0), (1, .int p0), (2, .int p1)]) hx hb dX1_goOnByOwn_6 rfl hl (by decide) rfl (fun ls hl => ?_)
  have := kl_0
  exact b7 65 H57 lc57 ls 0 (by omega) gH57 (lv_sub hl [1, 2, 3, 0] rfl) (by omega) (by omega)

theorem dX1_goOnByHeard_0 : decode cX1_goOnByHeard 0 = .ok (.aload_n 0, 1) := by decide +kernel
theorem dX1_goOnByHeard_1 : decode cX1_goOnByHeard 1 = .ok (.iconst 0, 1) := by decide +kernel
theorem dX1_goOnByHeard_2 : decode cX1_goOnByHeard 2 = .ok (.putfield 24, 3) := by decide +kernel
theorem dX1_goOnByHeard_5 : decode cX1_goOnByHeard 5 = .ok (.iconst 0, 1) := by decide +kernel
theorem dX1_goOnByHeard_6 : decode cX1_goOnByHeard 6 = .ok (.istore_n 2, 1) := by decide +kernel
theorem dX1_goOnByHeard_7 : decode cX1_goOnByHeard 7 = .ok (.iload_n 2, 1) := by decide +kernel
theorem dX1_goOnByHeard_8 : decode cX1_goOnByHeard 8 = .ok (.aload_n 0, 1) := by decide +kernel
theorem dX1_goOnByHeard_9 : decode cX1_goOnByHeard 9 = .ok (.getfield 20, 3) := by decide +kernel
theorem dX1_goOnByHeard_12 : decode cX1_goOnByHeard 12 = .ok (.if_icmp .ge 62, 3) := by decide +kernel
theorem dX1_goOnByHeard_15 : decode cX1_goOnByHeard 15 = .ok (.aload_n 0, 1) := by decide +kernel
theorem dX1_goOnByHeard_16 : decode cX1_goOnByHeard 16 = .ok (.getfield 28, 3) := by decide +kernel
theorem dX1_goOnByHeard_19 : decode cX1_goOnByHeard 19 = .ok (.aload_n 0, 1) := by decide +kernel
theorem dX1_goOnByHeard_20 : decode cX1_goOnByHeard 20 = .ok (.getfield 11, 3) := by decide +kernel
theorem dX1_goOnByHeard_23 : decode cX1_goOnByHeard 23 = .ok (.iload_n 2, 1) := by decide +kernel
theorem dX1_goOnByHeard_24 : decode cX1_goOnByHeard 24 = .ok (.aaload, 1) := by decide +kernel
theorem dX1_goOnByHeard_25 : decode cX1_goOnByHeard 25 = .ok (.invokevirtual 46, 3) := by decide +kernel
theorem dX1_goOnByHeard_28 : decode cX1_goOnByHeard 28 = .ok (.aload_n 0, 1) := by decide +kernel
theorem dX1_goOnByHeard_29 : decode cX1_goOnByHeard 29 = .ok (.getfield 32, 3) := by decide +kernel
theorem dX1_goOnByHeard_32 : decode cX1_goOnByHeard 32 = .ok (.aload_n 0, 1) := by decide +kernel
theorem dX1_goOnByHeard_33 : decode cX1_goOnByHeard 33 = .ok (.getfield 28, 3) := by decide +kernel
theorem dX1_goOnByHeard_36 : decode cX1_goOnByHeard 36 = .ok (.aload_n 0, 1) := by decide +kernel
theorem dX1_goOnByHeard_37 : decode cX1_goOnByHeard 37 = .ok (.getfield 36, 3) := by decide +kernel
theorem dX1_goOnByHeard_40 : decode cX1_goOnByHeard 40 = .ok (.getfield 55, 3) := by decide +kernel
theorem dX1_goOnByHeard_43 : decode cX1_goOnByHeard 43 = .ok (.iload_n 1, 1) := by decide +kernel
theorem dX1_goOnByHeard_44 : decode cX1_goOnByHeard 44 = .ok (.iaload, 1) := by decide +kernel
theorem dX1_goOnByHeard_45 : decode cX1_goOnByHeard 45 = .ok (.aload_n 0, 1) := by decide +kernel
theorem dX1_goOnByHeard_46 : decode cX1_goOnByHeard 46 = .ok (.getfield 36, 3) := by decide +kernel
theorem dX1_goOnByHeard_49 : decode cX1_goOnByHeard 49 = .ok (.getfield 74, 3) := by decide +kernel
theorem dX1_goOnByHeard_52 : decode cX1_goOnByHeard 52 = .ok (.iload_n 1, 1) := by decide +kernel
theorem dX1_goOnByHeard_53 : decode cX1_goOnByHeard 53 = .ok (.iaload, 1) := by decide +kernel
theorem dX1_goOnByHeard_54 : decode cX1_goOnByHeard 54 = .ok (.invokevirtual 77, 3) := by decide +kernel
theorem dX1_goOnByHeard_57 : decode cX1_goOnByHeard 57 = .ok (.ifCond .eq 11, 3) := by decide +kernel
theorem dX1_goOnByHeard_60 : decode cX1_goOnByHeard 60 = .ok (.aload_n 0, 1) := by decide +kernel
theorem dX1_goOnByHeard_61 : decode cX1_goOnByHeard 61 = .ok (.aload_n 0, 1) := by decide +kernel
theorem dX1_goOnByHeard_62 : decode cX1_goOnByHeard 62 = .ok (.getfield 28, 3) := by decide +kernel
theorem dX1_goOnByHeard_65 : decode cX1_goOnByHeard 65 = .ok (.invokevirtual 71, 3) := by decide +kernel
theorem dX1_goOnByHeard_68 : decode cX1_goOnByHeard 68 = .ok (.iinc 2 1, 3) := by decide +kernel
theorem dX1_goOnByHeard_71 : decode cX1_goOnByHeard 71 = .ok (.goto (-64), 3) := by decide +kernel
theorem dX1_goOnByHeard_74 : decode cX1_goOnByHeard 74 = .ok (.aload_n 0, 1) := by decide +kernel
theorem dX1_goOnByHeard_75 : decode cX1_goOnByHeard 75 = .ok (.invokevirtual 83, 3) := by decide +kernel
theorem dX1_goOnByHeard_78 : decode cX1_goOnByHeard 78 = .ok (.return_, 1) := by decide +kernel
def rm_X1_goOnByHeard : Room := { frames := 4, cells := 0, slots := 0, locals := 109 }
abbrev wS_X1_goOnByHeard : List (Nat × Nat) := [(2, 2), (2, 3), (2, 4), (2, 5), (5, 0), (5, 1), (5, 2), (5, 3), (5, 4), (5, 5), (5, 6)]
set_option maxRecDepth 100000 in
set_option maxHeartbeats 4000000 in
theorem c_X1_goOnByHeard (l : Launch) (E : zE) (hV : zV E) (H0 : Heap) (hT0 : HT E H0) (h0 : Nat) (kh0 : eK E h0 = 2) (p0 : Int32) (p0_lo : 0 ≤ p0.toInt) (p0_hi : p0.toInt ≤ 59) : Met l yX1_goOnByHeard (zws yX1_goOnByHeard cX1_goOnByHeard 3 none) rm_X1_goOnByHeard (zP E H0 [.ref h0, .int p0]) (zQV E E wS_X1_goOnByHeard (fun H1 => True)) 0 0 (zfr E) := by
  refine zEnt (by decide) (Nat.le_of_ble_eq_true rfl) (fun p e s m args below meth c ls Q B hr hlk hh hQ hl => ?_)
  have hx := B.1
  have hb := B.2.1
  have hG0 : zG E wS_X1_goOnByHeard H0 H0 [] := zG.rf hT0
  have hl : lv_has ls 3 [(0, .ref h0), (1, .int p0)] := hl
  have b7 : ∀ (n7 : Nat) (H7 : Heap) (lc7 : List Loc) (ls : Array Slot) (v7_2 : Int32), 64 - v7_2.toInt < (n7 : Int) → zG E wS_X1_goOnByHeard H0 H7 lc7 → lv_has ls 3 [(0, .ref h0), (1, .int p0), (2, .int v7_2)] → 0 ≤ v7_2.toInt → v7_2.toInt ≤ 64 → W p l e rm_X1_goOnByHeard s m args below meth c H7 lc7 0 0 Q (F0 m 7 ls []) := by
    intro n7
    induction n7 with
    | zero =>
      intro H7 lc7 ls v7_2 hm7 gH7 hl f7_1 f7_2
      exact absurd hm7 (by omega)
    | succ n7 ih7 =>
      intro H7 lc7 ls v7_2 hm7 gH7 hl f7_1 f7_2
      have b68 : ∀ (H68 : Heap) (lc68 : List Loc) (ls : Array Slot) (u68_h0_4 : Int32) (u68_h0_6 : Nat) (u68_h0_2 : Nat) (u68_h0_0 : Nat) (u68_h0_1 : Nat), zG E wS_X1_goOnByHeard H0 H68 lc68 → lv_has ls 3 [(0, .ref h0), (1, .int p0), (2, .int v7_2)] → eK E u68_h0_6 = 5 → eK E u68_h0_2 = 25 → eK E u68_h0_0 = 3 → eK E u68_h0_1 = 4 → v7_2.toInt ≤ 63 → 1 ≤ u68_h0_4.toInt → u68_h0_4.toInt ≤ 64 → sl H68 h0 (zix E 2 4) = some (.int u68_h0_4) → sl H68 h0 (zix E 2 6) = some (.ref u68_h0_6) → sl H68 h0 (zix E 2 2) = some (.ref u68_h0_2) → sl H68 h0 (zix E 2 0) = some (.ref u68_h0_0) → sl H68 h0 (zix E 2 1) = some (.ref u68_h0_1) → W p l e rm_X1_goOnByHeard s m args below meth c H68 lc68 0 0 Q (F0 m 68 ls []) := by
        intro H68 lc68 ls u68_h0_4 u68_h0_6 u68_h0_2 u68_h0_0 u68_h0_1 gH68 hl k_u68_h0_6 k_u68_h0_2 k_u68_h0_0 k_u68_h0_1 f68_1 f68_2 f68_3 s68_u68_h0_4 s68_u68_h0_6 s68_u68_h0_2 s68_u68_h0_0 s68_u68_h0_1
        obtain ⟨x_1, e_1⟩ : ∃ y : Int32, (v7_2 : Int32) + Int32.ofInt 1 = y := ⟨_, rfl⟩
        refine lv_iinc (v := x_1) (lv' := [(2, .int x_1), (0, .ref h0), (1, .int p0)]) hx hb dX1_goOnByHeard_68 hl (k := 2) rfl e_1 (by decide) rfl (fun ls hl => ?_)
        have t_1 := z_inc2 e_1 rfl (by decide) (by omega) (by omega)
        refine lv_goto (tgt := 7) hx hb dX1_goOnByHeard_71 (by decide) ?_
        exact ih7 H68 lc68 ls x_1 (by omega) gH68 (lv_sub hl [1, 2, 0] rfl) (by omega) (by omega)
      refine lv_iload_n hx hb dX1_goOnByHeard_7 rfl (lv_at hl 2 rfl) ?_
      refine lv_aload_n hx hb dX1_goOnByHeard_8 rfl (lv_at hl 0 rfl) ?_
      refine g_getI B fl_RX1_20 gH7.1 kh0 rfl rfl rfl rfl rfl dX1_goOnByHeard_9 (fun x_2 s_2 a_2 b_2 => ?_)
      refine lv_icmp_ge (tgt := 74) hx hb dX1_goOnByHeard_12 (by decide) (fun c_3 => ?_) (fun c_3 => ?_)
      · have f_3 := z_le c_3 rfl rfl
        refine lv_aload_n hx hb dX1_goOnByHeard_74 rfl (lv_at hl 0 rfl) ?_
        refine zkV (zrV (rest := []) B (c_X1_turnOver l E hV H7 gH7.1 h0 kh0) cl_RX1_83 gH7.1 kh0 rfl rfl rfl rfl hl.1 rfl (Nat.le_of_ble_eq_true rfl) dX1_goOnByHeard_75 rfl rfl ⟨rfl, rfl⟩ ⟨Nat.zero_le _, Nat.zero_le _⟩ (zO.of gH7 hh)) gH7 rfl (fun H4 lc4 hp_4 gH4 rH4 => ?_)
        exact rtV B hr hlk hh hQ gH4 trivial dX1_goOnByHeard_78
      · have f_3 := z_nle c_3 rfl rfl
        refine lv_aload_n hx hb dX1_goOnByHeard_15 rfl (lv_at hl 0 rfl) ?_
        refine g_getR B fl_RX1_28 gH7.1 kh0 rfl rfl rfl rfl rfl dX1_goOnByHeard_16 (fun q_5 s_5 k_q_5 => ?_)
        refine lv_aload_n hx hb dX1_goOnByHeard_19 rfl (lv_at hl 0 rfl) ?_
        refine g_getR B fl_RX1_11 gH7.1 kh0 rfl rfl rfl rfl rfl dX1_goOnByHeard_20 (fun q_6 s_6 k_q_6 => ?_)
        refine lv_iload_n hx hb dX1_goOnByHeard_23 rfl (lv_at hl 2 rfl) ?_
        refine g_aaldI (i := v7_2) (N := 64) B gH7.1 k_q_6 rfl rfl rfl rfl rfl (by omega) (by omega) rfl dX1_goOnByHeard_24 (fun q_7 s_7 k_q_7 => ?_)
        refine zkV (zrV (rest := []) B (c_X4_copyOf l E hV H7 gH7.1 q_5 k_q_5 q_7 k_q_7) cl_RX1_46 gH7.1 k_q_5 rfl rfl rfl rfl hl.1 rfl (Nat.le_of_ble_eq_true rfl) dX1_goOnByHeard_25 rfl rfl ⟨rfl, rfl⟩ ⟨Nat.zero_le _, Nat.zero_le _⟩ (zO.of gH7 hh)) gH7 rfl (fun H8 lc8 hp_8 gH8 rH8 => ?_)
        have s_9 := rH8.keep hV kh0 rfl s_2
        have s_10 := rH8.keep hV kh0 rfl s_5
        have s_11 := rH8.keep hV kh0 rfl s_6
        have s_12 := rH8.keepA k_q_6 rfl s_7
        refine lv_aload_n hx hb dX1_goOnByHeard_28 rfl (lv_at hl 0 rfl) ?_
        refine g_getR B fl_RX1_32 gH8.1 kh0 rfl rfl rfl rfl rfl dX1_goOnByHeard_29 (fun q_13 s_13 k_q_13 => ?_)
        refine lv_aload_n hx hb dX1_goOnByHeard_32 rfl (lv_at hl 0 rfl) ?_
        refine g_get B fl_RX1_28 gH8.1 kh0 rfl rfl rfl dX1_goOnByHeard_33 s_10 ?_
        refine lv_aload_n hx hb dX1_goOnByHeard_36 rfl (lv_at hl 0 rfl) ?_
        refine g_getR B fl_RX1_36 gH8.1 kh0 rfl rfl rfl rfl rfl dX1_goOnByHeard_37 (fun q_14 s_14 k_q_14 => ?_)
        refine g_getR B fl_RX1_55 gH8.1 k_q_14 rfl rfl rfl rfl rfl dX1_goOnByHeard_40 (fun q_15 s_15 k_q_15 => ?_)
        refine lv_iload_n hx hb dX1_goOnByHeard_43 rfl (lv_at hl 1 rfl) ?_
        refine g_ialdI (i := p0) (N := 240) B gH8.1 k_q_15 rfl rfl rfl rfl (by omega) (by omega) rfl dX1_goOnByHeard_44 (fun x_16 s_16 a_16 b_16 => ?_)
        refine lv_aload_n hx hb dX1_goOnByHeard_45 rfl (lv_at hl 0 rfl) ?_
        refine g_get B fl_RX1_36 gH8.1 kh0 rfl rfl rfl dX1_goOnByHeard_46 s_14 ?_
        refine g_getR B fl_RX1_74 gH8.1 k_q_14 rfl rfl rfl rfl rfl dX1_goOnByHeard_49 (fun q_17 s_17 k_q_17 => ?_)
        refine lv_iload_n hx hb dX1_goOnByHeard_52 rfl (lv_at hl 1 rfl) ?_
        refine g_ialdI (i := p0) (N := 240) B gH8.1 k_q_17 rfl rfl rfl rfl (by omega) (by omega) rfl dX1_goOnByHeard_53 (fun x_18 s_18 a_18 b_18 => ?_)
        refine zkI (zrV (rest := []) B (c_X2_make l E hV H8 gH8.1 q_13 k_q_13 q_5 k_q_5 x_16 x_18) cl_RX1_77 gH8.1 k_q_13 rfl rfl rfl rfl hl.1 rfl (Nat.le_of_ble_eq_true rfl) dX1_goOnByHeard_54 rfl rfl ⟨rfl, rfl⟩ ⟨Nat.zero_le _, Nat.zero_le _⟩ (zO.of gH8 hh)) gH8 rfl (fun x_19 H19 lc19 hp_19 gH19 rH19 => ?_)
        have s_20 := rH19.keep hV kh0 rfl s_9
        have s_21 := rH19.keep hV kh0 rfl s_10
        have s_22 := rH19.keep hV kh0 rfl s_11
        have s_23 := rH19.keepA k_q_6 rfl s_12
        have s_24 := rH19.keep hV kh0 rfl s_13
        have s_25 := rH19.keep hV kh0 rfl s_14
        have s_26 := rH19.keep hV k_q_14 rfl s_15
        have s_27 := rH19.keepA k_q_15 rfl s_16
        have s_28 := rH19.keep hV k_q_14 rfl s_17
        have s_29 := rH19.keepA k_q_17 rfl s_18
        obtain ⟨hp_19_1, hp_19_2⟩ := hp_19
        refine lv_if_eq (tgt := 68) hx hb dX1_goOnByHeard_57 (by decide) (fun c_30 => ?_) (fun c_30 => ?_)
        · have f_30 := z_eq c_30 rfl kl_0
          exact b68 H19 lc19 ls x_2 q_5 q_6 q_13 q_14 gH19 (lv_sub hl [0, 1, 2] rfl) k_q_5 k_q_6 k_q_13 k_q_14 (by omega) (by omega) (by omega) s_20 s_21 s_22 s_24 s_25
        · have f_30 := z_ne c_30 rfl kl_0
          refine lv_aload_n hx hb dX1_goOnByHeard_60 rfl (lv_at hl 0 rfl) ?_
          refine lv_aload_n hx hb dX1_goOnByHeard_61 rfl (lv_at hl 0 rfl) ?_
          refine g_get B fl_RX1_28 gH19.1 kh0 rfl rfl rfl dX1_goOnByHeard_62 s_21 ?_
          refine zkV (zrV (rest := []) B (c_X1_note l E hV H19 gH19.1 h0 kh0 q_5 k_q_5) cl_RX1_71 gH19.1 kh0 rfl rfl rfl rfl hl.1 rfl (Nat.le_of_ble_eq_true rfl) dX1_goOnByHeard_65 rfl rfl ⟨rfl, rfl⟩ ⟨Nat.zero_le _, Nat.zero_le _⟩ (zO.of gH19 hh)) gH19 rfl (fun H31 lc31 hp_31 gH31 rH31 => ?_)
          have s_32 := rH31.keep hV kh0 rfl s_20
          have s_33 := rH31.keep hV kh0 rfl s_21
          have s_34 := rH31.keep hV kh0 rfl s_22
          have s_35 := rH31.keepA k_q_6 rfl s_23
          have s_36 := rH31.keep hV kh0 rfl s_24
          have s_37 := rH31.keep hV kh0 rfl s_25
          have s_38 := rH31.keep hV k_q_14 rfl s_26
          have s_39 := rH31.keepA k_q_15 rfl s_27
          have s_40 := rH31.keep hV k_q_14 rfl s_28
          have s_41 := rH31.keepA k_q_17 rfl s_29
          exact b68 H31 lc31 ls x_2 q_5 q_6 q_13 q_14 gH31 (lv_sub hl [0, 1, 2] rfl) k_q_5 k_q_6 k_q_13 k_q_14 (by omega) (by omega) (by omega) s_32 s_33 s_34 s_36 s_37
  refine lv_aload_n hx hb dX1_goOnByHeard_0 rfl (lv_at hl 0 rfl) ?_
  refine lv_iconst (v := 0) hx hb dX1_goOnByHeard_1 (by decide) ?_
  have := kl_0
  refine g_putI B fp_RX1_24 hV hG0 kh0 rfl rfl rfl rfl rfl (by omega) (by omega) rfl dX1_goOnByHeard_2 (fun H42 lc42 gH42 uH42 => ?_)
  refine lv_iconst (v := 0) hx hb dX1_goOnByHeard_5 (by decide) ?_
  refine lv_istore_n (lv' := [(2, .int 0), (0, .ref h0), (1, .int p0)]) hx hb dX1_goOnByHeard_6 rfl hl (by decide) rfl (fun ls hl => ?_)
  have := kl_0
  exact b7 65 H42 lc42 ls 0 (by omega) gH42 (lv_sub hl [1, 2, 0] rfl) (by omega) (by omega)

theorem dX1_settle_0 : decode cX1_settle 0 = .ok (.aload_n 0, 1) := by decide +kernel
theorem dX1_settle_1 : decode cX1_settle 1 = .ok (.getfield 11, 3) := by decide +kernel
theorem dX1_settle_4 : decode cX1_settle 4 = .ok (.iconst 0, 1) := by decide +kernel
theorem dX1_settle_5 : decode cX1_settle 5 = .ok (.aaload, 1) := by decide +kernel
theorem dX1_settle_6 : decode cX1_settle 6 = .ok (.aload_n 0, 1) := by decide +kernel
theorem dX1_settle_7 : decode cX1_settle 7 = .ok (.getfield 36, 3) := by decide +kernel
theorem dX1_settle_10 : decode cX1_settle 10 = .ok (.invokevirtual 40, 3) := by decide +kernel
theorem dX1_settle_13 : decode cX1_settle 13 = .ok (.invokevirtual 46, 3) := by decide +kernel
theorem dX1_settle_16 : decode cX1_settle 16 = .ok (.aload_n 0, 1) := by decide +kernel
theorem dX1_settle_17 : decode cX1_settle 17 = .ok (.iconst 1, 1) := by decide +kernel
theorem dX1_settle_18 : decode cX1_settle 18 = .ok (.putfield 20, 3) := by decide +kernel
theorem dX1_settle_21 : decode cX1_settle 21 = .ok (.aload_n 0, 1) := by decide +kernel
theorem dX1_settle_22 : decode cX1_settle 22 = .ok (.getfield 36, 3) := by decide +kernel
theorem dX1_settle_25 : decode cX1_settle 25 = .ok (.iload_n 1, 1) := by decide +kernel
theorem dX1_settle_26 : decode cX1_settle 26 = .ok (.invokevirtual 50, 3) := by decide +kernel
theorem dX1_settle_29 : decode cX1_settle 29 = .ok (.bipush 6, 2) := by decide +kernel
theorem dX1_settle_31 : decode cX1_settle 31 = .ok (.isub, 1) := by decide +kernel
theorem dX1_settle_32 : decode cX1_settle 32 = .ok (.istore_n 2, 1) := by decide +kernel
theorem dX1_settle_33 : decode cX1_settle 33 = .ok (.iconst 0, 1) := by decide +kernel
theorem dX1_settle_34 : decode cX1_settle 34 = .ok (.istore_n 3, 1) := by decide +kernel
theorem dX1_settle_35 : decode cX1_settle 35 = .ok (.iload_n 3, 1) := by decide +kernel
theorem dX1_settle_36 : decode cX1_settle 36 = .ok (.aload_n 0, 1) := by decide +kernel
theorem dX1_settle_37 : decode cX1_settle 37 = .ok (.getfield 36, 3) := by decide +kernel
theorem dX1_settle_40 : decode cX1_settle 40 = .ok (.getfield 54, 3) := by decide +kernel
theorem dX1_settle_43 : decode cX1_settle 43 = .ok (.if_icmp .ge 72, 3) := by decide +kernel
theorem dX1_settle_46 : decode cX1_settle 46 = .ok (.aload_n 0, 1) := by decide +kernel
theorem dX1_settle_47 : decode cX1_settle 47 = .ok (.getfield 36, 3) := by decide +kernel
theorem dX1_settle_50 : decode cX1_settle 50 = .ok (.getfield 55, 3) := by decide +kernel
theorem dX1_settle_53 : decode cX1_settle 53 = .ok (.iload_n 3, 1) := by decide +kernel
theorem dX1_settle_54 : decode cX1_settle 54 = .ok (.iaload, 1) := by decide +kernel
theorem dX1_settle_55 : decode cX1_settle 55 = .ok (.iload_n 1, 1) := by decide +kernel
theorem dX1_settle_56 : decode cX1_settle 56 = .ok (.if_icmp .ne 23, 3) := by decide +kernel
theorem dX1_settle_59 : decode cX1_settle 59 = .ok (.aload_n 0, 1) := by decide +kernel
theorem dX1_settle_60 : decode cX1_settle 60 = .ok (.iload_n 3, 1) := by decide +kernel
theorem dX1_settle_61 : decode cX1_settle 61 = .ok (.iload_n 2, 1) := by decide +kernel
theorem dX1_settle_62 : decode cX1_settle 62 = .ok (.ifCond .gt 7, 3) := by decide +kernel
theorem dX1_settle_65 : decode cX1_settle 65 = .ok (.iconst 1, 1) := by decide +kernel
theorem dX1_settle_66 : decode cX1_settle 66 = .ok (.goto 4, 3) := by decide +kernel
theorem dX1_settle_69 : decode cX1_settle 69 = .ok (.iconst 0, 1) := by decide +kernel
theorem dX1_settle_70 : decode cX1_settle 70 = .ok (.invokevirtual 59, 3) := by decide +kernel
theorem dX1_settle_73 : decode cX1_settle 73 = .ok (.iinc 2 (-1), 3) := by decide +kernel
theorem dX1_settle_76 : decode cX1_settle 76 = .ok (.goto 33, 3) := by decide +kernel
theorem dX1_settle_79 : decode cX1_settle 79 = .ok (.aload_n 0, 1) := by decide +kernel
theorem dX1_settle_80 : decode cX1_settle 80 = .ok (.getfield 36, 3) := by decide +kernel
theorem dX1_settle_83 : decode cX1_settle 83 = .ok (.getfield 55, 3) := by decide +kernel
theorem dX1_settle_86 : decode cX1_settle 86 = .ok (.iload_n 3, 1) := by decide +kernel
theorem dX1_settle_87 : decode cX1_settle 87 = .ok (.iaload, 1) := by decide +kernel
theorem dX1_settle_88 : decode cX1_settle 88 = .ok (.iconst (-1), 1) := by decide +kernel
theorem dX1_settle_89 : decode cX1_settle 89 = .ok (.if_icmp .eq 20, 3) := by decide +kernel
theorem dX1_settle_92 : decode cX1_settle 92 = .ok (.aload_n 0, 1) := by decide +kernel
theorem dX1_settle_93 : decode cX1_settle 93 = .ok (.getfield 36, 3) := by decide +kernel
theorem dX1_settle_96 : decode cX1_settle 96 = .ok (.getfield 63, 3) := by decide +kernel
theorem dX1_settle_99 : decode cX1_settle 99 = .ok (.iload_n 3, 1) := by decide +kernel
theorem dX1_settle_100 : decode cX1_settle 100 = .ok (.baload, 1) := by decide +kernel
theorem dX1_settle_101 : decode cX1_settle 101 = .ok (.ifCond .eq 8, 3) := by decide +kernel
theorem dX1_settle_104 : decode cX1_settle 104 = .ok (.aload_n 0, 1) := by decide +kernel
theorem dX1_settle_105 : decode cX1_settle 105 = .ok (.iload_n 3, 1) := by decide +kernel
theorem dX1_settle_106 : decode cX1_settle 106 = .ok (.invokevirtual 67, 3) := by decide +kernel
theorem dX1_settle_109 : decode cX1_settle 109 = .ok (.iinc 3 1, 3) := by decide +kernel
theorem dX1_settle_112 : decode cX1_settle 112 = .ok (.goto (-77), 3) := by decide +kernel
theorem dX1_settle_115 : decode cX1_settle 115 = .ok (.aload_n 0, 1) := by decide +kernel
theorem dX1_settle_116 : decode cX1_settle 116 = .ok (.getfield 20, 3) := by decide +kernel
theorem dX1_settle_119 : decode cX1_settle 119 = .ok (.ireturn, 1) := by decide +kernel
def rm_X1_settle : Room := { frames := 5, cells := 0, slots := 0, locals := 132 }
abbrev wS_X1_settle : List (Nat × Nat) := [(2, 2), (2, 3), (2, 4), (2, 5), (5, 0), (5, 1), (5, 2), (5, 3), (5, 4), (5, 5), (5, 6)]
set_option maxRecDepth 100000 in
set_option maxHeartbeats 4000000 in
theorem c_X1_settle (l : Launch) (E : zE) (hV : zV E) (H0 : Heap) (hT0 : HT E H0) (h0 : Nat) (kh0 : eK E h0 = 2) (p0 : Int32) (p0_lo : 0 ≤ p0.toInt) (p0_hi : p0.toInt ≤ 1) : Met l yX1_settle (zws yX1_settle cX1_settle 4 (some .int)) rm_X1_settle (zP E H0 [.ref h0, .int p0]) (zQI E E wS_X1_settle (fun r H1 => 0 ≤ r.toInt ∧ r.toInt ≤ 64)) 0 0 (zfr E) := by
  refine zEnt (by decide) (Nat.le_of_ble_eq_true rfl) (fun p e s m args below meth c ls Q B hr hlk hh hQ hl => ?_)
  have hx := B.1
  have hb := B.2.1
  have hG0 : zG E wS_X1_settle H0 H0 [] := zG.rf hT0
  have hl : lv_has ls 4 [(0, .ref h0), (1, .int p0)] := hl
  have b35 : ∀ (n35 : Nat) (H35 : Heap) (lc35 : List Loc) (ls : Array Slot) (v35_2 : Int32) (v35_3 : Int32) (u35_h0_1 : Nat), 60 - v35_3.toInt < (n35 : Int) → zG E wS_X1_settle H0 H35 lc35 → lv_has ls 4 [(0, .ref h0), (1, .int p0), (2, .int v35_2), (3, .int v35_3)] → eK E u35_h0_1 = 4 → 0 ≤ v35_3.toInt → v35_3.toInt ≤ 60 → sl H35 h0 (zix E 2 1) = some (.ref u35_h0_1) → W p l e rm_X1_settle s m args below meth c H35 lc35 0 0 Q (F0 m 35 ls []) := by
    intro n35
    induction n35 with
    | zero =>
      intro H35 lc35 ls v35_2 v35_3 u35_h0_1 hm35 gH35 hl k_u35_h0_1 f35_1 f35_2 s35_u35_h0_1
      exact absurd hm35 (by omega)
    | succ n35 ih35 =>
      intro H35 lc35 ls v35_2 v35_3 u35_h0_1 hm35 gH35 hl k_u35_h0_1 f35_1 f35_2 s35_u35_h0_1
      have b109 : ∀ (H109 : Heap) (lc109 : List Loc) (ls : Array Slot) (v109_2 : Int32) (u109_u35_h0_1_0 : Int32) (u109_u35_h0_1_2 : Nat), zG E wS_X1_settle H0 H109 lc109 → lv_has ls 4 [(0, .ref h0), (1, .int p0), (2, .int v109_2), (3, .int v35_3)] → eK E u109_u35_h0_1_2 = 33 → v35_3.toInt ≤ 59 → 1 ≤ u109_u35_h0_1_0.toInt → u109_u35_h0_1_0.toInt ≤ 60 → sl H109 h0 (zix E 2 1) = some (.ref u35_h0_1) → sl H109 u35_h0_1 (zix E 4 0) = some (.int u109_u35_h0_1_0) → sl H109 u35_h0_1 (zix E 4 2) = some (.ref u109_u35_h0_1_2) → W p l e rm_X1_settle s m args below meth c H109 lc109 0 0 Q (F0 m 109 ls []) := by
        intro H109 lc109 ls v109_2 u109_u35_h0_1_0 u109_u35_h0_1_2 gH109 hl k_u109_u35_h0_1_2 f109_1 f109_2 f109_3 s109_u109_h0_1 s109_u109_u35_h0_1_0 s109_u109_u35_h0_1_2
        obtain ⟨x_1, e_1⟩ : ∃ y : Int32, (v35_3 : Int32) + Int32.ofInt 1 = y := ⟨_, rfl⟩
        refine lv_iinc (v := x_1) (lv' := [(3, .int x_1), (0, .ref h0), (1, .int p0), (2, .int v109_2)]) hx hb dX1_settle_109 hl (k := 3) rfl e_1 (by decide) rfl (fun ls hl => ?_)
        have t_1 := z_inc2 e_1 rfl (by decide) (by omega) (by omega)
        refine lv_goto (tgt := 35) hx hb dX1_settle_112 (by decide) ?_
        exact ih35 H109 lc109 ls v109_2 x_1 u35_h0_1 (by omega) gH109 (lv_sub hl [1, 2, 3, 0] rfl) k_u35_h0_1 (by omega) (by omega) s109_u109_h0_1
      have b70 : ∀ (ls : Array Slot) (w70_0 : Int32) (u70_u35_h0_1_0 : Int32) (u70_u35_h0_1_2 : Nat), lv_has ls 4 [(0, .ref h0), (1, .int p0), (2, .int v35_2), (3, .int v35_3)] → eK E u70_u35_h0_1_2 = 33 → v35_3.toInt ≤ 59 → 0 ≤ w70_0.toInt → w70_0.toInt ≤ 1 → v35_3.toInt ≤ 59 → 1 ≤ u70_u35_h0_1_0.toInt → u70_u35_h0_1_0.toInt ≤ 60 → sl H35 h0 (zix E 2 1) = some (.ref u35_h0_1) → sl H35 u35_h0_1 (zix E 4 0) = some (.int u70_u35_h0_1_0) → sl H35 u35_h0_1 (zix E 4 2) = some (.ref u70_u35_h0_1_2) → W p l e rm_X1_settle s m args below meth c H35 lc35 0 0 Q (F0 m 70 ls [.int w70_0, .int v35_3, .ref h0]) := by
        intro ls w70_0 u70_u35_h0_1_0 u70_u35_h0_1_2 hl k_u70_u35_h0_1_2 f70_1 f70_2 f70_3 f70_4 f70_5 f70_6 s70_u70_h0_1 s70_u70_u35_h0_1_0 s70_u70_u35_h0_1_2
        refine zkV (zrV (rest := []) B (c_X1_goOnByOwn l E hV H35 gH35.1 h0 kh0 v35_3 (by omega) (by omega) w70_0 (by omega) (by omega)) cl_RX1_59 gH35.1 kh0 rfl rfl rfl rfl hl.1 rfl (Nat.le_of_ble_eq_true rfl) dX1_settle_70 rfl rfl ⟨rfl, rfl⟩ ⟨Nat.zero_le _, Nat.zero_le _⟩ (zO.of gH35 hh)) gH35 rfl (fun H2 lc2 hp_2 gH2 rH2 => ?_)
        have s_3 := rH2.keep hV kh0 rfl s70_u70_h0_1
        have s_4 := rH2.keep hV k_u35_h0_1 rfl s70_u70_u35_h0_1_0
        have s_5 := rH2.keep hV k_u35_h0_1 rfl s70_u70_u35_h0_1_2
        obtain ⟨x_6, e_6⟩ : ∃ y : Int32, (v35_2 : Int32) + Int32.ofInt (-1) = y := ⟨_, rfl⟩
        refine lv_iinc (v := x_6) (lv' := [(2, .int x_6), (0, .ref h0), (1, .int p0), (3, .int v35_3)]) hx hb dX1_settle_73 hl (k := 2) rfl e_6 (by decide) rfl (fun ls hl => ?_)
        refine lv_goto (tgt := 109) hx hb dX1_settle_76 (by decide) ?_
        exact b109 H2 lc2 ls x_6 u70_u35_h0_1_0 u70_u35_h0_1_2 gH2 (lv_sub hl [1, 2, 0, 3] rfl) k_u70_u35_h0_1_2 (by omega) (by omega) (by omega) s_3 s_4 s_5
      refine lv_iload_n hx hb dX1_settle_35 rfl (lv_at hl 3 rfl) ?_
      refine lv_aload_n hx hb dX1_settle_36 rfl (lv_at hl 0 rfl) ?_
      refine g_get B fl_RX1_36 gH35.1 kh0 rfl rfl rfl dX1_settle_37 s35_u35_h0_1 ?_
      refine g_getI B fl_RX1_54 gH35.1 k_u35_h0_1 rfl rfl rfl rfl rfl dX1_settle_40 (fun x_7 s_7 a_7 b_7 => ?_)
      refine lv_icmp_ge (tgt := 115) hx hb dX1_settle_43 (by decide) (fun c_8 => ?_) (fun c_8 => ?_)
      · have f_8 := z_le c_8 rfl rfl
        refine lv_aload_n hx hb dX1_settle_115 rfl (lv_at hl 0 rfl) ?_
        refine g_getI B fl_RX1_20 gH35.1 kh0 rfl rfl rfl rfl rfl dX1_settle_116 (fun x_9 s_9 a_9 b_9 => ?_)
        exact rtI (v := x_9) B hr hlk hh hQ gH35 rfl ⟨by omega, by omega⟩ dX1_settle_119
      · have f_8 := z_nle c_8 rfl rfl
        refine lv_aload_n hx hb dX1_settle_46 rfl (lv_at hl 0 rfl) ?_
        refine g_get B fl_RX1_36 gH35.1 kh0 rfl rfl rfl dX1_settle_47 s35_u35_h0_1 ?_
        refine g_getR B fl_RX1_55 gH35.1 k_u35_h0_1 rfl rfl rfl rfl rfl dX1_settle_50 (fun q_10 s_10 k_q_10 => ?_)
        refine lv_iload_n hx hb dX1_settle_53 rfl (lv_at hl 3 rfl) ?_
        refine g_ialdI (i := v35_3) (N := 240) B gH35.1 k_q_10 rfl rfl rfl rfl (by omega) (by omega) rfl dX1_settle_54 (fun x_11 s_11 a_11 b_11 => ?_)
        refine lv_iload_n hx hb dX1_settle_55 rfl (lv_at hl 1 rfl) ?_
        refine lv_icmp_ne (tgt := 79) hx hb dX1_settle_56 (by decide) (fun c_12 => ?_) (fun c_12 => ?_)
        · have f_12 := z_ne c_12 rfl rfl
          refine lv_aload_n hx hb dX1_settle_79 rfl (lv_at hl 0 rfl) ?_
          refine g_get B fl_RX1_36 gH35.1 kh0 rfl rfl rfl dX1_settle_80 s35_u35_h0_1 ?_
          refine g_get B fl_RX1_55 gH35.1 k_u35_h0_1 rfl rfl rfl dX1_settle_83 s_10 ?_
          refine lv_iload_n hx hb dX1_settle_86 rfl (lv_at hl 3 rfl) ?_
          refine g_iald (i := v35_3) (N := 240) B gH35.1 k_q_10 rfl rfl rfl rfl (by omega) (by omega) s_11 dX1_settle_87 ?_
          refine lv_iconst (v := (-1)) hx hb dX1_settle_88 (by decide) ?_
          refine lv_icmp_eq (tgt := 109) hx hb dX1_settle_89 (by decide) (fun c_13 => ?_) (fun c_13 => ?_)
          · have f_13 := z_eq c_13 rfl kl_m1
            exact b109 H35 lc35 ls v35_2 x_7 q_10 gH35 (lv_sub hl [0, 1, 2, 3] rfl) k_q_10 (by omega) (by omega) (by omega) s35_u35_h0_1 s_7 s_10
          · have f_13 := z_ne c_13 rfl kl_m1
            refine lv_aload_n hx hb dX1_settle_92 rfl (lv_at hl 0 rfl) ?_
            refine g_get B fl_RX1_36 gH35.1 kh0 rfl rfl rfl dX1_settle_93 s35_u35_h0_1 ?_
            refine g_getR B fl_RX1_63 gH35.1 k_u35_h0_1 rfl rfl rfl rfl rfl dX1_settle_96 (fun q_14 s_14 k_q_14 => ?_)
            refine lv_iload_n hx hb dX1_settle_99 rfl (lv_at hl 3 rfl) ?_
            refine g_zaldI (i := v35_3) (N := 240) B gH35.1 k_q_14 rfl rfl rfl rfl (by omega) (by omega) rfl dX1_settle_100 (fun x_15 s_15 a_15 b_15 => ?_)
            refine lv_if_eq (tgt := 109) hx hb dX1_settle_101 (by decide) (fun c_16 => ?_) (fun c_16 => ?_)
            · have f_16 := z_eq c_16 rfl kl_0
              exact b109 H35 lc35 ls v35_2 x_7 q_10 gH35 (lv_sub hl [0, 1, 2, 3] rfl) k_q_10 (by omega) (by omega) (by omega) s35_u35_h0_1 s_7 s_10
            · have f_16 := z_ne c_16 rfl kl_0
              refine lv_aload_n hx hb dX1_settle_104 rfl (lv_at hl 0 rfl) ?_
              refine lv_iload_n hx hb dX1_settle_105 rfl (lv_at hl 3 rfl) ?_
              refine zkV (zrV (rest := []) B (c_X1_goOnByHeard l E hV H35 gH35.1 h0 kh0 v35_3 (by omega) (by omega)) cl_RX1_67 gH35.1 kh0 rfl rfl rfl rfl hl.1 rfl (Nat.le_of_ble_eq_true rfl) dX1_settle_106 rfl rfl ⟨rfl, rfl⟩ ⟨Nat.zero_le _, Nat.zero_le _⟩ (zO.of gH35 hh)) gH35 rfl (fun H17 lc17 hp_17 gH17 rH17 => ?_)
              have s_18 := rH17.keep hV kh0 rfl s35_u35_h0_1
              have s_19 := rH17.keep hV k_u35_h0_1 rfl s_7
              have s_20 := rH17.keep hV k_u35_h0_1 rfl s_10
              have s_21 := rH17.keepA k_q_10 rfl s_11
              have s_22 := rH17.keep hV k_u35_h0_1 rfl s_14
              have s_23 := rH17.keepA k_q_14 rfl s_15
              exact b109 H17 lc17 ls v35_2 x_7 q_10 gH17 (lv_sub hl [0, 1, 2, 3] rfl) k_q_10 (by omega) (by omega) (by omega) s_18 s_19 s_20
        · have f_12 := z_eq c_12 rfl rfl
          refine lv_aload_n hx hb dX1_settle_59 rfl (lv_at hl 0 rfl) ?_
          refine lv_iload_n hx hb dX1_settle_60 rfl (lv_at hl 3 rfl) ?_
          refine lv_iload_n hx hb dX1_settle_61 rfl (lv_at hl 2 rfl) ?_
          refine lv_if_gt (tgt := 69) hx hb dX1_settle_62 (by decide) (fun c_24 => ?_) (fun c_24 => ?_)
          · have f_24 := z_lt c_24 kl_0 rfl
            refine lv_iconst (v := 0) hx hb dX1_settle_69 (by decide) ?_
            have := kl_0
            exact b70 ls 0 x_7 q_10 (lv_sub hl [0, 1, 2, 3] rfl) k_q_10 (by omega) (by omega) (by omega) (by omega) (by omega) (by omega) s35_u35_h0_1 s_7 s_10
          · have f_24 := z_nlt c_24 kl_0 rfl
            refine lv_iconst (v := 1) hx hb dX1_settle_65 (by decide) ?_
            refine lv_goto (tgt := 70) hx hb dX1_settle_66 (by decide) ?_
            have := kl_1
            exact b70 ls 1 x_7 q_10 (lv_sub hl [0, 1, 2, 3] rfl) k_q_10 (by omega) (by omega) (by omega) (by omega) (by omega) (by omega) s35_u35_h0_1 s_7 s_10
  refine lv_aload_n hx hb dX1_settle_0 rfl (lv_at hl 0 rfl) ?_
  refine g_getR B fl_RX1_11 hT0 kh0 rfl rfl rfl rfl rfl dX1_settle_1 (fun q_25 s_25 k_q_25 => ?_)
  refine lv_iconst (v := 0) hx hb dX1_settle_4 (by decide) ?_
  have := kl_0
  refine g_aaldI (i := 0) (N := 64) B hT0 k_q_25 rfl rfl rfl rfl rfl (by omega) (by omega) rfl dX1_settle_5 (fun q_26 s_26 k_q_26 => ?_)
  refine lv_aload_n hx hb dX1_settle_6 rfl (lv_at hl 0 rfl) ?_
  refine g_getR B fl_RX1_36 hT0 kh0 rfl rfl rfl rfl rfl dX1_settle_7 (fun q_27 s_27 k_q_27 => ?_)
  refine zkPR (zrV (rest := [.ref q_26]) B (c_X3_start l E hV H0 hT0 q_27 k_q_27) cl_RX1_40 hT0 k_q_27 rfl rfl rfl rfl hl.1 rfl (Nat.le_of_ble_eq_true rfl) dX1_settle_10 rfl rfl ⟨rfl, rfl⟩ ⟨Nat.zero_le _, Nat.zero_le _⟩ (zO.of hG0 hh)) (fun q_28 hp_28 => ?_)
  refine zkV (zrV (rest := []) B (c_X4_copyOf l E hV H0 hT0 q_26 k_q_26 q_28 hp_28) cl_RX1_46 hT0 k_q_26 rfl rfl rfl rfl hl.1 rfl (Nat.le_of_ble_eq_true rfl) dX1_settle_13 rfl rfl ⟨rfl, rfl⟩ ⟨Nat.zero_le _, Nat.zero_le _⟩ (zO.of hG0 hh)) hG0 rfl (fun H29 lc29 hp_29 gH29 rH29 => ?_)
  have s_30 := rH29.keepA k_q_25 rfl s_26
  have s_31 := rH29.keep hV kh0 rfl s_27
  refine lv_aload_n hx hb dX1_settle_16 rfl (lv_at hl 0 rfl) ?_
  refine lv_iconst (v := 1) hx hb dX1_settle_17 (by decide) ?_
  have := kl_1
  refine g_putI B fp_RX1_20 hV gH29 kh0 rfl rfl rfl rfl rfl (by omega) (by omega) rfl dX1_settle_18 (fun H32 lc32 gH32 uH32 => ?_)
  have s_33 := uH32.keep (Or.inl (k_ne k_q_25 kh0 rfl)) s_30
  have s_34 := uH32.keep (Or.inr (j_ne hV rfl rfl rfl rfl)) s_31
  refine lv_aload_n hx hb dX1_settle_21 rfl (lv_at hl 0 rfl) ?_
  refine g_get B fl_RX1_36 gH32.1 kh0 rfl rfl rfl dX1_settle_22 s_34 ?_
  refine lv_iload_n hx hb dX1_settle_25 rfl (lv_at hl 1 rfl) ?_
  refine zkPI (zrV (rest := []) B (c_X3_countFlashesOf l E hV H32 gH32.1 q_27 k_q_27 p0) cl_RX1_50 gH32.1 k_q_27 rfl rfl rfl rfl hl.1 rfl (Nat.le_of_ble_eq_true rfl) dX1_settle_26 rfl rfl ⟨rfl, rfl⟩ ⟨Nat.zero_le _, Nat.zero_le _⟩ (zO.of gH32 hh)) (fun x_35 hp_35 => ?_)
  refine lv_bipush (v := 6) hx hb dX1_settle_29 (by decide) ?_
  refine lv_isub hx hb dX1_settle_31 ?_
  refine lv_topi (fun x_36 e_36 => ?_)
  refine lv_istore_n (lv' := [(2, .int x_36), (0, .ref h0), (1, .int p0)]) hx hb dX1_settle_32 rfl hl (by decide) rfl (fun ls hl => ?_)
  refine lv_iconst (v := 0) hx hb dX1_settle_33 (by decide) ?_
  refine lv_istore_n (lv' := [(3, .int 0), (2, .int x_36), (0, .ref h0), (1, .int p0)]) hx hb dX1_settle_34 rfl hl (by decide) rfl (fun ls hl => ?_)
  have := kl_0
  exact b35 61 H32 lc32 ls x_36 0 q_27 (by omega) gH32 (lv_sub hl [2, 3, 1, 0] rfl) k_q_27 (by omega) (by omega) s_34

theorem dX1_safeFrom_0 : decode cX1_safeFrom 0 = .ok (.aload_n 0, 1) := by decide +kernel
theorem dX1_safeFrom_1 : decode cX1_safeFrom 1 = .ok (.getfield 36, 3) := by decide +kernel
theorem dX1_safeFrom_4 : decode cX1_safeFrom 4 = .ok (.iload_n 1, 1) := by decide +kernel
theorem dX1_safeFrom_5 : decode cX1_safeFrom 5 = .ok (.invokevirtual 102, 3) := by decide +kernel
theorem dX1_safeFrom_8 : decode cX1_safeFrom 8 = .ok (.astore_n 3, 1) := by decide +kernel
theorem dX1_safeFrom_9 : decode cX1_safeFrom 9 = .ok (.aload_n 3, 1) := by decide +kernel
theorem dX1_safeFrom_10 : decode cX1_safeFrom 10 = .ok (.getfield 110, 3) := by decide +kernel
theorem dX1_safeFrom_13 : decode cX1_safeFrom 13 = .ok (.iload_n 1, 1) := by decide +kernel
theorem dX1_safeFrom_14 : decode cX1_safeFrom 14 = .ok (.if_icmp .ne 15, 3) := by decide +kernel
theorem dX1_safeFrom_17 : decode cX1_safeFrom 17 = .ok (.aload_n 0, 1) := by decide +kernel
theorem dX1_safeFrom_18 : decode cX1_safeFrom 18 = .ok (.getfield 32, 3) := by decide +kernel
theorem dX1_safeFrom_21 : decode cX1_safeFrom 21 = .ok (.aload_n 3, 1) := by decide +kernel
theorem dX1_safeFrom_22 : decode cX1_safeFrom 22 = .ok (.iload_n 2, 1) := by decide +kernel
theorem dX1_safeFrom_23 : decode cX1_safeFrom 23 = .ok (.invokevirtual 106, 3) := by decide +kernel
theorem dX1_safeFrom_26 : decode cX1_safeFrom 26 = .ok (.goto 4, 3) := by decide +kernel
theorem dX1_safeFrom_29 : decode cX1_safeFrom 29 = .ok (.iconst 0, 1) := by decide +kernel
theorem dX1_safeFrom_30 : decode cX1_safeFrom 30 = .ok (.istore 4, 2) := by decide +kernel
theorem dX1_safeFrom_32 : decode cX1_safeFrom 32 = .ok (.iconst 0, 1) := by decide +kernel
theorem dX1_safeFrom_33 : decode cX1_safeFrom 33 = .ok (.istore 5, 2) := by decide +kernel
theorem dX1_safeFrom_35 : decode cX1_safeFrom 35 = .ok (.iload 5, 2) := by decide +kernel
theorem dX1_safeFrom_37 : decode cX1_safeFrom 37 = .ok (.aload_n 0, 1) := by decide +kernel
theorem dX1_safeFrom_38 : decode cX1_safeFrom 38 = .ok (.getfield 20, 3) := by decide +kernel
theorem dX1_safeFrom_41 : decode cX1_safeFrom 41 = .ok (.if_icmp .ge 52, 3) := by decide +kernel
theorem dX1_safeFrom_44 : decode cX1_safeFrom 44 = .ok (.iload 4, 2) := by decide +kernel
theorem dX1_safeFrom_46 : decode cX1_safeFrom 46 = .ok (.ifCond .eq 47, 3) := by decide +kernel
theorem dX1_safeFrom_49 : decode cX1_safeFrom 49 = .ok (.iload 4, 2) := by decide +kernel
theorem dX1_safeFrom_51 : decode cX1_safeFrom 51 = .ok (.aload_n 0, 1) := by decide +kernel
theorem dX1_safeFrom_52 : decode cX1_safeFrom 52 = .ok (.getfield 11, 3) := by decide +kernel
theorem dX1_safeFrom_55 : decode cX1_safeFrom 55 = .ok (.iload 5, 2) := by decide +kernel
theorem dX1_safeFrom_57 : decode cX1_safeFrom 57 = .ok (.aaload, 1) := by decide +kernel
theorem dX1_safeFrom_58 : decode cX1_safeFrom 58 = .ok (.getfield 110, 3) := by decide +kernel
theorem dX1_safeFrom_61 : decode cX1_safeFrom 61 = .ok (.iload_n 1, 1) := by decide +kernel
theorem dX1_safeFrom_62 : decode cX1_safeFrom 62 = .ok (.if_icmp .ne 21, 3) := by decide +kernel
theorem dX1_safeFrom_65 : decode cX1_safeFrom 65 = .ok (.aload_n 0, 1) := by decide +kernel
theorem dX1_safeFrom_66 : decode cX1_safeFrom 66 = .ok (.getfield 32, 3) := by decide +kernel
theorem dX1_safeFrom_69 : decode cX1_safeFrom 69 = .ok (.aload_n 0, 1) := by decide +kernel
theorem dX1_safeFrom_70 : decode cX1_safeFrom 70 = .ok (.getfield 11, 3) := by decide +kernel
theorem dX1_safeFrom_73 : decode cX1_safeFrom 73 = .ok (.iload 5, 2) := by decide +kernel
theorem dX1_safeFrom_75 : decode cX1_safeFrom 75 = .ok (.aaload, 1) := by decide +kernel
theorem dX1_safeFrom_76 : decode cX1_safeFrom 76 = .ok (.iload_n 2, 1) := by decide +kernel
theorem dX1_safeFrom_77 : decode cX1_safeFrom 77 = .ok (.invokevirtual 106, 3) := by decide +kernel
theorem dX1_safeFrom_80 : decode cX1_safeFrom 80 = .ok (.goto 4, 3) := by decide +kernel
theorem dX1_safeFrom_83 : decode cX1_safeFrom 83 = .ok (.iconst 0, 1) := by decide +kernel
theorem dX1_safeFrom_84 : decode cX1_safeFrom 84 = .ok (.iand, 1) := by decide +kernel
theorem dX1_safeFrom_85 : decode cX1_safeFrom 85 = .ok (.istore 4, 2) := by decide +kernel
theorem dX1_safeFrom_87 : decode cX1_safeFrom 87 = .ok (.iinc 5 1, 3) := by decide +kernel
theorem dX1_safeFrom_90 : decode cX1_safeFrom 90 = .ok (.goto (-55), 3) := by decide +kernel
theorem dX1_safeFrom_93 : decode cX1_safeFrom 93 = .ok (.iload 4, 2) := by decide +kernel
theorem dX1_safeFrom_95 : decode cX1_safeFrom 95 = .ok (.ireturn, 1) := by decide +kernel
def rm_X1_safeFrom : Room := { frames := 3, cells := 0, slots := 0, locals := 81 }
set_option maxRecDepth 100000 in
set_option maxHeartbeats 4000000 in
theorem c_X1_safeFrom (l : Launch) (E : zE) (hV : zV E) (H0 : Heap) (hT0 : HT E H0) (h0 : Nat) (kh0 : eK E h0 = 2) (p0 : Int32) (p0_lo : 0 ≤ p0.toInt) (p0_hi : p0.toInt ≤ 1) (p1 : Int32) : Met l yX1_safeFrom (zws yX1_safeFrom cX1_safeFrom 6 (some .int)) rm_X1_safeFrom (zP E H0 [.ref h0, .int p0, .int p1]) (zPI (fun r => True)) 0 0 (fun _ => False) := by
  refine zEnt (by decide) (Nat.le_of_ble_eq_true rfl) (fun p e s m args below meth c ls Q B hr hlk hh hQ hl => ?_)
  have hx := B.1
  have hb := B.2.1
  have hl : lv_has ls 6 [(0, .ref h0), (1, .int p0), (2, .int p1)] := hl
  have b35 : ∀ (n35 : Nat) (ls : Array Slot) (v35_4 : Int32) (v35_5 : Int32), 64 - v35_5.toInt < (n35 : Int) → lv_has ls 6 [(0, .ref h0), (1, .int p0), (2, .int p1), (4, .int v35_4), (5, .int v35_5)] → 0 ≤ v35_5.toInt → v35_5.toInt ≤ 64 → W p l e rm_X1_safeFrom s m args below meth c H0 [] 0 0 Q (F0 m 35 ls []) := by
    intro n35
    induction n35 with
    | zero =>
      intro ls v35_4 v35_5 hm35 hl f35_1 f35_2
      exact absurd hm35 (by omega)
    | succ n35 ih35 =>
      intro ls v35_4 v35_5 hm35 hl f35_1 f35_2
      have b84 : ∀ (ls : Array Slot) (w84_0 : Int32) (u84_h0_4 : Int32) (u84_h0_2 : Nat), lv_has ls 6 [(0, .ref h0), (1, .int p0), (2, .int p1), (5, .int v35_5)] → eK E u84_h0_2 = 25 → v35_5.toInt ≤ 63 → 1 ≤ u84_h0_4.toInt → u84_h0_4.toInt ≤ 64 → sl H0 h0 (zix E 2 4) = some (.int u84_h0_4) → sl H0 h0 (zix E 2 2) = some (.ref u84_h0_2) → W p l e rm_X1_safeFrom s m args below meth c H0 [] 0 0 Q (F0 m 84 ls [.int w84_0, .int v35_4]) := by
        intro ls w84_0 u84_h0_4 u84_h0_2 hl k_u84_h0_2 f84_1 f84_2 f84_3 s84_u84_h0_4 s84_u84_h0_2
        refine lv_iand hx hb dX1_safeFrom_84 ?_
        refine lv_topi (fun x_1 e_1 => ?_)
        refine lv_istore (lv' := [(4, .int x_1), (0, .ref h0), (1, .int p0), (2, .int p1), (5, .int v35_5)]) hx hb dX1_safeFrom_85 hl (by decide) rfl (fun ls hl => ?_)
        obtain ⟨x_2, e_2⟩ : ∃ y : Int32, (v35_5 : Int32) + Int32.ofInt 1 = y := ⟨_, rfl⟩
        refine lv_iinc (v := x_2) (lv' := [(5, .int x_2), (4, .int x_1), (0, .ref h0), (1, .int p0), (2, .int p1)]) hx hb dX1_safeFrom_87 hl (k := 4) rfl e_2 (by decide) rfl (fun ls hl => ?_)
        have t_2 := z_inc2 e_2 rfl (by decide) (by omega) (by omega)
        refine lv_goto (tgt := 35) hx hb dX1_safeFrom_90 (by decide) ?_
        exact ih35 ls x_1 x_2 (by omega) (lv_sub hl [2, 3, 4, 1, 0] rfl) (by omega) (by omega)
      refine lv_iload hx hb dX1_safeFrom_35 (lv_at hl 4 rfl) ?_
      refine lv_aload_n hx hb dX1_safeFrom_37 rfl (lv_at hl 0 rfl) ?_
      refine g_getI B fl_RX1_20 hT0 kh0 rfl rfl rfl rfl rfl dX1_safeFrom_38 (fun x_3 s_3 a_3 b_3 => ?_)
      refine lv_icmp_ge (tgt := 93) hx hb dX1_safeFrom_41 (by decide) (fun c_4 => ?_) (fun c_4 => ?_)
      · have f_4 := z_le c_4 rfl rfl
        refine lv_iload hx hb dX1_safeFrom_93 (lv_at hl 3 rfl) ?_
        exact rtPI (v := v35_4) B hr hlk hh hQ rfl trivial dX1_safeFrom_95
      · have f_4 := z_nle c_4 rfl rfl
        refine lv_iload hx hb dX1_safeFrom_44 (lv_at hl 3 rfl) ?_
        refine lv_if_eq (tgt := 93) hx hb dX1_safeFrom_46 (by decide) (fun c_5 => ?_) (fun c_5 => ?_)
        · have f_5 := z_eq c_5 rfl kl_0
          refine lv_iload hx hb dX1_safeFrom_93 (lv_at hl 3 rfl) ?_
          exact rtPI (v := v35_4) B hr hlk hh hQ rfl trivial dX1_safeFrom_95
        · have f_5 := z_ne c_5 rfl kl_0
          refine lv_iload hx hb dX1_safeFrom_49 (lv_at hl 3 rfl) ?_
          refine lv_aload_n hx hb dX1_safeFrom_51 rfl (lv_at hl 0 rfl) ?_
          refine g_getR B fl_RX1_11 hT0 kh0 rfl rfl rfl rfl rfl dX1_safeFrom_52 (fun q_6 s_6 k_q_6 => ?_)
          refine lv_iload hx hb dX1_safeFrom_55 (lv_at hl 4 rfl) ?_
          refine g_aaldI (i := v35_5) (N := 64) B hT0 k_q_6 rfl rfl rfl rfl rfl (by omega) (by omega) rfl dX1_safeFrom_57 (fun q_7 s_7 k_q_7 => ?_)
          refine g_getI B fl_RX1_110 hT0 k_q_7 rfl rfl rfl rfl rfl dX1_safeFrom_58 (fun x_8 s_8 a_8 b_8 => ?_)
          refine lv_iload_n hx hb dX1_safeFrom_61 rfl (lv_at hl 1 rfl) ?_
          refine lv_icmp_ne (tgt := 83) hx hb dX1_safeFrom_62 (by decide) (fun c_9 => ?_) (fun c_9 => ?_)
          · have f_9 := z_ne c_9 rfl rfl
            refine lv_iconst (v := 0) hx hb dX1_safeFrom_83 (by decide) ?_
            have := kl_0
            exact b84 ls 0 x_3 q_6 (lv_sub hl [0, 1, 2, 4] rfl) k_q_6 (by omega) (by omega) (by omega) s_3 s_6
          · have f_9 := z_eq c_9 rfl rfl
            refine lv_aload_n hx hb dX1_safeFrom_65 rfl (lv_at hl 0 rfl) ?_
            refine g_getR B fl_RX1_32 hT0 kh0 rfl rfl rfl rfl rfl dX1_safeFrom_66 (fun q_10 s_10 k_q_10 => ?_)
            refine lv_aload_n hx hb dX1_safeFrom_69 rfl (lv_at hl 0 rfl) ?_
            refine g_get B fl_RX1_11 hT0 kh0 rfl rfl rfl dX1_safeFrom_70 s_6 ?_
            refine lv_iload hx hb dX1_safeFrom_73 (lv_at hl 4 rfl) ?_
            refine g_aald (i := v35_5) (N := 64) B hT0 k_q_6 rfl rfl rfl rfl rfl (by omega) (by omega) s_7 dX1_safeFrom_75 ?_
            refine lv_iload_n hx hb dX1_safeFrom_76 rfl (lv_at hl 2 rfl) ?_
            refine zkPI (zrV (rest := [.int v35_4]) B (c_X2_movesFrom l E hV H0 hT0 q_10 k_q_10 q_7 k_q_7 p1) cl_RX1_106 hT0 k_q_10 rfl rfl rfl rfl hl.1 rfl (Nat.le_of_ble_eq_true rfl) dX1_safeFrom_77 rfl rfl ⟨rfl, rfl⟩ ⟨Nat.zero_le _, Nat.zero_le _⟩ (zO.rf hh)) (fun x_11 hp_11 => ?_)
            refine lv_goto (tgt := 84) hx hb dX1_safeFrom_80 (by decide) ?_
            exact b84 ls x_11 x_3 q_6 (lv_sub hl [0, 1, 2, 4] rfl) k_q_6 (by omega) (by omega) (by omega) s_3 s_6
  have b30 : ∀ (ls : Array Slot) (w30_0 : Int32), lv_has ls 6 [(0, .ref h0), (1, .int p0), (2, .int p1)] → W p l e rm_X1_safeFrom s m args below meth c H0 [] 0 0 Q (F0 m 30 ls [.int w30_0]) := by
    intro ls w30_0 hl
    refine lv_istore (lv' := [(4, .int w30_0), (0, .ref h0), (1, .int p0), (2, .int p1)]) hx hb dX1_safeFrom_30 hl (by decide) rfl (fun ls hl => ?_)
    refine lv_iconst (v := 0) hx hb dX1_safeFrom_32 (by decide) ?_
    refine lv_istore (lv' := [(5, .int 0), (4, .int w30_0), (0, .ref h0), (1, .int p0), (2, .int p1)]) hx hb dX1_safeFrom_33 hl (by decide) rfl (fun ls hl => ?_)
    have := kl_0
    exact b35 65 ls w30_0 0 (by omega) (lv_sub hl [2, 3, 4, 1, 0] rfl) (by omega) (by omega)
  refine lv_aload_n hx hb dX1_safeFrom_0 rfl (lv_at hl 0 rfl) ?_
  refine g_getR B fl_RX1_36 hT0 kh0 rfl rfl rfl rfl rfl dX1_safeFrom_1 (fun q_12 s_12 k_q_12 => ?_)
  refine lv_iload_n hx hb dX1_safeFrom_4 rfl (lv_at hl 1 rfl) ?_
  refine zkPR (zrV (rest := []) B (c_X3_boardNow l E hV H0 hT0 q_12 k_q_12 p0 (by omega) (by omega)) cl_RX1_102 hT0 k_q_12 rfl rfl rfl rfl hl.1 rfl (Nat.le_of_ble_eq_true rfl) dX1_safeFrom_5 rfl rfl ⟨rfl, rfl⟩ ⟨Nat.zero_le _, Nat.zero_le _⟩ (zO.rf hh)) (fun q_13 hp_13 => ?_)
  refine lv_astore_n (lv' := [(3, .ref q_13), (0, .ref h0), (1, .int p0), (2, .int p1)]) hx hb dX1_safeFrom_8 rfl hl (by decide) rfl (fun ls hl => ?_)
  refine lv_aload_n hx hb dX1_safeFrom_9 rfl (lv_at hl 0 rfl) ?_
  refine g_getI B fl_RX1_110 hT0 hp_13 rfl rfl rfl rfl rfl dX1_safeFrom_10 (fun x_14 s_14 a_14 b_14 => ?_)
  refine lv_iload_n hx hb dX1_safeFrom_13 rfl (lv_at hl 2 rfl) ?_
  refine lv_icmp_ne (tgt := 29) hx hb dX1_safeFrom_14 (by decide) (fun c_15 => ?_) (fun c_15 => ?_)
  · have f_15 := z_ne c_15 rfl rfl
    refine lv_iconst (v := 0) hx hb dX1_safeFrom_29 (by decide) ?_
    have := kl_0
    exact b30 ls 0 (lv_sub hl [1, 2, 3] rfl)
  · have f_15 := z_eq c_15 rfl rfl
    refine lv_aload_n hx hb dX1_safeFrom_17 rfl (lv_at hl 1 rfl) ?_
    refine g_getR B fl_RX1_32 hT0 kh0 rfl rfl rfl rfl rfl dX1_safeFrom_18 (fun q_16 s_16 k_q_16 => ?_)
    refine lv_aload_n hx hb dX1_safeFrom_21 rfl (lv_at hl 0 rfl) ?_
    refine lv_iload_n hx hb dX1_safeFrom_22 rfl (lv_at hl 3 rfl) ?_
    refine zkPI (zrV (rest := []) B (c_X2_movesFrom l E hV H0 hT0 q_16 k_q_16 q_13 hp_13 p1) cl_RX1_106 hT0 k_q_16 rfl rfl rfl rfl hl.1 rfl (Nat.le_of_ble_eq_true rfl) dX1_safeFrom_23 rfl rfl ⟨rfl, rfl⟩ ⟨Nat.zero_le _, Nat.zero_le _⟩ (zO.rf hh)) (fun x_17 hp_17 => ?_)
    refine lv_goto (tgt := 30) hx hb dX1_safeFrom_26 (by decide) ?_
    exact b30 ls x_17 (lv_sub hl [1, 2, 3] rfl)

theorem dX1_countSafe_0 : decode cX1_countSafe 0 = .ok (.iconst 0, 1) := by decide +kernel
theorem dX1_countSafe_1 : decode cX1_countSafe 1 = .ok (.istore_n 2, 1) := by decide +kernel
theorem dX1_countSafe_2 : decode cX1_countSafe 2 = .ok (.iconst 0, 1) := by decide +kernel
theorem dX1_countSafe_3 : decode cX1_countSafe 3 = .ok (.istore_n 3, 1) := by decide +kernel
theorem dX1_countSafe_4 : decode cX1_countSafe 4 = .ok (.iload_n 3, 1) := by decide +kernel
theorem dX1_countSafe_5 : decode cX1_countSafe 5 = .ok (.aload_n 0, 1) := by decide +kernel
theorem dX1_countSafe_6 : decode cX1_countSafe 6 = .ok (.getfield 32, 3) := by decide +kernel
theorem dX1_countSafe_9 : decode cX1_countSafe 9 = .ok (.getfield 90, 3) := by decide +kernel
theorem dX1_countSafe_12 : decode cX1_countSafe 12 = .ok (.if_icmp .ge 21, 3) := by decide +kernel
theorem dX1_countSafe_15 : decode cX1_countSafe 15 = .ok (.iload_n 2, 1) := by decide +kernel
theorem dX1_countSafe_16 : decode cX1_countSafe 16 = .ok (.aload_n 0, 1) := by decide +kernel
theorem dX1_countSafe_17 : decode cX1_countSafe 17 = .ok (.iload_n 1, 1) := by decide +kernel
theorem dX1_countSafe_18 : decode cX1_countSafe 18 = .ok (.iload_n 3, 1) := by decide +kernel
theorem dX1_countSafe_19 : decode cX1_countSafe 19 = .ok (.invokevirtual 93, 3) := by decide +kernel
theorem dX1_countSafe_22 : decode cX1_countSafe 22 = .ok (.invokestatic 97, 3) := by decide +kernel
theorem dX1_countSafe_25 : decode cX1_countSafe 25 = .ok (.iadd, 1) := by decide +kernel
theorem dX1_countSafe_26 : decode cX1_countSafe 26 = .ok (.istore_n 2, 1) := by decide +kernel
theorem dX1_countSafe_27 : decode cX1_countSafe 27 = .ok (.iinc 3 1, 3) := by decide +kernel
theorem dX1_countSafe_30 : decode cX1_countSafe 30 = .ok (.goto (-26), 3) := by decide +kernel
theorem dX1_countSafe_33 : decode cX1_countSafe 33 = .ok (.iload_n 2, 1) := by decide +kernel
theorem dX1_countSafe_34 : decode cX1_countSafe 34 = .ok (.ireturn, 1) := by decide +kernel
def rm_X1_countSafe : Room := { frames := 4, cells := 0, slots := 0, locals := 106 }
set_option maxRecDepth 100000 in
set_option maxHeartbeats 4000000 in
theorem c_X1_countSafe (l : Launch) (E : zE) (hV : zV E) (H0 : Heap) (hT0 : HT E H0) (h0 : Nat) (kh0 : eK E h0 = 2) (p0 : Int32) (p0_lo : 0 ≤ p0.toInt) (p0_hi : p0.toInt ≤ 1) : Met l yX1_countSafe (zws yX1_countSafe cX1_countSafe 4 (some .int)) rm_X1_countSafe (zP E H0 [.ref h0, .int p0]) (zPI (fun r => True)) 0 0 (fun _ => False) := by
  refine zEnt (by decide) (Nat.le_of_ble_eq_true rfl) (fun p e s m args below meth c ls Q B hr hlk hh hQ hl => ?_)
  have hx := B.1
  have hb := B.2.1
  have hl : lv_has ls 4 [(0, .ref h0), (1, .int p0)] := hl
  have b4 : ∀ (n4 : Nat) (ls : Array Slot) (v4_2 : Int32) (v4_3 : Int32), 30 - v4_3.toInt < (n4 : Int) → lv_has ls 4 [(0, .ref h0), (1, .int p0), (2, .int v4_2), (3, .int v4_3)] → 0 ≤ v4_3.toInt → v4_3.toInt ≤ 30 → W p l e rm_X1_countSafe s m args below meth c H0 [] 0 0 Q (F0 m 4 ls []) := by
    intro n4
    induction n4 with
    | zero =>
      intro ls v4_2 v4_3 hm4 hl f4_1 f4_2
      exact absurd hm4 (by omega)
    | succ n4 ih4 =>
      intro ls v4_2 v4_3 hm4 hl f4_1 f4_2
      refine lv_iload_n hx hb dX1_countSafe_4 rfl (lv_at hl 3 rfl) ?_
      refine lv_aload_n hx hb dX1_countSafe_5 rfl (lv_at hl 0 rfl) ?_
      refine g_getR B fl_RX1_32 hT0 kh0 rfl rfl rfl rfl rfl dX1_countSafe_6 (fun q_1 s_1 k_q_1 => ?_)
      refine g_getI B fl_RX1_90 hT0 k_q_1 rfl rfl rfl rfl rfl dX1_countSafe_9 (fun x_2 s_2 a_2 b_2 => ?_)
      refine lv_icmp_ge (tgt := 33) hx hb dX1_countSafe_12 (by decide) (fun c_3 => ?_) (fun c_3 => ?_)
      · have f_3 := z_le c_3 rfl rfl
        refine lv_iload_n hx hb dX1_countSafe_33 rfl (lv_at hl 2 rfl) ?_
        exact rtPI (v := v4_2) B hr hlk hh hQ rfl trivial dX1_countSafe_34
      · have f_3 := z_nle c_3 rfl rfl
        refine lv_iload_n hx hb dX1_countSafe_15 rfl (lv_at hl 2 rfl) ?_
        refine lv_aload_n hx hb dX1_countSafe_16 rfl (lv_at hl 0 rfl) ?_
        refine lv_iload_n hx hb dX1_countSafe_17 rfl (lv_at hl 1 rfl) ?_
        refine lv_iload_n hx hb dX1_countSafe_18 rfl (lv_at hl 3 rfl) ?_
        refine zkPI (zrV (rest := [.int v4_2]) B (c_X1_safeFrom l E hV H0 hT0 h0 kh0 p0 (by omega) (by omega) v4_3) cl_RX1_93 hT0 kh0 rfl rfl rfl rfl hl.1 rfl (Nat.le_of_ble_eq_true rfl) dX1_countSafe_19 rfl rfl ⟨rfl, rfl⟩ ⟨Nat.zero_le _, Nat.zero_le _⟩ (zO.rf hh)) (fun x_4 hp_4 => ?_)
        refine zkPI (zrS (rest := [.int v4_2]) B (c_J6_bitCount_0f7a4 l E hV H0 hT0 x_4) cs_RX1_97 rfl hl.1 rfl (Nat.le_of_ble_eq_true rfl) dX1_countSafe_22 rfl rfl ⟨rfl, rfl⟩ ⟨Nat.zero_le _, Nat.zero_le _⟩ (zO.rf hh)) (fun x_5 hp_5 => ?_)
        obtain ⟨hp_5_1, hp_5_2⟩ := hp_5
        refine lv_iadd hx hb dX1_countSafe_25 ?_
        refine lv_topi (fun x_6 e_6 => ?_)
        refine lv_istore_n (lv' := [(2, .int x_6), (0, .ref h0), (1, .int p0), (3, .int v4_3)]) hx hb dX1_countSafe_26 rfl hl (by decide) rfl (fun ls hl => ?_)
        obtain ⟨x_7, e_7⟩ : ∃ y : Int32, (v4_3 : Int32) + Int32.ofInt 1 = y := ⟨_, rfl⟩
        refine lv_iinc (v := x_7) (lv' := [(3, .int x_7), (2, .int x_6), (0, .ref h0), (1, .int p0)]) hx hb dX1_countSafe_27 hl (k := 3) rfl e_7 (by decide) rfl (fun ls hl => ?_)
        have t_7 := z_inc2 e_7 rfl (by decide) (by omega) (by omega)
        refine lv_goto (tgt := 4) hx hb dX1_countSafe_30 (by decide) ?_
        exact ih4 ls x_6 x_7 (by omega) (lv_sub hl [2, 3, 1, 0] rfl) (by omega) (by omega)
  refine lv_iconst (v := 0) hx hb dX1_countSafe_0 (by decide) ?_
  refine lv_istore_n (lv' := [(2, .int 0), (0, .ref h0), (1, .int p0)]) hx hb dX1_countSafe_1 rfl hl (by decide) rfl (fun ls hl => ?_)
  refine lv_iconst (v := 0) hx hb dX1_countSafe_2 (by decide) ?_
  refine lv_istore_n (lv' := [(3, .int 0), (2, .int 0), (0, .ref h0), (1, .int p0)]) hx hb dX1_countSafe_3 rfl hl (by decide) rfl (fun ls hl => ?_)
  have := kl_0
  have := kl_0
  exact b4 31 ls 0 0 (by omega) (lv_sub hl [2, 3, 1, 0] rfl) (by omega) (by omega)

theorem dX1_findSafe_0 : decode cX1_findSafe 0 = .ok (.iconst 0, 1) := by decide +kernel
theorem dX1_findSafe_1 : decode cX1_findSafe 1 = .ok (.istore_n 3, 1) := by decide +kernel
theorem dX1_findSafe_2 : decode cX1_findSafe 2 = .ok (.iload_n 2, 1) := by decide +kernel
theorem dX1_findSafe_3 : decode cX1_findSafe 3 = .ok (.istore 4, 2) := by decide +kernel
theorem dX1_findSafe_5 : decode cX1_findSafe 5 = .ok (.iconst 0, 1) := by decide +kernel
theorem dX1_findSafe_6 : decode cX1_findSafe 6 = .ok (.istore 5, 2) := by decide +kernel
theorem dX1_findSafe_8 : decode cX1_findSafe 8 = .ok (.iload 5, 2) := by decide +kernel
theorem dX1_findSafe_10 : decode cX1_findSafe 10 = .ok (.aload_n 0, 1) := by decide +kernel
theorem dX1_findSafe_11 : decode cX1_findSafe 11 = .ok (.getfield 32, 3) := by decide +kernel
theorem dX1_findSafe_14 : decode cX1_findSafe 14 = .ok (.getfield 90, 3) := by decide +kernel
theorem dX1_findSafe_17 : decode cX1_findSafe 17 = .ok (.if_icmp .ge 93, 3) := by decide +kernel
theorem dX1_findSafe_20 : decode cX1_findSafe 20 = .ok (.iload 4, 2) := by decide +kernel
theorem dX1_findSafe_22 : decode cX1_findSafe 22 = .ok (.ifCond .lt 88, 3) := by decide +kernel
theorem dX1_findSafe_25 : decode cX1_findSafe 25 = .ok (.aload_n 0, 1) := by decide +kernel
theorem dX1_findSafe_26 : decode cX1_findSafe 26 = .ok (.iload_n 1, 1) := by decide +kernel
theorem dX1_findSafe_27 : decode cX1_findSafe 27 = .ok (.iload 5, 2) := by decide +kernel
theorem dX1_findSafe_29 : decode cX1_findSafe 29 = .ok (.invokevirtual 93, 3) := by decide +kernel
theorem dX1_findSafe_32 : decode cX1_findSafe 32 = .ok (.istore 6, 2) := by decide +kernel
theorem dX1_findSafe_34 : decode cX1_findSafe 34 = .ok (.aload_n 0, 1) := by decide +kernel
theorem dX1_findSafe_35 : decode cX1_findSafe 35 = .ok (.getfield 32, 3) := by decide +kernel
theorem dX1_findSafe_38 : decode cX1_findSafe 38 = .ok (.aload_n 0, 1) := by decide +kernel
theorem dX1_findSafe_39 : decode cX1_findSafe 39 = .ok (.getfield 36, 3) := by decide +kernel
theorem dX1_findSafe_42 : decode cX1_findSafe 42 = .ok (.iload_n 1, 1) := by decide +kernel
theorem dX1_findSafe_43 : decode cX1_findSafe 43 = .ok (.invokevirtual 102, 3) := by decide +kernel
theorem dX1_findSafe_46 : decode cX1_findSafe 46 = .ok (.iload 5, 2) := by decide +kernel
theorem dX1_findSafe_48 : decode cX1_findSafe 48 = .ok (.invokevirtual 106, 3) := by decide +kernel
theorem dX1_findSafe_51 : decode cX1_findSafe 51 = .ok (.istore 7, 2) := by decide +kernel
theorem dX1_findSafe_53 : decode cX1_findSafe 53 = .ok (.iconst 0, 1) := by decide +kernel
theorem dX1_findSafe_54 : decode cX1_findSafe 54 = .ok (.istore 8, 2) := by decide +kernel
theorem dX1_findSafe_56 : decode cX1_findSafe 56 = .ok (.iload 8, 2) := by decide +kernel
theorem dX1_findSafe_58 : decode cX1_findSafe 58 = .ok (.aload_n 0, 1) := by decide +kernel
theorem dX1_findSafe_59 : decode cX1_findSafe 59 = .ok (.getfield 32, 3) := by decide +kernel
theorem dX1_findSafe_62 : decode cX1_findSafe 62 = .ok (.getfield 90, 3) := by decide +kernel
theorem dX1_findSafe_65 : decode cX1_findSafe 65 = .ok (.if_icmp .ge 39, 3) := by decide +kernel
theorem dX1_findSafe_68 : decode cX1_findSafe 68 = .ok (.iload 6, 2) := by decide +kernel
theorem dX1_findSafe_70 : decode cX1_findSafe 70 = .ok (.iload 8, 2) := by decide +kernel
theorem dX1_findSafe_72 : decode cX1_findSafe 72 = .ok (.iushr, 1) := by decide +kernel
theorem dX1_findSafe_73 : decode cX1_findSafe 73 = .ok (.iconst 1, 1) := by decide +kernel
theorem dX1_findSafe_74 : decode cX1_findSafe 74 = .ok (.iand, 1) := by decide +kernel
theorem dX1_findSafe_75 : decode cX1_findSafe 75 = .ok (.ifCond .eq 13, 3) := by decide +kernel
theorem dX1_findSafe_78 : decode cX1_findSafe 78 = .ok (.iload 4, 2) := by decide +kernel
theorem dX1_findSafe_80 : decode cX1_findSafe 80 = .ok (.ifCond .ne 5, 3) := by decide +kernel
theorem dX1_findSafe_83 : decode cX1_findSafe 83 = .ok (.iload_n 3, 1) := by decide +kernel
theorem dX1_findSafe_84 : decode cX1_findSafe 84 = .ok (.ireturn, 1) := by decide +kernel
theorem dX1_findSafe_85 : decode cX1_findSafe 85 = .ok (.iinc 4 (-1), 3) := by decide +kernel
theorem dX1_findSafe_88 : decode cX1_findSafe 88 = .ok (.iload_n 3, 1) := by decide +kernel
theorem dX1_findSafe_89 : decode cX1_findSafe 89 = .ok (.iload 7, 2) := by decide +kernel
theorem dX1_findSafe_91 : decode cX1_findSafe 91 = .ok (.iload 8, 2) := by decide +kernel
theorem dX1_findSafe_93 : decode cX1_findSafe 93 = .ok (.iushr, 1) := by decide +kernel
theorem dX1_findSafe_94 : decode cX1_findSafe 94 = .ok (.iconst 1, 1) := by decide +kernel
theorem dX1_findSafe_95 : decode cX1_findSafe 95 = .ok (.iand, 1) := by decide +kernel
theorem dX1_findSafe_96 : decode cX1_findSafe 96 = .ok (.iadd, 1) := by decide +kernel
theorem dX1_findSafe_97 : decode cX1_findSafe 97 = .ok (.istore_n 3, 1) := by decide +kernel
theorem dX1_findSafe_98 : decode cX1_findSafe 98 = .ok (.iinc 8 1, 3) := by decide +kernel
theorem dX1_findSafe_101 : decode cX1_findSafe 101 = .ok (.goto (-45), 3) := by decide +kernel
theorem dX1_findSafe_104 : decode cX1_findSafe 104 = .ok (.iinc 5 1, 3) := by decide +kernel
theorem dX1_findSafe_107 : decode cX1_findSafe 107 = .ok (.goto (-99), 3) := by decide +kernel
theorem dX1_findSafe_110 : decode cX1_findSafe 110 = .ok (.iconst (-1), 1) := by decide +kernel
theorem dX1_findSafe_111 : decode cX1_findSafe 111 = .ok (.ireturn, 1) := by decide +kernel
def rm_X1_findSafe : Room := { frames := 4, cells := 0, slots := 0, locals := 106 }
set_option maxRecDepth 100000 in
set_option maxHeartbeats 4000000 in
theorem c_X1_findSafe (l : Launch) (E : zE) (hV : zV E) (H0 : Heap) (hT0 : HT E H0) (h0 : Nat) (kh0 : eK E h0 = 2) (p0 : Int32) (p0_lo : 0 ≤ p0.toInt) (p0_hi : p0.toInt ≤ 1) (p1 : Int32) : Met l yX1_findSafe (zws yX1_findSafe cX1_findSafe 9 (some .int)) rm_X1_findSafe (zP E H0 [.ref h0, .int p0, .int p1]) (zPI (fun r => True)) 0 0 (fun _ => False) := by
  refine zEnt (by decide) (Nat.le_of_ble_eq_true rfl) (fun p e s m args below meth c ls Q B hr hlk hh hQ hl => ?_)
  have hx := B.1
  have hb := B.2.1
  have hl : lv_has ls 9 [(0, .ref h0), (1, .int p0), (2, .int p1)] := hl
  have b8 : ∀ (n8 : Nat) (ls : Array Slot) (v8_3 : Int32) (v8_4 : Int32) (v8_5 : Int32), 30 - v8_5.toInt < (n8 : Int) → lv_has ls 9 [(0, .ref h0), (1, .int p0), (3, .int v8_3), (4, .int v8_4), (5, .int v8_5)] → 0 ≤ v8_5.toInt → v8_5.toInt ≤ 30 → W p l e rm_X1_findSafe s m args below meth c H0 [] 0 0 Q (F0 m 8 ls []) := by
    intro n8
    induction n8 with
    | zero =>
      intro ls v8_3 v8_4 v8_5 hm8 hl f8_1 f8_2
      exact absurd hm8 (by omega)
    | succ n8 ih8 =>
      intro ls v8_3 v8_4 v8_5 hm8 hl f8_1 f8_2
      have b56 : ∀ (n56 : Nat) (ls : Array Slot) (v56_3 : Int32) (v56_4 : Int32) (v56_6 : Int32) (v56_7 : Int32) (v56_8 : Int32) (u56_h0_0 : Nat) (u56_h0_1 : Nat), 30 - v56_8.toInt < (n56 : Int) → lv_has ls 9 [(0, .ref h0), (1, .int p0), (3, .int v56_3), (4, .int v56_4), (5, .int v8_5), (6, .int v56_6), (7, .int v56_7), (8, .int v56_8)] → eK E u56_h0_0 = 3 → eK E u56_h0_1 = 4 → 0 ≤ v56_4.toInt → v8_5.toInt ≤ 29 → 0 ≤ v56_8.toInt → v56_8.toInt ≤ 30 → sl H0 h0 (zix E 2 0) = some (.ref u56_h0_0) → sl H0 h0 (zix E 2 1) = some (.ref u56_h0_1) → W p l e rm_X1_findSafe s m args below meth c H0 [] 0 0 Q (F0 m 56 ls []) := by
        intro n56
        induction n56 with
        | zero =>
          intro ls v56_3 v56_4 v56_6 v56_7 v56_8 u56_h0_0 u56_h0_1 hm56 hl k_u56_h0_0 k_u56_h0_1 f56_1 f56_2 f56_3 f56_4 s56_u56_h0_0 s56_u56_h0_1
          exact absurd hm56 (by omega)
        | succ n56 ih56 =>
          intro ls v56_3 v56_4 v56_6 v56_7 v56_8 u56_h0_0 u56_h0_1 hm56 hl k_u56_h0_0 k_u56_h0_1 f56_1 f56_2 f56_3 f56_4 s56_u56_h0_0 s56_u56_h0_1
          have b88 : ∀ (ls : Array Slot) (v88_4 : Int32) (u88_u56_h0_0_0 : Int32), lv_has ls 9 [(0, .ref h0), (1, .int p0), (3, .int v56_3), (4, .int v88_4), (5, .int v8_5), (6, .int v56_6), (7, .int v56_7), (8, .int v56_8)] → 0 ≤ v88_4.toInt → v56_8.toInt ≤ 29 → 1 ≤ u88_u56_h0_0_0.toInt → u88_u56_h0_0_0.toInt ≤ 30 → sl H0 h0 (zix E 2 0) = some (.ref u56_h0_0) → sl H0 h0 (zix E 2 1) = some (.ref u56_h0_1) → sl H0 u56_h0_0 (zix E 3 0) = some (.int u88_u56_h0_0_0) → W p l e rm_X1_findSafe s m args below meth c H0 [] 0 0 Q (F0 m 88 ls []) := by
            intro ls v88_4 u88_u56_h0_0_0 hl f88_1 f88_2 f88_3 f88_4 s88_u88_h0_0 s88_u88_h0_1 s88_u88_u56_h0_0_0
            refine lv_iload_n hx hb dX1_findSafe_88 rfl (lv_at hl 2 rfl) ?_
            refine lv_iload hx hb dX1_findSafe_89 (lv_at hl 6 rfl) ?_
            refine lv_iload hx hb dX1_findSafe_91 (lv_at hl 7 rfl) ?_
            refine lv_iushr hx hb dX1_findSafe_93 rfl ?_
            refine lv_topi (fun x_1 e_1 => ?_)
            refine lv_iconst (v := 1) hx hb dX1_findSafe_94 (by decide) ?_
            refine lv_iand hx hb dX1_findSafe_95 ?_
            refine lv_topi (fun x_2 e_2 => ?_)
            have t_2 := z_andR e_2 kl_1 (by omega)
            refine lv_iadd hx hb dX1_findSafe_96 ?_
            refine lv_topi (fun x_3 e_3 => ?_)
            refine lv_istore_n (lv' := [(3, .int x_3), (0, .ref h0), (1, .int p0), (4, .int v88_4), (5, .int v8_5), (6, .int v56_6), (7, .int v56_7), (8, .int v56_8)]) hx hb dX1_findSafe_97 rfl hl (by decide) rfl (fun ls hl => ?_)
            obtain ⟨x_4, e_4⟩ : ∃ y : Int32, (v56_8 : Int32) + Int32.ofInt 1 = y := ⟨_, rfl⟩
            refine lv_iinc (v := x_4) (lv' := [(8, .int x_4), (3, .int x_3), (0, .ref h0), (1, .int p0), (4, .int v88_4), (5, .int v8_5), (6, .int v56_6), (7, .int v56_7)]) hx hb dX1_findSafe_98 hl (k := 7) rfl e_4 (by decide) rfl (fun ls hl => ?_)
            have t_4 := z_inc2 e_4 rfl (by decide) (by omega) (by omega)
            refine lv_goto (tgt := 56) hx hb dX1_findSafe_101 (by decide) ?_
            exact ih56 ls x_3 v88_4 v56_6 v56_7 x_4 u56_h0_0 u56_h0_1 (by omega) (lv_sub hl [2, 3, 1, 4, 5, 6, 7, 0] rfl) k_u56_h0_0 k_u56_h0_1 (by omega) (by omega) (by omega) (by omega) s88_u88_h0_0 s88_u88_h0_1
          refine lv_iload hx hb dX1_findSafe_56 (lv_at hl 7 rfl) ?_
          refine lv_aload_n hx hb dX1_findSafe_58 rfl (lv_at hl 0 rfl) ?_
          refine g_get B fl_RX1_32 hT0 kh0 rfl rfl rfl dX1_findSafe_59 s56_u56_h0_0 ?_
          refine g_getI B fl_RX1_90 hT0 k_u56_h0_0 rfl rfl rfl rfl rfl dX1_findSafe_62 (fun x_5 s_5 a_5 b_5 => ?_)
          refine lv_icmp_ge (tgt := 104) hx hb dX1_findSafe_65 (by decide) (fun c_6 => ?_) (fun c_6 => ?_)
          · have f_6 := z_le c_6 rfl rfl
            obtain ⟨x_7, e_7⟩ : ∃ y : Int32, (v8_5 : Int32) + Int32.ofInt 1 = y := ⟨_, rfl⟩
            refine lv_iinc (v := x_7) (lv' := [(5, .int x_7), (0, .ref h0), (1, .int p0), (3, .int v56_3), (4, .int v56_4), (6, .int v56_6), (7, .int v56_7), (8, .int v56_8)]) hx hb dX1_findSafe_104 hl (k := 4) rfl e_7 (by decide) rfl (fun ls hl => ?_)
            have t_7 := z_inc2 e_7 rfl (by decide) (by omega) (by omega)
            refine lv_goto (tgt := 8) hx hb dX1_findSafe_107 (by decide) ?_
            exact ih8 ls v56_3 v56_4 x_7 (by omega) (lv_sub hl [1, 2, 3, 4, 0] rfl) (by omega) (by omega)
          · have f_6 := z_nle c_6 rfl rfl
            refine lv_iload hx hb dX1_findSafe_68 (lv_at hl 5 rfl) ?_
            refine lv_iload hx hb dX1_findSafe_70 (lv_at hl 7 rfl) ?_
            refine lv_iushr hx hb dX1_findSafe_72 rfl ?_
            refine lv_topi (fun x_8 e_8 => ?_)
            refine lv_iconst (v := 1) hx hb dX1_findSafe_73 (by decide) ?_
            refine lv_iand hx hb dX1_findSafe_74 ?_
            refine lv_topi (fun x_9 e_9 => ?_)
            have t_9 := z_andR e_9 kl_1 (by omega)
            refine lv_if_eq (tgt := 88) hx hb dX1_findSafe_75 (by decide) (fun c_10 => ?_) (fun c_10 => ?_)
            · have f_10 := z_eq c_10 rfl kl_0
              exact b88 ls v56_4 x_5 (lv_sub hl [0, 1, 2, 3, 4, 5, 6, 7] rfl) (by omega) (by omega) (by omega) (by omega) s56_u56_h0_0 s56_u56_h0_1 s_5
            · have f_10 := z_ne c_10 rfl kl_0
              refine lv_iload hx hb dX1_findSafe_78 (lv_at hl 3 rfl) ?_
              refine lv_if_ne (tgt := 85) hx hb dX1_findSafe_80 (by decide) (fun c_11 => ?_) (fun c_11 => ?_)
              · have f_11 := z_ne c_11 rfl kl_0
                obtain ⟨x_12, e_12⟩ : ∃ y : Int32, (v56_4 : Int32) + Int32.ofInt (-1) = y := ⟨_, rfl⟩
                refine lv_iinc (v := x_12) (lv' := [(4, .int x_12), (0, .ref h0), (1, .int p0), (3, .int v56_3), (5, .int v8_5), (6, .int v56_6), (7, .int v56_7), (8, .int v56_8)]) hx hb dX1_findSafe_85 hl (k := 3) rfl e_12 (by decide) rfl (fun ls hl => ?_)
                have := z_rng v56_4
                have t_12 := z_inc2 e_12 rfl (by decide) (by omega) (by omega)
                exact b88 ls x_12 x_5 (lv_sub hl [1, 2, 3, 0, 4, 5, 6, 7] rfl) (by omega) (by omega) (by omega) (by omega) s56_u56_h0_0 s56_u56_h0_1 s_5
              · have f_11 := z_eq c_11 rfl kl_0
                refine lv_iload_n hx hb dX1_findSafe_83 rfl (lv_at hl 2 rfl) ?_
                exact rtPI (v := v56_3) B hr hlk hh hQ rfl trivial dX1_findSafe_84
      refine lv_iload hx hb dX1_findSafe_8 (lv_at hl 4 rfl) ?_
      refine lv_aload_n hx hb dX1_findSafe_10 rfl (lv_at hl 0 rfl) ?_
      refine g_getR B fl_RX1_32 hT0 kh0 rfl rfl rfl rfl rfl dX1_findSafe_11 (fun q_13 s_13 k_q_13 => ?_)
      refine g_getI B fl_RX1_90 hT0 k_q_13 rfl rfl rfl rfl rfl dX1_findSafe_14 (fun x_14 s_14 a_14 b_14 => ?_)
      refine lv_icmp_ge (tgt := 110) hx hb dX1_findSafe_17 (by decide) (fun c_15 => ?_) (fun c_15 => ?_)
      · have f_15 := z_le c_15 rfl rfl
        refine lv_iconst (v := (-1)) hx hb dX1_findSafe_110 (by decide) ?_
        have := kl_m1
        have := kl_m1
        exact rtPI (v := (-1)) B hr hlk hh hQ rfl trivial dX1_findSafe_111
      · have f_15 := z_nle c_15 rfl rfl
        refine lv_iload hx hb dX1_findSafe_20 (lv_at hl 3 rfl) ?_
        refine lv_if_lt (tgt := 110) hx hb dX1_findSafe_22 (by decide) (fun c_16 => ?_) (fun c_16 => ?_)
        · have f_16 := z_lt c_16 rfl kl_0
          refine lv_iconst (v := (-1)) hx hb dX1_findSafe_110 (by decide) ?_
          have := kl_m1
          have := kl_m1
          exact rtPI (v := (-1)) B hr hlk hh hQ rfl trivial dX1_findSafe_111
        · have f_16 := z_nlt c_16 rfl kl_0
          refine lv_aload_n hx hb dX1_findSafe_25 rfl (lv_at hl 0 rfl) ?_
          refine lv_iload_n hx hb dX1_findSafe_26 rfl (lv_at hl 1 rfl) ?_
          refine lv_iload hx hb dX1_findSafe_27 (lv_at hl 4 rfl) ?_
          refine zkPI (zrV (rest := []) B (c_X1_safeFrom l E hV H0 hT0 h0 kh0 p0 (by omega) (by omega) v8_5) cl_RX1_93 hT0 kh0 rfl rfl rfl rfl hl.1 rfl (Nat.le_of_ble_eq_true rfl) dX1_findSafe_29 rfl rfl ⟨rfl, rfl⟩ ⟨Nat.zero_le _, Nat.zero_le _⟩ (zO.rf hh)) (fun x_17 hp_17 => ?_)
          refine lv_istore (lv' := [(6, .int x_17), (0, .ref h0), (1, .int p0), (3, .int v8_3), (4, .int v8_4), (5, .int v8_5)]) hx hb dX1_findSafe_32 hl (by decide) rfl (fun ls hl => ?_)
          refine lv_aload_n hx hb dX1_findSafe_34 rfl (lv_at hl 1 rfl) ?_
          refine g_get B fl_RX1_32 hT0 kh0 rfl rfl rfl dX1_findSafe_35 s_13 ?_
          refine lv_aload_n hx hb dX1_findSafe_38 rfl (lv_at hl 1 rfl) ?_
          refine g_getR B fl_RX1_36 hT0 kh0 rfl rfl rfl rfl rfl dX1_findSafe_39 (fun q_18 s_18 k_q_18 => ?_)
          refine lv_iload_n hx hb dX1_findSafe_42 rfl (lv_at hl 2 rfl) ?_
          refine zkPR (zrV (rest := [.ref q_13]) B (c_X3_boardNow l E hV H0 hT0 q_18 k_q_18 p0 (by omega) (by omega)) cl_RX1_102 hT0 k_q_18 rfl rfl rfl rfl hl.1 rfl (Nat.le_of_ble_eq_true rfl) dX1_findSafe_43 rfl rfl ⟨rfl, rfl⟩ ⟨Nat.zero_le _, Nat.zero_le _⟩ (zO.rf hh)) (fun q_19 hp_19 => ?_)
          refine lv_iload hx hb dX1_findSafe_46 (lv_at hl 5 rfl) ?_
          refine zkPI (zrV (rest := []) B (c_X2_movesFrom l E hV H0 hT0 q_13 k_q_13 q_19 hp_19 v8_5) cl_RX1_106 hT0 k_q_13 rfl rfl rfl rfl hl.1 rfl (Nat.le_of_ble_eq_true rfl) dX1_findSafe_48 rfl rfl ⟨rfl, rfl⟩ ⟨Nat.zero_le _, Nat.zero_le _⟩ (zO.rf hh)) (fun x_20 hp_20 => ?_)
          refine lv_istore (lv' := [(7, .int x_20), (6, .int x_17), (0, .ref h0), (1, .int p0), (3, .int v8_3), (4, .int v8_4), (5, .int v8_5)]) hx hb dX1_findSafe_51 hl (by decide) rfl (fun ls hl => ?_)
          refine lv_iconst (v := 0) hx hb dX1_findSafe_53 (by decide) ?_
          refine lv_istore (lv' := [(8, .int 0), (7, .int x_20), (6, .int x_17), (0, .ref h0), (1, .int p0), (3, .int v8_3), (4, .int v8_4), (5, .int v8_5)]) hx hb dX1_findSafe_54 hl (by decide) rfl (fun ls hl => ?_)
          have := kl_0
          exact b56 31 ls v8_3 v8_4 x_17 x_20 0 q_13 q_18 (by omega) (lv_sub hl [3, 4, 5, 6, 7, 2, 1, 0] rfl) k_q_13 k_q_18 (by omega) (by omega) (by omega) (by omega) s_13 s_18
  refine lv_iconst (v := 0) hx hb dX1_findSafe_0 (by decide) ?_
  refine lv_istore_n (lv' := [(3, .int 0), (0, .ref h0), (1, .int p0), (2, .int p1)]) hx hb dX1_findSafe_1 rfl hl (by decide) rfl (fun ls hl => ?_)
  refine lv_iload_n hx hb dX1_findSafe_2 rfl (lv_at hl 3 rfl) ?_
  refine lv_istore (lv' := [(4, .int p1), (3, .int 0), (0, .ref h0), (1, .int p0), (2, .int p1)]) hx hb dX1_findSafe_3 hl (by decide) rfl (fun ls hl => ?_)
  refine lv_iconst (v := 0) hx hb dX1_findSafe_5 (by decide) ?_
  refine lv_istore (lv' := [(5, .int 0), (4, .int p1), (3, .int 0), (0, .ref h0), (1, .int p0), (2, .int p1)]) hx hb dX1_findSafe_6 hl (by decide) rfl (fun ls hl => ?_)
  have := kl_0
  have := kl_0
  exact b8 31 ls 0 p1 0 (by omega) (lv_sub hl [3, 4, 2, 1, 0] rfl) (by omega) (by omega)
