theorem dX11_isKeeper_0 : decode cX11_isKeeper 0 = .ok (.iload_n 0, 1) := by decide +kernel
theorem dX11_isKeeper_1 : decode cX11_isKeeper 1 = .ok (.ifCond .eq 8, 3) := by decide +kernel
theorem dX11_isKeeper_4 : decode cX11_isKeeper 4 = .ok (.iload_n 0, 1) := by decide +kernel
theorem dX11_isKeeper_5 : decode cX11_isKeeper 5 = .ok (.iconst 1, 1) := by decide +kernel
theorem dX11_isKeeper_6 : decode cX11_isKeeper 6 = .ok (.if_icmp .ne 7, 3) := by decide +kernel
theorem dX11_isKeeper_9 : decode cX11_isKeeper 9 = .ok (.iconst 1, 1) := by decide +kernel
theorem dX11_isKeeper_10 : decode cX11_isKeeper 10 = .ok (.goto 4, 3) := by decide +kernel
theorem dX11_isKeeper_13 : decode cX11_isKeeper 13 = .ok (.iconst 0, 1) := by decide +kernel
theorem dX11_isKeeper_14 : decode cX11_isKeeper 14 = .ok (.ireturn, 1) := by decide +kernel
def rm_X11_isKeeper : Room := { frames := 0, cells := 0, slots := 0, locals := 0 }
set_option maxRecDepth 100000 in
set_option maxHeartbeats 4000000 in
theorem c_X11_isKeeper (l : Launch) (E : zE) (hV : zV E) (H0 : Heap) (hT0 : HT E H0) (p0 : Int32) : Met l yX11_isKeeper (zws yX11_isKeeper cX11_isKeeper 1 (some .boolean)) rm_X11_isKeeper (zP E H0 [.int p0]) (zPI (fun r => 0 ≤ r.toInt ∧ r.toInt ≤ 1 ∧ (r.toInt = 0 ∨ (0 ≤ p0.toInt ∧ p0.toInt ≤ 1)))) 0 0 (fun _ => False) := by
  refine zEnt (by decide) (Nat.le_of_ble_eq_true rfl) (fun p e s m args below meth c ls Q B hr hlk hh hQ hl => ?_)
  have hx := B.1
  have hb := B.2.1
  have hl : lv_has ls 1 [(0, .int p0)] := hl
  refine lv_iload_n hx hb dX11_isKeeper_0 rfl (lv_at hl 0 rfl) ?_
  refine lv_if_eq (tgt := 9) hx hb dX11_isKeeper_1 (by decide) (fun c_1 => ?_) (fun c_1 => ?_)
  · have f_1 := z_eq c_1 rfl kl_0
    refine lv_iconst (v := 1) hx hb dX11_isKeeper_9 (by decide) ?_
    refine lv_goto (tgt := 14) hx hb dX11_isKeeper_10 (by decide) ?_
    have := kl_1
    have := kl_1
    exact rtPI (v := 1) B hr hlk hh hQ rfl ⟨by omega, by omega, by omega⟩ dX11_isKeeper_14
  · have f_1 := z_ne c_1 rfl kl_0
    refine lv_iload_n hx hb dX11_isKeeper_4 rfl (lv_at hl 0 rfl) ?_
    refine lv_iconst (v := 1) hx hb dX11_isKeeper_5 (by decide) ?_
    refine lv_icmp_ne (tgt := 13) hx hb dX11_isKeeper_6 (by decide) (fun c_2 => ?_) (fun c_2 => ?_)
    · have f_2 := z_ne c_2 rfl kl_1
      refine lv_iconst (v := 0) hx hb dX11_isKeeper_13 (by decide) ?_
      have := kl_0
      have := kl_0
      exact rtPI (v := 0) B hr hlk hh hQ rfl ⟨by omega, by omega, by omega⟩ dX11_isKeeper_14
    · have f_2 := z_eq c_2 rfl kl_1
      refine lv_iconst (v := 1) hx hb dX11_isKeeper_9 (by decide) ?_
      refine lv_goto (tgt := 14) hx hb dX11_isKeeper_10 (by decide) ?_
      have := kl_1
      have := kl_1
      exact rtPI (v := 1) B hr hlk hh hQ rfl ⟨by omega, by omega, by omega⟩ dX11_isKeeper_14

theorem dX11_putFour_0 : decode cX11_putFour 0 = .ok (.bipush 24, 2) := by decide +kernel
theorem dX11_putFour_2 : decode cX11_putFour 2 = .ok (.istore_n 2, 1) := by decide +kernel
theorem dX11_putFour_3 : decode cX11_putFour 3 = .ok (.iload_n 2, 1) := by decide +kernel
theorem dX11_putFour_4 : decode cX11_putFour 4 = .ok (.ifCond .lt 42, 3) := by decide +kernel
theorem dX11_putFour_7 : decode cX11_putFour 7 = .ok (.aload_n 0, 1) := by decide +kernel
theorem dX11_putFour_8 : decode cX11_putFour 8 = .ok (.getfield 13, 3) := by decide +kernel
theorem dX11_putFour_11 : decode cX11_putFour 11 = .ok (.sipush 1600, 3) := by decide +kernel
theorem dX11_putFour_14 : decode cX11_putFour 14 = .ok (.if_icmp .ge 32, 3) := by decide +kernel
theorem dX11_putFour_17 : decode cX11_putFour 17 = .ok (.aload_n 0, 1) := by decide +kernel
theorem dX11_putFour_18 : decode cX11_putFour 18 = .ok (.getfield 9, 3) := by decide +kernel
theorem dX11_putFour_21 : decode cX11_putFour 21 = .ok (.aload_n 0, 1) := by decide +kernel
theorem dX11_putFour_22 : decode cX11_putFour 22 = .ok (.getfield 13, 3) := by decide +kernel
theorem dX11_putFour_25 : decode cX11_putFour 25 = .ok (.iload_n 1, 1) := by decide +kernel
theorem dX11_putFour_26 : decode cX11_putFour 26 = .ok (.iload_n 2, 1) := by decide +kernel
theorem dX11_putFour_27 : decode cX11_putFour 27 = .ok (.iushr, 1) := by decide +kernel
theorem dX11_putFour_28 : decode cX11_putFour 28 = .ok (.i2b, 1) := by decide +kernel
theorem dX11_putFour_29 : decode cX11_putFour 29 = .ok (.bastore, 1) := by decide +kernel
theorem dX11_putFour_30 : decode cX11_putFour 30 = .ok (.aload_n 0, 1) := by decide +kernel
theorem dX11_putFour_31 : decode cX11_putFour 31 = .ok (.dup, 1) := by decide +kernel
theorem dX11_putFour_32 : decode cX11_putFour 32 = .ok (.getfield 13, 3) := by decide +kernel
theorem dX11_putFour_35 : decode cX11_putFour 35 = .ok (.iconst 1, 1) := by decide +kernel
theorem dX11_putFour_36 : decode cX11_putFour 36 = .ok (.iadd, 1) := by decide +kernel
theorem dX11_putFour_37 : decode cX11_putFour 37 = .ok (.putfield 13, 3) := by decide +kernel
theorem dX11_putFour_40 : decode cX11_putFour 40 = .ok (.iinc 2 (-8), 3) := by decide +kernel
theorem dX11_putFour_43 : decode cX11_putFour 43 = .ok (.goto (-40), 3) := by decide +kernel
theorem dX11_putFour_46 : decode cX11_putFour 46 = .ok (.return_, 1) := by decide +kernel
def rm_X11_putFour : Room := { frames := 0, cells := 0, slots := 0, locals := 0 }
abbrev wS_X11_putFour : List (Nat × Nat) := [(12, 1), (50, 99)]
set_option maxRecDepth 100000 in
set_option maxHeartbeats 4000000 in
theorem c_X11_putFour (l : Launch) (E : zE) (hV : zV E) (H0 : Heap) (hT0 : HT E H0) (h0 : Nat) (kh0 : eK E h0 = 12) (p0 : Int32) : Met l yX11_putFour (zws yX11_putFour cX11_putFour 3 none) rm_X11_putFour (zP E H0 [.ref h0, .int p0]) (zQV E E wS_X11_putFour (fun H1 => True)) 0 0 (zfr E) := by
  refine zEnt (by decide) (Nat.le_of_ble_eq_true rfl) (fun p e s m args below meth c ls Q B hr hlk hh hQ hl => ?_)
  have hx := B.1
  have hb := B.2.1
  have hG0 : zG E wS_X11_putFour H0 H0 [] := zG.rf hT0
  have hl : lv_has ls 3 [(0, .ref h0), (1, .int p0)] := hl
  have b3 : ∀ (n3 : Nat) (H3 : Heap) (lc3 : List Loc) (ls : Array Slot) (v3_2 : Int32), v3_2.toInt - (-8) < (n3 : Int) → zG E wS_X11_putFour H0 H3 lc3 → lv_has ls 3 [(0, .ref h0), (1, .int p0), (2, .int v3_2)] → (-8) ≤ v3_2.toInt → v3_2.toInt ≤ 24 → W p l e rm_X11_putFour s m args below meth c H3 lc3 0 0 Q (F0 m 3 ls []) := by
    intro n3
    induction n3 with
    | zero =>
      intro H3 lc3 ls v3_2 hm3 gH3 hl f3_1 f3_2
      exact absurd hm3 (by omega)
    | succ n3 ih3 =>
      intro H3 lc3 ls v3_2 hm3 gH3 hl f3_1 f3_2
      refine lv_iload_n hx hb dX11_putFour_3 rfl (lv_at hl 2 rfl) ?_
      refine lv_if_lt (tgt := 46) hx hb dX11_putFour_4 (by decide) (fun c_1 => ?_) (fun c_1 => ?_)
      · have f_1 := z_lt c_1 rfl kl_0
        exact rtV B hr hlk hh hQ gH3 trivial dX11_putFour_46
      · have f_1 := z_nlt c_1 rfl kl_0
        refine lv_aload_n hx hb dX11_putFour_7 rfl (lv_at hl 0 rfl) ?_
        refine g_getI B fl_RX11_13 gH3.1 kh0 rfl rfl rfl rfl rfl dX11_putFour_8 (fun x_2 s_2 a_2 b_2 => ?_)
        refine lv_sipush (v := 1600) hx hb dX11_putFour_11 (by decide) ?_
        refine lv_icmp_ge (tgt := 46) hx hb dX11_putFour_14 (by decide) (fun c_3 => ?_) (fun c_3 => ?_)
        · have f_3 := z_le c_3 kl_1600 rfl
          exact rtV B hr hlk hh hQ gH3 trivial dX11_putFour_46
        · have f_3 := z_nle c_3 kl_1600 rfl
          refine lv_aload_n hx hb dX11_putFour_17 rfl (lv_at hl 0 rfl) ?_
          refine g_getR B fl_RX11_9 gH3.1 kh0 rfl rfl rfl rfl rfl dX11_putFour_18 (fun q_4 s_4 k_q_4 => ?_)
          refine lv_aload_n hx hb dX11_putFour_21 rfl (lv_at hl 0 rfl) ?_
          refine g_get B fl_RX11_13 gH3.1 kh0 rfl rfl rfl dX11_putFour_22 s_2 ?_
          refine lv_iload_n hx hb dX11_putFour_25 rfl (lv_at hl 1 rfl) ?_
          refine lv_iload_n hx hb dX11_putFour_26 rfl (lv_at hl 2 rfl) ?_
          refine lv_iushr hx hb dX11_putFour_27 rfl ?_
          refine lv_topi (fun x_5 e_5 => ?_)
          refine lv_i2b hx hb dX11_putFour_28 rfl ?_
          refine lv_topi (fun x_6 e_6 => ?_)
          refine g_bastI (i := x_2) (N := 1600) B hV gH3 k_q_4 rfl rfl rfl rfl (by omega) (by omega) rfl rfl dX11_putFour_29 (fun H7 lc7 gH7 uH7 => ?_)
          have s_8 := uH7.keep (Or.inl (k_ne kh0 k_q_4 rfl)) s_2
          have s_9 := uH7.keep (Or.inl (k_ne kh0 k_q_4 rfl)) s_4
          refine lv_aload_n hx hb dX11_putFour_30 rfl (lv_at hl 0 rfl) ?_
          refine lv_dup hx hb dX11_putFour_31 rfl ?_
          refine g_get B fl_RX11_13 gH7.1 kh0 rfl rfl rfl dX11_putFour_32 s_8 ?_
          refine lv_iconst (v := 1) hx hb dX11_putFour_35 (by decide) ?_
          refine lv_iadd hx hb dX11_putFour_36 ?_
          refine lv_topi (fun x_10 e_10 => ?_)
          have t_10 := z_add e_10 rfl kl_1 (by omega) (by omega)
          refine g_putI B fp_RX11_13 hV gH7 kh0 rfl rfl rfl rfl rfl (by omega) (by omega) rfl dX11_putFour_37 (fun H11 lc11 gH11 uH11 => ?_)
          have s_12 := uH11.keep (Or.inr (j_ne hV rfl rfl rfl rfl)) s_9
          obtain ⟨x_13, e_13⟩ : ∃ y : Int32, (v3_2 : Int32) + Int32.ofInt (-8) = y := ⟨_, rfl⟩
          refine lv_iinc (v := x_13) (lv' := [(2, .int x_13), (0, .ref h0), (1, .int p0)]) hx hb dX11_putFour_40 hl (k := 2) rfl e_13 (by decide) rfl (fun ls hl => ?_)
          have t_13 := z_inc2 e_13 rfl (by decide) (by omega) (by omega)
          refine lv_goto (tgt := 3) hx hb dX11_putFour_43 (by decide) ?_
          exact ih3 H11 lc11 ls x_13 (by omega) gH11 (lv_sub hl [1, 2, 0] rfl) (by omega) (by omega)
  refine lv_bipush (v := 24) hx hb dX11_putFour_0 (by decide) ?_
  refine lv_istore_n (lv' := [(2, .int 24), (0, .ref h0), (1, .int p0)]) hx hb dX11_putFour_2 rfl hl (by decide) rfl (fun ls hl => ?_)
  have := kl_24
  exact b3 33 H0 [] ls 24 (by omega) hG0 (lv_sub hl [1, 2, 0] rfl) (by omega) (by omega)

theorem dX11_feed_0 : decode cX11_feed 0 = .ok (.aload_n 0, 1) := by decide +kernel
theorem dX11_feed_1 : decode cX11_feed 1 = .ok (.getfield 13, 3) := by decide +kernel
theorem dX11_feed_4 : decode cX11_feed 4 = .ok (.bipush 20, 2) := by decide +kernel
theorem dX11_feed_6 : decode cX11_feed 6 = .ok (.iadd, 1) := by decide +kernel
theorem dX11_feed_7 : decode cX11_feed 7 = .ok (.sipush 1600, 3) := by decide +kernel
theorem dX11_feed_10 : decode cX11_feed 10 = .ok (.if_icmp .le 5, 3) := by decide +kernel
theorem dX11_feed_13 : decode cX11_feed 13 = .ok (.iconst (-1), 1) := by decide +kernel
theorem dX11_feed_14 : decode cX11_feed 14 = .ok (.ireturn, 1) := by decide +kernel
theorem dX11_feed_15 : decode cX11_feed 15 = .ok (.aload_n 0, 1) := by decide +kernel
theorem dX11_feed_16 : decode cX11_feed 16 = .ok (.iload_n 1, 1) := by decide +kernel
theorem dX11_feed_17 : decode cX11_feed 17 = .ok (.invokevirtual 94, 3) := by decide +kernel
theorem dX11_feed_20 : decode cX11_feed 20 = .ok (.aload_n 0, 1) := by decide +kernel
theorem dX11_feed_21 : decode cX11_feed 21 = .ok (.iload_n 2, 1) := by decide +kernel
theorem dX11_feed_22 : decode cX11_feed 22 = .ok (.invokevirtual 94, 3) := by decide +kernel
theorem dX11_feed_25 : decode cX11_feed 25 = .ok (.aload_n 0, 1) := by decide +kernel
theorem dX11_feed_26 : decode cX11_feed 26 = .ok (.iload_n 3, 1) := by decide +kernel
theorem dX11_feed_27 : decode cX11_feed 27 = .ok (.invokevirtual 94, 3) := by decide +kernel
theorem dX11_feed_30 : decode cX11_feed 30 = .ok (.aload_n 0, 1) := by decide +kernel
theorem dX11_feed_31 : decode cX11_feed 31 = .ok (.iload 4, 2) := by decide +kernel
theorem dX11_feed_33 : decode cX11_feed 33 = .ok (.invokevirtual 94, 3) := by decide +kernel
theorem dX11_feed_36 : decode cX11_feed 36 = .ok (.aload_n 0, 1) := by decide +kernel
theorem dX11_feed_37 : decode cX11_feed 37 = .ok (.iload 5, 2) := by decide +kernel
theorem dX11_feed_39 : decode cX11_feed 39 = .ok (.invokevirtual 94, 3) := by decide +kernel
theorem dX11_feed_42 : decode cX11_feed 42 = .ok (.aload_n 0, 1) := by decide +kernel
theorem dX11_feed_43 : decode cX11_feed 43 = .ok (.getfield 13, 3) := by decide +kernel
theorem dX11_feed_46 : decode cX11_feed 46 = .ok (.ireturn, 1) := by decide +kernel
def rm_X11_feed : Room := { frames := 1, cells := 0, slots := 0, locals := 22 }
abbrev wS_X11_feed : List (Nat × Nat) := [(12, 1), (50, 99)]
set_option maxRecDepth 100000 in
set_option maxHeartbeats 4000000 in
theorem c_X11_feed (l : Launch) (E : zE) (hV : zV E) (H0 : Heap) (hT0 : HT E H0) (h0 : Nat) (kh0 : eK E h0 = 12) (p0 : Int32) (p1 : Int32) (p2 : Int32) (p3 : Int32) (p4 : Int32) : Met l yX11_feed (zws yX11_feed cX11_feed 6 (some .int)) rm_X11_feed (zP E H0 [.ref h0, .int p0, .int p1, .int p2, .int p3, .int p4]) (zQI E E wS_X11_feed (fun r H1 => (-1) ≤ r.toInt ∧ r.toInt ≤ 1600)) 0 0 (zfr E) := by
  refine zEnt (by decide) (Nat.le_of_ble_eq_true rfl) (fun p e s m args below meth c ls Q B hr hlk hh hQ hl => ?_)
  have hx := B.1
  have hb := B.2.1
  have hG0 : zG E wS_X11_feed H0 H0 [] := zG.rf hT0
  have hl : lv_has ls 6 [(0, .ref h0), (1, .int p0), (2, .int p1), (3, .int p2), (4, .int p3), (5, .int p4)] := hl
  refine lv_aload_n hx hb dX11_feed_0 rfl (lv_at hl 0 rfl) ?_
  refine g_getI B fl_RX11_13 hT0 kh0 rfl rfl rfl rfl rfl dX11_feed_1 (fun x_1 s_1 a_1 b_1 => ?_)
  refine lv_bipush (v := 20) hx hb dX11_feed_4 (by decide) ?_
  refine lv_iadd hx hb dX11_feed_6 ?_
  refine lv_topi (fun x_2 e_2 => ?_)
  have t_2 := z_add e_2 rfl kl_20 (by omega) (by omega)
  refine lv_sipush (v := 1600) hx hb dX11_feed_7 (by decide) ?_
  refine lv_icmp_le (tgt := 15) hx hb dX11_feed_10 (by decide) (fun c_3 => ?_) (fun c_3 => ?_)
  · have f_3 := z_le c_3 rfl kl_1600
    refine lv_aload_n hx hb dX11_feed_15 rfl (lv_at hl 0 rfl) ?_
    refine lv_iload_n hx hb dX11_feed_16 rfl (lv_at hl 1 rfl) ?_
    refine zkV (zrV (rest := []) B (c_X11_putFour l E hV H0 hT0 h0 kh0 p0) cl_RX11_94 hT0 kh0 rfl rfl rfl rfl hl.1 rfl (Nat.le_of_ble_eq_true rfl) dX11_feed_17 rfl rfl ⟨rfl, rfl⟩ ⟨Nat.zero_le _, Nat.zero_le _⟩ (zO.of hG0 hh)) hG0 rfl (fun H4 lc4 hp_4 gH4 rH4 => ?_)
    refine lv_aload_n hx hb dX11_feed_20 rfl (lv_at hl 0 rfl) ?_
    refine lv_iload_n hx hb dX11_feed_21 rfl (lv_at hl 2 rfl) ?_
    refine zkV (zrV (rest := []) B (c_X11_putFour l E hV H4 gH4.1 h0 kh0 p1) cl_RX11_94 gH4.1 kh0 rfl rfl rfl rfl hl.1 rfl (Nat.le_of_ble_eq_true rfl) dX11_feed_22 rfl rfl ⟨rfl, rfl⟩ ⟨Nat.zero_le _, Nat.zero_le _⟩ (zO.of gH4 hh)) gH4 rfl (fun H5 lc5 hp_5 gH5 rH5 => ?_)
    refine lv_aload_n hx hb dX11_feed_25 rfl (lv_at hl 0 rfl) ?_
    refine lv_iload_n hx hb dX11_feed_26 rfl (lv_at hl 3 rfl) ?_
    refine zkV (zrV (rest := []) B (c_X11_putFour l E hV H5 gH5.1 h0 kh0 p2) cl_RX11_94 gH5.1 kh0 rfl rfl rfl rfl hl.1 rfl (Nat.le_of_ble_eq_true rfl) dX11_feed_27 rfl rfl ⟨rfl, rfl⟩ ⟨Nat.zero_le _, Nat.zero_le _⟩ (zO.of gH5 hh)) gH5 rfl (fun H6 lc6 hp_6 gH6 rH6 => ?_)
    refine lv_aload_n hx hb dX11_feed_30 rfl (lv_at hl 0 rfl) ?_
    refine lv_iload hx hb dX11_feed_31 (lv_at hl 4 rfl) ?_
    refine zkV (zrV (rest := []) B (c_X11_putFour l E hV H6 gH6.1 h0 kh0 p3) cl_RX11_94 gH6.1 kh0 rfl rfl rfl rfl hl.1 rfl (Nat.le_of_ble_eq_true rfl) dX11_feed_33 rfl rfl ⟨rfl, rfl⟩ ⟨Nat.zero_le _, Nat.zero_le _⟩ (zO.of gH6 hh)) gH6 rfl (fun H7 lc7 hp_7 gH7 rH7 => ?_)
    refine lv_aload_n hx hb dX11_feed_36 rfl (lv_at hl 0 rfl) ?_
    refine lv_iload hx hb dX11_feed_37 (lv_at hl 5 rfl) ?_
    refine zkV (zrV (rest := []) B (c_X11_putFour l E hV H7 gH7.1 h0 kh0 p4) cl_RX11_94 gH7.1 kh0 rfl rfl rfl rfl hl.1 rfl (Nat.le_of_ble_eq_true rfl) dX11_feed_39 rfl rfl ⟨rfl, rfl⟩ ⟨Nat.zero_le _, Nat.zero_le _⟩ (zO.of gH7 hh)) gH7 rfl (fun H8 lc8 hp_8 gH8 rH8 => ?_)
    refine lv_aload_n hx hb dX11_feed_42 rfl (lv_at hl 0 rfl) ?_
    refine g_getI B fl_RX11_13 gH8.1 kh0 rfl rfl rfl rfl rfl dX11_feed_43 (fun x_9 s_9 a_9 b_9 => ?_)
    exact rtI (v := x_9) B hr hlk hh hQ gH8 rfl ⟨by omega, by omega⟩ dX11_feed_46
  · have f_3 := z_nle c_3 rfl kl_1600
    refine lv_iconst (v := (-1)) hx hb dX11_feed_13 (by decide) ?_
    have := kl_m1
    have := kl_m1
    exact rtI (v := (-1)) B hr hlk hh hQ hG0 rfl ⟨by omega, by omega⟩ dX11_feed_14

theorem dX11_end_0 : decode cX11_end 0 = .ok (.iload_n 1, 1) := by decide +kernel
theorem dX11_end_1 : decode cX11_end 1 = .ok (.ifCond .lt 11, 3) := by decide +kernel
theorem dX11_end_4 : decode cX11_end 4 = .ok (.iload_n 1, 1) := by decide +kernel
theorem dX11_end_5 : decode cX11_end 5 = .ok (.aload_n 0, 1) := by decide +kernel
theorem dX11_end_6 : decode cX11_end 6 = .ok (.getfield 13, 3) := by decide +kernel
theorem dX11_end_9 : decode cX11_end 9 = .ok (.if_icmp .le 5, 3) := by decide +kernel
theorem dX11_end_12 : decode cX11_end 12 = .ok (.iconst (-1), 1) := by decide +kernel
theorem dX11_end_13 : decode cX11_end 13 = .ok (.ireturn, 1) := by decide +kernel
theorem dX11_end_14 : decode cX11_end 14 = .ok (.aload_n 0, 1) := by decide +kernel
theorem dX11_end_15 : decode cX11_end 15 = .ok (.iload_n 1, 1) := by decide +kernel
theorem dX11_end_16 : decode cX11_end 16 = .ok (.putfield 13, 3) := by decide +kernel
theorem dX11_end_19 : decode cX11_end 19 = .ok (.iload_n 1, 1) := by decide +kernel
theorem dX11_end_20 : decode cX11_end 20 = .ok (.ireturn, 1) := by decide +kernel
def rm_X11_end : Room := { frames := 0, cells := 0, slots := 0, locals := 0 }
abbrev wS_X11_end : List (Nat × Nat) := [(12, 1)]
set_option maxRecDepth 100000 in
set_option maxHeartbeats 4000000 in
theorem c_X11_end (l : Launch) (E : zE) (hV : zV E) (H0 : Heap) (hT0 : HT E H0) (h0 : Nat) (kh0 : eK E h0 = 12) (p0 : Int32) : Met l yX11_end (zws yX11_end cX11_end 2 (some .int)) rm_X11_end (zP E H0 [.ref h0, .int p0]) (zQI E E wS_X11_end (fun r H1 => (-1) ≤ r.toInt ∧ r.toInt ≤ 1600)) 0 0 (zfr E) := by
  refine zEnt (by decide) (Nat.le_of_ble_eq_true rfl) (fun p e s m args below meth c ls Q B hr hlk hh hQ hl => ?_)
  have hx := B.1
  have hb := B.2.1
  have hG0 : zG E wS_X11_end H0 H0 [] := zG.rf hT0
  have hl : lv_has ls 2 [(0, .ref h0), (1, .int p0)] := hl
  refine lv_iload_n hx hb dX11_end_0 rfl (lv_at hl 1 rfl) ?_
  refine lv_if_lt (tgt := 12) hx hb dX11_end_1 (by decide) (fun c_1 => ?_) (fun c_1 => ?_)
  · have f_1 := z_lt c_1 rfl kl_0
    refine lv_iconst (v := (-1)) hx hb dX11_end_12 (by decide) ?_
    have := kl_m1
    have := kl_m1
    exact rtI (v := (-1)) B hr hlk hh hQ hG0 rfl ⟨by omega, by omega⟩ dX11_end_13
  · have f_1 := z_nlt c_1 rfl kl_0
    refine lv_iload_n hx hb dX11_end_4 rfl (lv_at hl 1 rfl) ?_
    refine lv_aload_n hx hb dX11_end_5 rfl (lv_at hl 0 rfl) ?_
    refine g_getI B fl_RX11_13 hT0 kh0 rfl rfl rfl rfl rfl dX11_end_6 (fun x_2 s_2 a_2 b_2 => ?_)
    refine lv_icmp_le (tgt := 14) hx hb dX11_end_9 (by decide) (fun c_3 => ?_) (fun c_3 => ?_)
    · have f_3 := z_le c_3 rfl rfl
      refine lv_aload_n hx hb dX11_end_14 rfl (lv_at hl 0 rfl) ?_
      refine lv_iload_n hx hb dX11_end_15 rfl (lv_at hl 1 rfl) ?_
      refine g_putI B fp_RX11_13 hV hG0 kh0 rfl rfl rfl rfl rfl (by omega) (by omega) rfl dX11_end_16 (fun H4 lc4 gH4 uH4 => ?_)
      refine lv_iload_n hx hb dX11_end_19 rfl (lv_at hl 1 rfl) ?_
      exact rtI (v := p0) B hr hlk hh hQ gH4 rfl ⟨by omega, by omega⟩ dX11_end_20
    · have f_3 := z_nle c_3 rfl rfl
      refine lv_iconst (v := (-1)) hx hb dX11_end_12 (by decide) ?_
      have := kl_m1
      have := kl_m1
      exact rtI (v := (-1)) B hr hlk hh hQ hG0 rfl ⟨by omega, by omega⟩ dX11_end_13

theorem dX11_begin_0 : decode cX11_begin 0 = .ok (.aload_n 0, 1) := by decide +kernel
theorem dX11_begin_1 : decode cX11_begin 1 = .ok (.getfield 39, 3) := by decide +kernel
theorem dX11_begin_4 : decode cX11_begin 4 = .ok (.aload_n 0, 1) := by decide +kernel
theorem dX11_begin_5 : decode cX11_begin 5 = .ok (.getfield 20, 3) := by decide +kernel
theorem dX11_begin_8 : decode cX11_begin 8 = .ok (.invokevirtual 108, 3) := by decide +kernel
theorem dX11_begin_11 : decode cX11_begin 11 = .ok (.aload_n 0, 1) := by decide +kernel
theorem dX11_begin_12 : decode cX11_begin 12 = .ok (.getfield 55, 3) := by decide +kernel
theorem dX11_begin_15 : decode cX11_begin 15 = .ok (.aload_n 0, 1) := by decide +kernel
theorem dX11_begin_16 : decode cX11_begin 16 = .ok (.getfield 20, 3) := by decide +kernel
theorem dX11_begin_19 : decode cX11_begin 19 = .ok (.getfield 112, 3) := by decide +kernel
theorem dX11_begin_22 : decode cX11_begin 22 = .ok (.invokevirtual 116, 3) := by decide +kernel
theorem dX11_begin_25 : decode cX11_begin 25 = .ok (.aload_n 0, 1) := by decide +kernel
theorem dX11_begin_26 : decode cX11_begin 26 = .ok (.getfield 71, 3) := by decide +kernel
theorem dX11_begin_29 : decode cX11_begin 29 = .ok (.aload_n 0, 1) := by decide +kernel
theorem dX11_begin_30 : decode cX11_begin 30 = .ok (.getfield 20, 3) := by decide +kernel
theorem dX11_begin_33 : decode cX11_begin 33 = .ok (.invokevirtual 119, 3) := by decide +kernel
theorem dX11_begin_36 : decode cX11_begin 36 = .ok (.aload_n 0, 1) := by decide +kernel
theorem dX11_begin_37 : decode cX11_begin 37 = .ok (.getfield 78, 3) := by decide +kernel
theorem dX11_begin_40 : decode cX11_begin 40 = .ok (.iconst 0, 1) := by decide +kernel
theorem dX11_begin_41 : decode cX11_begin 41 = .ok (.putfield 122, 3) := by decide +kernel
theorem dX11_begin_44 : decode cX11_begin 44 = .ok (.return_, 1) := by decide +kernel
def rm_X11_begin : Room := { frames := 16, cells := 0, slots := 0, locals := 409 }
abbrev wS_X11_begin : List (Nat × Nat) := [(1, 0), (1, 1), (3, 0), (3, 1), (3, 2), (3, 3), (3, 4), (4, 0), (4, 1), (5, 0), (5, 1), (5, 2), (5, 3), (5, 4), (5, 5), (5, 6), (8, 0), (20, 99), (21, 99), (22, 99), (23, 99), (24, 99), (26, 99), (27, 99), (28, 99), (29, 99), (30, 99), (31, 99), (32, 99), (38, 99)]
set_option maxRecDepth 100000 in
set_option maxHeartbeats 4000000 in
theorem c_X11_begin (l : Launch) (E : zE) (hV : zV E) (H0 : Heap) (hT0 : HT E H0) (h0 : Nat) (kh0 : eK E h0 = 12) : Met l yX11_begin (zws yX11_begin cX11_begin 1 none) rm_X11_begin (zP E H0 [.ref h0]) (zQV E E wS_X11_begin (fun H1 => True)) 0 0 (zfr E) := by
  refine zEnt (by decide) (Nat.le_of_ble_eq_true rfl) (fun p e s m args below meth c ls Q B hr hlk hh hQ hl => ?_)
  have hx := B.1
  have hb := B.2.1
  have hG0 : zG E wS_X11_begin H0 H0 [] := zG.rf hT0
  have hl : lv_has ls 1 [(0, .ref h0)] := hl
  refine lv_aload_n hx hb dX11_begin_0 rfl (lv_at hl 0 rfl) ?_
  refine g_getR B fl_RX11_39 hT0 kh0 rfl rfl rfl rfl rfl dX11_begin_1 (fun q_1 s_1 k_q_1 => ?_)
  refine lv_aload_n hx hb dX11_begin_4 rfl (lv_at hl 0 rfl) ?_
  refine g_getR B fl_RX11_20 hT0 kh0 rfl rfl rfl rfl rfl dX11_begin_5 (fun q_2 s_2 k_q_2 => ?_)
  refine zkV (zrV (rest := []) B (c_X2_install l E hV H0 hT0 q_1 k_q_1 q_2 k_q_2) cl_RX11_108 hT0 k_q_1 rfl rfl rfl rfl hl.1 rfl (Nat.le_of_ble_eq_true rfl) dX11_begin_8 rfl rfl ⟨rfl, rfl⟩ ⟨Nat.zero_le _, Nat.zero_le _⟩ (zO.of hG0 hh)) hG0 rfl (fun H3 lc3 hp_3 gH3 rH3 => ?_)
  have s_4 := rH3.keep hV kh0 rfl s_2
  refine lv_aload_n hx hb dX11_begin_11 rfl (lv_at hl 0 rfl) ?_
  refine g_getR B fl_RX11_55 gH3.1 kh0 rfl rfl rfl rfl rfl dX11_begin_12 (fun q_5 s_5 k_q_5 => ?_)
  refine lv_aload_n hx hb dX11_begin_15 rfl (lv_at hl 0 rfl) ?_
  refine g_get B fl_RX11_20 gH3.1 kh0 rfl rfl rfl dX11_begin_16 s_4 ?_
  refine g_getR B fl_RX11_112 gH3.1 k_q_2 rfl rfl rfl rfl rfl dX11_begin_19 (fun q_6 s_6 k_q_6 => ?_)
  refine zkV (zrV (rest := []) B (c_X3_begin l E hV H3 gH3.1 q_5 k_q_5 q_6 k_q_6) cl_RX11_116 gH3.1 k_q_5 rfl rfl rfl rfl hl.1 rfl (Nat.le_of_ble_eq_true rfl) dX11_begin_22 rfl rfl ⟨rfl, rfl⟩ ⟨Nat.zero_le _, Nat.zero_le _⟩ (zO.of gH3 hh)) gH3 rfl (fun H7 lc7 hp_7 gH7 rH7 => ?_)
  have s_8 := rH7.keep hV kh0 rfl s_4
  refine lv_aload_n hx hb dX11_begin_25 rfl (lv_at hl 0 rfl) ?_
  refine g_getR B fl_RX11_71 gH7.1 kh0 rfl rfl rfl rfl rfl dX11_begin_26 (fun q_9 s_9 k_q_9 => ?_)
  refine lv_aload_n hx hb dX11_begin_29 rfl (lv_at hl 0 rfl) ?_
  refine g_get B fl_RX11_20 gH7.1 kh0 rfl rfl rfl dX11_begin_30 s_8 ?_
  refine zkV (zrV (rest := []) B (c_X0_settle l E hV H7 gH7.1 q_9 k_q_9 q_2 k_q_2) cl_RX11_119 gH7.1 k_q_9 rfl rfl rfl rfl hl.1 rfl (Nat.le_of_ble_eq_true rfl) dX11_begin_33 rfl rfl ⟨rfl, rfl⟩ ⟨Nat.zero_le _, Nat.zero_le _⟩ (zO.of gH7 hh)) gH7 rfl (fun H10 lc10 hp_10 gH10 rH10 => ?_)
  refine lv_aload_n hx hb dX11_begin_36 rfl (lv_at hl 0 rfl) ?_
  refine g_getR B fl_RX11_78 gH10.1 kh0 rfl rfl rfl rfl rfl dX11_begin_37 (fun q_11 s_11 k_q_11 => ?_)
  refine lv_iconst (v := 0) hx hb dX11_begin_40 (by decide) ?_
  have := kl_0
  refine g_putI B fp_RX11_122 hV gH10 k_q_11 rfl rfl rfl rfl rfl (by omega) (by omega) rfl dX11_begin_41 (fun H12 lc12 gH12 uH12 => ?_)
  exact rtV B hr hlk hh hQ gH12 trivial dX11_begin_44

theorem dX11_game_0 : decode cX11_game 0 = .ok (.aload_n 0, 1) := by decide +kernel
theorem dX11_game_1 : decode cX11_game 1 = .ok (.getfield 24, 3) := by decide +kernel
theorem dX11_game_4 : decode cX11_game 4 = .ok (.invokevirtual 98, 3) := by decide +kernel
theorem dX11_game_7 : decode cX11_game 7 = .ok (.aload_n 0, 1) := by decide +kernel
theorem dX11_game_8 : decode cX11_game 8 = .ok (.getfield 32, 3) := by decide +kernel
theorem dX11_game_11 : decode cX11_game 11 = .ok (.aload_n 0, 1) := by decide +kernel
theorem dX11_game_12 : decode cX11_game 12 = .ok (.getfield 13, 3) := by decide +kernel
theorem dX11_game_15 : decode cX11_game 15 = .ok (.aload_n 0, 1) := by decide +kernel
theorem dX11_game_16 : decode cX11_game 16 = .ok (.getfield 24, 3) := by decide +kernel
theorem dX11_game_19 : decode cX11_game 19 = .ok (.invokevirtual 101, 3) := by decide +kernel
theorem dX11_game_22 : decode cX11_game 22 = .ok (.ifCond .ne 5, 3) := by decide +kernel
theorem dX11_game_25 : decode cX11_game 25 = .ok (.iconst (-1), 1) := by decide +kernel
theorem dX11_game_26 : decode cX11_game 26 = .ok (.ireturn, 1) := by decide +kernel
theorem dX11_game_27 : decode cX11_game 27 = .ok (.aload_n 0, 1) := by decide +kernel
theorem dX11_game_28 : decode cX11_game 28 = .ok (.getfield 20, 3) := by decide +kernel
theorem dX11_game_31 : decode cX11_game 31 = .ok (.astore_n 1, 1) := by decide +kernel
theorem dX11_game_32 : decode cX11_game 32 = .ok (.aload_n 0, 1) := by decide +kernel
theorem dX11_game_33 : decode cX11_game 33 = .ok (.aload_n 0, 1) := by decide +kernel
theorem dX11_game_34 : decode cX11_game 34 = .ok (.getfield 24, 3) := by decide +kernel
theorem dX11_game_37 : decode cX11_game 37 = .ok (.putfield 20, 3) := by decide +kernel
theorem dX11_game_40 : decode cX11_game 40 = .ok (.aload_n 0, 1) := by decide +kernel
theorem dX11_game_41 : decode cX11_game 41 = .ok (.aload_n 1, 1) := by decide +kernel
theorem dX11_game_42 : decode cX11_game 42 = .ok (.putfield 24, 3) := by decide +kernel
theorem dX11_game_45 : decode cX11_game 45 = .ok (.aload_n 0, 1) := by decide +kernel
theorem dX11_game_46 : decode cX11_game 46 = .ok (.iconst 0, 1) := by decide +kernel
theorem dX11_game_47 : decode cX11_game 47 = .ok (.putfield 13, 3) := by decide +kernel
theorem dX11_game_50 : decode cX11_game 50 = .ok (.aload_n 0, 1) := by decide +kernel
theorem dX11_game_51 : decode cX11_game 51 = .ok (.invokevirtual 91, 3) := by decide +kernel
theorem dX11_game_54 : decode cX11_game 54 = .ok (.aload_n 0, 1) := by decide +kernel
theorem dX11_game_55 : decode cX11_game 55 = .ok (.getfield 20, 3) := by decide +kernel
theorem dX11_game_58 : decode cX11_game 58 = .ok (.getfield 105, 3) := by decide +kernel
theorem dX11_game_61 : decode cX11_game 61 = .ok (.ireturn, 1) := by decide +kernel
def rm_X11_game : Room := { frames := 17, cells := 0, slots := 0, locals := 429 }
abbrev wS_X11_game : List (Nat × Nat) := [(1, 0), (1, 1), (3, 0), (3, 1), (3, 2), (3, 3), (3, 4), (4, 0), (4, 1), (5, 0), (5, 1), (5, 2), (5, 3), (5, 4), (5, 5), (5, 6), (6, 0), (6, 1), (6, 3), (6, 4), (6, 5), (6, 6), (6, 7), (6, 8), (8, 0), (10, 0), (10, 4), (11, 0), (11, 1), (11, 2), (11, 3), (11, 4), (12, 1), (12, 2), (12, 3), (20, 99), (21, 99), (22, 99), (23, 99), (24, 99), (26, 99), (27, 99), (28, 99), (29, 99), (30, 99), (31, 99), (32, 99), (38, 99), (39, 99), (48, 99), (49, 99), (51, 99), (52, 99), (53, 99), (54, 99), (55, 99), (56, 99), (57, 99)]
set_option maxRecDepth 100000 in
set_option maxHeartbeats 4000000 in
theorem c_X11_game (l : Launch) (E : zE) (hV : zV E) (H0 : Heap) (hT0 : HT E H0) (h0 : Nat) (kh0 : eK E h0 = 12) : Met l yX11_game (zws yX11_game cX11_game 2 (some .int)) rm_X11_game (zP E H0 [.ref h0]) (zQI E E wS_X11_game (fun r H1 => True)) 0 0 (zfr E) := by
  refine zEnt (by decide) (Nat.le_of_ble_eq_true rfl) (fun p e s m args below meth c ls Q B hr hlk hh hQ hl => ?_)
  have hx := B.1
  have hb := B.2.1
  have hG0 : zG E wS_X11_game H0 H0 [] := zG.rf hT0
  have hl : lv_has ls 2 [(0, .ref h0)] := hl
  refine lv_aload_n hx hb dX11_game_0 rfl (lv_at hl 0 rfl) ?_
  refine g_getR B fl_RX11_24 hT0 kh0 rfl rfl rfl rfl rfl dX11_game_1 (fun q_1 s_1 k_q_1 => ?_)
  refine zkV (zrV (rest := []) B (c_X10_forget l E hV H0 hT0 q_1 k_q_1) cl_RX11_98 hT0 k_q_1 rfl rfl rfl rfl hl.1 rfl (Nat.le_of_ble_eq_true rfl) dX11_game_4 rfl rfl ⟨rfl, rfl⟩ ⟨Nat.zero_le _, Nat.zero_le _⟩ (zO.of hG0 hh)) hG0 rfl (fun H2 lc2 hp_2 gH2 rH2 => ?_)
  have s_3 := rH2.keep hV kh0 rfl s_1
  refine lv_aload_n hx hb dX11_game_7 rfl (lv_at hl 0 rfl) ?_
  refine g_getR B fl_RX11_32 gH2.1 kh0 rfl rfl rfl rfl rfl dX11_game_8 (fun q_4 s_4 k_q_4 => ?_)
  refine lv_aload_n hx hb dX11_game_11 rfl (lv_at hl 0 rfl) ?_
  refine g_getI B fl_RX11_13 gH2.1 kh0 rfl rfl rfl rfl rfl dX11_game_12 (fun x_5 s_5 a_5 b_5 => ?_)
  refine lv_aload_n hx hb dX11_game_15 rfl (lv_at hl 0 rfl) ?_
  refine g_get B fl_RX11_24 gH2.1 kh0 rfl rfl rfl dX11_game_16 s_3 ?_
  refine zkI (zrV (rest := []) B (c_X5_read l E hV H2 gH2.1 q_4 k_q_4 x_5 (by omega) (by omega) q_1 k_q_1) cl_RX11_101 gH2.1 k_q_4 rfl rfl rfl rfl hl.1 rfl (Nat.le_of_ble_eq_true rfl) dX11_game_19 rfl rfl ⟨rfl, rfl⟩ ⟨Nat.zero_le _, Nat.zero_le _⟩ (zO.of gH2 hh)) gH2 rfl (fun x_6 H6 lc6 hp_6 gH6 rH6 => ?_)
  have s_7 := rH6.keep hV kh0 rfl s_3
  obtain ⟨hp_6_1, hp_6_2⟩ := hp_6
  refine lv_if_ne (tgt := 27) hx hb dX11_game_22 (by decide) (fun c_8 => ?_) (fun c_8 => ?_)
  · have f_8 := z_ne c_8 rfl kl_0
    refine lv_aload_n hx hb dX11_game_27 rfl (lv_at hl 0 rfl) ?_
    refine g_getR B fl_RX11_20 gH6.1 kh0 rfl rfl rfl rfl rfl dX11_game_28 (fun q_9 s_9 k_q_9 => ?_)
    refine lv_astore_n (lv' := [(1, .ref q_9), (0, .ref h0)]) hx hb dX11_game_31 rfl hl (by decide) rfl (fun ls hl => ?_)
    refine lv_aload_n hx hb dX11_game_32 rfl (lv_at hl 1 rfl) ?_
    refine lv_aload_n hx hb dX11_game_33 rfl (lv_at hl 1 rfl) ?_
    refine g_get B fl_RX11_24 gH6.1 kh0 rfl rfl rfl dX11_game_34 s_7 ?_
    refine g_putR B fp_RX11_20 hV gH6 kh0 rfl rfl rfl rfl rfl k_q_1 rfl rfl rfl dX11_game_37 (fun H10 lc10 gH10 uH10 => ?_)
    refine lv_aload_n hx hb dX11_game_40 rfl (lv_at hl 1 rfl) ?_
    refine lv_aload_n hx hb dX11_game_41 rfl (lv_at hl 0 rfl) ?_
    refine g_putR B fp_RX11_24 hV gH10 kh0 rfl rfl rfl rfl rfl k_q_9 rfl rfl rfl dX11_game_42 (fun H11 lc11 gH11 uH11 => ?_)
    have s_12 := uH11.keep (Or.inr (j_ne hV rfl rfl rfl rfl)) uH10.2.1
    refine lv_aload_n hx hb dX11_game_45 rfl (lv_at hl 1 rfl) ?_
    refine lv_iconst (v := 0) hx hb dX11_game_46 (by decide) ?_
    have := kl_0
    refine g_putI B fp_RX11_13 hV gH11 kh0 rfl rfl rfl rfl rfl (by omega) (by omega) rfl dX11_game_47 (fun H13 lc13 gH13 uH13 => ?_)
    have s_14 := uH13.keep (Or.inr (j_ne hV rfl rfl rfl rfl)) s_12
    refine lv_aload_n hx hb dX11_game_50 rfl (lv_at hl 1 rfl) ?_
    refine zkV (zrV (rest := []) B (c_X11_begin l E hV H13 gH13.1 h0 kh0) cl_RX11_91 gH13.1 kh0 rfl rfl rfl rfl hl.1 rfl (Nat.le_of_ble_eq_true rfl) dX11_game_51 rfl rfl ⟨rfl, rfl⟩ ⟨Nat.zero_le _, Nat.zero_le _⟩ (zO.of gH13 hh)) gH13 rfl (fun H15 lc15 hp_15 gH15 rH15 => ?_)
    have s_16 := rH15.keep hV kh0 rfl s_14
    refine lv_aload_n hx hb dX11_game_54 rfl (lv_at hl 1 rfl) ?_
    refine g_get B fl_RX11_20 gH15.1 kh0 rfl rfl rfl dX11_game_55 s_16 ?_
    refine g_getI B fl_RX11_105 gH15.1 k_q_1 rfl rfl rfl rfl rfl dX11_game_58 (fun x_17 s_17 a_17 b_17 => ?_)
    exact rtI (v := x_17) B hr hlk hh hQ gH15 rfl trivial dX11_game_61
  · have f_8 := z_eq c_8 rfl kl_0
    refine lv_iconst (v := (-1)) hx hb dX11_game_25 (by decide) ?_
    have := kl_m1
    have := kl_m1
    exact rtI (v := (-1)) B hr hlk hh hQ gH6 rfl trivial dX11_game_26

theorem dX11_fault_0 : decode cX11_fault 0 = .ok (.iload_n 1, 1) := by decide +kernel
theorem dX11_fault_1 : decode cX11_fault 1 = .ok (.ifCond .ne 11, 3) := by decide +kernel
theorem dX11_fault_4 : decode cX11_fault 4 = .ok (.aload_n 0, 1) := by decide +kernel
theorem dX11_fault_5 : decode cX11_fault 5 = .ok (.getfield 32, 3) := by decide +kernel
theorem dX11_fault_8 : decode cX11_fault 8 = .ok (.getfield 125, 3) := by decide +kernel
theorem dX11_fault_11 : decode cX11_fault 11 = .ok (.ireturn, 1) := by decide +kernel
theorem dX11_fault_12 : decode cX11_fault 12 = .ok (.iload_n 1, 1) := by decide +kernel
theorem dX11_fault_13 : decode cX11_fault 13 = .ok (.iconst 1, 1) := by decide +kernel
theorem dX11_fault_14 : decode cX11_fault 14 = .ok (.if_icmp .ne 13, 3) := by decide +kernel
theorem dX11_fault_17 : decode cX11_fault 17 = .ok (.aload_n 0, 1) := by decide +kernel
theorem dX11_fault_18 : decode cX11_fault 18 = .ok (.getfield 32, 3) := by decide +kernel
theorem dX11_fault_21 : decode cX11_fault 21 = .ok (.getfield 128, 3) := by decide +kernel
theorem dX11_fault_24 : decode cX11_fault 24 = .ok (.goto 4, 3) := by decide +kernel
theorem dX11_fault_27 : decode cX11_fault 27 = .ok (.iconst (-1), 1) := by decide +kernel
theorem dX11_fault_28 : decode cX11_fault 28 = .ok (.ireturn, 1) := by decide +kernel
def rm_X11_fault : Room := { frames := 0, cells := 0, slots := 0, locals := 0 }
set_option maxRecDepth 100000 in
set_option maxHeartbeats 4000000 in
theorem c_X11_fault (l : Launch) (E : zE) (hV : zV E) (H0 : Heap) (hT0 : HT E H0) (h0 : Nat) (kh0 : eK E h0 = 12) (p0 : Int32) : Met l yX11_fault (zws yX11_fault cX11_fault 2 (some .int)) rm_X11_fault (zP E H0 [.ref h0, .int p0]) (zPI (fun r => True)) 0 0 (fun _ => False) := by
  refine zEnt (by decide) (Nat.le_of_ble_eq_true rfl) (fun p e s m args below meth c ls Q B hr hlk hh hQ hl => ?_)
  have hx := B.1
  have hb := B.2.1
  have hl : lv_has ls 2 [(0, .ref h0), (1, .int p0)] := hl
  refine lv_iload_n hx hb dX11_fault_0 rfl (lv_at hl 1 rfl) ?_
  refine lv_if_ne (tgt := 12) hx hb dX11_fault_1 (by decide) (fun c_1 => ?_) (fun c_1 => ?_)
  · have f_1 := z_ne c_1 rfl kl_0
    refine lv_iload_n hx hb dX11_fault_12 rfl (lv_at hl 1 rfl) ?_
    refine lv_iconst (v := 1) hx hb dX11_fault_13 (by decide) ?_
    refine lv_icmp_ne (tgt := 27) hx hb dX11_fault_14 (by decide) (fun c_2 => ?_) (fun c_2 => ?_)
    · have f_2 := z_ne c_2 rfl kl_1
      refine lv_iconst (v := (-1)) hx hb dX11_fault_27 (by decide) ?_
      have := kl_m1
      have := kl_m1
      exact rtPI (v := (-1)) B hr hlk hh hQ rfl trivial dX11_fault_28
    · have f_2 := z_eq c_2 rfl kl_1
      refine lv_aload_n hx hb dX11_fault_17 rfl (lv_at hl 0 rfl) ?_
      refine g_getR B fl_RX11_32 hT0 kh0 rfl rfl rfl rfl rfl dX11_fault_18 (fun q_3 s_3 k_q_3 => ?_)
      refine g_getI B fl_RX11_128 hT0 k_q_3 rfl rfl rfl rfl rfl dX11_fault_21 (fun x_4 s_4 a_4 b_4 => ?_)
      refine lv_goto (tgt := 28) hx hb dX11_fault_24 (by decide) ?_
      exact rtPI (v := x_4) B hr hlk hh hQ rfl trivial dX11_fault_28
  · have f_1 := z_eq c_1 rfl kl_0
    refine lv_aload_n hx hb dX11_fault_4 rfl (lv_at hl 0 rfl) ?_
    refine g_getR B fl_RX11_32 hT0 kh0 rfl rfl rfl rfl rfl dX11_fault_5 (fun q_5 s_5 k_q_5 => ?_)
    refine g_getI B fl_RX11_125 hT0 k_q_5 rfl rfl rfl rfl rfl dX11_fault_8 (fun x_6 s_6 a_6 b_6 => ?_)
    exact rtPI (v := x_6) B hr hlk hh hQ rfl trivial dX11_fault_11

theorem dX11_at_0 : decode cX11_at 0 = .ok (.iload_n 1, 1) := by decide +kernel
theorem dX11_at_1 : decode cX11_at 1 = .ok (.invokestatic 131, 3) := by decide +kernel
theorem dX11_at_4 : decode cX11_at 4 = .ok (.ifCond .eq 18, 3) := by decide +kernel
theorem dX11_at_7 : decode cX11_at 7 = .ok (.iload_n 2, 1) := by decide +kernel
theorem dX11_at_8 : decode cX11_at 8 = .ok (.ifCond .lt 14, 3) := by decide +kernel
theorem dX11_at_11 : decode cX11_at 11 = .ok (.iload_n 2, 1) := by decide +kernel
theorem dX11_at_12 : decode cX11_at 12 = .ok (.aload_n 0, 1) := by decide +kernel
theorem dX11_at_13 : decode cX11_at 13 = .ok (.getfield 39, 3) := by decide +kernel
theorem dX11_at_16 : decode cX11_at 16 = .ok (.getfield 135, 3) := by decide +kernel
theorem dX11_at_19 : decode cX11_at 19 = .ok (.if_icmp .lt 5, 3) := by decide +kernel
theorem dX11_at_22 : decode cX11_at 22 = .ok (.iconst (-1), 1) := by decide +kernel
theorem dX11_at_23 : decode cX11_at 23 = .ok (.ireturn, 1) := by decide +kernel
theorem dX11_at_24 : decode cX11_at 24 = .ok (.aload_n 0, 1) := by decide +kernel
theorem dX11_at_25 : decode cX11_at 25 = .ok (.getfield 55, 3) := by decide +kernel
theorem dX11_at_28 : decode cX11_at 28 = .ok (.iload_n 1, 1) := by decide +kernel
theorem dX11_at_29 : decode cX11_at 29 = .ok (.invokevirtual 138, 3) := by decide +kernel
theorem dX11_at_32 : decode cX11_at 32 = .ok (.iload_n 2, 1) := by decide +kernel
theorem dX11_at_33 : decode cX11_at 33 = .ok (.invokevirtual 142, 3) := by decide +kernel
theorem dX11_at_36 : decode cX11_at 36 = .ok (.ireturn, 1) := by decide +kernel
def rm_X11_at : Room := { frames := 2, cells := 0, slots := 0, locals := 42 }
set_option maxRecDepth 100000 in
set_option maxHeartbeats 4000000 in
theorem c_X11_at (l : Launch) (E : zE) (hV : zV E) (H0 : Heap) (hT0 : HT E H0) (h0 : Nat) (kh0 : eK E h0 = 12) (p0 : Int32) (p1 : Int32) : Met l yX11_at (zws yX11_at cX11_at 3 (some .int)) rm_X11_at (zP E H0 [.ref h0, .int p0, .int p1]) (zPI (fun r => (-1) ≤ r.toInt ∧ r.toInt ≤ 15)) 0 0 (fun _ => False) := by
  refine zEnt (by decide) (Nat.le_of_ble_eq_true rfl) (fun p e s m args below meth c ls Q B hr hlk hh hQ hl => ?_)
  have hx := B.1
  have hb := B.2.1
  have hl : lv_has ls 3 [(0, .ref h0), (1, .int p0), (2, .int p1)] := hl
  refine lv_iload_n hx hb dX11_at_0 rfl (lv_at hl 1 rfl) ?_
  refine zkPI (zrS (rest := []) B (c_X11_isKeeper l E hV H0 hT0 p0) cs_RX11_131 rfl hl.1 rfl (Nat.le_of_ble_eq_true rfl) dX11_at_1 rfl rfl ⟨rfl, rfl⟩ ⟨Nat.zero_le _, Nat.zero_le _⟩ (zO.rf hh)) (fun x_1 hp_1 => ?_)
  obtain ⟨hp_1_1, hp_1_2, hp_1_3⟩ := hp_1
  refine lv_if_eq (tgt := 22) hx hb dX11_at_4 (by decide) (fun c_2 => ?_) (fun c_2 => ?_)
  · have f_2 := z_eq c_2 rfl kl_0
    refine lv_iconst (v := (-1)) hx hb dX11_at_22 (by decide) ?_
    have := kl_m1
    have := kl_m1
    exact rtPI (v := (-1)) B hr hlk hh hQ rfl ⟨by omega, by omega⟩ dX11_at_23
  · have f_2 := z_ne c_2 rfl kl_0
    refine lv_iload_n hx hb dX11_at_7 rfl (lv_at hl 2 rfl) ?_
    refine lv_if_lt (tgt := 22) hx hb dX11_at_8 (by decide) (fun c_3 => ?_) (fun c_3 => ?_)
    · have f_3 := z_lt c_3 rfl kl_0
      refine lv_iconst (v := (-1)) hx hb dX11_at_22 (by decide) ?_
      have := kl_m1
      have := kl_m1
      exact rtPI (v := (-1)) B hr hlk hh hQ rfl ⟨by omega, by omega⟩ dX11_at_23
    · have f_3 := z_nlt c_3 rfl kl_0
      refine lv_iload_n hx hb dX11_at_11 rfl (lv_at hl 2 rfl) ?_
      refine lv_aload_n hx hb dX11_at_12 rfl (lv_at hl 0 rfl) ?_
      refine g_getR B fl_RX11_39 hT0 kh0 rfl rfl rfl rfl rfl dX11_at_13 (fun q_4 s_4 k_q_4 => ?_)
      refine g_getI B fl_RX11_135 hT0 k_q_4 rfl rfl rfl rfl rfl dX11_at_16 (fun x_5 s_5 a_5 b_5 => ?_)
      refine lv_icmp_lt (tgt := 24) hx hb dX11_at_19 (by decide) (fun c_6 => ?_) (fun c_6 => ?_)
      · have f_6 := z_lt c_6 rfl rfl
        refine lv_aload_n hx hb dX11_at_24 rfl (lv_at hl 0 rfl) ?_
        refine g_getR B fl_RX11_55 hT0 kh0 rfl rfl rfl rfl rfl dX11_at_25 (fun q_7 s_7 k_q_7 => ?_)
        refine lv_iload_n hx hb dX11_at_28 rfl (lv_at hl 1 rfl) ?_
        refine zkPR (zrV (rest := []) B (c_X3_boardNow l E hV H0 hT0 q_7 k_q_7 p0 (by omega) (by omega)) cl_RX11_138 hT0 k_q_7 rfl rfl rfl rfl hl.1 rfl (Nat.le_of_ble_eq_true rfl) dX11_at_29 rfl rfl ⟨rfl, rfl⟩ ⟨Nat.zero_le _, Nat.zero_le _⟩ (zO.rf hh)) (fun q_8 hp_8 => ?_)
        refine lv_iload_n hx hb dX11_at_32 rfl (lv_at hl 2 rfl) ?_
        refine zkPI (zrV (rest := []) B (c_X4_manOn l E hV H0 hT0 q_8 hp_8 p1) cl_RX11_142 hT0 hp_8 rfl rfl rfl rfl hl.1 rfl (Nat.le_of_ble_eq_true rfl) dX11_at_33 rfl rfl ⟨rfl, rfl⟩ ⟨Nat.zero_le _, Nat.zero_le _⟩ (zO.rf hh)) (fun x_9 hp_9 => ?_)
        obtain ⟨hp_9_1, hp_9_2⟩ := hp_9
        exact rtPI (v := x_9) B hr hlk hh hQ rfl ⟨by omega, by omega⟩ dX11_at_36
      · have f_6 := z_nlt c_6 rfl rfl
        refine lv_iconst (v := (-1)) hx hb dX11_at_22 (by decide) ?_
        have := kl_m1
        have := kl_m1
        exact rtPI (v := (-1)) B hr hlk hh hQ rfl ⟨by omega, by omega⟩ dX11_at_23

theorem dX11_turn_0 : decode cX11_turn 0 = .ok (.iload_n 1, 1) := by decide +kernel
theorem dX11_turn_1 : decode cX11_turn 1 = .ok (.invokestatic 131, 3) := by decide +kernel
theorem dX11_turn_4 : decode cX11_turn 4 = .ok (.ifCond .eq 17, 3) := by decide +kernel
theorem dX11_turn_7 : decode cX11_turn 7 = .ok (.aload_n 0, 1) := by decide +kernel
theorem dX11_turn_8 : decode cX11_turn 8 = .ok (.getfield 55, 3) := by decide +kernel
theorem dX11_turn_11 : decode cX11_turn 11 = .ok (.iload_n 1, 1) := by decide +kernel
theorem dX11_turn_12 : decode cX11_turn 12 = .ok (.invokevirtual 138, 3) := by decide +kernel
theorem dX11_turn_15 : decode cX11_turn 15 = .ok (.getfield 148, 3) := by decide +kernel
theorem dX11_turn_18 : decode cX11_turn 18 = .ok (.goto 4, 3) := by decide +kernel
theorem dX11_turn_21 : decode cX11_turn 21 = .ok (.iconst (-1), 1) := by decide +kernel
theorem dX11_turn_22 : decode cX11_turn 22 = .ok (.ireturn, 1) := by decide +kernel
def rm_X11_turn : Room := { frames := 1, cells := 0, slots := 0, locals := 21 }
set_option maxRecDepth 100000 in
set_option maxHeartbeats 4000000 in
theorem c_X11_turn (l : Launch) (E : zE) (hV : zV E) (H0 : Heap) (hT0 : HT E H0) (h0 : Nat) (kh0 : eK E h0 = 12) (p0 : Int32) : Met l yX11_turn (zws yX11_turn cX11_turn 2 (some .int)) rm_X11_turn (zP E H0 [.ref h0, .int p0]) (zPI (fun r => (-1) ≤ r.toInt ∧ r.toInt ≤ 1)) 0 0 (fun _ => False) := by
  refine zEnt (by decide) (Nat.le_of_ble_eq_true rfl) (fun p e s m args below meth c ls Q B hr hlk hh hQ hl => ?_)
  have hx := B.1
  have hb := B.2.1
  have hl : lv_has ls 2 [(0, .ref h0), (1, .int p0)] := hl
  refine lv_iload_n hx hb dX11_turn_0 rfl (lv_at hl 1 rfl) ?_
  refine zkPI (zrS (rest := []) B (c_X11_isKeeper l E hV H0 hT0 p0) cs_RX11_131 rfl hl.1 rfl (Nat.le_of_ble_eq_true rfl) dX11_turn_1 rfl rfl ⟨rfl, rfl⟩ ⟨Nat.zero_le _, Nat.zero_le _⟩ (zO.rf hh)) (fun x_1 hp_1 => ?_)
  obtain ⟨hp_1_1, hp_1_2, hp_1_3⟩ := hp_1
  refine lv_if_eq (tgt := 21) hx hb dX11_turn_4 (by decide) (fun c_2 => ?_) (fun c_2 => ?_)
  · have f_2 := z_eq c_2 rfl kl_0
    refine lv_iconst (v := (-1)) hx hb dX11_turn_21 (by decide) ?_
    have := kl_m1
    have := kl_m1
    exact rtPI (v := (-1)) B hr hlk hh hQ rfl ⟨by omega, by omega⟩ dX11_turn_22
  · have f_2 := z_ne c_2 rfl kl_0
    refine lv_aload_n hx hb dX11_turn_7 rfl (lv_at hl 0 rfl) ?_
    refine g_getR B fl_RX11_55 hT0 kh0 rfl rfl rfl rfl rfl dX11_turn_8 (fun q_3 s_3 k_q_3 => ?_)
    refine lv_iload_n hx hb dX11_turn_11 rfl (lv_at hl 1 rfl) ?_
    refine zkPR (zrV (rest := []) B (c_X3_boardNow l E hV H0 hT0 q_3 k_q_3 p0 (by omega) (by omega)) cl_RX11_138 hT0 k_q_3 rfl rfl rfl rfl hl.1 rfl (Nat.le_of_ble_eq_true rfl) dX11_turn_12 rfl rfl ⟨rfl, rfl⟩ ⟨Nat.zero_le _, Nat.zero_le _⟩ (zO.rf hh)) (fun q_4 hp_4 => ?_)
    refine g_getI B fl_RX11_148 hT0 hp_4 rfl rfl rfl rfl rfl dX11_turn_15 (fun x_5 s_5 a_5 b_5 => ?_)
    refine lv_goto (tgt := 22) hx hb dX11_turn_18 (by decide) ?_
    exact rtPI (v := x_5) B hr hlk hh hQ rfl ⟨by omega, by omega⟩ dX11_turn_22

theorem dX11_moves_0 : decode cX11_moves 0 = .ok (.iload_n 1, 1) := by decide +kernel
theorem dX11_moves_1 : decode cX11_moves 1 = .ok (.invokestatic 131, 3) := by decide +kernel
theorem dX11_moves_4 : decode cX11_moves 4 = .ok (.ifCond .eq 21, 3) := by decide +kernel
theorem dX11_moves_7 : decode cX11_moves 7 = .ok (.aload_n 0, 1) := by decide +kernel
theorem dX11_moves_8 : decode cX11_moves 8 = .ok (.getfield 39, 3) := by decide +kernel
theorem dX11_moves_11 : decode cX11_moves 11 = .ok (.aload_n 0, 1) := by decide +kernel
theorem dX11_moves_12 : decode cX11_moves 12 = .ok (.getfield 55, 3) := by decide +kernel
theorem dX11_moves_15 : decode cX11_moves 15 = .ok (.iload_n 1, 1) := by decide +kernel
theorem dX11_moves_16 : decode cX11_moves 16 = .ok (.invokevirtual 138, 3) := by decide +kernel
theorem dX11_moves_19 : decode cX11_moves 19 = .ok (.invokevirtual 151, 3) := by decide +kernel
theorem dX11_moves_22 : decode cX11_moves 22 = .ok (.goto 4, 3) := by decide +kernel
theorem dX11_moves_25 : decode cX11_moves 25 = .ok (.iconst (-1), 1) := by decide +kernel
theorem dX11_moves_26 : decode cX11_moves 26 = .ok (.ireturn, 1) := by decide +kernel
def rm_X11_moves : Room := { frames := 3, cells := 0, slots := 0, locals := 82 }
set_option maxRecDepth 100000 in
set_option maxHeartbeats 4000000 in
theorem c_X11_moves (l : Launch) (E : zE) (hV : zV E) (H0 : Heap) (hT0 : HT E H0) (h0 : Nat) (kh0 : eK E h0 = 12) (p0 : Int32) : Met l yX11_moves (zws yX11_moves cX11_moves 2 (some .int)) rm_X11_moves (zP E H0 [.ref h0, .int p0]) (zPI (fun r => True)) 0 0 (fun _ => False) := by
  refine zEnt (by decide) (Nat.le_of_ble_eq_true rfl) (fun p e s m args below meth c ls Q B hr hlk hh hQ hl => ?_)
  have hx := B.1
  have hb := B.2.1
  have hl : lv_has ls 2 [(0, .ref h0), (1, .int p0)] := hl
  refine lv_iload_n hx hb dX11_moves_0 rfl (lv_at hl 1 rfl) ?_
  refine zkPI (zrS (rest := []) B (c_X11_isKeeper l E hV H0 hT0 p0) cs_RX11_131 rfl hl.1 rfl (Nat.le_of_ble_eq_true rfl) dX11_moves_1 rfl rfl ⟨rfl, rfl⟩ ⟨Nat.zero_le _, Nat.zero_le _⟩ (zO.rf hh)) (fun x_1 hp_1 => ?_)
  obtain ⟨hp_1_1, hp_1_2, hp_1_3⟩ := hp_1
  refine lv_if_eq (tgt := 25) hx hb dX11_moves_4 (by decide) (fun c_2 => ?_) (fun c_2 => ?_)
  · have f_2 := z_eq c_2 rfl kl_0
    refine lv_iconst (v := (-1)) hx hb dX11_moves_25 (by decide) ?_
    have := kl_m1
    have := kl_m1
    exact rtPI (v := (-1)) B hr hlk hh hQ rfl trivial dX11_moves_26
  · have f_2 := z_ne c_2 rfl kl_0
    refine lv_aload_n hx hb dX11_moves_7 rfl (lv_at hl 0 rfl) ?_
    refine g_getR B fl_RX11_39 hT0 kh0 rfl rfl rfl rfl rfl dX11_moves_8 (fun q_3 s_3 k_q_3 => ?_)
    refine lv_aload_n hx hb dX11_moves_11 rfl (lv_at hl 0 rfl) ?_
    refine g_getR B fl_RX11_55 hT0 kh0 rfl rfl rfl rfl rfl dX11_moves_12 (fun q_4 s_4 k_q_4 => ?_)
    refine lv_iload_n hx hb dX11_moves_15 rfl (lv_at hl 1 rfl) ?_
    refine zkPR (zrV (rest := [.ref q_3]) B (c_X3_boardNow l E hV H0 hT0 q_4 k_q_4 p0 (by omega) (by omega)) cl_RX11_138 hT0 k_q_4 rfl rfl rfl rfl hl.1 rfl (Nat.le_of_ble_eq_true rfl) dX11_moves_16 rfl rfl ⟨rfl, rfl⟩ ⟨Nat.zero_le _, Nat.zero_le _⟩ (zO.rf hh)) (fun q_5 hp_5 => ?_)
    refine zkPI (zrV (rest := []) B (c_X2_countMoves l E hV H0 hT0 q_3 k_q_3 q_5 hp_5) cl_RX11_151 hT0 k_q_3 rfl rfl rfl rfl hl.1 rfl (Nat.le_of_ble_eq_true rfl) dX11_moves_19 rfl rfl ⟨rfl, rfl⟩ ⟨Nat.zero_le _, Nat.zero_le _⟩ (zO.rf hh)) (fun x_6 hp_6 => ?_)
    refine lv_goto (tgt := 26) hx hb dX11_moves_22 (by decide) ?_
    exact rtPI (v := x_6) B hr hlk hh hQ rfl trivial dX11_moves_26

theorem dX11_move_0 : decode cX11_move 0 = .ok (.iload_n 1, 1) := by decide +kernel
theorem dX11_move_1 : decode cX11_move 1 = .ok (.invokestatic 131, 3) := by decide +kernel
theorem dX11_move_4 : decode cX11_move 4 = .ok (.ifCond .eq 12, 3) := by decide +kernel
theorem dX11_move_7 : decode cX11_move 7 = .ok (.iload_n 3, 1) := by decide +kernel
theorem dX11_move_8 : decode cX11_move 8 = .ok (.ifCond .lt 8, 3) := by decide +kernel
theorem dX11_move_11 : decode cX11_move 11 = .ok (.iload_n 3, 1) := by decide +kernel
theorem dX11_move_12 : decode cX11_move 12 = .ok (.iconst 2, 1) := by decide +kernel
theorem dX11_move_13 : decode cX11_move 13 = .ok (.if_icmp .le 6, 3) := by decide +kernel
theorem dX11_move_16 : decode cX11_move 16 = .ok (.bipush (-2), 2) := by decide +kernel
theorem dX11_move_18 : decode cX11_move 18 = .ok (.ireturn, 1) := by decide +kernel
theorem dX11_move_19 : decode cX11_move 19 = .ok (.aload_n 0, 1) := by decide +kernel
theorem dX11_move_20 : decode cX11_move 20 = .ok (.getfield 55, 3) := by decide +kernel
theorem dX11_move_23 : decode cX11_move 23 = .ok (.iload_n 1, 1) := by decide +kernel
theorem dX11_move_24 : decode cX11_move 24 = .ok (.invokevirtual 138, 3) := by decide +kernel
theorem dX11_move_27 : decode cX11_move 27 = .ok (.astore 4, 2) := by decide +kernel
theorem dX11_move_29 : decode cX11_move 29 = .ok (.aload_n 0, 1) := by decide +kernel
theorem dX11_move_30 : decode cX11_move 30 = .ok (.getfield 39, 3) := by decide +kernel
theorem dX11_move_33 : decode cX11_move 33 = .ok (.aload 4, 2) := by decide +kernel
theorem dX11_move_35 : decode cX11_move 35 = .ok (.iload_n 2, 1) := by decide +kernel
theorem dX11_move_36 : decode cX11_move 36 = .ok (.invokevirtual 155, 3) := by decide +kernel
theorem dX11_move_39 : decode cX11_move 39 = .ok (.istore 5, 2) := by decide +kernel
theorem dX11_move_41 : decode cX11_move 41 = .ok (.iload 5, 2) := by decide +kernel
theorem dX11_move_43 : decode cX11_move 43 = .ok (.iconst (-1), 1) := by decide +kernel
theorem dX11_move_44 : decode cX11_move 44 = .ok (.if_icmp .ne 6, 3) := by decide +kernel
theorem dX11_move_47 : decode cX11_move 47 = .ok (.bipush (-2), 2) := by decide +kernel
theorem dX11_move_49 : decode cX11_move 49 = .ok (.ireturn, 1) := by decide +kernel
theorem dX11_move_50 : decode cX11_move 50 = .ok (.iload_n 3, 1) := by decide +kernel
theorem dX11_move_51 : decode cX11_move 51 = .ok (.ifCond .ne 9, 3) := by decide +kernel
theorem dX11_move_54 : decode cX11_move 54 = .ok (.iload 5, 2) := by decide +kernel
theorem dX11_move_56 : decode cX11_move 56 = .ok (.invokestatic 159, 3) := by decide +kernel
theorem dX11_move_59 : decode cX11_move 59 = .ok (.ireturn, 1) := by decide +kernel
theorem dX11_move_60 : decode cX11_move 60 = .ok (.iload_n 3, 1) := by decide +kernel
theorem dX11_move_61 : decode cX11_move 61 = .ok (.iconst 1, 1) := by decide +kernel
theorem dX11_move_62 : decode cX11_move 62 = .ok (.if_icmp .ne 11, 3) := by decide +kernel
theorem dX11_move_65 : decode cX11_move 65 = .ok (.iload 5, 2) := by decide +kernel
theorem dX11_move_67 : decode cX11_move 67 = .ok (.invokestatic 162, 3) := by decide +kernel
theorem dX11_move_70 : decode cX11_move 70 = .ok (.goto 13, 3) := by decide +kernel
theorem dX11_move_73 : decode cX11_move 73 = .ok (.aload 4, 2) := by decide +kernel
theorem dX11_move_75 : decode cX11_move 75 = .ok (.iload 5, 2) := by decide +kernel
theorem dX11_move_77 : decode cX11_move 77 = .ok (.invokestatic 162, 3) := by decide +kernel
theorem dX11_move_80 : decode cX11_move 80 = .ok (.invokevirtual 142, 3) := by decide +kernel
theorem dX11_move_83 : decode cX11_move 83 = .ok (.ireturn, 1) := by decide +kernel
def rm_X11_move : Room := { frames := 3, cells := 0, slots := 0, locals := 85 }
set_option maxRecDepth 100000 in
set_option maxHeartbeats 4000000 in
theorem c_X11_move (l : Launch) (E : zE) (hV : zV E) (H0 : Heap) (hT0 : HT E H0) (h0 : Nat) (kh0 : eK E h0 = 12) (p0 : Int32) (p1 : Int32) (p2 : Int32) : Met l yX11_move (zws yX11_move cX11_move 6 (some .int)) rm_X11_move (zP E H0 [.ref h0, .int p0, .int p1, .int p2]) (zPI (fun r => True)) 0 0 (fun _ => False) := by
  refine zEnt (by decide) (Nat.le_of_ble_eq_true rfl) (fun p e s m args below meth c ls Q B hr hlk hh hQ hl => ?_)
  have hx := B.1
  have hb := B.2.1
  have hl : lv_has ls 6 [(0, .ref h0), (1, .int p0), (2, .int p1), (3, .int p2)] := hl
  refine lv_iload_n hx hb dX11_move_0 rfl (lv_at hl 1 rfl) ?_
  refine zkPI (zrS (rest := []) B (c_X11_isKeeper l E hV H0 hT0 p0) cs_RX11_131 rfl hl.1 rfl (Nat.le_of_ble_eq_true rfl) dX11_move_1 rfl rfl ⟨rfl, rfl⟩ ⟨Nat.zero_le _, Nat.zero_le _⟩ (zO.rf hh)) (fun x_1 hp_1 => ?_)
  obtain ⟨hp_1_1, hp_1_2, hp_1_3⟩ := hp_1
  refine lv_if_eq (tgt := 16) hx hb dX11_move_4 (by decide) (fun c_2 => ?_) (fun c_2 => ?_)
  · have f_2 := z_eq c_2 rfl kl_0
    refine lv_bipush (v := (-2)) hx hb dX11_move_16 (by decide) ?_
    have := kl_m2
    have := kl_m2
    exact rtPI (v := (-2)) B hr hlk hh hQ rfl trivial dX11_move_18
  · have f_2 := z_ne c_2 rfl kl_0
    refine lv_iload_n hx hb dX11_move_7 rfl (lv_at hl 3 rfl) ?_
    refine lv_if_lt (tgt := 16) hx hb dX11_move_8 (by decide) (fun c_3 => ?_) (fun c_3 => ?_)
    · have f_3 := z_lt c_3 rfl kl_0
      refine lv_bipush (v := (-2)) hx hb dX11_move_16 (by decide) ?_
      have := kl_m2
      have := kl_m2
      exact rtPI (v := (-2)) B hr hlk hh hQ rfl trivial dX11_move_18
    · have f_3 := z_nlt c_3 rfl kl_0
      refine lv_iload_n hx hb dX11_move_11 rfl (lv_at hl 3 rfl) ?_
      refine lv_iconst (v := 2) hx hb dX11_move_12 (by decide) ?_
      refine lv_icmp_le (tgt := 19) hx hb dX11_move_13 (by decide) (fun c_4 => ?_) (fun c_4 => ?_)
      · have f_4 := z_le c_4 rfl kl_2
        refine lv_aload_n hx hb dX11_move_19 rfl (lv_at hl 0 rfl) ?_
        refine g_getR B fl_RX11_55 hT0 kh0 rfl rfl rfl rfl rfl dX11_move_20 (fun q_5 s_5 k_q_5 => ?_)
        refine lv_iload_n hx hb dX11_move_23 rfl (lv_at hl 1 rfl) ?_
        refine zkPR (zrV (rest := []) B (c_X3_boardNow l E hV H0 hT0 q_5 k_q_5 p0 (by omega) (by omega)) cl_RX11_138 hT0 k_q_5 rfl rfl rfl rfl hl.1 rfl (Nat.le_of_ble_eq_true rfl) dX11_move_24 rfl rfl ⟨rfl, rfl⟩ ⟨Nat.zero_le _, Nat.zero_le _⟩ (zO.rf hh)) (fun q_6 hp_6 => ?_)
        refine lv_astore (lv' := [(4, .ref q_6), (0, .ref h0), (1, .int p0), (2, .int p1), (3, .int p2)]) hx hb dX11_move_27 hl (by decide) rfl (fun ls hl => ?_)
        refine lv_aload_n hx hb dX11_move_29 rfl (lv_at hl 1 rfl) ?_
        refine g_getR B fl_RX11_39 hT0 kh0 rfl rfl rfl rfl rfl dX11_move_30 (fun q_7 s_7 k_q_7 => ?_)
        refine lv_aload hx hb dX11_move_33 (lv_at hl 0 rfl) ?_
        refine lv_iload_n hx hb dX11_move_35 rfl (lv_at hl 3 rfl) ?_
        refine zkPI (zrV (rest := []) B (c_X2_findMove l E hV H0 hT0 q_7 k_q_7 q_6 hp_6 p1) cl_RX11_155 hT0 k_q_7 rfl rfl rfl rfl hl.1 rfl (Nat.le_of_ble_eq_true rfl) dX11_move_36 rfl rfl ⟨rfl, rfl⟩ ⟨Nat.zero_le _, Nat.zero_le _⟩ (zO.rf hh)) (fun x_8 hp_8 => ?_)
        obtain ⟨hp_8_1, hp_8_2⟩ := hp_8
        refine lv_istore (lv' := [(5, .int x_8), (4, .ref q_6), (0, .ref h0), (1, .int p0), (2, .int p1), (3, .int p2)]) hx hb dX11_move_39 hl (by decide) rfl (fun ls hl => ?_)
        refine lv_iload hx hb dX11_move_41 (lv_at hl 0 rfl) ?_
        refine lv_iconst (v := (-1)) hx hb dX11_move_43 (by decide) ?_
        refine lv_icmp_ne (tgt := 50) hx hb dX11_move_44 (by decide) (fun c_9 => ?_) (fun c_9 => ?_)
        · have f_9 := z_ne c_9 rfl kl_m1
          refine lv_iload_n hx hb dX11_move_50 rfl (lv_at hl 5 rfl) ?_
          refine lv_if_ne (tgt := 60) hx hb dX11_move_51 (by decide) (fun c_10 => ?_) (fun c_10 => ?_)
          · have f_10 := z_ne c_10 rfl kl_0
            refine lv_iload_n hx hb dX11_move_60 rfl (lv_at hl 5 rfl) ?_
            refine lv_iconst (v := 1) hx hb dX11_move_61 (by decide) ?_
            refine lv_icmp_ne (tgt := 73) hx hb dX11_move_62 (by decide) (fun c_11 => ?_) (fun c_11 => ?_)
            · have f_11 := z_ne c_11 rfl kl_1
              refine lv_aload hx hb dX11_move_73 (lv_at hl 1 rfl) ?_
              refine lv_iload hx hb dX11_move_75 (lv_at hl 0 rfl) ?_
              refine zkPI (zrS (rest := [.ref q_6]) B (c_X2_toOf l E hV H0 hT0 x_8) cs_RX11_162 rfl hl.1 rfl (Nat.le_of_ble_eq_true rfl) dX11_move_77 rfl rfl ⟨rfl, rfl⟩ ⟨Nat.zero_le _, Nat.zero_le _⟩ (zO.rf hh)) (fun x_12 hp_12 => ?_)
              refine zkPI (zrV (rest := []) B (c_X4_manOn l E hV H0 hT0 q_6 hp_6 x_12) cl_RX11_142 hT0 hp_6 rfl rfl rfl rfl hl.1 rfl (Nat.le_of_ble_eq_true rfl) dX11_move_80 rfl rfl ⟨rfl, rfl⟩ ⟨Nat.zero_le _, Nat.zero_le _⟩ (zO.rf hh)) (fun x_13 hp_13 => ?_)
              obtain ⟨hp_13_1, hp_13_2⟩ := hp_13
              exact rtPI (v := x_13) B hr hlk hh hQ rfl trivial dX11_move_83
            · have f_11 := z_eq c_11 rfl kl_1
              refine lv_iload hx hb dX11_move_65 (lv_at hl 0 rfl) ?_
              refine zkPI (zrS (rest := []) B (c_X2_toOf l E hV H0 hT0 x_8) cs_RX11_162 rfl hl.1 rfl (Nat.le_of_ble_eq_true rfl) dX11_move_67 rfl rfl ⟨rfl, rfl⟩ ⟨Nat.zero_le _, Nat.zero_le _⟩ (zO.rf hh)) (fun x_14 hp_14 => ?_)
              refine lv_goto (tgt := 83) hx hb dX11_move_70 (by decide) ?_
              exact rtPI (v := x_14) B hr hlk hh hQ rfl trivial dX11_move_83
          · have f_10 := z_eq c_10 rfl kl_0
            refine lv_iload hx hb dX11_move_54 (lv_at hl 0 rfl) ?_
            refine zkPI (zrS (rest := []) B (c_X2_fromOf l E hV H0 hT0 x_8) cs_RX11_159 rfl hl.1 rfl (Nat.le_of_ble_eq_true rfl) dX11_move_56 rfl rfl ⟨rfl, rfl⟩ ⟨Nat.zero_le _, Nat.zero_le _⟩ (zO.rf hh)) (fun x_15 hp_15 => ?_)
            exact rtPI (v := x_15) B hr hlk hh hQ rfl trivial dX11_move_59
        · have f_9 := z_eq c_9 rfl kl_m1
          refine lv_bipush (v := (-2)) hx hb dX11_move_47 (by decide) ?_
          have := kl_m2
          have := kl_m2
          exact rtPI (v := (-2)) B hr hlk hh hQ rfl trivial dX11_move_49
      · have f_4 := z_nle c_4 rfl kl_2
        refine lv_bipush (v := (-2)) hx hb dX11_move_16 (by decide) ?_
        have := kl_m2
        have := kl_m2
        exact rtPI (v := (-2)) B hr hlk hh hQ rfl trivial dX11_move_18

theorem dX11_lost_0 : decode cX11_lost 0 = .ok (.iload_n 1, 1) := by decide +kernel
theorem dX11_lost_1 : decode cX11_lost 1 = .ok (.invokestatic 131, 3) := by decide +kernel
theorem dX11_lost_4 : decode cX11_lost 4 = .ok (.ifCond .eq 21, 3) := by decide +kernel
theorem dX11_lost_7 : decode cX11_lost 7 = .ok (.aload_n 0, 1) := by decide +kernel
theorem dX11_lost_8 : decode cX11_lost 8 = .ok (.getfield 39, 3) := by decide +kernel
theorem dX11_lost_11 : decode cX11_lost 11 = .ok (.aload_n 0, 1) := by decide +kernel
theorem dX11_lost_12 : decode cX11_lost 12 = .ok (.getfield 55, 3) := by decide +kernel
theorem dX11_lost_15 : decode cX11_lost 15 = .ok (.iload_n 1, 1) := by decide +kernel
theorem dX11_lost_16 : decode cX11_lost 16 = .ok (.invokevirtual 138, 3) := by decide +kernel
theorem dX11_lost_19 : decode cX11_lost 19 = .ok (.invokevirtual 165, 3) := by decide +kernel
theorem dX11_lost_22 : decode cX11_lost 22 = .ok (.goto 5, 3) := by decide +kernel
theorem dX11_lost_25 : decode cX11_lost 25 = .ok (.bipush (-2), 2) := by decide +kernel
theorem dX11_lost_27 : decode cX11_lost 27 = .ok (.ireturn, 1) := by decide +kernel
def rm_X11_lost : Room := { frames := 4, cells := 0, slots := 0, locals := 103 }
set_option maxRecDepth 100000 in
set_option maxHeartbeats 4000000 in
theorem c_X11_lost (l : Launch) (E : zE) (hV : zV E) (H0 : Heap) (hT0 : HT E H0) (h0 : Nat) (kh0 : eK E h0 = 12) (p0 : Int32) : Met l yX11_lost (zws yX11_lost cX11_lost 2 (some .int)) rm_X11_lost (zP E H0 [.ref h0, .int p0]) (zPI (fun r => (-2) ≤ r.toInt ∧ r.toInt ≤ 1)) 0 0 (fun _ => False) := by
  refine zEnt (by decide) (Nat.le_of_ble_eq_true rfl) (fun p e s m args below meth c ls Q B hr hlk hh hQ hl => ?_)
  have hx := B.1
  have hb := B.2.1
  have hl : lv_has ls 2 [(0, .ref h0), (1, .int p0)] := hl
  refine lv_iload_n hx hb dX11_lost_0 rfl (lv_at hl 1 rfl) ?_
  refine zkPI (zrS (rest := []) B (c_X11_isKeeper l E hV H0 hT0 p0) cs_RX11_131 rfl hl.1 rfl (Nat.le_of_ble_eq_true rfl) dX11_lost_1 rfl rfl ⟨rfl, rfl⟩ ⟨Nat.zero_le _, Nat.zero_le _⟩ (zO.rf hh)) (fun x_1 hp_1 => ?_)
  obtain ⟨hp_1_1, hp_1_2, hp_1_3⟩ := hp_1
  refine lv_if_eq (tgt := 25) hx hb dX11_lost_4 (by decide) (fun c_2 => ?_) (fun c_2 => ?_)
  · have f_2 := z_eq c_2 rfl kl_0
    refine lv_bipush (v := (-2)) hx hb dX11_lost_25 (by decide) ?_
    have := kl_m2
    have := kl_m2
    exact rtPI (v := (-2)) B hr hlk hh hQ rfl ⟨by omega, by omega⟩ dX11_lost_27
  · have f_2 := z_ne c_2 rfl kl_0
    refine lv_aload_n hx hb dX11_lost_7 rfl (lv_at hl 0 rfl) ?_
    refine g_getR B fl_RX11_39 hT0 kh0 rfl rfl rfl rfl rfl dX11_lost_8 (fun q_3 s_3 k_q_3 => ?_)
    refine lv_aload_n hx hb dX11_lost_11 rfl (lv_at hl 0 rfl) ?_
    refine g_getR B fl_RX11_55 hT0 kh0 rfl rfl rfl rfl rfl dX11_lost_12 (fun q_4 s_4 k_q_4 => ?_)
    refine lv_iload_n hx hb dX11_lost_15 rfl (lv_at hl 1 rfl) ?_
    refine zkPR (zrV (rest := [.ref q_3]) B (c_X3_boardNow l E hV H0 hT0 q_4 k_q_4 p0 (by omega) (by omega)) cl_RX11_138 hT0 k_q_4 rfl rfl rfl rfl hl.1 rfl (Nat.le_of_ble_eq_true rfl) dX11_lost_16 rfl rfl ⟨rfl, rfl⟩ ⟨Nat.zero_le _, Nat.zero_le _⟩ (zO.rf hh)) (fun q_5 hp_5 => ?_)
    refine zkPI (zrV (rest := []) B (c_X2_loser l E hV H0 hT0 q_3 k_q_3 q_5 hp_5) cl_RX11_165 hT0 k_q_3 rfl rfl rfl rfl hl.1 rfl (Nat.le_of_ble_eq_true rfl) dX11_lost_19 rfl rfl ⟨rfl, rfl⟩ ⟨Nat.zero_le _, Nat.zero_le _⟩ (zO.rf hh)) (fun x_6 hp_6 => ?_)
    obtain ⟨hp_6_1, hp_6_2⟩ := hp_6
    refine lv_goto (tgt := 27) hx hb dX11_lost_22 (by decide) ?_
    exact rtPI (v := x_6) B hr hlk hh hQ rfl ⟨by omega, by omega⟩ dX11_lost_27

theorem dX11_value_0 : decode cX11_value 0 = .ok (.iload_n 1, 1) := by decide +kernel
theorem dX11_value_1 : decode cX11_value 1 = .ok (.invokestatic 131, 3) := by decide +kernel
theorem dX11_value_4 : decode cX11_value 4 = .ok (.ifCond .eq 12, 3) := by decide +kernel
theorem dX11_value_7 : decode cX11_value 7 = .ok (.iload_n 2, 1) := by decide +kernel
theorem dX11_value_8 : decode cX11_value 8 = .ok (.ifCond .lt 8, 3) := by decide +kernel
theorem dX11_value_11 : decode cX11_value 11 = .ok (.iload_n 2, 1) := by decide +kernel
theorem dX11_value_12 : decode cX11_value 12 = .ok (.iconst 4, 1) := by decide +kernel
theorem dX11_value_13 : decode cX11_value 13 = .ok (.if_icmp .le 6, 3) := by decide +kernel
theorem dX11_value_16 : decode cX11_value 16 = .ok (.bipush (-3), 2) := by decide +kernel
theorem dX11_value_18 : decode cX11_value 18 = .ok (.ireturn, 1) := by decide +kernel
theorem dX11_value_19 : decode cX11_value 19 = .ok (.aload_n 0, 1) := by decide +kernel
theorem dX11_value_20 : decode cX11_value 20 = .ok (.getfield 48, 3) := by decide +kernel
theorem dX11_value_23 : decode cX11_value 23 = .ok (.aload_n 0, 1) := by decide +kernel
theorem dX11_value_24 : decode cX11_value 24 = .ok (.getfield 55, 3) := by decide +kernel
theorem dX11_value_27 : decode cX11_value 27 = .ok (.iload_n 1, 1) := by decide +kernel
theorem dX11_value_28 : decode cX11_value 28 = .ok (.invokevirtual 138, 3) := by decide +kernel
theorem dX11_value_31 : decode cX11_value 31 = .ok (.iload_n 2, 1) := by decide +kernel
theorem dX11_value_32 : decode cX11_value 32 = .ok (.invokevirtual 168, 3) := by decide +kernel
theorem dX11_value_35 : decode cX11_value 35 = .ok (.ireturn, 1) := by decide +kernel
def rm_X11_value : Room := { frames := 13, cells := 0, slots := 0, locals := 343 }
abbrev wS_X11_value : List (Nat × Nat) := [(5, 0), (5, 1), (5, 2), (5, 3), (5, 4), (5, 5), (5, 6), (7, 2)]
set_option maxRecDepth 100000 in
set_option maxHeartbeats 4000000 in
theorem c_X11_value (l : Launch) (E : zE) (hV : zV E) (H0 : Heap) (hT0 : HT E H0) (h0 : Nat) (kh0 : eK E h0 = 12) (p0 : Int32) (p1 : Int32) : Met l yX11_value (zws yX11_value cX11_value 3 (some .int)) rm_X11_value (zP E H0 [.ref h0, .int p0, .int p1]) (zQI E E wS_X11_value (fun r H1 => (-3) ≤ r.toInt ∧ r.toInt ≤ 1)) 0 0 (zfr E) := by
  refine zEnt (by decide) (Nat.le_of_ble_eq_true rfl) (fun p e s m args below meth c ls Q B hr hlk hh hQ hl => ?_)
  have hx := B.1
  have hb := B.2.1
  have hG0 : zG E wS_X11_value H0 H0 [] := zG.rf hT0
  have hl : lv_has ls 3 [(0, .ref h0), (1, .int p0), (2, .int p1)] := hl
  refine lv_iload_n hx hb dX11_value_0 rfl (lv_at hl 1 rfl) ?_
  refine zkPI (zrS (rest := []) B (c_X11_isKeeper l E hV H0 hT0 p0) cs_RX11_131 rfl hl.1 rfl (Nat.le_of_ble_eq_true rfl) dX11_value_1 rfl rfl ⟨rfl, rfl⟩ ⟨Nat.zero_le _, Nat.zero_le _⟩ (zO.of hG0 hh)) (fun x_1 hp_1 => ?_)
  obtain ⟨hp_1_1, hp_1_2, hp_1_3⟩ := hp_1
  refine lv_if_eq (tgt := 16) hx hb dX11_value_4 (by decide) (fun c_2 => ?_) (fun c_2 => ?_)
  · have f_2 := z_eq c_2 rfl kl_0
    refine lv_bipush (v := (-3)) hx hb dX11_value_16 (by decide) ?_
    have := kl_m3
    have := kl_m3
    exact rtI (v := (-3)) B hr hlk hh hQ hG0 rfl ⟨by omega, by omega⟩ dX11_value_18
  · have f_2 := z_ne c_2 rfl kl_0
    refine lv_iload_n hx hb dX11_value_7 rfl (lv_at hl 2 rfl) ?_
    refine lv_if_lt (tgt := 16) hx hb dX11_value_8 (by decide) (fun c_3 => ?_) (fun c_3 => ?_)
    · have f_3 := z_lt c_3 rfl kl_0
      refine lv_bipush (v := (-3)) hx hb dX11_value_16 (by decide) ?_
      have := kl_m3
      have := kl_m3
      exact rtI (v := (-3)) B hr hlk hh hQ hG0 rfl ⟨by omega, by omega⟩ dX11_value_18
    · have f_3 := z_nlt c_3 rfl kl_0
      refine lv_iload_n hx hb dX11_value_11 rfl (lv_at hl 2 rfl) ?_
      refine lv_iconst (v := 4) hx hb dX11_value_12 (by decide) ?_
      refine lv_icmp_le (tgt := 19) hx hb dX11_value_13 (by decide) (fun c_4 => ?_) (fun c_4 => ?_)
      · have f_4 := z_le c_4 rfl kl_4
        refine lv_aload_n hx hb dX11_value_19 rfl (lv_at hl 0 rfl) ?_
        refine g_getR B fl_RX11_48 hT0 kh0 rfl rfl rfl rfl rfl dX11_value_20 (fun q_5 s_5 k_q_5 => ?_)
        refine lv_aload_n hx hb dX11_value_23 rfl (lv_at hl 0 rfl) ?_
        refine g_getR B fl_RX11_55 hT0 kh0 rfl rfl rfl rfl rfl dX11_value_24 (fun q_6 s_6 k_q_6 => ?_)
        refine lv_iload_n hx hb dX11_value_27 rfl (lv_at hl 1 rfl) ?_
        refine zkPR (zrV (rest := [.ref q_5]) B (c_X3_boardNow l E hV H0 hT0 q_6 k_q_6 p0 (by omega) (by omega)) cl_RX11_138 hT0 k_q_6 rfl rfl rfl rfl hl.1 rfl (Nat.le_of_ble_eq_true rfl) dX11_value_28 rfl rfl ⟨rfl, rfl⟩ ⟨Nat.zero_le _, Nat.zero_le _⟩ (zO.of hG0 hh)) (fun q_7 hp_7 => ?_)
        refine lv_iload_n hx hb dX11_value_31 rfl (lv_at hl 2 rfl) ?_
        refine zkI (zrV (rest := []) B (c_X6_valueOf l E hV H0 hT0 q_5 k_q_5 q_7 hp_7 p1) cl_RX11_168 hT0 k_q_5 rfl rfl rfl rfl hl.1 rfl (Nat.le_of_ble_eq_true rfl) dX11_value_32 rfl rfl ⟨rfl, rfl⟩ ⟨Nat.zero_le _, Nat.zero_le _⟩ (zO.of hG0 hh)) hG0 rfl (fun x_8 H8 lc8 hp_8 gH8 rH8 => ?_)
        obtain ⟨hp_8_1, hp_8_2⟩ := hp_8
        exact rtI (v := x_8) B hr hlk hh hQ gH8 rfl ⟨by omega, by omega⟩ dX11_value_35
      · have f_4 := z_nle c_4 rfl kl_4
        refine lv_bipush (v := (-3)) hx hb dX11_value_16 (by decide) ?_
        have := kl_m3
        have := kl_m3
        exact rtI (v := (-3)) B hr hlk hh hQ hG0 rfl ⟨by omega, by omega⟩ dX11_value_18

theorem dX11_night_0 : decode cX11_night 0 = .ok (.iload_n 1, 1) := by decide +kernel
theorem dX11_night_1 : decode cX11_night 1 = .ok (.invokestatic 131, 3) := by decide +kernel
theorem dX11_night_4 : decode cX11_night 4 = .ok (.ifCond .eq 15, 3) := by decide +kernel
theorem dX11_night_7 : decode cX11_night 7 = .ok (.aload_n 0, 1) := by decide +kernel
theorem dX11_night_8 : decode cX11_night 8 = .ok (.getfield 55, 3) := by decide +kernel
theorem dX11_night_11 : decode cX11_night 11 = .ok (.getfield 171, 3) := by decide +kernel
theorem dX11_night_14 : decode cX11_night 14 = .ok (.bipush 60, 2) := by decide +kernel
theorem dX11_night_16 : decode cX11_night 16 = .ok (.if_icmp .lt 5, 3) := by decide +kernel
theorem dX11_night_19 : decode cX11_night 19 = .ok (.iconst (-1), 1) := by decide +kernel
theorem dX11_night_20 : decode cX11_night 20 = .ok (.ireturn, 1) := by decide +kernel
theorem dX11_night_21 : decode cX11_night 21 = .ok (.aload_n 0, 1) := by decide +kernel
theorem dX11_night_22 : decode cX11_night 22 = .ok (.getfield 55, 3) := by decide +kernel
theorem dX11_night_25 : decode cX11_night 25 = .ok (.iload_n 1, 1) := by decide +kernel
theorem dX11_night_26 : decode cX11_night 26 = .ok (.invokevirtual 138, 3) := by decide +kernel
theorem dX11_night_29 : decode cX11_night 29 = .ok (.astore 4, 2) := by decide +kernel
theorem dX11_night_31 : decode cX11_night 31 = .ok (.aload 4, 2) := by decide +kernel
theorem dX11_night_33 : decode cX11_night 33 = .ok (.getfield 148, 3) := by decide +kernel
theorem dX11_night_36 : decode cX11_night 36 = .ok (.iload_n 1, 1) := by decide +kernel
theorem dX11_night_37 : decode cX11_night 37 = .ok (.if_icmp .ne 17, 3) := by decide +kernel
theorem dX11_night_40 : decode cX11_night 40 = .ok (.aload_n 0, 1) := by decide +kernel
theorem dX11_night_41 : decode cX11_night 41 = .ok (.getfield 39, 3) := by decide +kernel
theorem dX11_night_44 : decode cX11_night 44 = .ok (.aload 4, 2) := by decide +kernel
theorem dX11_night_46 : decode cX11_night 46 = .ok (.iload_n 2, 1) := by decide +kernel
theorem dX11_night_47 : decode cX11_night 47 = .ok (.invokevirtual 155, 3) := by decide +kernel
theorem dX11_night_50 : decode cX11_night 50 = .ok (.iconst (-1), 1) := by decide +kernel
theorem dX11_night_51 : decode cX11_night 51 = .ok (.if_icmp .ne 5, 3) := by decide +kernel
theorem dX11_night_54 : decode cX11_night 54 = .ok (.iconst (-1), 1) := by decide +kernel
theorem dX11_night_55 : decode cX11_night 55 = .ok (.ireturn, 1) := by decide +kernel
theorem dX11_night_56 : decode cX11_night 56 = .ok (.aload_n 0, 1) := by decide +kernel
theorem dX11_night_57 : decode cX11_night 57 = .ok (.getfield 55, 3) := by decide +kernel
theorem dX11_night_60 : decode cX11_night 60 = .ok (.iload_n 1, 1) := by decide +kernel
theorem dX11_night_61 : decode cX11_night 61 = .ok (.iload_n 2, 1) := by decide +kernel
theorem dX11_night_62 : decode cX11_night 62 = .ok (.iload_n 3, 1) := by decide +kernel
theorem dX11_night_63 : decode cX11_night 63 = .ok (.invokevirtual 172, 3) := by decide +kernel
theorem dX11_night_66 : decode cX11_night 66 = .ok (.ireturn, 1) := by decide +kernel
def rm_X11_night : Room := { frames := 6, cells := 0, slots := 0, locals := 155 }
abbrev wS_X11_night : List (Nat × Nat) := [(4, 0), (4, 1), (5, 0), (5, 1), (5, 2), (5, 3), (5, 4), (5, 5), (5, 6), (33, 99), (34, 99), (35, 99), (36, 99)]
set_option maxRecDepth 100000 in
set_option maxHeartbeats 4000000 in
theorem c_X11_night (l : Launch) (E : zE) (hV : zV E) (H0 : Heap) (hT0 : HT E H0) (h0 : Nat) (kh0 : eK E h0 = 12) (p0 : Int32) (p1 : Int32) (p2 : Int32) (p2_lo : 0 ≤ p2.toInt) (p2_hi : p2.toInt ≤ 1) : Met l yX11_night (zws yX11_night cX11_night 5 (some .int)) rm_X11_night (zP E H0 [.ref h0, .int p0, .int p1, .int p2]) (zQI E E wS_X11_night (fun r H1 => (-1) ≤ r.toInt ∧ r.toInt ≤ 59)) 0 0 (zfr E) := by
  refine zEnt (by decide) (Nat.le_of_ble_eq_true rfl) (fun p e s m args below meth c ls Q B hr hlk hh hQ hl => ?_)
  have hx := B.1
  have hb := B.2.1
  have hG0 : zG E wS_X11_night H0 H0 [] := zG.rf hT0
  have hl : lv_has ls 5 [(0, .ref h0), (1, .int p0), (2, .int p1), (3, .int p2)] := hl
  refine lv_iload_n hx hb dX11_night_0 rfl (lv_at hl 1 rfl) ?_
  refine zkPI (zrS (rest := []) B (c_X11_isKeeper l E hV H0 hT0 p0) cs_RX11_131 rfl hl.1 rfl (Nat.le_of_ble_eq_true rfl) dX11_night_1 rfl rfl ⟨rfl, rfl⟩ ⟨Nat.zero_le _, Nat.zero_le _⟩ (zO.of hG0 hh)) (fun x_1 hp_1 => ?_)
  obtain ⟨hp_1_1, hp_1_2, hp_1_3⟩ := hp_1
  refine lv_if_eq (tgt := 19) hx hb dX11_night_4 (by decide) (fun c_2 => ?_) (fun c_2 => ?_)
  · have f_2 := z_eq c_2 rfl kl_0
    refine lv_iconst (v := (-1)) hx hb dX11_night_19 (by decide) ?_
    have := kl_m1
    have := kl_m1
    exact rtI (v := (-1)) B hr hlk hh hQ hG0 rfl ⟨by omega, by omega⟩ dX11_night_20
  · have f_2 := z_ne c_2 rfl kl_0
    refine lv_aload_n hx hb dX11_night_7 rfl (lv_at hl 0 rfl) ?_
    refine g_getR B fl_RX11_55 hT0 kh0 rfl rfl rfl rfl rfl dX11_night_8 (fun q_3 s_3 k_q_3 => ?_)
    refine g_getI B fl_RX11_171 hT0 k_q_3 rfl rfl rfl rfl rfl dX11_night_11 (fun x_4 s_4 a_4 b_4 => ?_)
    refine lv_bipush (v := 60) hx hb dX11_night_14 (by decide) ?_
    refine lv_icmp_lt (tgt := 21) hx hb dX11_night_16 (by decide) (fun c_5 => ?_) (fun c_5 => ?_)
    · have f_5 := z_lt c_5 rfl kl_60
      refine lv_aload_n hx hb dX11_night_21 rfl (lv_at hl 0 rfl) ?_
      refine g_get B fl_RX11_55 hT0 kh0 rfl rfl rfl dX11_night_22 s_3 ?_
      refine lv_iload_n hx hb dX11_night_25 rfl (lv_at hl 1 rfl) ?_
      refine zkPR (zrV (rest := []) B (c_X3_boardNow l E hV H0 hT0 q_3 k_q_3 p0 (by omega) (by omega)) cl_RX11_138 hT0 k_q_3 rfl rfl rfl rfl hl.1 rfl (Nat.le_of_ble_eq_true rfl) dX11_night_26 rfl rfl ⟨rfl, rfl⟩ ⟨Nat.zero_le _, Nat.zero_le _⟩ (zO.of hG0 hh)) (fun q_6 hp_6 => ?_)
      refine lv_astore (lv' := [(4, .ref q_6), (0, .ref h0), (1, .int p0), (2, .int p1), (3, .int p2)]) hx hb dX11_night_29 hl (by decide) rfl (fun ls hl => ?_)
      refine lv_aload hx hb dX11_night_31 (lv_at hl 0 rfl) ?_
      refine g_getI B fl_RX11_148 hT0 hp_6 rfl rfl rfl rfl rfl dX11_night_33 (fun x_7 s_7 a_7 b_7 => ?_)
      refine lv_iload_n hx hb dX11_night_36 rfl (lv_at hl 2 rfl) ?_
      refine lv_icmp_ne (tgt := 54) hx hb dX11_night_37 (by decide) (fun c_8 => ?_) (fun c_8 => ?_)
      · have f_8 := z_ne c_8 rfl rfl
        refine lv_iconst (v := (-1)) hx hb dX11_night_54 (by decide) ?_
        have := kl_m1
        have := kl_m1
        exact rtI (v := (-1)) B hr hlk hh hQ hG0 rfl ⟨by omega, by omega⟩ dX11_night_55
      · have f_8 := z_eq c_8 rfl rfl
        refine lv_aload_n hx hb dX11_night_40 rfl (lv_at hl 1 rfl) ?_
        refine g_getR B fl_RX11_39 hT0 kh0 rfl rfl rfl rfl rfl dX11_night_41 (fun q_9 s_9 k_q_9 => ?_)
        refine lv_aload hx hb dX11_night_44 (lv_at hl 0 rfl) ?_
        refine lv_iload_n hx hb dX11_night_46 rfl (lv_at hl 3 rfl) ?_
        refine zkPI (zrV (rest := []) B (c_X2_findMove l E hV H0 hT0 q_9 k_q_9 q_6 hp_6 p1) cl_RX11_155 hT0 k_q_9 rfl rfl rfl rfl hl.1 rfl (Nat.le_of_ble_eq_true rfl) dX11_night_47 rfl rfl ⟨rfl, rfl⟩ ⟨Nat.zero_le _, Nat.zero_le _⟩ (zO.of hG0 hh)) (fun x_10 hp_10 => ?_)
        obtain ⟨hp_10_1, hp_10_2⟩ := hp_10
        refine lv_iconst (v := (-1)) hx hb dX11_night_50 (by decide) ?_
        refine lv_icmp_ne (tgt := 56) hx hb dX11_night_51 (by decide) (fun c_11 => ?_) (fun c_11 => ?_)
        · have f_11 := z_ne c_11 rfl kl_m1
          refine lv_aload_n hx hb dX11_night_56 rfl (lv_at hl 1 rfl) ?_
          refine g_get B fl_RX11_55 hT0 kh0 rfl rfl rfl dX11_night_57 s_3 ?_
          refine lv_iload_n hx hb dX11_night_60 rfl (lv_at hl 2 rfl) ?_
          refine lv_iload_n hx hb dX11_night_61 rfl (lv_at hl 3 rfl) ?_
          refine lv_iload_n hx hb dX11_night_62 rfl (lv_at hl 4 rfl) ?_
          refine zkI (zrV (rest := []) B (c_X3_add l E hV H0 hT0 q_3 k_q_3 p0 (by omega) (by omega) p1 p2 (by omega) (by omega)) cl_RX11_172 hT0 k_q_3 rfl rfl rfl rfl hl.1 rfl (Nat.le_of_ble_eq_true rfl) dX11_night_63 rfl rfl ⟨rfl, rfl⟩ ⟨Nat.zero_le _, Nat.zero_le _⟩ (zO.of hG0 hh)) hG0 rfl (fun x_12 H12 lc12 hp_12 gH12 rH12 => ?_)
          obtain ⟨hp_12_1, hp_12_2⟩ := hp_12
          exact rtI (v := x_12) B hr hlk hh hQ gH12 rfl ⟨by omega, by omega⟩ dX11_night_66
        · have f_11 := z_eq c_11 rfl kl_m1
          refine lv_iconst (v := (-1)) hx hb dX11_night_54 (by decide) ?_
          have := kl_m1
          have := kl_m1
          exact rtI (v := (-1)) B hr hlk hh hQ hG0 rfl ⟨by omega, by omega⟩ dX11_night_55
    · have f_5 := z_nlt c_5 rfl kl_60
      refine lv_iconst (v := (-1)) hx hb dX11_night_19 (by decide) ?_
      have := kl_m1
      have := kl_m1
      exact rtI (v := (-1)) B hr hlk hh hQ hG0 rfl ⟨by omega, by omega⟩ dX11_night_20

theorem dX11_blank_0 : decode cX11_blank 0 = .ok (.aload_n 0, 1) := by decide +kernel
theorem dX11_blank_1 : decode cX11_blank 1 = .ok (.getfield 55, 3) := by decide +kernel
theorem dX11_blank_4 : decode cX11_blank 4 = .ok (.getfield 171, 3) := by decide +kernel
theorem dX11_blank_7 : decode cX11_blank 7 = .ok (.bipush 60, 2) := by decide +kernel
theorem dX11_blank_9 : decode cX11_blank 9 = .ok (.if_icmp .ge 16, 3) := by decide +kernel
theorem dX11_blank_12 : decode cX11_blank 12 = .ok (.aload_n 0, 1) := by decide +kernel
theorem dX11_blank_13 : decode cX11_blank 13 = .ok (.getfield 55, 3) := by decide +kernel
theorem dX11_blank_16 : decode cX11_blank 16 = .ok (.iconst (-1), 1) := by decide +kernel
theorem dX11_blank_17 : decode cX11_blank 17 = .ok (.iconst (-1), 1) := by decide +kernel
theorem dX11_blank_18 : decode cX11_blank 18 = .ok (.iconst 0, 1) := by decide +kernel
theorem dX11_blank_19 : decode cX11_blank 19 = .ok (.invokevirtual 172, 3) := by decide +kernel
theorem dX11_blank_22 : decode cX11_blank 22 = .ok (.goto 4, 3) := by decide +kernel
theorem dX11_blank_25 : decode cX11_blank 25 = .ok (.iconst (-1), 1) := by decide +kernel
theorem dX11_blank_26 : decode cX11_blank 26 = .ok (.ireturn, 1) := by decide +kernel
def rm_X11_blank : Room := { frames := 6, cells := 0, slots := 0, locals := 155 }
abbrev wS_X11_blank : List (Nat × Nat) := [(4, 0), (4, 1), (5, 0), (5, 1), (5, 2), (5, 3), (5, 4), (5, 5), (5, 6), (33, 99), (34, 99), (35, 99), (36, 99)]
set_option maxRecDepth 100000 in
set_option maxHeartbeats 4000000 in
theorem c_X11_blank (l : Launch) (E : zE) (hV : zV E) (H0 : Heap) (hT0 : HT E H0) (h0 : Nat) (kh0 : eK E h0 = 12) : Met l yX11_blank (zws yX11_blank cX11_blank 1 (some .int)) rm_X11_blank (zP E H0 [.ref h0]) (zQI E E wS_X11_blank (fun r H1 => (-1) ≤ r.toInt ∧ r.toInt ≤ 59)) 0 0 (zfr E) := by
  refine zEnt (by decide) (Nat.le_of_ble_eq_true rfl) (fun p e s m args below meth c ls Q B hr hlk hh hQ hl => ?_)
  have hx := B.1
  have hb := B.2.1
  have hG0 : zG E wS_X11_blank H0 H0 [] := zG.rf hT0
  have hl : lv_has ls 1 [(0, .ref h0)] := hl
  refine lv_aload_n hx hb dX11_blank_0 rfl (lv_at hl 0 rfl) ?_
  refine g_getR B fl_RX11_55 hT0 kh0 rfl rfl rfl rfl rfl dX11_blank_1 (fun q_1 s_1 k_q_1 => ?_)
  refine g_getI B fl_RX11_171 hT0 k_q_1 rfl rfl rfl rfl rfl dX11_blank_4 (fun x_2 s_2 a_2 b_2 => ?_)
  refine lv_bipush (v := 60) hx hb dX11_blank_7 (by decide) ?_
  refine lv_icmp_ge (tgt := 25) hx hb dX11_blank_9 (by decide) (fun c_3 => ?_) (fun c_3 => ?_)
  · have f_3 := z_le c_3 kl_60 rfl
    refine lv_iconst (v := (-1)) hx hb dX11_blank_25 (by decide) ?_
    have := kl_m1
    have := kl_m1
    exact rtI (v := (-1)) B hr hlk hh hQ hG0 rfl ⟨by omega, by omega⟩ dX11_blank_26
  · have f_3 := z_nle c_3 kl_60 rfl
    refine lv_aload_n hx hb dX11_blank_12 rfl (lv_at hl 0 rfl) ?_
    refine g_get B fl_RX11_55 hT0 kh0 rfl rfl rfl dX11_blank_13 s_1 ?_
    refine lv_iconst (v := (-1)) hx hb dX11_blank_16 (by decide) ?_
    refine lv_iconst (v := (-1)) hx hb dX11_blank_17 (by decide) ?_
    refine lv_iconst (v := 0) hx hb dX11_blank_18 (by decide) ?_
    have := kl_m1
    have := kl_0
    refine zkI (zrV (rest := []) B (c_X3_add l E hV H0 hT0 q_1 k_q_1 (-1) (by omega) (by omega) (-1) 0 (by omega) (by omega)) cl_RX11_172 hT0 k_q_1 rfl rfl rfl rfl hl.1 rfl (Nat.le_of_ble_eq_true rfl) dX11_blank_19 rfl rfl ⟨rfl, rfl⟩ ⟨Nat.zero_le _, Nat.zero_le _⟩ (zO.of hG0 hh)) hG0 rfl (fun x_4 H4 lc4 hp_4 gH4 rH4 => ?_)
    obtain ⟨hp_4_1, hp_4_2⟩ := hp_4
    refine lv_goto (tgt := 26) hx hb dX11_blank_22 (by decide) ?_
    exact rtI (v := x_4) B hr hlk hh hQ gH4 rfl ⟨by omega, by omega⟩ dX11_blank_26

theorem dX11_undo_0 : decode cX11_undo 0 = .ok (.aload_n 0, 1) := by decide +kernel
theorem dX11_undo_1 : decode cX11_undo 1 = .ok (.getfield 55, 3) := by decide +kernel
theorem dX11_undo_4 : decode cX11_undo 4 = .ok (.getfield 171, 3) := by decide +kernel
theorem dX11_undo_7 : decode cX11_undo 7 = .ok (.ifCond .ne 5, 3) := by decide +kernel
theorem dX11_undo_10 : decode cX11_undo 10 = .ok (.iconst 0, 1) := by decide +kernel
theorem dX11_undo_11 : decode cX11_undo 11 = .ok (.ireturn, 1) := by decide +kernel
theorem dX11_undo_12 : decode cX11_undo 12 = .ok (.aload_n 0, 1) := by decide +kernel
theorem dX11_undo_13 : decode cX11_undo 13 = .ok (.getfield 55, 3) := by decide +kernel
theorem dX11_undo_16 : decode cX11_undo 16 = .ok (.dup, 1) := by decide +kernel
theorem dX11_undo_17 : decode cX11_undo 17 = .ok (.getfield 171, 3) := by decide +kernel
theorem dX11_undo_20 : decode cX11_undo 20 = .ok (.iconst 1, 1) := by decide +kernel
theorem dX11_undo_21 : decode cX11_undo 21 = .ok (.isub, 1) := by decide +kernel
theorem dX11_undo_22 : decode cX11_undo 22 = .ok (.putfield 171, 3) := by decide +kernel
theorem dX11_undo_25 : decode cX11_undo 25 = .ok (.iconst 1, 1) := by decide +kernel
theorem dX11_undo_26 : decode cX11_undo 26 = .ok (.ireturn, 1) := by decide +kernel
def rm_X11_undo : Room := { frames := 0, cells := 0, slots := 0, locals := 0 }
abbrev wS_X11_undo : List (Nat × Nat) := [(4, 0)]
set_option maxRecDepth 100000 in
set_option maxHeartbeats 4000000 in
theorem c_X11_undo (l : Launch) (E : zE) (hV : zV E) (H0 : Heap) (hT0 : HT E H0) (h0 : Nat) (kh0 : eK E h0 = 12) : Met l yX11_undo (zws yX11_undo cX11_undo 1 (some .boolean)) rm_X11_undo (zP E H0 [.ref h0]) (zQI E E wS_X11_undo (fun r H1 => 0 ≤ r.toInt ∧ r.toInt ≤ 1)) 0 0 (zfr E) := by
  refine zEnt (by decide) (Nat.le_of_ble_eq_true rfl) (fun p e s m args below meth c ls Q B hr hlk hh hQ hl => ?_)
  have hx := B.1
  have hb := B.2.1
  have hG0 : zG E wS_X11_undo H0 H0 [] := zG.rf hT0
  have hl : lv_has ls 1 [(0, .ref h0)] := hl
  refine lv_aload_n hx hb dX11_undo_0 rfl (lv_at hl 0 rfl) ?_
  refine g_getR B fl_RX11_55 hT0 kh0 rfl rfl rfl rfl rfl dX11_undo_1 (fun q_1 s_1 k_q_1 => ?_)
  refine g_getI B fl_RX11_171 hT0 k_q_1 rfl rfl rfl rfl rfl dX11_undo_4 (fun x_2 s_2 a_2 b_2 => ?_)
  refine lv_if_ne (tgt := 12) hx hb dX11_undo_7 (by decide) (fun c_3 => ?_) (fun c_3 => ?_)
  · have f_3 := z_ne c_3 rfl kl_0
    refine lv_aload_n hx hb dX11_undo_12 rfl (lv_at hl 0 rfl) ?_
    refine g_get B fl_RX11_55 hT0 kh0 rfl rfl rfl dX11_undo_13 s_1 ?_
    refine lv_dup hx hb dX11_undo_16 rfl ?_
    refine g_get B fl_RX11_171 hT0 k_q_1 rfl rfl rfl dX11_undo_17 s_2 ?_
    refine lv_iconst (v := 1) hx hb dX11_undo_20 (by decide) ?_
    refine lv_isub hx hb dX11_undo_21 ?_
    refine lv_topi (fun x_4 e_4 => ?_)
    have t_4 := z_sub e_4 rfl kl_1 (by omega) (by omega)
    refine g_putI B fp_RX11_171 hV hG0 k_q_1 rfl rfl rfl rfl rfl (by omega) (by omega) rfl dX11_undo_22 (fun H5 lc5 gH5 uH5 => ?_)
    refine lv_iconst (v := 1) hx hb dX11_undo_25 (by decide) ?_
    have := kl_1
    have := kl_1
    exact rtI (v := 1) B hr hlk hh hQ gH5 rfl ⟨by omega, by omega⟩ dX11_undo_26
  · have f_3 := z_eq c_3 rfl kl_0
    refine lv_iconst (v := 0) hx hb dX11_undo_10 (by decide) ?_
    have := kl_0
    have := kl_0
    exact rtI (v := 0) B hr hlk hh hQ hG0 rfl ⟨by omega, by omega⟩ dX11_undo_11

theorem dX11_redo_0 : decode cX11_redo 0 = .ok (.aload_n 0, 1) := by decide +kernel
theorem dX11_redo_1 : decode cX11_redo 1 = .ok (.getfield 55, 3) := by decide +kernel
theorem dX11_redo_4 : decode cX11_redo 4 = .ok (.getfield 171, 3) := by decide +kernel
theorem dX11_redo_7 : decode cX11_redo 7 = .ok (.aload_n 0, 1) := by decide +kernel
theorem dX11_redo_8 : decode cX11_redo 8 = .ok (.getfield 55, 3) := by decide +kernel
theorem dX11_redo_11 : decode cX11_redo 11 = .ok (.getfield 176, 3) := by decide +kernel
theorem dX11_redo_14 : decode cX11_redo 14 = .ok (.if_icmp .lt 5, 3) := by decide +kernel
theorem dX11_redo_17 : decode cX11_redo 17 = .ok (.iconst 0, 1) := by decide +kernel
theorem dX11_redo_18 : decode cX11_redo 18 = .ok (.ireturn, 1) := by decide +kernel
theorem dX11_redo_19 : decode cX11_redo 19 = .ok (.aload_n 0, 1) := by decide +kernel
theorem dX11_redo_20 : decode cX11_redo 20 = .ok (.getfield 55, 3) := by decide +kernel
theorem dX11_redo_23 : decode cX11_redo 23 = .ok (.dup, 1) := by decide +kernel
theorem dX11_redo_24 : decode cX11_redo 24 = .ok (.getfield 171, 3) := by decide +kernel
theorem dX11_redo_27 : decode cX11_redo 27 = .ok (.iconst 1, 1) := by decide +kernel
theorem dX11_redo_28 : decode cX11_redo 28 = .ok (.iadd, 1) := by decide +kernel
theorem dX11_redo_29 : decode cX11_redo 29 = .ok (.putfield 171, 3) := by decide +kernel
theorem dX11_redo_32 : decode cX11_redo 32 = .ok (.iconst 1, 1) := by decide +kernel
theorem dX11_redo_33 : decode cX11_redo 33 = .ok (.ireturn, 1) := by decide +kernel
def rm_X11_redo : Room := { frames := 0, cells := 0, slots := 0, locals := 0 }
abbrev wS_X11_redo : List (Nat × Nat) := [(4, 0)]
set_option maxRecDepth 100000 in
set_option maxHeartbeats 4000000 in
theorem c_X11_redo (l : Launch) (E : zE) (hV : zV E) (H0 : Heap) (hT0 : HT E H0) (h0 : Nat) (kh0 : eK E h0 = 12) : Met l yX11_redo (zws yX11_redo cX11_redo 1 (some .boolean)) rm_X11_redo (zP E H0 [.ref h0]) (zQI E E wS_X11_redo (fun r H1 => 0 ≤ r.toInt ∧ r.toInt ≤ 1)) 0 0 (zfr E) := by
  refine zEnt (by decide) (Nat.le_of_ble_eq_true rfl) (fun p e s m args below meth c ls Q B hr hlk hh hQ hl => ?_)
  have hx := B.1
  have hb := B.2.1
  have hG0 : zG E wS_X11_redo H0 H0 [] := zG.rf hT0
  have hl : lv_has ls 1 [(0, .ref h0)] := hl
  refine lv_aload_n hx hb dX11_redo_0 rfl (lv_at hl 0 rfl) ?_
  refine g_getR B fl_RX11_55 hT0 kh0 rfl rfl rfl rfl rfl dX11_redo_1 (fun q_1 s_1 k_q_1 => ?_)
  refine g_getI B fl_RX11_171 hT0 k_q_1 rfl rfl rfl rfl rfl dX11_redo_4 (fun x_2 s_2 a_2 b_2 => ?_)
  refine lv_aload_n hx hb dX11_redo_7 rfl (lv_at hl 0 rfl) ?_
  refine g_get B fl_RX11_55 hT0 kh0 rfl rfl rfl dX11_redo_8 s_1 ?_
  refine g_getI B fl_RX11_176 hT0 k_q_1 rfl rfl rfl rfl rfl dX11_redo_11 (fun x_3 s_3 a_3 b_3 => ?_)
  refine lv_icmp_lt (tgt := 19) hx hb dX11_redo_14 (by decide) (fun c_4 => ?_) (fun c_4 => ?_)
  · have f_4 := z_lt c_4 rfl rfl
    refine lv_aload_n hx hb dX11_redo_19 rfl (lv_at hl 0 rfl) ?_
    refine g_get B fl_RX11_55 hT0 kh0 rfl rfl rfl dX11_redo_20 s_1 ?_
    refine lv_dup hx hb dX11_redo_23 rfl ?_
    refine g_get B fl_RX11_171 hT0 k_q_1 rfl rfl rfl dX11_redo_24 s_2 ?_
    refine lv_iconst (v := 1) hx hb dX11_redo_27 (by decide) ?_
    refine lv_iadd hx hb dX11_redo_28 ?_
    refine lv_topi (fun x_5 e_5 => ?_)
    have t_5 := z_add e_5 rfl kl_1 (by omega) (by omega)
    refine g_putI B fp_RX11_171 hV hG0 k_q_1 rfl rfl rfl rfl rfl (by omega) (by omega) rfl dX11_redo_29 (fun H6 lc6 gH6 uH6 => ?_)
    refine lv_iconst (v := 1) hx hb dX11_redo_32 (by decide) ?_
    have := kl_1
    have := kl_1
    exact rtI (v := 1) B hr hlk hh hQ gH6 rfl ⟨by omega, by omega⟩ dX11_redo_33
  · have f_4 := z_nlt c_4 rfl rfl
    refine lv_iconst (v := 0) hx hb dX11_redo_17 (by decide) ?_
    have := kl_0
    have := kl_0
    exact rtI (v := 0) B hr hlk hh hQ hG0 rfl ⟨by omega, by omega⟩ dX11_redo_18

theorem dX11_book_0 : decode cX11_book 0 = .ok (.iload_n 1, 1) := by decide +kernel
theorem dX11_book_1 : decode cX11_book 1 = .ok (.ifCond .lt 14, 3) := by decide +kernel
theorem dX11_book_4 : decode cX11_book 4 = .ok (.iload_n 1, 1) := by decide +kernel
theorem dX11_book_5 : decode cX11_book 5 = .ok (.aload_n 0, 1) := by decide +kernel
theorem dX11_book_6 : decode cX11_book 6 = .ok (.getfield 55, 3) := by decide +kernel
theorem dX11_book_9 : decode cX11_book 9 = .ok (.getfield 171, 3) := by decide +kernel
theorem dX11_book_12 : decode cX11_book 12 = .ok (.if_icmp .lt 6, 3) := by decide +kernel
theorem dX11_book_15 : decode cX11_book 15 = .ok (.bipush (-2), 2) := by decide +kernel
theorem dX11_book_17 : decode cX11_book 17 = .ok (.ireturn, 1) := by decide +kernel
theorem dX11_book_18 : decode cX11_book 18 = .ok (.iload_n 2, 1) := by decide +kernel
theorem dX11_book_19 : decode cX11_book 19 = .ok (.tableswitch 85 0 3 #[29, 39, 49, 67], 29) := by decide +kernel
theorem dX11_book_48 : decode cX11_book 48 = .ok (.aload_n 0, 1) := by decide +kernel
theorem dX11_book_49 : decode cX11_book 49 = .ok (.getfield 55, 3) := by decide +kernel
theorem dX11_book_52 : decode cX11_book 52 = .ok (.getfield 179, 3) := by decide +kernel
theorem dX11_book_55 : decode cX11_book 55 = .ok (.iload_n 1, 1) := by decide +kernel
theorem dX11_book_56 : decode cX11_book 56 = .ok (.iaload, 1) := by decide +kernel
theorem dX11_book_57 : decode cX11_book 57 = .ok (.ireturn, 1) := by decide +kernel
theorem dX11_book_58 : decode cX11_book 58 = .ok (.aload_n 0, 1) := by decide +kernel
theorem dX11_book_59 : decode cX11_book 59 = .ok (.getfield 55, 3) := by decide +kernel
theorem dX11_book_62 : decode cX11_book 62 = .ok (.getfield 183, 3) := by decide +kernel
theorem dX11_book_65 : decode cX11_book 65 = .ok (.iload_n 1, 1) := by decide +kernel
theorem dX11_book_66 : decode cX11_book 66 = .ok (.iaload, 1) := by decide +kernel
theorem dX11_book_67 : decode cX11_book 67 = .ok (.ireturn, 1) := by decide +kernel
theorem dX11_book_68 : decode cX11_book 68 = .ok (.aload_n 0, 1) := by decide +kernel
theorem dX11_book_69 : decode cX11_book 69 = .ok (.getfield 55, 3) := by decide +kernel
theorem dX11_book_72 : decode cX11_book 72 = .ok (.getfield 186, 3) := by decide +kernel
theorem dX11_book_75 : decode cX11_book 75 = .ok (.iload_n 1, 1) := by decide +kernel
theorem dX11_book_76 : decode cX11_book 76 = .ok (.baload, 1) := by decide +kernel
theorem dX11_book_77 : decode cX11_book 77 = .ok (.ifCond .eq 7, 3) := by decide +kernel
theorem dX11_book_80 : decode cX11_book 80 = .ok (.iconst 1, 1) := by decide +kernel
theorem dX11_book_81 : decode cX11_book 81 = .ok (.goto 4, 3) := by decide +kernel
theorem dX11_book_84 : decode cX11_book 84 = .ok (.iconst 0, 1) := by decide +kernel
theorem dX11_book_85 : decode cX11_book 85 = .ok (.ireturn, 1) := by decide +kernel
theorem dX11_book_86 : decode cX11_book 86 = .ok (.aload_n 0, 1) := by decide +kernel
theorem dX11_book_87 : decode cX11_book 87 = .ok (.getfield 55, 3) := by decide +kernel
theorem dX11_book_90 : decode cX11_book 90 = .ok (.getfield 190, 3) := by decide +kernel
theorem dX11_book_93 : decode cX11_book 93 = .ok (.iload_n 1, 1) := by decide +kernel
theorem dX11_book_94 : decode cX11_book 94 = .ok (.baload, 1) := by decide +kernel
theorem dX11_book_95 : decode cX11_book 95 = .ok (.ifCond .eq 7, 3) := by decide +kernel
theorem dX11_book_98 : decode cX11_book 98 = .ok (.iconst 1, 1) := by decide +kernel
theorem dX11_book_99 : decode cX11_book 99 = .ok (.goto 4, 3) := by decide +kernel
theorem dX11_book_102 : decode cX11_book 102 = .ok (.iconst 0, 1) := by decide +kernel
theorem dX11_book_103 : decode cX11_book 103 = .ok (.ireturn, 1) := by decide +kernel
theorem dX11_book_104 : decode cX11_book 104 = .ok (.bipush (-2), 2) := by decide +kernel
theorem dX11_book_106 : decode cX11_book 106 = .ok (.ireturn, 1) := by decide +kernel
def rm_X11_book : Room := { frames := 0, cells := 0, slots := 0, locals := 0 }
set_option maxRecDepth 100000 in
set_option maxHeartbeats 4000000 in
theorem c_X11_book (l : Launch) (E : zE) (hV : zV E) (H0 : Heap) (hT0 : HT E H0) (h0 : Nat) (kh0 : eK E h0 = 12) (p0 : Int32) (p1 : Int32) : Met l yX11_book (zws yX11_book cX11_book 3 (some .int)) rm_X11_book (zP E H0 [.ref h0, .int p0, .int p1]) (zPI (fun r => True)) 0 0 (fun _ => False) := by
  refine zEnt (by decide) (Nat.le_of_ble_eq_true rfl) (fun p e s m args below meth c ls Q B hr hlk hh hQ hl => ?_)
  have hx := B.1
  have hb := B.2.1
  have hl : lv_has ls 3 [(0, .ref h0), (1, .int p0), (2, .int p1)] := hl
  refine lv_iload_n hx hb dX11_book_0 rfl (lv_at hl 1 rfl) ?_
  refine lv_if_lt (tgt := 15) hx hb dX11_book_1 (by decide) (fun c_1 => ?_) (fun c_1 => ?_)
  · have f_1 := z_lt c_1 rfl kl_0
    refine lv_bipush (v := (-2)) hx hb dX11_book_15 (by decide) ?_
    have := kl_m2
    have := kl_m2
    exact rtPI (v := (-2)) B hr hlk hh hQ rfl trivial dX11_book_17
  · have f_1 := z_nlt c_1 rfl kl_0
    refine lv_iload_n hx hb dX11_book_4 rfl (lv_at hl 1 rfl) ?_
    refine lv_aload_n hx hb dX11_book_5 rfl (lv_at hl 0 rfl) ?_
    refine g_getR B fl_RX11_55 hT0 kh0 rfl rfl rfl rfl rfl dX11_book_6 (fun q_2 s_2 k_q_2 => ?_)
    refine g_getI B fl_RX11_171 hT0 k_q_2 rfl rfl rfl rfl rfl dX11_book_9 (fun x_3 s_3 a_3 b_3 => ?_)
    refine lv_icmp_lt (tgt := 18) hx hb dX11_book_12 (by decide) (fun c_4 => ?_) (fun c_4 => ?_)
    · have f_4 := z_lt c_4 rfl rfl
      refine lv_iload_n hx hb dX11_book_18 rfl (lv_at hl 2 rfl) ?_
      by_cases c_5 : 0 ≤ p1.toInt ∧ p1.toInt ≤ 3
      · have : p1.toInt = 0 ∨ p1.toInt = 1 ∨ p1.toInt = 2 ∨ p1.toInt = 3 := by omega
        rcases this with h_5 | h_5 | h_5 | h_5
        · refine lv_tableIn (off := 29) (tgt := 48) hx hb dX11_book_19 (by omega) (by omega) (by rw [h_5]; rfl) (by decide) ?_
          refine lv_aload_n hx hb dX11_book_48 rfl (lv_at hl 0 rfl) ?_
          refine g_get B fl_RX11_55 hT0 kh0 rfl rfl rfl dX11_book_49 s_2 ?_
          refine g_getR B fl_RX11_179 hT0 k_q_2 rfl rfl rfl rfl rfl dX11_book_52 (fun q_6 s_6 k_q_6 => ?_)
          refine lv_iload_n hx hb dX11_book_55 rfl (lv_at hl 1 rfl) ?_
          refine g_ialdI (i := p0) (N := 240) B hT0 k_q_6 rfl rfl rfl rfl (by omega) (by omega) rfl dX11_book_56 (fun x_7 s_7 a_7 b_7 => ?_)
          exact rtPI (v := x_7) B hr hlk hh hQ rfl trivial dX11_book_57
        · refine lv_tableIn (off := 39) (tgt := 58) hx hb dX11_book_19 (by omega) (by omega) (by rw [h_5]; rfl) (by decide) ?_
          refine lv_aload_n hx hb dX11_book_58 rfl (lv_at hl 0 rfl) ?_
          refine g_get B fl_RX11_55 hT0 kh0 rfl rfl rfl dX11_book_59 s_2 ?_
          refine g_getR B fl_RX11_183 hT0 k_q_2 rfl rfl rfl rfl rfl dX11_book_62 (fun q_8 s_8 k_q_8 => ?_)
          refine lv_iload_n hx hb dX11_book_65 rfl (lv_at hl 1 rfl) ?_
          refine g_ialdI (i := p0) (N := 240) B hT0 k_q_8 rfl rfl rfl rfl (by omega) (by omega) rfl dX11_book_66 (fun x_9 s_9 a_9 b_9 => ?_)
          exact rtPI (v := x_9) B hr hlk hh hQ rfl trivial dX11_book_67
        · refine lv_tableIn (off := 49) (tgt := 68) hx hb dX11_book_19 (by omega) (by omega) (by rw [h_5]; rfl) (by decide) ?_
          refine lv_aload_n hx hb dX11_book_68 rfl (lv_at hl 0 rfl) ?_
          refine g_get B fl_RX11_55 hT0 kh0 rfl rfl rfl dX11_book_69 s_2 ?_
          refine g_getR B fl_RX11_186 hT0 k_q_2 rfl rfl rfl rfl rfl dX11_book_72 (fun q_10 s_10 k_q_10 => ?_)
          refine lv_iload_n hx hb dX11_book_75 rfl (lv_at hl 1 rfl) ?_
          refine g_zaldI (i := p0) (N := 240) B hT0 k_q_10 rfl rfl rfl rfl (by omega) (by omega) rfl dX11_book_76 (fun x_11 s_11 a_11 b_11 => ?_)
          refine lv_if_eq (tgt := 84) hx hb dX11_book_77 (by decide) (fun c_12 => ?_) (fun c_12 => ?_)
          · have f_12 := z_eq c_12 rfl kl_0
            refine lv_iconst (v := 0) hx hb dX11_book_84 (by decide) ?_
            have := kl_0
            have := kl_0
            exact rtPI (v := 0) B hr hlk hh hQ rfl trivial dX11_book_85
          · have f_12 := z_ne c_12 rfl kl_0
            refine lv_iconst (v := 1) hx hb dX11_book_80 (by decide) ?_
            refine lv_goto (tgt := 85) hx hb dX11_book_81 (by decide) ?_
            have := kl_1
            have := kl_1
            exact rtPI (v := 1) B hr hlk hh hQ rfl trivial dX11_book_85
        · refine lv_tableIn (off := 67) (tgt := 86) hx hb dX11_book_19 (by omega) (by omega) (by rw [h_5]; rfl) (by decide) ?_
          refine lv_aload_n hx hb dX11_book_86 rfl (lv_at hl 0 rfl) ?_
          refine g_get B fl_RX11_55 hT0 kh0 rfl rfl rfl dX11_book_87 s_2 ?_
          refine g_getR B fl_RX11_190 hT0 k_q_2 rfl rfl rfl rfl rfl dX11_book_90 (fun q_13 s_13 k_q_13 => ?_)
          refine lv_iload_n hx hb dX11_book_93 rfl (lv_at hl 1 rfl) ?_
          refine g_zaldI (i := p0) (N := 60) B hT0 k_q_13 rfl rfl rfl rfl (by omega) (by omega) rfl dX11_book_94 (fun x_14 s_14 a_14 b_14 => ?_)
          refine lv_if_eq (tgt := 102) hx hb dX11_book_95 (by decide) (fun c_15 => ?_) (fun c_15 => ?_)
          · have f_15 := z_eq c_15 rfl kl_0
            refine lv_iconst (v := 0) hx hb dX11_book_102 (by decide) ?_
            have := kl_0
            have := kl_0
            exact rtPI (v := 0) B hr hlk hh hQ rfl trivial dX11_book_103
          · have f_15 := z_ne c_15 rfl kl_0
            refine lv_iconst (v := 1) hx hb dX11_book_98 (by decide) ?_
            refine lv_goto (tgt := 103) hx hb dX11_book_99 (by decide) ?_
            have := kl_1
            have := kl_1
            exact rtPI (v := 1) B hr hlk hh hQ rfl trivial dX11_book_103
      · refine lv_tableOut (tgt := 104) hx hb dX11_book_19 (by omega) (by decide) ?_
        refine lv_bipush (v := (-2)) hx hb dX11_book_104 (by decide) ?_
        have := kl_m2
        have := kl_m2
        exact rtPI (v := (-2)) B hr hlk hh hQ rfl trivial dX11_book_106
    · have f_4 := z_nlt c_4 rfl rfl
      refine lv_bipush (v := (-2)) hx hb dX11_book_15 (by decide) ?_
      have := kl_m2
      have := kl_m2
      exact rtPI (v := (-2)) B hr hlk hh hQ rfl trivial dX11_book_17

theorem dX11_differ_0 : decode cX11_differ 0 = .ok (.aload_n 0, 1) := by decide +kernel
theorem dX11_differ_1 : decode cX11_differ 1 = .ok (.getfield 55, 3) := by decide +kernel
theorem dX11_differ_4 : decode cX11_differ 4 = .ok (.iconst 0, 1) := by decide +kernel
theorem dX11_differ_5 : decode cX11_differ 5 = .ok (.invokevirtual 138, 3) := by decide +kernel
theorem dX11_differ_8 : decode cX11_differ 8 = .ok (.aload_n 0, 1) := by decide +kernel
theorem dX11_differ_9 : decode cX11_differ 9 = .ok (.getfield 55, 3) := by decide +kernel
theorem dX11_differ_12 : decode cX11_differ 12 = .ok (.iconst 1, 1) := by decide +kernel
theorem dX11_differ_13 : decode cX11_differ 13 = .ok (.invokevirtual 138, 3) := by decide +kernel
theorem dX11_differ_16 : decode cX11_differ 16 = .ok (.invokevirtual 193, 3) := by decide +kernel
theorem dX11_differ_19 : decode cX11_differ 19 = .ok (.ireturn, 1) := by decide +kernel
def rm_X11_differ : Room := { frames := 2, cells := 0, slots := 0, locals := 42 }
set_option maxRecDepth 100000 in
set_option maxHeartbeats 4000000 in
theorem c_X11_differ (l : Launch) (E : zE) (hV : zV E) (H0 : Heap) (hT0 : HT E H0) (h0 : Nat) (kh0 : eK E h0 = 12) : Met l yX11_differ (zws yX11_differ cX11_differ 1 (some .int)) rm_X11_differ (zP E H0 [.ref h0]) (zPI (fun r => 0 ≤ r.toInt ∧ r.toInt ≤ 63)) 0 0 (fun _ => False) := by
  refine zEnt (by decide) (Nat.le_of_ble_eq_true rfl) (fun p e s m args below meth c ls Q B hr hlk hh hQ hl => ?_)
  have hx := B.1
  have hb := B.2.1
  have hl : lv_has ls 1 [(0, .ref h0)] := hl
  refine lv_aload_n hx hb dX11_differ_0 rfl (lv_at hl 0 rfl) ?_
  refine g_getR B fl_RX11_55 hT0 kh0 rfl rfl rfl rfl rfl dX11_differ_1 (fun q_1 s_1 k_q_1 => ?_)
  refine lv_iconst (v := 0) hx hb dX11_differ_4 (by decide) ?_
  have := kl_0
  refine zkPR (zrV (rest := []) B (c_X3_boardNow l E hV H0 hT0 q_1 k_q_1 0 (by omega) (by omega)) cl_RX11_138 hT0 k_q_1 rfl rfl rfl rfl hl.1 rfl (Nat.le_of_ble_eq_true rfl) dX11_differ_5 rfl rfl ⟨rfl, rfl⟩ ⟨Nat.zero_le _, Nat.zero_le _⟩ (zO.rf hh)) (fun q_2 hp_2 => ?_)
  refine lv_aload_n hx hb dX11_differ_8 rfl (lv_at hl 0 rfl) ?_
  refine g_get B fl_RX11_55 hT0 kh0 rfl rfl rfl dX11_differ_9 s_1 ?_
  refine lv_iconst (v := 1) hx hb dX11_differ_12 (by decide) ?_
  have := kl_1
  refine zkPR (zrV (rest := [.ref q_2]) B (c_X3_boardNow l E hV H0 hT0 q_1 k_q_1 1 (by omega) (by omega)) cl_RX11_138 hT0 k_q_1 rfl rfl rfl rfl hl.1 rfl (Nat.le_of_ble_eq_true rfl) dX11_differ_13 rfl rfl ⟨rfl, rfl⟩ ⟨Nat.zero_le _, Nat.zero_le _⟩ (zO.rf hh)) (fun q_3 hp_3 => ?_)
  refine zkPI (zrV (rest := []) B (c_X4_countUnlike l E hV H0 hT0 q_2 hp_2 q_3 hp_3) cl_RX11_193 hT0 hp_2 rfl rfl rfl rfl hl.1 rfl (Nat.le_of_ble_eq_true rfl) dX11_differ_16 rfl rfl ⟨rfl, rfl⟩ ⟨Nat.zero_le _, Nat.zero_le _⟩ (zO.rf hh)) (fun x_4 hp_4 => ?_)
  obtain ⟨hp_4_1, hp_4_2⟩ := hp_4
  exact rtPI (v := x_4) B hr hlk hh hQ rfl ⟨by omega, by omega⟩ dX11_differ_19

theorem dX11_since_0 : decode cX11_since 0 = .ok (.aload_n 0, 1) := by decide +kernel
theorem dX11_since_1 : decode cX11_since 1 = .ok (.getfield 55, 3) := by decide +kernel
theorem dX11_since_4 : decode cX11_since 4 = .ok (.invokevirtual 196, 3) := by decide +kernel
theorem dX11_since_7 : decode cX11_since 7 = .ok (.ireturn, 1) := by decide +kernel
def rm_X11_since : Room := { frames := 3, cells := 0, slots := 0, locals := 63 }
set_option maxRecDepth 100000 in
set_option maxHeartbeats 4000000 in
theorem c_X11_since (l : Launch) (E : zE) (hV : zV E) (H0 : Heap) (hT0 : HT E H0) (h0 : Nat) (kh0 : eK E h0 = 12) : Met l yX11_since (zws yX11_since cX11_since 1 (some .int)) rm_X11_since (zP E H0 [.ref h0]) (zPI (fun r => (-1) ≤ r.toInt ∧ r.toInt ≤ 60)) 0 0 (fun _ => False) := by
  refine zEnt (by decide) (Nat.le_of_ble_eq_true rfl) (fun p e s m args below meth c ls Q B hr hlk hh hQ hl => ?_)
  have hx := B.1
  have hb := B.2.1
  have hl : lv_has ls 1 [(0, .ref h0)] := hl
  refine lv_aload_n hx hb dX11_since_0 rfl (lv_at hl 0 rfl) ?_
  refine g_getR B fl_RX11_55 hT0 kh0 rfl rfl rfl rfl rfl dX11_since_1 (fun q_1 s_1 k_q_1 => ?_)
  refine zkPI (zrV (rest := []) B (c_X3_firstApart l E hV H0 hT0 q_1 k_q_1) cl_RX11_196 hT0 k_q_1 rfl rfl rfl rfl hl.1 rfl (Nat.le_of_ble_eq_true rfl) dX11_since_4 rfl rfl ⟨rfl, rfl⟩ ⟨Nat.zero_le _, Nat.zero_le _⟩ (zO.rf hh)) (fun x_2 hp_2 => ?_)
  obtain ⟨hp_2_1, hp_2_2⟩ := hp_2
  exact rtPI (v := x_2) B hr hlk hh hQ rfl ⟨by omega, by omega⟩ dX11_since_7

theorem dX11_could_0 : decode cX11_could 0 = .ok (.iload_n 1, 1) := by decide +kernel
theorem dX11_could_1 : decode cX11_could 1 = .ok (.invokestatic 131, 3) := by decide +kernel
theorem dX11_could_4 : decode cX11_could 4 = .ok (.ifCond .eq 14, 3) := by decide +kernel
theorem dX11_could_7 : decode cX11_could 7 = .ok (.aload_n 0, 1) := by decide +kernel
theorem dX11_could_8 : decode cX11_could 8 = .ok (.getfield 64, 3) := by decide +kernel
theorem dX11_could_11 : decode cX11_could 11 = .ok (.iload_n 1, 1) := by decide +kernel
theorem dX11_could_12 : decode cX11_could 12 = .ok (.invokevirtual 200, 3) := by decide +kernel
theorem dX11_could_15 : decode cX11_could 15 = .ok (.goto 4, 3) := by decide +kernel
theorem dX11_could_18 : decode cX11_could 18 = .ok (.iconst (-1), 1) := by decide +kernel
theorem dX11_could_19 : decode cX11_could 19 = .ok (.ireturn, 1) := by decide +kernel
def rm_X11_could : Room := { frames := 6, cells := 0, slots := 0, locals := 155 }
abbrev wS_X11_could : List (Nat × Nat) := [(2, 2), (2, 3), (2, 4), (2, 5), (5, 0), (5, 1), (5, 2), (5, 3), (5, 4), (5, 5), (5, 6)]
set_option maxRecDepth 100000 in
set_option maxHeartbeats 4000000 in
theorem c_X11_could (l : Launch) (E : zE) (hV : zV E) (H0 : Heap) (hT0 : HT E H0) (h0 : Nat) (kh0 : eK E h0 = 12) (p0 : Int32) : Met l yX11_could (zws yX11_could cX11_could 2 (some .int)) rm_X11_could (zP E H0 [.ref h0, .int p0]) (zQI E E wS_X11_could (fun r H1 => (-1) ≤ r.toInt ∧ r.toInt ≤ 64)) 0 0 (zfr E) := by
  refine zEnt (by decide) (Nat.le_of_ble_eq_true rfl) (fun p e s m args below meth c ls Q B hr hlk hh hQ hl => ?_)
  have hx := B.1
  have hb := B.2.1
  have hG0 : zG E wS_X11_could H0 H0 [] := zG.rf hT0
  have hl : lv_has ls 2 [(0, .ref h0), (1, .int p0)] := hl
  refine lv_iload_n hx hb dX11_could_0 rfl (lv_at hl 1 rfl) ?_
  refine zkPI (zrS (rest := []) B (c_X11_isKeeper l E hV H0 hT0 p0) cs_RX11_131 rfl hl.1 rfl (Nat.le_of_ble_eq_true rfl) dX11_could_1 rfl rfl ⟨rfl, rfl⟩ ⟨Nat.zero_le _, Nat.zero_le _⟩ (zO.of hG0 hh)) (fun x_1 hp_1 => ?_)
  obtain ⟨hp_1_1, hp_1_2, hp_1_3⟩ := hp_1
  refine lv_if_eq (tgt := 18) hx hb dX11_could_4 (by decide) (fun c_2 => ?_) (fun c_2 => ?_)
  · have f_2 := z_eq c_2 rfl kl_0
    refine lv_iconst (v := (-1)) hx hb dX11_could_18 (by decide) ?_
    have := kl_m1
    have := kl_m1
    exact rtI (v := (-1)) B hr hlk hh hQ hG0 rfl ⟨by omega, by omega⟩ dX11_could_19
  · have f_2 := z_ne c_2 rfl kl_0
    refine lv_aload_n hx hb dX11_could_7 rfl (lv_at hl 0 rfl) ?_
    refine g_getR B fl_RX11_64 hT0 kh0 rfl rfl rfl rfl rfl dX11_could_8 (fun q_3 s_3 k_q_3 => ?_)
    refine lv_iload_n hx hb dX11_could_11 rfl (lv_at hl 1 rfl) ?_
    refine zkI (zrV (rest := []) B (c_X1_settle l E hV H0 hT0 q_3 k_q_3 p0 (by omega) (by omega)) cl_RX11_200 hT0 k_q_3 rfl rfl rfl rfl hl.1 rfl (Nat.le_of_ble_eq_true rfl) dX11_could_12 rfl rfl ⟨rfl, rfl⟩ ⟨Nat.zero_le _, Nat.zero_le _⟩ (zO.of hG0 hh)) hG0 rfl (fun x_4 H4 lc4 hp_4 gH4 rH4 => ?_)
    obtain ⟨hp_4_1, hp_4_2⟩ := hp_4
    refine lv_goto (tgt := 19) hx hb dX11_could_15 (by decide) ?_
    exact rtI (v := x_4) B hr hlk hh hQ gH4 rfl ⟨by omega, by omega⟩ dX11_could_19

theorem dX11_lawful_0 : decode cX11_lawful 0 = .ok (.iload_n 1, 1) := by decide +kernel
theorem dX11_lawful_1 : decode cX11_lawful 1 = .ok (.invokestatic 131, 3) := by decide +kernel
theorem dX11_lawful_4 : decode cX11_lawful 4 = .ok (.ifCond .ne 5, 3) := by decide +kernel
theorem dX11_lawful_7 : decode cX11_lawful 7 = .ok (.iconst (-1), 1) := by decide +kernel
theorem dX11_lawful_8 : decode cX11_lawful 8 = .ok (.ireturn, 1) := by decide +kernel
theorem dX11_lawful_9 : decode cX11_lawful 9 = .ok (.aload_n 0, 1) := by decide +kernel
theorem dX11_lawful_10 : decode cX11_lawful 10 = .ok (.getfield 64, 3) := by decide +kernel
theorem dX11_lawful_13 : decode cX11_lawful 13 = .ok (.iload_n 1, 1) := by decide +kernel
theorem dX11_lawful_14 : decode cX11_lawful 14 = .ok (.invokevirtual 200, 3) := by decide +kernel
theorem dX11_lawful_17 : decode cX11_lawful 17 = .ok (.pop, 1) := by decide +kernel
theorem dX11_lawful_18 : decode cX11_lawful 18 = .ok (.aload_n 0, 1) := by decide +kernel
theorem dX11_lawful_19 : decode cX11_lawful 19 = .ok (.getfield 64, 3) := by decide +kernel
theorem dX11_lawful_22 : decode cX11_lawful 22 = .ok (.iload_n 1, 1) := by decide +kernel
theorem dX11_lawful_23 : decode cX11_lawful 23 = .ok (.invokevirtual 202, 3) := by decide +kernel
theorem dX11_lawful_26 : decode cX11_lawful 26 = .ok (.ireturn, 1) := by decide +kernel
def rm_X11_lawful : Room := { frames := 6, cells := 0, slots := 0, locals := 155 }
abbrev wS_X11_lawful : List (Nat × Nat) := [(2, 2), (2, 3), (2, 4), (2, 5), (5, 0), (5, 1), (5, 2), (5, 3), (5, 4), (5, 5), (5, 6)]
set_option maxRecDepth 100000 in
set_option maxHeartbeats 4000000 in
theorem c_X11_lawful (l : Launch) (E : zE) (hV : zV E) (H0 : Heap) (hT0 : HT E H0) (h0 : Nat) (kh0 : eK E h0 = 12) (p0 : Int32) : Met l yX11_lawful (zws yX11_lawful cX11_lawful 2 (some .int)) rm_X11_lawful (zP E H0 [.ref h0, .int p0]) (zQI E E wS_X11_lawful (fun r H1 => True)) 0 0 (zfr E) := by
  refine zEnt (by decide) (Nat.le_of_ble_eq_true rfl) (fun p e s m args below meth c ls Q B hr hlk hh hQ hl => ?_)
  have hx := B.1
  have hb := B.2.1
  have hG0 : zG E wS_X11_lawful H0 H0 [] := zG.rf hT0
  have hl : lv_has ls 2 [(0, .ref h0), (1, .int p0)] := hl
  refine lv_iload_n hx hb dX11_lawful_0 rfl (lv_at hl 1 rfl) ?_
  refine zkPI (zrS (rest := []) B (c_X11_isKeeper l E hV H0 hT0 p0) cs_RX11_131 rfl hl.1 rfl (Nat.le_of_ble_eq_true rfl) dX11_lawful_1 rfl rfl ⟨rfl, rfl⟩ ⟨Nat.zero_le _, Nat.zero_le _⟩ (zO.of hG0 hh)) (fun x_1 hp_1 => ?_)
  obtain ⟨hp_1_1, hp_1_2, hp_1_3⟩ := hp_1
  refine lv_if_ne (tgt := 9) hx hb dX11_lawful_4 (by decide) (fun c_2 => ?_) (fun c_2 => ?_)
  · have f_2 := z_ne c_2 rfl kl_0
    refine lv_aload_n hx hb dX11_lawful_9 rfl (lv_at hl 0 rfl) ?_
    refine g_getR B fl_RX11_64 hT0 kh0 rfl rfl rfl rfl rfl dX11_lawful_10 (fun q_3 s_3 k_q_3 => ?_)
    refine lv_iload_n hx hb dX11_lawful_13 rfl (lv_at hl 1 rfl) ?_
    refine zkI (zrV (rest := []) B (c_X1_settle l E hV H0 hT0 q_3 k_q_3 p0 (by omega) (by omega)) cl_RX11_200 hT0 k_q_3 rfl rfl rfl rfl hl.1 rfl (Nat.le_of_ble_eq_true rfl) dX11_lawful_14 rfl rfl ⟨rfl, rfl⟩ ⟨Nat.zero_le _, Nat.zero_le _⟩ (zO.of hG0 hh)) hG0 rfl (fun x_4 H4 lc4 hp_4 gH4 rH4 => ?_)
    have s_5 := rH4.keep hV kh0 rfl s_3
    obtain ⟨hp_4_1, hp_4_2⟩ := hp_4
    refine lv_pop hx hb dX11_lawful_17 rfl ?_
    refine lv_aload_n hx hb dX11_lawful_18 rfl (lv_at hl 0 rfl) ?_
    refine g_get B fl_RX11_64 gH4.1 kh0 rfl rfl rfl dX11_lawful_19 s_5 ?_
    refine lv_iload_n hx hb dX11_lawful_22 rfl (lv_at hl 1 rfl) ?_
    refine zkPI (zrV (rest := []) B (c_X1_countSafe l E hV H4 gH4.1 q_3 k_q_3 p0 (by omega) (by omega)) cl_RX11_202 gH4.1 k_q_3 rfl rfl rfl rfl hl.1 rfl (Nat.le_of_ble_eq_true rfl) dX11_lawful_23 rfl rfl ⟨rfl, rfl⟩ ⟨Nat.zero_le _, Nat.zero_le _⟩ (zO.of gH4 hh)) (fun x_6 hp_6 => ?_)
    exact rtI (v := x_6) B hr hlk hh hQ gH4 rfl trivial dX11_lawful_26
  · have f_2 := z_eq c_2 rfl kl_0
    refine lv_iconst (v := (-1)) hx hb dX11_lawful_7 (by decide) ?_
    have := kl_m1
    have := kl_m1
    exact rtI (v := (-1)) B hr hlk hh hQ hG0 rfl trivial dX11_lawful_8

theorem dX11_lawfulAt_0 : decode cX11_lawfulAt 0 = .ok (.iload_n 1, 1) := by decide +kernel
theorem dX11_lawfulAt_1 : decode cX11_lawfulAt 1 = .ok (.invokestatic 131, 3) := by decide +kernel
theorem dX11_lawfulAt_4 : decode cX11_lawfulAt 4 = .ok (.ifCond .ne 5, 3) := by decide +kernel
theorem dX11_lawfulAt_7 : decode cX11_lawfulAt 7 = .ok (.iconst (-1), 1) := by decide +kernel
theorem dX11_lawfulAt_8 : decode cX11_lawfulAt 8 = .ok (.ireturn, 1) := by decide +kernel
theorem dX11_lawfulAt_9 : decode cX11_lawfulAt 9 = .ok (.aload_n 0, 1) := by decide +kernel
theorem dX11_lawfulAt_10 : decode cX11_lawfulAt 10 = .ok (.getfield 64, 3) := by decide +kernel
theorem dX11_lawfulAt_13 : decode cX11_lawfulAt 13 = .ok (.iload_n 1, 1) := by decide +kernel
theorem dX11_lawfulAt_14 : decode cX11_lawfulAt 14 = .ok (.invokevirtual 200, 3) := by decide +kernel
theorem dX11_lawfulAt_17 : decode cX11_lawfulAt 17 = .ok (.pop, 1) := by decide +kernel
theorem dX11_lawfulAt_18 : decode cX11_lawfulAt 18 = .ok (.aload_n 0, 1) := by decide +kernel
theorem dX11_lawfulAt_19 : decode cX11_lawfulAt 19 = .ok (.getfield 64, 3) := by decide +kernel
theorem dX11_lawfulAt_22 : decode cX11_lawfulAt 22 = .ok (.iload_n 1, 1) := by decide +kernel
theorem dX11_lawfulAt_23 : decode cX11_lawfulAt 23 = .ok (.iload_n 2, 1) := by decide +kernel
theorem dX11_lawfulAt_24 : decode cX11_lawfulAt 24 = .ok (.invokevirtual 205, 3) := by decide +kernel
theorem dX11_lawfulAt_27 : decode cX11_lawfulAt 27 = .ok (.ireturn, 1) := by decide +kernel
def rm_X11_lawfulAt : Room := { frames := 6, cells := 0, slots := 0, locals := 155 }
abbrev wS_X11_lawfulAt : List (Nat × Nat) := [(2, 2), (2, 3), (2, 4), (2, 5), (5, 0), (5, 1), (5, 2), (5, 3), (5, 4), (5, 5), (5, 6)]
set_option maxRecDepth 100000 in
set_option maxHeartbeats 4000000 in
theorem c_X11_lawfulAt (l : Launch) (E : zE) (hV : zV E) (H0 : Heap) (hT0 : HT E H0) (h0 : Nat) (kh0 : eK E h0 = 12) (p0 : Int32) (p1 : Int32) : Met l yX11_lawfulAt (zws yX11_lawfulAt cX11_lawfulAt 3 (some .int)) rm_X11_lawfulAt (zP E H0 [.ref h0, .int p0, .int p1]) (zQI E E wS_X11_lawfulAt (fun r H1 => True)) 0 0 (zfr E) := by
  refine zEnt (by decide) (Nat.le_of_ble_eq_true rfl) (fun p e s m args below meth c ls Q B hr hlk hh hQ hl => ?_)
  have hx := B.1
  have hb := B.2.1
  have hG0 : zG E wS_X11_lawfulAt H0 H0 [] := zG.rf hT0
  have hl : lv_has ls 3 [(0, .ref h0), (1, .int p0), (2, .int p1)] := hl
  refine lv_iload_n hx hb dX11_lawfulAt_0 rfl (lv_at hl 1 rfl) ?_
  refine zkPI (zrS (rest := []) B (c_X11_isKeeper l E hV H0 hT0 p0) cs_RX11_131 rfl hl.1 rfl (Nat.le_of_ble_eq_true rfl) dX11_lawfulAt_1 rfl rfl ⟨rfl, rfl⟩ ⟨Nat.zero_le _, Nat.zero_le _⟩ (zO.of hG0 hh)) (fun x_1 hp_1 => ?_)
  obtain ⟨hp_1_1, hp_1_2, hp_1_3⟩ := hp_1
  refine lv_if_ne (tgt := 9) hx hb dX11_lawfulAt_4 (by decide) (fun c_2 => ?_) (fun c_2 => ?_)
  · have f_2 := z_ne c_2 rfl kl_0
    refine lv_aload_n hx hb dX11_lawfulAt_9 rfl (lv_at hl 0 rfl) ?_
    refine g_getR B fl_RX11_64 hT0 kh0 rfl rfl rfl rfl rfl dX11_lawfulAt_10 (fun q_3 s_3 k_q_3 => ?_)
    refine lv_iload_n hx hb dX11_lawfulAt_13 rfl (lv_at hl 1 rfl) ?_
    refine zkI (zrV (rest := []) B (c_X1_settle l E hV H0 hT0 q_3 k_q_3 p0 (by omega) (by omega)) cl_RX11_200 hT0 k_q_3 rfl rfl rfl rfl hl.1 rfl (Nat.le_of_ble_eq_true rfl) dX11_lawfulAt_14 rfl rfl ⟨rfl, rfl⟩ ⟨Nat.zero_le _, Nat.zero_le _⟩ (zO.of hG0 hh)) hG0 rfl (fun x_4 H4 lc4 hp_4 gH4 rH4 => ?_)
    have s_5 := rH4.keep hV kh0 rfl s_3
    obtain ⟨hp_4_1, hp_4_2⟩ := hp_4
    refine lv_pop hx hb dX11_lawfulAt_17 rfl ?_
    refine lv_aload_n hx hb dX11_lawfulAt_18 rfl (lv_at hl 0 rfl) ?_
    refine g_get B fl_RX11_64 gH4.1 kh0 rfl rfl rfl dX11_lawfulAt_19 s_5 ?_
    refine lv_iload_n hx hb dX11_lawfulAt_22 rfl (lv_at hl 1 rfl) ?_
    refine lv_iload_n hx hb dX11_lawfulAt_23 rfl (lv_at hl 2 rfl) ?_
    refine zkPI (zrV (rest := []) B (c_X1_findSafe l E hV H4 gH4.1 q_3 k_q_3 p0 (by omega) (by omega) p1) cl_RX11_205 gH4.1 k_q_3 rfl rfl rfl rfl hl.1 rfl (Nat.le_of_ble_eq_true rfl) dX11_lawfulAt_24 rfl rfl ⟨rfl, rfl⟩ ⟨Nat.zero_le _, Nat.zero_le _⟩ (zO.of gH4 hh)) (fun x_6 hp_6 => ?_)
    exact rtI (v := x_6) B hr hlk hh hQ gH4 rfl trivial dX11_lawfulAt_27
  · have f_2 := z_eq c_2 rfl kl_0
    refine lv_iconst (v := (-1)) hx hb dX11_lawfulAt_7 (by decide) ?_
    have := kl_m1
    have := kl_m1
    exact rtI (v := (-1)) B hr hlk hh hQ hG0 rfl trivial dX11_lawfulAt_8

theorem dX11_code_0 : decode cX11_code 0 = .ok (.aload_n 0, 1) := by decide +kernel
theorem dX11_code_1 : decode cX11_code 1 = .ok (.getfield 71, 3) := by decide +kernel
theorem dX11_code_4 : decode cX11_code 4 = .ok (.getfield 209, 3) := by decide +kernel
theorem dX11_code_7 : decode cX11_code 7 = .ok (.ireturn, 1) := by decide +kernel
def rm_X11_code : Room := { frames := 0, cells := 0, slots := 0, locals := 0 }
set_option maxRecDepth 100000 in
set_option maxHeartbeats 4000000 in
theorem c_X11_code (l : Launch) (E : zE) (hV : zV E) (H0 : Heap) (hT0 : HT E H0) (h0 : Nat) (kh0 : eK E h0 = 12) : Met l yX11_code (zws yX11_code cX11_code 1 (some .int)) rm_X11_code (zP E H0 [.ref h0]) (zPI (fun r => True)) 0 0 (fun _ => False) := by
  refine zEnt (by decide) (Nat.le_of_ble_eq_true rfl) (fun p e s m args below meth c ls Q B hr hlk hh hQ hl => ?_)
  have hx := B.1
  have hb := B.2.1
  have hl : lv_has ls 1 [(0, .ref h0)] := hl
  refine lv_aload_n hx hb dX11_code_0 rfl (lv_at hl 0 rfl) ?_
  refine g_getR B fl_RX11_71 hT0 kh0 rfl rfl rfl rfl rfl dX11_code_1 (fun q_1 s_1 k_q_1 => ?_)
  refine g_getI B fl_RX11_209 hT0 k_q_1 rfl rfl rfl rfl rfl dX11_code_4 (fun x_2 s_2 a_2 b_2 => ?_)
  exact rtPI (v := x_2) B hr hlk hh hQ rfl trivial dX11_code_7

theorem dX11_length_0 : decode cX11_length 0 = .ok (.iload_n 1, 1) := by decide +kernel
theorem dX11_length_1 : decode cX11_length 1 = .ok (.ifCond .lt 26, 3) := by decide +kernel
theorem dX11_length_4 : decode cX11_length 4 = .ok (.iload_n 1, 1) := by decide +kernel
theorem dX11_length_5 : decode cX11_length 5 = .ok (.aload_n 0, 1) := by decide +kernel
theorem dX11_length_6 : decode cX11_length 6 = .ok (.getfield 71, 3) := by decide +kernel
theorem dX11_length_9 : decode cX11_length 9 = .ok (.getfield 212, 3) := by decide +kernel
theorem dX11_length_12 : decode cX11_length 12 = .ok (.if_icmp .ge 15, 3) := by decide +kernel
theorem dX11_length_15 : decode cX11_length 15 = .ok (.aload_n 0, 1) := by decide +kernel
theorem dX11_length_16 : decode cX11_length 16 = .ok (.getfield 71, 3) := by decide +kernel
theorem dX11_length_19 : decode cX11_length 19 = .ok (.getfield 213, 3) := by decide +kernel
theorem dX11_length_22 : decode cX11_length 22 = .ok (.iload_n 1, 1) := by decide +kernel
theorem dX11_length_23 : decode cX11_length 23 = .ok (.iaload, 1) := by decide +kernel
theorem dX11_length_24 : decode cX11_length 24 = .ok (.goto 4, 3) := by decide +kernel
theorem dX11_length_27 : decode cX11_length 27 = .ok (.iconst (-1), 1) := by decide +kernel
theorem dX11_length_28 : decode cX11_length 28 = .ok (.ireturn, 1) := by decide +kernel
def rm_X11_length : Room := { frames := 0, cells := 0, slots := 0, locals := 0 }
set_option maxRecDepth 100000 in
set_option maxHeartbeats 4000000 in
theorem c_X11_length (l : Launch) (E : zE) (hV : zV E) (H0 : Heap) (hT0 : HT E H0) (h0 : Nat) (kh0 : eK E h0 = 12) (p0 : Int32) : Met l yX11_length (zws yX11_length cX11_length 2 (some .int)) rm_X11_length (zP E H0 [.ref h0, .int p0]) (zPI (fun r => True)) 0 0 (fun _ => False) := by
  refine zEnt (by decide) (Nat.le_of_ble_eq_true rfl) (fun p e s m args below meth c ls Q B hr hlk hh hQ hl => ?_)
  have hx := B.1
  have hb := B.2.1
  have hl : lv_has ls 2 [(0, .ref h0), (1, .int p0)] := hl
  refine lv_iload_n hx hb dX11_length_0 rfl (lv_at hl 1 rfl) ?_
  refine lv_if_lt (tgt := 27) hx hb dX11_length_1 (by decide) (fun c_1 => ?_) (fun c_1 => ?_)
  · have f_1 := z_lt c_1 rfl kl_0
    refine lv_iconst (v := (-1)) hx hb dX11_length_27 (by decide) ?_
    have := kl_m1
    have := kl_m1
    exact rtPI (v := (-1)) B hr hlk hh hQ rfl trivial dX11_length_28
  · have f_1 := z_nlt c_1 rfl kl_0
    refine lv_iload_n hx hb dX11_length_4 rfl (lv_at hl 1 rfl) ?_
    refine lv_aload_n hx hb dX11_length_5 rfl (lv_at hl 0 rfl) ?_
    refine g_getR B fl_RX11_71 hT0 kh0 rfl rfl rfl rfl rfl dX11_length_6 (fun q_2 s_2 k_q_2 => ?_)
    refine g_getI B fl_RX11_212 hT0 k_q_2 rfl rfl rfl rfl rfl dX11_length_9 (fun x_3 s_3 a_3 b_3 => ?_)
    refine lv_icmp_ge (tgt := 27) hx hb dX11_length_12 (by decide) (fun c_4 => ?_) (fun c_4 => ?_)
    · have f_4 := z_le c_4 rfl rfl
      refine lv_iconst (v := (-1)) hx hb dX11_length_27 (by decide) ?_
      have := kl_m1
      have := kl_m1
      exact rtPI (v := (-1)) B hr hlk hh hQ rfl trivial dX11_length_28
    · have f_4 := z_nle c_4 rfl rfl
      refine lv_aload_n hx hb dX11_length_15 rfl (lv_at hl 0 rfl) ?_
      refine g_get B fl_RX11_71 hT0 kh0 rfl rfl rfl dX11_length_16 s_2 ?_
      refine g_getR B fl_RX11_213 hT0 k_q_2 rfl rfl rfl rfl rfl dX11_length_19 (fun q_5 s_5 k_q_5 => ?_)
      refine lv_iload_n hx hb dX11_length_22 rfl (lv_at hl 1 rfl) ?_
      refine g_ialdI (i := p0) (N := 12) B hT0 k_q_5 rfl rfl rfl rfl (by omega) (by omega) rfl dX11_length_23 (fun x_6 s_6 a_6 b_6 => ?_)
      refine lv_goto (tgt := 28) hx hb dX11_length_24 (by decide) ?_
      exact rtPI (v := x_6) B hr hlk hh hQ rfl trivial dX11_length_28

theorem dX11_sight_0 : decode cX11_sight 0 = .ok (.iload_n 1, 1) := by decide +kernel
theorem dX11_sight_1 : decode cX11_sight 1 = .ok (.ifCond .lt 21, 3) := by decide +kernel
theorem dX11_sight_4 : decode cX11_sight 4 = .ok (.iload_n 1, 1) := by decide +kernel
theorem dX11_sight_5 : decode cX11_sight 5 = .ok (.aload_n 0, 1) := by decide +kernel
theorem dX11_sight_6 : decode cX11_sight 6 = .ok (.getfield 55, 3) := by decide +kernel
theorem dX11_sight_9 : decode cX11_sight 9 = .ok (.getfield 171, 3) := by decide +kernel
theorem dX11_sight_12 : decode cX11_sight 12 = .ok (.if_icmp .ge 10, 3) := by decide +kernel
theorem dX11_sight_15 : decode cX11_sight 15 = .ok (.iload_n 2, 1) := by decide +kernel
theorem dX11_sight_16 : decode cX11_sight 16 = .ok (.invokestatic 131, 3) := by decide +kernel
theorem dX11_sight_19 : decode cX11_sight 19 = .ok (.ifCond .ne 5, 3) := by decide +kernel
theorem dX11_sight_22 : decode cX11_sight 22 = .ok (.iconst (-1), 1) := by decide +kernel
theorem dX11_sight_23 : decode cX11_sight 23 = .ok (.ireturn, 1) := by decide +kernel
theorem dX11_sight_24 : decode cX11_sight 24 = .ok (.iload_n 3, 1) := by decide +kernel
theorem dX11_sight_25 : decode cX11_sight 25 = .ok (.ifCond .lt 32, 3) := by decide +kernel
theorem dX11_sight_28 : decode cX11_sight 28 = .ok (.iload_n 3, 1) := by decide +kernel
theorem dX11_sight_29 : decode cX11_sight 29 = .ok (.aload_n 0, 1) := by decide +kernel
theorem dX11_sight_30 : decode cX11_sight 30 = .ok (.getfield 39, 3) := by decide +kernel
theorem dX11_sight_33 : decode cX11_sight 33 = .ok (.getfield 135, 3) := by decide +kernel
theorem dX11_sight_36 : decode cX11_sight 36 = .ok (.if_icmp .ge 21, 3) := by decide +kernel
theorem dX11_sight_39 : decode cX11_sight 39 = .ok (.iload 4, 2) := by decide +kernel
theorem dX11_sight_41 : decode cX11_sight 41 = .ok (.iconst (-1), 1) := by decide +kernel
theorem dX11_sight_42 : decode cX11_sight 42 = .ok (.if_icmp .lt 15, 3) := by decide +kernel
theorem dX11_sight_45 : decode cX11_sight 45 = .ok (.iload 4, 2) := by decide +kernel
theorem dX11_sight_47 : decode cX11_sight 47 = .ok (.aload_n 0, 1) := by decide +kernel
theorem dX11_sight_48 : decode cX11_sight 48 = .ok (.getfield 20, 3) := by decide +kernel
theorem dX11_sight_51 : decode cX11_sight 51 = .ok (.getfield 216, 3) := by decide +kernel
theorem dX11_sight_54 : decode cX11_sight 54 = .ok (.if_icmp .lt 5, 3) := by decide +kernel
theorem dX11_sight_57 : decode cX11_sight 57 = .ok (.iconst (-1), 1) := by decide +kernel
theorem dX11_sight_58 : decode cX11_sight 58 = .ok (.ireturn, 1) := by decide +kernel
theorem dX11_sight_59 : decode cX11_sight 59 = .ok (.iload 5, 2) := by decide +kernel
theorem dX11_sight_61 : decode cX11_sight 61 = .ok (.ifCond .eq 11, 3) := by decide +kernel
theorem dX11_sight_64 : decode cX11_sight 64 = .ok (.iload 5, 2) := by decide +kernel
theorem dX11_sight_66 : decode cX11_sight 66 = .ok (.iconst 1, 1) := by decide +kernel
theorem dX11_sight_67 : decode cX11_sight 67 = .ok (.if_icmp .eq 5, 3) := by decide +kernel
theorem dX11_sight_70 : decode cX11_sight 70 = .ok (.iconst (-1), 1) := by decide +kernel
theorem dX11_sight_71 : decode cX11_sight 71 = .ok (.ireturn, 1) := by decide +kernel
theorem dX11_sight_72 : decode cX11_sight 72 = .ok (.aload_n 0, 1) := by decide +kernel
theorem dX11_sight_73 : decode cX11_sight 73 = .ok (.getfield 78, 3) := by decide +kernel
theorem dX11_sight_76 : decode cX11_sight 76 = .ok (.iload_n 1, 1) := by decide +kernel
theorem dX11_sight_77 : decode cX11_sight 77 = .ok (.iload_n 2, 1) := by decide +kernel
theorem dX11_sight_78 : decode cX11_sight 78 = .ok (.iload_n 3, 1) := by decide +kernel
theorem dX11_sight_79 : decode cX11_sight 79 = .ok (.iload 4, 2) := by decide +kernel
theorem dX11_sight_81 : decode cX11_sight 81 = .ok (.iconst (-1), 1) := by decide +kernel
theorem dX11_sight_82 : decode cX11_sight 82 = .ok (.if_icmp .ne 7, 3) := by decide +kernel
theorem dX11_sight_85 : decode cX11_sight 85 = .ok (.iconst (-1), 1) := by decide +kernel
theorem dX11_sight_86 : decode cX11_sight 86 = .ok (.goto 10, 3) := by decide +kernel
theorem dX11_sight_89 : decode cX11_sight 89 = .ok (.iconst 2, 1) := by decide +kernel
theorem dX11_sight_90 : decode cX11_sight 90 = .ok (.iload 4, 2) := by decide +kernel
theorem dX11_sight_92 : decode cX11_sight 92 = .ok (.imul, 1) := by decide +kernel
theorem dX11_sight_93 : decode cX11_sight 93 = .ok (.iload 5, 2) := by decide +kernel
theorem dX11_sight_95 : decode cX11_sight 95 = .ok (.iadd, 1) := by decide +kernel
theorem dX11_sight_96 : decode cX11_sight 96 = .ok (.invokevirtual 219, 3) := by decide +kernel
theorem dX11_sight_99 : decode cX11_sight 99 = .ok (.ireturn, 1) := by decide +kernel
def rm_X11_sight : Room := { frames := 1, cells := 0, slots := 0, locals := 24 }
abbrev wS_X11_sight : List (Nat × Nat) := [(8, 0), (41, 99), (42, 99), (43, 99), (44, 99), (45, 99), (46, 99)]
set_option maxRecDepth 100000 in
set_option maxHeartbeats 4000000 in
theorem c_X11_sight (l : Launch) (E : zE) (hV : zV E) (H0 : Heap) (hT0 : HT E H0) (h0 : Nat) (kh0 : eK E h0 = 12) (p0 : Int32) (p1 : Int32) (p2 : Int32) (p3 : Int32) (p4 : Int32) : Met l yX11_sight (zws yX11_sight cX11_sight 6 (some .int)) rm_X11_sight (zP E H0 [.ref h0, .int p0, .int p1, .int p2, .int p3, .int p4]) (zQI E E wS_X11_sight (fun r H1 => (-1) ≤ r.toInt ∧ r.toInt ≤ 29)) 0 0 (zfr E) := by
  refine zEnt (by decide) (Nat.le_of_ble_eq_true rfl) (fun p e s m args below meth c ls Q B hr hlk hh hQ hl => ?_)
  have hx := B.1
  have hb := B.2.1
  have hG0 : zG E wS_X11_sight H0 H0 [] := zG.rf hT0
  have hl : lv_has ls 6 [(0, .ref h0), (1, .int p0), (2, .int p1), (3, .int p2), (4, .int p3), (5, .int p4)] := hl
  have b96 : ∀ (ls : Array Slot) (w96_0 : Int32) (w96_4 : Nat), lv_has ls 6 [] → eK E w96_4 = 8 → (-1) ≤ w96_0.toInt → w96_0.toInt ≤ 11 → 0 ≤ p2.toInt → p2.toInt ≤ 29 → 0 ≤ p1.toInt → p1.toInt ≤ 1 → 0 ≤ p0.toInt → p0.toInt ≤ 59 → W p l e rm_X11_sight s m args below meth c H0 [] 0 0 Q (F0 m 96 ls [.int w96_0, .int p2, .int p1, .int p0, .ref w96_4]) := by
    intro ls w96_0 w96_4 hl k_w96_4 f96_1 f96_2 f96_3 f96_4 f96_5 f96_6 f96_7 f96_8
    refine zkI (zrV (rest := []) B (c_X7_tell l E hV H0 hT0 w96_4 k_w96_4 p0 p1 p2 w96_0) cl_RX11_219 hT0 k_w96_4 rfl rfl rfl rfl hl.1 rfl (Nat.le_of_ble_eq_true rfl) dX11_sight_96 rfl rfl ⟨rfl, rfl⟩ ⟨Nat.zero_le _, Nat.zero_le _⟩ (zO.of hG0 hh)) hG0 rfl (fun x_1 H1 lc1 hp_1 gH1 rH1 => ?_)
    obtain ⟨hp_1_1, hp_1_2⟩ := hp_1
    exact rtI (v := x_1) B hr hlk hh hQ gH1 rfl ⟨by omega, by omega⟩ dX11_sight_99
  have b72 : ∀ (ls : Array Slot), lv_has ls 6 [(0, .ref h0), (1, .int p0), (2, .int p1), (3, .int p2), (4, .int p3), (5, .int p4)] → 0 ≤ p0.toInt → p0.toInt ≤ 59 → 0 ≤ p1.toInt → p1.toInt ≤ 1 → 0 ≤ p2.toInt → p2.toInt ≤ 29 → (-1) ≤ p3.toInt → p3.toInt ≤ 5 → 0 ≤ p4.toInt → p4.toInt ≤ 1 → W p l e rm_X11_sight s m args below meth c H0 [] 0 0 Q (F0 m 72 ls []) := by
    intro ls hl f72_1 f72_2 f72_3 f72_4 f72_5 f72_6 f72_7 f72_8 f72_9 f72_10
    refine lv_aload_n hx hb dX11_sight_72 rfl (lv_at hl 0 rfl) ?_
    refine g_getR B fl_RX11_78 hT0 kh0 rfl rfl rfl rfl rfl dX11_sight_73 (fun q_2 s_2 k_q_2 => ?_)
    refine lv_iload_n hx hb dX11_sight_76 rfl (lv_at hl 1 rfl) ?_
    refine lv_iload_n hx hb dX11_sight_77 rfl (lv_at hl 2 rfl) ?_
    refine lv_iload_n hx hb dX11_sight_78 rfl (lv_at hl 3 rfl) ?_
    refine lv_iload hx hb dX11_sight_79 (lv_at hl 4 rfl) ?_
    refine lv_iconst (v := (-1)) hx hb dX11_sight_81 (by decide) ?_
    refine lv_icmp_ne (tgt := 89) hx hb dX11_sight_82 (by decide) (fun c_3 => ?_) (fun c_3 => ?_)
    · have f_3 := z_ne c_3 rfl kl_m1
      refine lv_iconst (v := 2) hx hb dX11_sight_89 (by decide) ?_
      refine lv_iload hx hb dX11_sight_90 (lv_at hl 4 rfl) ?_
      refine lv_imul hx hb dX11_sight_92 ?_
      refine lv_topi (fun x_4 e_4 => ?_)
      have t_4 := z_mul e_4 kl_2 rfl (by omega) (by omega)
      refine lv_iload hx hb dX11_sight_93 (lv_at hl 5 rfl) ?_
      refine lv_iadd hx hb dX11_sight_95 ?_
      refine lv_topi (fun x_5 e_5 => ?_)
      have t_5 := z_add e_5 rfl rfl (by omega) (by omega)
      exact b96 ls x_5 q_2 (lv_sub hl [] rfl) k_q_2 (by omega) (by omega) (by omega) (by omega) (by omega) (by omega) (by omega) (by omega)
    · have f_3 := z_eq c_3 rfl kl_m1
      refine lv_iconst (v := (-1)) hx hb dX11_sight_85 (by decide) ?_
      refine lv_goto (tgt := 96) hx hb dX11_sight_86 (by decide) ?_
      have := kl_m1
      exact b96 ls (-1) q_2 (lv_sub hl [] rfl) k_q_2 (by omega) (by omega) (by omega) (by omega) (by omega) (by omega) (by omega) (by omega)
  refine lv_iload_n hx hb dX11_sight_0 rfl (lv_at hl 1 rfl) ?_
  refine lv_if_lt (tgt := 22) hx hb dX11_sight_1 (by decide) (fun c_6 => ?_) (fun c_6 => ?_)
  · have f_6 := z_lt c_6 rfl kl_0
    refine lv_iconst (v := (-1)) hx hb dX11_sight_22 (by decide) ?_
    have := kl_m1
    have := kl_m1
    exact rtI (v := (-1)) B hr hlk hh hQ hG0 rfl ⟨by omega, by omega⟩ dX11_sight_23
  · have f_6 := z_nlt c_6 rfl kl_0
    refine lv_iload_n hx hb dX11_sight_4 rfl (lv_at hl 1 rfl) ?_
    refine lv_aload_n hx hb dX11_sight_5 rfl (lv_at hl 0 rfl) ?_
    refine g_getR B fl_RX11_55 hT0 kh0 rfl rfl rfl rfl rfl dX11_sight_6 (fun q_7 s_7 k_q_7 => ?_)
    refine g_getI B fl_RX11_171 hT0 k_q_7 rfl rfl rfl rfl rfl dX11_sight_9 (fun x_8 s_8 a_8 b_8 => ?_)
    refine lv_icmp_ge (tgt := 22) hx hb dX11_sight_12 (by decide) (fun c_9 => ?_) (fun c_9 => ?_)
    · have f_9 := z_le c_9 rfl rfl
      refine lv_iconst (v := (-1)) hx hb dX11_sight_22 (by decide) ?_
      have := kl_m1
      have := kl_m1
      exact rtI (v := (-1)) B hr hlk hh hQ hG0 rfl ⟨by omega, by omega⟩ dX11_sight_23
    · have f_9 := z_nle c_9 rfl rfl
      refine lv_iload_n hx hb dX11_sight_15 rfl (lv_at hl 2 rfl) ?_
      refine zkPI (zrS (rest := []) B (c_X11_isKeeper l E hV H0 hT0 p1) cs_RX11_131 rfl hl.1 rfl (Nat.le_of_ble_eq_true rfl) dX11_sight_16 rfl rfl ⟨rfl, rfl⟩ ⟨Nat.zero_le _, Nat.zero_le _⟩ (zO.of hG0 hh)) (fun x_10 hp_10 => ?_)
      obtain ⟨hp_10_1, hp_10_2, hp_10_3⟩ := hp_10
      refine lv_if_ne (tgt := 24) hx hb dX11_sight_19 (by decide) (fun c_11 => ?_) (fun c_11 => ?_)
      · have f_11 := z_ne c_11 rfl kl_0
        refine lv_iload_n hx hb dX11_sight_24 rfl (lv_at hl 3 rfl) ?_
        refine lv_if_lt (tgt := 57) hx hb dX11_sight_25 (by decide) (fun c_12 => ?_) (fun c_12 => ?_)
        · have f_12 := z_lt c_12 rfl kl_0
          refine lv_iconst (v := (-1)) hx hb dX11_sight_57 (by decide) ?_
          have := kl_m1
          have := kl_m1
          exact rtI (v := (-1)) B hr hlk hh hQ hG0 rfl ⟨by omega, by omega⟩ dX11_sight_58
        · have f_12 := z_nlt c_12 rfl kl_0
          refine lv_iload_n hx hb dX11_sight_28 rfl (lv_at hl 3 rfl) ?_
          refine lv_aload_n hx hb dX11_sight_29 rfl (lv_at hl 0 rfl) ?_
          refine g_getR B fl_RX11_39 hT0 kh0 rfl rfl rfl rfl rfl dX11_sight_30 (fun q_13 s_13 k_q_13 => ?_)
          refine g_getI B fl_RX11_135 hT0 k_q_13 rfl rfl rfl rfl rfl dX11_sight_33 (fun x_14 s_14 a_14 b_14 => ?_)
          refine lv_icmp_ge (tgt := 57) hx hb dX11_sight_36 (by decide) (fun c_15 => ?_) (fun c_15 => ?_)
          · have f_15 := z_le c_15 rfl rfl
            refine lv_iconst (v := (-1)) hx hb dX11_sight_57 (by decide) ?_
            have := kl_m1
            have := kl_m1
            exact rtI (v := (-1)) B hr hlk hh hQ hG0 rfl ⟨by omega, by omega⟩ dX11_sight_58
          · have f_15 := z_nle c_15 rfl rfl
            refine lv_iload hx hb dX11_sight_39 (lv_at hl 4 rfl) ?_
            refine lv_iconst (v := (-1)) hx hb dX11_sight_41 (by decide) ?_
            refine lv_icmp_lt (tgt := 57) hx hb dX11_sight_42 (by decide) (fun c_16 => ?_) (fun c_16 => ?_)
            · have f_16 := z_lt c_16 rfl kl_m1
              refine lv_iconst (v := (-1)) hx hb dX11_sight_57 (by decide) ?_
              have := kl_m1
              have := kl_m1
              exact rtI (v := (-1)) B hr hlk hh hQ hG0 rfl ⟨by omega, by omega⟩ dX11_sight_58
            · have f_16 := z_nlt c_16 rfl kl_m1
              refine lv_iload hx hb dX11_sight_45 (lv_at hl 4 rfl) ?_
              refine lv_aload_n hx hb dX11_sight_47 rfl (lv_at hl 0 rfl) ?_
              refine g_getR B fl_RX11_20 hT0 kh0 rfl rfl rfl rfl rfl dX11_sight_48 (fun q_17 s_17 k_q_17 => ?_)
              refine g_getI B fl_RX11_216 hT0 k_q_17 rfl rfl rfl rfl rfl dX11_sight_51 (fun x_18 s_18 a_18 b_18 => ?_)
              refine lv_icmp_lt (tgt := 59) hx hb dX11_sight_54 (by decide) (fun c_19 => ?_) (fun c_19 => ?_)
              · have f_19 := z_lt c_19 rfl rfl
                refine lv_iload hx hb dX11_sight_59 (lv_at hl 5 rfl) ?_
                refine lv_if_eq (tgt := 72) hx hb dX11_sight_61 (by decide) (fun c_20 => ?_) (fun c_20 => ?_)
                · have f_20 := z_eq c_20 rfl kl_0
                  exact b72 ls (lv_sub hl [0, 1, 2, 3, 4, 5] rfl) (by omega) (by omega) (by omega) (by omega) (by omega) (by omega) (by omega) (by omega) (by omega) (by omega)
                · have f_20 := z_ne c_20 rfl kl_0
                  refine lv_iload hx hb dX11_sight_64 (lv_at hl 5 rfl) ?_
                  refine lv_iconst (v := 1) hx hb dX11_sight_66 (by decide) ?_
                  refine lv_icmp_eq (tgt := 72) hx hb dX11_sight_67 (by decide) (fun c_21 => ?_) (fun c_21 => ?_)
                  · have f_21 := z_eq c_21 rfl kl_1
                    exact b72 ls (lv_sub hl [0, 1, 2, 3, 4, 5] rfl) (by omega) (by omega) (by omega) (by omega) (by omega) (by omega) (by omega) (by omega) (by omega) (by omega)
                  · have f_21 := z_ne c_21 rfl kl_1
                    refine lv_iconst (v := (-1)) hx hb dX11_sight_70 (by decide) ?_
                    have := kl_m1
                    have := kl_m1
                    exact rtI (v := (-1)) B hr hlk hh hQ hG0 rfl ⟨by omega, by omega⟩ dX11_sight_71
              · have f_19 := z_nlt c_19 rfl rfl
                refine lv_iconst (v := (-1)) hx hb dX11_sight_57 (by decide) ?_
                have := kl_m1
                have := kl_m1
                exact rtI (v := (-1)) B hr hlk hh hQ hG0 rfl ⟨by omega, by omega⟩ dX11_sight_58
      · have f_11 := z_eq c_11 rfl kl_0
        refine lv_iconst (v := (-1)) hx hb dX11_sight_22 (by decide) ?_
        have := kl_m1
        have := kl_m1
        exact rtI (v := (-1)) B hr hlk hh hQ hG0 rfl ⟨by omega, by omega⟩ dX11_sight_23

theorem dX11_untell_0 : decode cX11_untell 0 = .ok (.aload_n 0, 1) := by decide +kernel
theorem dX11_untell_1 : decode cX11_untell 1 = .ok (.getfield 78, 3) := by decide +kernel
theorem dX11_untell_4 : decode cX11_untell 4 = .ok (.iload_n 1, 1) := by decide +kernel
theorem dX11_untell_5 : decode cX11_untell 5 = .ok (.invokevirtual 223, 3) := by decide +kernel
theorem dX11_untell_8 : decode cX11_untell 8 = .ok (.ireturn, 1) := by decide +kernel
def rm_X11_untell : Room := { frames := 1, cells := 0, slots := 0, locals := 21 }
abbrev wS_X11_untell : List (Nat × Nat) := [(46, 99)]
set_option maxRecDepth 100000 in
set_option maxHeartbeats 4000000 in
theorem c_X11_untell (l : Launch) (E : zE) (hV : zV E) (H0 : Heap) (hT0 : HT E H0) (h0 : Nat) (kh0 : eK E h0 = 12) (p0 : Int32) : Met l yX11_untell (zws yX11_untell cX11_untell 2 (some .boolean)) rm_X11_untell (zP E H0 [.ref h0, .int p0]) (zQI E E wS_X11_untell (fun r H1 => 0 ≤ r.toInt ∧ r.toInt ≤ 1)) 0 0 (zfr E) := by
  refine zEnt (by decide) (Nat.le_of_ble_eq_true rfl) (fun p e s m args below meth c ls Q B hr hlk hh hQ hl => ?_)
  have hx := B.1
  have hb := B.2.1
  have hG0 : zG E wS_X11_untell H0 H0 [] := zG.rf hT0
  have hl : lv_has ls 2 [(0, .ref h0), (1, .int p0)] := hl
  refine lv_aload_n hx hb dX11_untell_0 rfl (lv_at hl 0 rfl) ?_
  refine g_getR B fl_RX11_78 hT0 kh0 rfl rfl rfl rfl rfl dX11_untell_1 (fun q_1 s_1 k_q_1 => ?_)
  refine lv_iload_n hx hb dX11_untell_4 rfl (lv_at hl 1 rfl) ?_
  refine zkI (zrV (rest := []) B (c_X7_takeBack l E hV H0 hT0 q_1 k_q_1 p0) cl_RX11_223 hT0 k_q_1 rfl rfl rfl rfl hl.1 rfl (Nat.le_of_ble_eq_true rfl) dX11_untell_5 rfl rfl ⟨rfl, rfl⟩ ⟨Nat.zero_le _, Nat.zero_le _⟩ (zO.of hG0 hh)) hG0 rfl (fun x_2 H2 lc2 hp_2 gH2 rH2 => ?_)
  obtain ⟨hp_2_1, hp_2_2⟩ := hp_2
  exact rtI (v := x_2) B hr hlk hh hQ gH2 (z_nz (by omega) (by omega)) ⟨by omega, by omega⟩ dX11_untell_8

theorem dX11_storms_0 : decode cX11_storms 0 = .ok (.iload_n 1, 1) := by decide +kernel
theorem dX11_storms_1 : decode cX11_storms 1 = .ok (.ifCond .lt 8, 3) := by decide +kernel
theorem dX11_storms_4 : decode cX11_storms 4 = .ok (.iload_n 1, 1) := by decide +kernel
theorem dX11_storms_5 : decode cX11_storms 5 = .ok (.iconst 3, 1) := by decide +kernel
theorem dX11_storms_6 : decode cX11_storms 6 = .ok (.if_icmp .le 6, 3) := by decide +kernel
theorem dX11_storms_9 : decode cX11_storms 9 = .ok (.bipush (-2), 2) := by decide +kernel
theorem dX11_storms_11 : decode cX11_storms 11 = .ok (.ireturn, 1) := by decide +kernel
theorem dX11_storms_12 : decode cX11_storms 12 = .ok (.aload_n 0, 1) := by decide +kernel
theorem dX11_storms_13 : decode cX11_storms 13 = .ok (.getfield 87, 3) := by decide +kernel
theorem dX11_storms_16 : decode cX11_storms 16 = .ok (.iload_n 2, 1) := by decide +kernel
theorem dX11_storms_17 : decode cX11_storms 17 = .ok (.invokevirtual 230, 3) := by decide +kernel
theorem dX11_storms_20 : decode cX11_storms 20 = .ok (.aload_n 0, 1) := by decide +kernel
theorem dX11_storms_21 : decode cX11_storms 21 = .ok (.getfield 87, 3) := by decide +kernel
theorem dX11_storms_24 : decode cX11_storms 24 = .ok (.iconst 0, 1) := by decide +kernel
theorem dX11_storms_25 : decode cX11_storms 25 = .ok (.iconst 0, 1) := by decide +kernel
theorem dX11_storms_26 : decode cX11_storms 26 = .ok (.iconst 0, 1) := by decide +kernel
theorem dX11_storms_27 : decode cX11_storms 27 = .ok (.invokevirtual 232, 3) := by decide +kernel
theorem dX11_storms_30 : decode cX11_storms 30 = .ok (.iload_n 1, 1) := by decide +kernel
theorem dX11_storms_31 : decode cX11_storms 31 = .ok (.tableswitch 49 0 2 #[25, 33, 41], 25) := by decide +kernel
theorem dX11_storms_56 : decode cX11_storms 56 = .ok (.aload_n 0, 1) := by decide +kernel
theorem dX11_storms_57 : decode cX11_storms 57 = .ok (.getfield 87, 3) := by decide +kernel
theorem dX11_storms_60 : decode cX11_storms 60 = .ok (.getfield 236, 3) := by decide +kernel
theorem dX11_storms_63 : decode cX11_storms 63 = .ok (.ireturn, 1) := by decide +kernel
theorem dX11_storms_64 : decode cX11_storms 64 = .ok (.aload_n 0, 1) := by decide +kernel
theorem dX11_storms_65 : decode cX11_storms 65 = .ok (.getfield 87, 3) := by decide +kernel
theorem dX11_storms_68 : decode cX11_storms 68 = .ok (.getfield 239, 3) := by decide +kernel
theorem dX11_storms_71 : decode cX11_storms 71 = .ok (.ireturn, 1) := by decide +kernel
theorem dX11_storms_72 : decode cX11_storms 72 = .ok (.aload_n 0, 1) := by decide +kernel
theorem dX11_storms_73 : decode cX11_storms 73 = .ok (.getfield 87, 3) := by decide +kernel
theorem dX11_storms_76 : decode cX11_storms 76 = .ok (.getfield 242, 3) := by decide +kernel
theorem dX11_storms_79 : decode cX11_storms 79 = .ok (.ireturn, 1) := by decide +kernel
theorem dX11_storms_80 : decode cX11_storms 80 = .ok (.aload_n 0, 1) := by decide +kernel
theorem dX11_storms_81 : decode cX11_storms 81 = .ok (.getfield 87, 3) := by decide +kernel
theorem dX11_storms_84 : decode cX11_storms 84 = .ok (.getfield 245, 3) := by decide +kernel
theorem dX11_storms_87 : decode cX11_storms 87 = .ok (.ireturn, 1) := by decide +kernel
def rm_X11_storms : Room := { frames := 16, cells := 0, slots := 0, locals := 411 }
abbrev wS_X11_storms : List (Nat × Nat) := [(5, 0), (5, 1), (5, 2), (5, 3), (5, 4), (5, 5), (5, 6), (9, 0), (9, 1), (9, 2), (9, 3), (9, 9)]
set_option maxRecDepth 100000 in
set_option maxHeartbeats 4000000 in
theorem c_X11_storms (l : Launch) (E : zE) (hV : zV E) (H0 : Heap) (hT0 : HT E H0) (h0 : Nat) (kh0 : eK E h0 = 12) (p0 : Int32) (p1 : Int32) : Met l yX11_storms (zws yX11_storms cX11_storms 3 (some .int)) rm_X11_storms (zP E H0 [.ref h0, .int p0, .int p1]) (zQI E E wS_X11_storms (fun r H1 => True)) 0 0 (zfr E) := by
  refine zEnt (by decide) (Nat.le_of_ble_eq_true rfl) (fun p e s m args below meth c ls Q B hr hlk hh hQ hl => ?_)
  have hx := B.1
  have hb := B.2.1
  have hG0 : zG E wS_X11_storms H0 H0 [] := zG.rf hT0
  have hl : lv_has ls 3 [(0, .ref h0), (1, .int p0), (2, .int p1)] := hl
  refine lv_iload_n hx hb dX11_storms_0 rfl (lv_at hl 1 rfl) ?_
  refine lv_if_lt (tgt := 9) hx hb dX11_storms_1 (by decide) (fun c_1 => ?_) (fun c_1 => ?_)
  · have f_1 := z_lt c_1 rfl kl_0
    refine lv_bipush (v := (-2)) hx hb dX11_storms_9 (by decide) ?_
    have := kl_m2
    have := kl_m2
    exact rtI (v := (-2)) B hr hlk hh hQ hG0 rfl trivial dX11_storms_11
  · have f_1 := z_nlt c_1 rfl kl_0
    refine lv_iload_n hx hb dX11_storms_4 rfl (lv_at hl 1 rfl) ?_
    refine lv_iconst (v := 3) hx hb dX11_storms_5 (by decide) ?_
    refine lv_icmp_le (tgt := 12) hx hb dX11_storms_6 (by decide) (fun c_2 => ?_) (fun c_2 => ?_)
    · have f_2 := z_le c_2 rfl kl_3
      refine lv_aload_n hx hb dX11_storms_12 rfl (lv_at hl 0 rfl) ?_
      refine g_getR B fl_RX11_87 hT0 kh0 rfl rfl rfl rfl rfl dX11_storms_13 (fun q_3 s_3 k_q_3 => ?_)
      refine lv_iload_n hx hb dX11_storms_16 rfl (lv_at hl 2 rfl) ?_
      refine zkV (zrV (rest := []) B (c_X8_begin l E hV H0 hT0 q_3 k_q_3 p1) cl_RX11_230 hT0 k_q_3 rfl rfl rfl rfl hl.1 rfl (Nat.le_of_ble_eq_true rfl) dX11_storms_17 rfl rfl ⟨rfl, rfl⟩ ⟨Nat.zero_le _, Nat.zero_le _⟩ (zO.of hG0 hh)) hG0 rfl (fun H4 lc4 hp_4 gH4 rH4 => ?_)
      have s_5 := rH4.keep hV kh0 rfl s_3
      refine lv_aload_n hx hb dX11_storms_20 rfl (lv_at hl 0 rfl) ?_
      refine g_get B fl_RX11_87 gH4.1 kh0 rfl rfl rfl dX11_storms_21 s_5 ?_
      refine lv_iconst (v := 0) hx hb dX11_storms_24 (by decide) ?_
      refine lv_iconst (v := 0) hx hb dX11_storms_25 (by decide) ?_
      refine lv_iconst (v := 0) hx hb dX11_storms_26 (by decide) ?_
      have := kl_0
      have := kl_0
      refine zkV (zrVN (rest := []) B (c_X8_goOn_d0 l E hV H4 gH4.1 q_3 k_q_3 0 (by omega) (by omega) 0 (by omega) (by omega) 0) (List.mem_of_getElem? (i := 4) rfl) (mc_wsL_law_r50 _ (List.mem_of_getElem? (i := 3) rfl)) (mc_wsL_law_r3 _ (List.mem_of_getElem? (i := 2) rfl)) (mc_wsL_law_r50 _ (List.mem_of_getElem? (i := 1) rfl)) (mc_wsL_law_r50 _ (List.mem_of_getElem? (i := 2) rfl)) (by decide) gH4.1 k_q_3 rfl rfl rfl rfl hl.1 rfl (Nat.le_of_ble_eq_true rfl) dX11_storms_27 rfl rfl ⟨rfl, rfl⟩ ⟨Nat.zero_le _, Nat.zero_le _⟩ (zO.of gH4 hh)) gH4 rfl (fun H6 lc6 hp_6 gH6 rH6 => ?_)
      have s_7 := rH6.keep hV kh0 rfl s_5
      refine lv_iload_n hx hb dX11_storms_30 rfl (lv_at hl 1 rfl) ?_
      by_cases c_8 : 0 ≤ p0.toInt ∧ p0.toInt ≤ 2
      · have : p0.toInt = 0 ∨ p0.toInt = 1 ∨ p0.toInt = 2 := by omega
        rcases this with h_8 | h_8 | h_8
        · refine lv_tableIn (off := 25) (tgt := 56) hx hb dX11_storms_31 (by omega) (by omega) (by rw [h_8]; rfl) (by decide) ?_
          refine lv_aload_n hx hb dX11_storms_56 rfl (lv_at hl 0 rfl) ?_
          refine g_get B fl_RX11_87 gH6.1 kh0 rfl rfl rfl dX11_storms_57 s_7 ?_
          refine g_getI B fl_RX11_236 gH6.1 k_q_3 rfl rfl rfl rfl rfl dX11_storms_60 (fun x_9 s_9 a_9 b_9 => ?_)
          exact rtI (v := x_9) B hr hlk hh hQ gH6 rfl trivial dX11_storms_63
        · refine lv_tableIn (off := 33) (tgt := 64) hx hb dX11_storms_31 (by omega) (by omega) (by rw [h_8]; rfl) (by decide) ?_
          refine lv_aload_n hx hb dX11_storms_64 rfl (lv_at hl 0 rfl) ?_
          refine g_get B fl_RX11_87 gH6.1 kh0 rfl rfl rfl dX11_storms_65 s_7 ?_
          refine g_getI B fl_RX11_239 gH6.1 k_q_3 rfl rfl rfl rfl rfl dX11_storms_68 (fun x_10 s_10 a_10 b_10 => ?_)
          exact rtI (v := x_10) B hr hlk hh hQ gH6 rfl trivial dX11_storms_71
        · refine lv_tableIn (off := 41) (tgt := 72) hx hb dX11_storms_31 (by omega) (by omega) (by rw [h_8]; rfl) (by decide) ?_
          refine lv_aload_n hx hb dX11_storms_72 rfl (lv_at hl 0 rfl) ?_
          refine g_get B fl_RX11_87 gH6.1 kh0 rfl rfl rfl dX11_storms_73 s_7 ?_
          refine g_getI B fl_RX11_242 gH6.1 k_q_3 rfl rfl rfl rfl rfl dX11_storms_76 (fun x_11 s_11 a_11 b_11 => ?_)
          exact rtI (v := x_11) B hr hlk hh hQ gH6 rfl trivial dX11_storms_79
      · refine lv_tableOut (tgt := 80) hx hb dX11_storms_31 (by omega) (by decide) ?_
        refine lv_aload_n hx hb dX11_storms_80 rfl (lv_at hl 0 rfl) ?_
        refine g_get B fl_RX11_87 gH6.1 kh0 rfl rfl rfl dX11_storms_81 s_7 ?_
        refine g_getI B fl_RX11_245 gH6.1 k_q_3 rfl rfl rfl rfl rfl dX11_storms_84 (fun x_12 s_12 a_12 b_12 => ?_)
        exact rtI (v := x_12) B hr hlk hh hQ gH6 rfl trivial dX11_storms_87
    · have f_2 := z_nle c_2 rfl kl_3
      refine lv_bipush (v := (-2)) hx hb dX11_storms_9 (by decide) ?_
      have := kl_m2
      have := kl_m2
      exact rtI (v := (-2)) B hr hlk hh hQ hG0 rfl trivial dX11_storms_11

theorem dX11_image_0 : decode cX11_image 0 = .ok (.iload_n 1, 1) := by decide +kernel
theorem dX11_image_1 : decode cX11_image 1 = .ok (.ifCond .lt 19, 3) := by decide +kernel
theorem dX11_image_4 : decode cX11_image 4 = .ok (.iload_n 1, 1) := by decide +kernel
theorem dX11_image_5 : decode cX11_image 5 = .ok (.iconst 3, 1) := by decide +kernel
theorem dX11_image_6 : decode cX11_image 6 = .ok (.if_icmp .ge 14, 3) := by decide +kernel
theorem dX11_image_9 : decode cX11_image 9 = .ok (.aload_n 0, 1) := by decide +kernel
theorem dX11_image_10 : decode cX11_image 10 = .ok (.getfield 55, 3) := by decide +kernel
theorem dX11_image_13 : decode cX11_image 13 = .ok (.iload_n 1, 1) := by decide +kernel
theorem dX11_image_14 : decode cX11_image 14 = .ok (.invokevirtual 248, 3) := by decide +kernel
theorem dX11_image_17 : decode cX11_image 17 = .ok (.goto 4, 3) := by decide +kernel
theorem dX11_image_20 : decode cX11_image 20 = .ok (.iconst (-1), 1) := by decide +kernel
theorem dX11_image_21 : decode cX11_image 21 = .ok (.ireturn, 1) := by decide +kernel
def rm_X11_image : Room := { frames := 2, cells := 0, slots := 0, locals := 45 }
abbrev wS_X11_image : List (Nat × Nat) := [(33, 99), (34, 99), (35, 99), (38, 99)]
set_option maxRecDepth 100000 in
set_option maxHeartbeats 4000000 in
theorem c_X11_image (l : Launch) (E : zE) (hV : zV E) (H0 : Heap) (hT0 : HT E H0) (h0 : Nat) (kh0 : eK E h0 = 12) (p0 : Int32) : Met l yX11_image (zws yX11_image cX11_image 2 (some .int)) rm_X11_image (zP E H0 [.ref h0, .int p0]) (zQI E E wS_X11_image (fun r H1 => (-1) ≤ r.toInt ∧ r.toInt ≤ 60)) 0 0 (zfr E) := by
  refine zEnt (by decide) (Nat.le_of_ble_eq_true rfl) (fun p e s m args below meth c ls Q B hr hlk hh hQ hl => ?_)
  have hx := B.1
  have hb := B.2.1
  have hG0 : zG E wS_X11_image H0 H0 [] := zG.rf hT0
  have hl : lv_has ls 2 [(0, .ref h0), (1, .int p0)] := hl
  refine lv_iload_n hx hb dX11_image_0 rfl (lv_at hl 1 rfl) ?_
  refine lv_if_lt (tgt := 20) hx hb dX11_image_1 (by decide) (fun c_1 => ?_) (fun c_1 => ?_)
  · have f_1 := z_lt c_1 rfl kl_0
    refine lv_iconst (v := (-1)) hx hb dX11_image_20 (by decide) ?_
    have := kl_m1
    have := kl_m1
    exact rtI (v := (-1)) B hr hlk hh hQ hG0 rfl ⟨by omega, by omega⟩ dX11_image_21
  · have f_1 := z_nlt c_1 rfl kl_0
    refine lv_iload_n hx hb dX11_image_4 rfl (lv_at hl 1 rfl) ?_
    refine lv_iconst (v := 3) hx hb dX11_image_5 (by decide) ?_
    refine lv_icmp_ge (tgt := 20) hx hb dX11_image_6 (by decide) (fun c_2 => ?_) (fun c_2 => ?_)
    · have f_2 := z_le c_2 kl_3 rfl
      refine lv_iconst (v := (-1)) hx hb dX11_image_20 (by decide) ?_
      have := kl_m1
      have := kl_m1
      exact rtI (v := (-1)) B hr hlk hh hQ hG0 rfl ⟨by omega, by omega⟩ dX11_image_21
    · have f_2 := z_nle c_2 kl_3 rfl
      refine lv_aload_n hx hb dX11_image_9 rfl (lv_at hl 0 rfl) ?_
      refine g_getR B fl_RX11_55 hT0 kh0 rfl rfl rfl rfl rfl dX11_image_10 (fun q_3 s_3 k_q_3 => ?_)
      refine lv_iload_n hx hb dX11_image_13 rfl (lv_at hl 1 rfl) ?_
      refine zkI (zrV (rest := []) B (c_X3_keep l E hV H0 hT0 q_3 k_q_3 p0 (by omega) (by omega)) cl_RX11_248 hT0 k_q_3 rfl rfl rfl rfl hl.1 rfl (Nat.le_of_ble_eq_true rfl) dX11_image_14 rfl rfl ⟨rfl, rfl⟩ ⟨Nat.zero_le _, Nat.zero_le _⟩ (zO.of hG0 hh)) hG0 rfl (fun x_4 H4 lc4 hp_4 gH4 rH4 => ?_)
      obtain ⟨hp_4_1, hp_4_2⟩ := hp_4
      refine lv_goto (tgt := 21) hx hb dX11_image_17 (by decide) ?_
      exact rtI (v := x_4) B hr hlk hh hQ gH4 rfl ⟨by omega, by omega⟩ dX11_image_21

theorem dX11_back_0 : decode cX11_back 0 = .ok (.iload_n 1, 1) := by decide +kernel
theorem dX11_back_1 : decode cX11_back 1 = .ok (.ifCond .lt 19, 3) := by decide +kernel
theorem dX11_back_4 : decode cX11_back 4 = .ok (.iload_n 1, 1) := by decide +kernel
theorem dX11_back_5 : decode cX11_back 5 = .ok (.iconst 3, 1) := by decide +kernel
theorem dX11_back_6 : decode cX11_back 6 = .ok (.if_icmp .ge 14, 3) := by decide +kernel
theorem dX11_back_9 : decode cX11_back 9 = .ok (.aload_n 0, 1) := by decide +kernel
theorem dX11_back_10 : decode cX11_back 10 = .ok (.getfield 55, 3) := by decide +kernel
theorem dX11_back_13 : decode cX11_back 13 = .ok (.iload_n 1, 1) := by decide +kernel
theorem dX11_back_14 : decode cX11_back 14 = .ok (.invokevirtual 251, 3) := by decide +kernel
theorem dX11_back_17 : decode cX11_back 17 = .ok (.goto 4, 3) := by decide +kernel
theorem dX11_back_20 : decode cX11_back 20 = .ok (.iconst (-1), 1) := by decide +kernel
theorem dX11_back_21 : decode cX11_back 21 = .ok (.ireturn, 1) := by decide +kernel
def rm_X11_back : Room := { frames := 6, cells := 0, slots := 0, locals := 154 }
abbrev wS_X11_back : List (Nat × Nat) := [(4, 0), (4, 1), (5, 0), (5, 1), (5, 2), (5, 3), (5, 4), (5, 5), (5, 6), (33, 99), (34, 99), (35, 99), (36, 99)]
set_option maxRecDepth 100000 in
set_option maxHeartbeats 4000000 in
theorem c_X11_back (l : Launch) (E : zE) (hV : zV E) (H0 : Heap) (hT0 : HT E H0) (h0 : Nat) (kh0 : eK E h0 = 12) (p0 : Int32) : Met l yX11_back (zws yX11_back cX11_back 2 (some .int)) rm_X11_back (zP E H0 [.ref h0, .int p0]) (zQI E E wS_X11_back (fun r H1 => (-1) ≤ r.toInt ∧ r.toInt ≤ 60)) 0 0 (zfr E) := by
  refine zEnt (by decide) (Nat.le_of_ble_eq_true rfl) (fun p e s m args below meth c ls Q B hr hlk hh hQ hl => ?_)
  have hx := B.1
  have hb := B.2.1
  have hG0 : zG E wS_X11_back H0 H0 [] := zG.rf hT0
  have hl : lv_has ls 2 [(0, .ref h0), (1, .int p0)] := hl
  refine lv_iload_n hx hb dX11_back_0 rfl (lv_at hl 1 rfl) ?_
  refine lv_if_lt (tgt := 20) hx hb dX11_back_1 (by decide) (fun c_1 => ?_) (fun c_1 => ?_)
  · have f_1 := z_lt c_1 rfl kl_0
    refine lv_iconst (v := (-1)) hx hb dX11_back_20 (by decide) ?_
    have := kl_m1
    have := kl_m1
    exact rtI (v := (-1)) B hr hlk hh hQ hG0 rfl ⟨by omega, by omega⟩ dX11_back_21
  · have f_1 := z_nlt c_1 rfl kl_0
    refine lv_iload_n hx hb dX11_back_4 rfl (lv_at hl 1 rfl) ?_
    refine lv_iconst (v := 3) hx hb dX11_back_5 (by decide) ?_
    refine lv_icmp_ge (tgt := 20) hx hb dX11_back_6 (by decide) (fun c_2 => ?_) (fun c_2 => ?_)
    · have f_2 := z_le c_2 kl_3 rfl
      refine lv_iconst (v := (-1)) hx hb dX11_back_20 (by decide) ?_
      have := kl_m1
      have := kl_m1
      exact rtI (v := (-1)) B hr hlk hh hQ hG0 rfl ⟨by omega, by omega⟩ dX11_back_21
    · have f_2 := z_nle c_2 kl_3 rfl
      refine lv_aload_n hx hb dX11_back_9 rfl (lv_at hl 0 rfl) ?_
      refine g_getR B fl_RX11_55 hT0 kh0 rfl rfl rfl rfl rfl dX11_back_10 (fun q_3 s_3 k_q_3 => ?_)
      refine lv_iload_n hx hb dX11_back_13 rfl (lv_at hl 1 rfl) ?_
      refine zkI (zrV (rest := []) B (c_X3_goBack l E hV H0 hT0 q_3 k_q_3 p0 (by omega) (by omega)) cl_RX11_251 hT0 k_q_3 rfl rfl rfl rfl hl.1 rfl (Nat.le_of_ble_eq_true rfl) dX11_back_14 rfl rfl ⟨rfl, rfl⟩ ⟨Nat.zero_le _, Nat.zero_le _⟩ (zO.of hG0 hh)) hG0 rfl (fun x_4 H4 lc4 hp_4 gH4 rH4 => ?_)
      obtain ⟨hp_4_1, hp_4_2⟩ := hp_4
      refine lv_goto (tgt := 21) hx hb dX11_back_17 (by decide) ?_
      exact rtI (v := x_4) B hr hlk hh hQ gH4 rfl ⟨by omega, by omega⟩ dX11_back_21

theorem dX11_about_0 : decode cX11_about 0 = .ok (.iload_n 1, 1) := by decide +kernel
theorem dX11_about_1 : decode cX11_about 1 = .ok (.tableswitch 140 0 9 #[55, 63, 71, 79, 87, 103, 111, 119, 124, 132], 55) := by decide +kernel
theorem dX11_about_56 : decode cX11_about 56 = .ok (.aload_n 0, 1) := by decide +kernel
theorem dX11_about_57 : decode cX11_about 57 = .ok (.getfield 39, 3) := by decide +kernel
theorem dX11_about_60 : decode cX11_about 60 = .ok (.getfield 135, 3) := by decide +kernel
theorem dX11_about_63 : decode cX11_about 63 = .ok (.ireturn, 1) := by decide +kernel
theorem dX11_about_64 : decode cX11_about 64 = .ok (.aload_n 0, 1) := by decide +kernel
theorem dX11_about_65 : decode cX11_about 65 = .ok (.getfield 20, 3) := by decide +kernel
theorem dX11_about_68 : decode cX11_about 68 = .ok (.getfield 216, 3) := by decide +kernel
theorem dX11_about_71 : decode cX11_about 71 = .ok (.ireturn, 1) := by decide +kernel
theorem dX11_about_72 : decode cX11_about 72 = .ok (.aload_n 0, 1) := by decide +kernel
theorem dX11_about_73 : decode cX11_about 73 = .ok (.getfield 20, 3) := by decide +kernel
theorem dX11_about_76 : decode cX11_about 76 = .ok (.getfield 105, 3) := by decide +kernel
theorem dX11_about_79 : decode cX11_about 79 = .ok (.ireturn, 1) := by decide +kernel
theorem dX11_about_80 : decode cX11_about 80 = .ok (.aload_n 0, 1) := by decide +kernel
theorem dX11_about_81 : decode cX11_about 81 = .ok (.getfield 55, 3) := by decide +kernel
theorem dX11_about_84 : decode cX11_about 84 = .ok (.getfield 171, 3) := by decide +kernel
theorem dX11_about_87 : decode cX11_about 87 = .ok (.ireturn, 1) := by decide +kernel
theorem dX11_about_88 : decode cX11_about 88 = .ok (.aload_n 0, 1) := by decide +kernel
theorem dX11_about_89 : decode cX11_about 89 = .ok (.getfield 55, 3) := by decide +kernel
theorem dX11_about_92 : decode cX11_about 92 = .ok (.getfield 176, 3) := by decide +kernel
theorem dX11_about_95 : decode cX11_about 95 = .ok (.aload_n 0, 1) := by decide +kernel
theorem dX11_about_96 : decode cX11_about 96 = .ok (.getfield 55, 3) := by decide +kernel
theorem dX11_about_99 : decode cX11_about 99 = .ok (.getfield 171, 3) := by decide +kernel
theorem dX11_about_102 : decode cX11_about 102 = .ok (.isub, 1) := by decide +kernel
theorem dX11_about_103 : decode cX11_about 103 = .ok (.ireturn, 1) := by decide +kernel
theorem dX11_about_104 : decode cX11_about 104 = .ok (.aload_n 0, 1) := by decide +kernel
theorem dX11_about_105 : decode cX11_about 105 = .ok (.getfield 78, 3) := by decide +kernel
theorem dX11_about_108 : decode cX11_about 108 = .ok (.getfield 122, 3) := by decide +kernel
theorem dX11_about_111 : decode cX11_about 111 = .ok (.ireturn, 1) := by decide +kernel
theorem dX11_about_112 : decode cX11_about 112 = .ok (.aload_n 0, 1) := by decide +kernel
theorem dX11_about_113 : decode cX11_about 113 = .ok (.getfield 78, 3) := by decide +kernel
theorem dX11_about_116 : decode cX11_about 116 = .ok (.getfield 226, 3) := by decide +kernel
theorem dX11_about_119 : decode cX11_about 119 = .ok (.ireturn, 1) := by decide +kernel
theorem dX11_about_120 : decode cX11_about 120 = .ok (.aload_n 0, 1) := by decide +kernel
theorem dX11_about_121 : decode cX11_about 121 = .ok (.getfield 13, 3) := by decide +kernel
theorem dX11_about_124 : decode cX11_about 124 = .ok (.ireturn, 1) := by decide +kernel
theorem dX11_about_125 : decode cX11_about 125 = .ok (.aload_n 0, 1) := by decide +kernel
theorem dX11_about_126 : decode cX11_about 126 = .ok (.getfield 20, 3) := by decide +kernel
theorem dX11_about_129 : decode cX11_about 129 = .ok (.getfield 254, 3) := by decide +kernel
theorem dX11_about_132 : decode cX11_about 132 = .ok (.ireturn, 1) := by decide +kernel
theorem dX11_about_133 : decode cX11_about 133 = .ok (.aload_n 0, 1) := by decide +kernel
theorem dX11_about_134 : decode cX11_about 134 = .ok (.getfield 55, 3) := by decide +kernel
theorem dX11_about_137 : decode cX11_about 137 = .ok (.invokevirtual 257, 3) := by decide +kernel
theorem dX11_about_140 : decode cX11_about 140 = .ok (.ireturn, 1) := by decide +kernel
theorem dX11_about_141 : decode cX11_about 141 = .ok (.iconst (-1), 1) := by decide +kernel
theorem dX11_about_142 : decode cX11_about 142 = .ok (.ireturn, 1) := by decide +kernel
def rm_X11_about : Room := { frames := 1, cells := 0, slots := 0, locals := 22 }
set_option maxRecDepth 100000 in
set_option maxHeartbeats 4000000 in
theorem c_X11_about (l : Launch) (E : zE) (hV : zV E) (H0 : Heap) (hT0 : HT E H0) (h0 : Nat) (kh0 : eK E h0 = 12) (p0 : Int32) : Met l yX11_about (zws yX11_about cX11_about 2 (some .int)) rm_X11_about (zP E H0 [.ref h0, .int p0]) (zPI (fun r => True)) 0 0 (fun _ => False) := by
  refine zEnt (by decide) (Nat.le_of_ble_eq_true rfl) (fun p e s m args below meth c ls Q B hr hlk hh hQ hl => ?_)
  have hx := B.1
  have hb := B.2.1
  have hl : lv_has ls 2 [(0, .ref h0), (1, .int p0)] := hl
  refine lv_iload_n hx hb dX11_about_0 rfl (lv_at hl 1 rfl) ?_
  by_cases c_1 : 0 ≤ p0.toInt ∧ p0.toInt ≤ 9
  · have : p0.toInt = 0 ∨ p0.toInt = 1 ∨ p0.toInt = 2 ∨ p0.toInt = 3 ∨ p0.toInt = 4 ∨ p0.toInt = 5 ∨ p0.toInt = 6 ∨ p0.toInt = 7 ∨ p0.toInt = 8 ∨ p0.toInt = 9 := by omega
    rcases this with h_1 | h_1 | h_1 | h_1 | h_1 | h_1 | h_1 | h_1 | h_1 | h_1
    · refine lv_tableIn (off := 55) (tgt := 56) hx hb dX11_about_1 (by omega) (by omega) (by rw [h_1]; rfl) (by decide) ?_
      refine lv_aload_n hx hb dX11_about_56 rfl (lv_at hl 0 rfl) ?_
      refine g_getR B fl_RX11_39 hT0 kh0 rfl rfl rfl rfl rfl dX11_about_57 (fun q_2 s_2 k_q_2 => ?_)
      refine g_getI B fl_RX11_135 hT0 k_q_2 rfl rfl rfl rfl rfl dX11_about_60 (fun x_3 s_3 a_3 b_3 => ?_)
      exact rtPI (v := x_3) B hr hlk hh hQ rfl trivial dX11_about_63
    · refine lv_tableIn (off := 63) (tgt := 64) hx hb dX11_about_1 (by omega) (by omega) (by rw [h_1]; rfl) (by decide) ?_
      refine lv_aload_n hx hb dX11_about_64 rfl (lv_at hl 0 rfl) ?_
      refine g_getR B fl_RX11_20 hT0 kh0 rfl rfl rfl rfl rfl dX11_about_65 (fun q_4 s_4 k_q_4 => ?_)
      refine g_getI B fl_RX11_216 hT0 k_q_4 rfl rfl rfl rfl rfl dX11_about_68 (fun x_5 s_5 a_5 b_5 => ?_)
      exact rtPI (v := x_5) B hr hlk hh hQ rfl trivial dX11_about_71
    · refine lv_tableIn (off := 71) (tgt := 72) hx hb dX11_about_1 (by omega) (by omega) (by rw [h_1]; rfl) (by decide) ?_
      refine lv_aload_n hx hb dX11_about_72 rfl (lv_at hl 0 rfl) ?_
      refine g_getR B fl_RX11_20 hT0 kh0 rfl rfl rfl rfl rfl dX11_about_73 (fun q_6 s_6 k_q_6 => ?_)
      refine g_getI B fl_RX11_105 hT0 k_q_6 rfl rfl rfl rfl rfl dX11_about_76 (fun x_7 s_7 a_7 b_7 => ?_)
      exact rtPI (v := x_7) B hr hlk hh hQ rfl trivial dX11_about_79
    · refine lv_tableIn (off := 79) (tgt := 80) hx hb dX11_about_1 (by omega) (by omega) (by rw [h_1]; rfl) (by decide) ?_
      refine lv_aload_n hx hb dX11_about_80 rfl (lv_at hl 0 rfl) ?_
      refine g_getR B fl_RX11_55 hT0 kh0 rfl rfl rfl rfl rfl dX11_about_81 (fun q_8 s_8 k_q_8 => ?_)
      refine g_getI B fl_RX11_171 hT0 k_q_8 rfl rfl rfl rfl rfl dX11_about_84 (fun x_9 s_9 a_9 b_9 => ?_)
      exact rtPI (v := x_9) B hr hlk hh hQ rfl trivial dX11_about_87
    · refine lv_tableIn (off := 87) (tgt := 88) hx hb dX11_about_1 (by omega) (by omega) (by rw [h_1]; rfl) (by decide) ?_
      refine lv_aload_n hx hb dX11_about_88 rfl (lv_at hl 0 rfl) ?_
      refine g_getR B fl_RX11_55 hT0 kh0 rfl rfl rfl rfl rfl dX11_about_89 (fun q_10 s_10 k_q_10 => ?_)
      refine g_getI B fl_RX11_176 hT0 k_q_10 rfl rfl rfl rfl rfl dX11_about_92 (fun x_11 s_11 a_11 b_11 => ?_)
      refine lv_aload_n hx hb dX11_about_95 rfl (lv_at hl 0 rfl) ?_
      refine g_get B fl_RX11_55 hT0 kh0 rfl rfl rfl dX11_about_96 s_10 ?_
      refine g_getI B fl_RX11_171 hT0 k_q_10 rfl rfl rfl rfl rfl dX11_about_99 (fun x_12 s_12 a_12 b_12 => ?_)
      refine lv_isub hx hb dX11_about_102 ?_
      refine lv_topi (fun x_13 e_13 => ?_)
      have t_13 := z_sub e_13 rfl rfl (by omega) (by omega)
      exact rtPI (v := x_13) B hr hlk hh hQ rfl trivial dX11_about_103
    · refine lv_tableIn (off := 103) (tgt := 104) hx hb dX11_about_1 (by omega) (by omega) (by rw [h_1]; rfl) (by decide) ?_
      refine lv_aload_n hx hb dX11_about_104 rfl (lv_at hl 0 rfl) ?_
      refine g_getR B fl_RX11_78 hT0 kh0 rfl rfl rfl rfl rfl dX11_about_105 (fun q_14 s_14 k_q_14 => ?_)
      refine g_getI B fl_RX11_122 hT0 k_q_14 rfl rfl rfl rfl rfl dX11_about_108 (fun x_15 s_15 a_15 b_15 => ?_)
      exact rtPI (v := x_15) B hr hlk hh hQ rfl trivial dX11_about_111
    · refine lv_tableIn (off := 111) (tgt := 112) hx hb dX11_about_1 (by omega) (by omega) (by rw [h_1]; rfl) (by decide) ?_
      refine lv_aload_n hx hb dX11_about_112 rfl (lv_at hl 0 rfl) ?_
      refine g_getR B fl_RX11_78 hT0 kh0 rfl rfl rfl rfl rfl dX11_about_113 (fun q_16 s_16 k_q_16 => ?_)
      refine g_getI B fl_RX11_226 hT0 k_q_16 rfl rfl rfl rfl rfl dX11_about_116 (fun x_17 s_17 a_17 b_17 => ?_)
      exact rtPI (v := x_17) B hr hlk hh hQ rfl trivial dX11_about_119
    · refine lv_tableIn (off := 119) (tgt := 120) hx hb dX11_about_1 (by omega) (by omega) (by rw [h_1]; rfl) (by decide) ?_
      refine lv_aload_n hx hb dX11_about_120 rfl (lv_at hl 0 rfl) ?_
      refine g_getI B fl_RX11_13 hT0 kh0 rfl rfl rfl rfl rfl dX11_about_121 (fun x_18 s_18 a_18 b_18 => ?_)
      exact rtPI (v := x_18) B hr hlk hh hQ rfl trivial dX11_about_124
    · refine lv_tableIn (off := 124) (tgt := 125) hx hb dX11_about_1 (by omega) (by omega) (by rw [h_1]; rfl) (by decide) ?_
      refine lv_aload_n hx hb dX11_about_125 rfl (lv_at hl 0 rfl) ?_
      refine g_getR B fl_RX11_20 hT0 kh0 rfl rfl rfl rfl rfl dX11_about_126 (fun q_19 s_19 k_q_19 => ?_)
      refine g_getI B fl_RX11_254 hT0 k_q_19 rfl rfl rfl rfl rfl dX11_about_129 (fun x_20 s_20 a_20 b_20 => ?_)
      exact rtPI (v := x_20) B hr hlk hh hQ rfl trivial dX11_about_132
    · refine lv_tableIn (off := 132) (tgt := 133) hx hb dX11_about_1 (by omega) (by omega) (by rw [h_1]; rfl) (by decide) ?_
      refine lv_aload_n hx hb dX11_about_133 rfl (lv_at hl 0 rfl) ?_
      refine g_getR B fl_RX11_55 hT0 kh0 rfl rfl rfl rfl rfl dX11_about_134 (fun q_21 s_21 k_q_21 => ?_)
      refine zkPI (zrV (rest := []) B (c_X3_countNoticed l E hV H0 hT0 q_21 k_q_21) cl_RX11_257 hT0 k_q_21 rfl rfl rfl rfl hl.1 rfl (Nat.le_of_ble_eq_true rfl) dX11_about_137 rfl rfl ⟨rfl, rfl⟩ ⟨Nat.zero_le _, Nat.zero_le _⟩ (zO.rf hh)) (fun x_22 hp_22 => ?_)
      exact rtPI (v := x_22) B hr hlk hh hQ rfl trivial dX11_about_140
  · refine lv_tableOut (tgt := 141) hx hb dX11_about_1 (by omega) (by decide) ?_
    refine lv_iconst (v := (-1)) hx hb dX11_about_141 (by decide) ?_
    have := kl_m1
    have := kl_m1
    exact rtPI (v := (-1)) B hr hlk hh hQ rfl trivial dX11_about_142
