theorem dX2_fromOf_0 : decode cX2_fromOf 0 = .ok (.iload_n 0, 1) := by decide +kernel
theorem dX2_fromOf_1 : decode cX2_fromOf 1 = .ok (.bipush 32, 2) := by decide +kernel
theorem dX2_fromOf_3 : decode cX2_fromOf 3 = .ok (.idiv, 1) := by decide +kernel
theorem dX2_fromOf_4 : decode cX2_fromOf 4 = .ok (.ireturn, 1) := by decide +kernel
def rm_X2_fromOf : Room := { frames := 0, cells := 0, slots := 0, locals := 0 }
set_option maxRecDepth 100000 in
set_option maxHeartbeats 4000000 in
theorem c_X2_fromOf (l : Launch) (E : zE) (hV : zV E) (H0 : Heap) (hT0 : HT E H0) (p0 : Int32) : Met l yX2_fromOf (zws yX2_fromOf cX2_fromOf 1 (some .int)) rm_X2_fromOf (zP E H0 [.int p0]) (zPI (fun r => True)) 0 0 (fun _ => False) := by
  refine zEnt (by decide) (Nat.le_of_ble_eq_true rfl) (fun p e s m args below meth c ls Q B hr hlk hh hQ hl => ?_)
  have hx := B.1
  have hb := B.2.1
  have hl : lv_has ls 1 [(0, .int p0)] := hl
  refine lv_iload_n hx hb dX2_fromOf_0 rfl (lv_at hl 0 rfl) ?_
  refine lv_bipush (v := 32) hx hb dX2_fromOf_1 (by decide) ?_
  refine lv_idiv hx hb dX2_fromOf_3 (by decide) ?_
  refine lv_topi (fun x_1 e_1 => ?_)
  exact rtPI (v := x_1) B hr hlk hh hQ rfl trivial dX2_fromOf_4

theorem dX2_toOf_0 : decode cX2_toOf 0 = .ok (.iload_n 0, 1) := by decide +kernel
theorem dX2_toOf_1 : decode cX2_toOf 1 = .ok (.bipush 32, 2) := by decide +kernel
theorem dX2_toOf_3 : decode cX2_toOf 3 = .ok (.irem, 1) := by decide +kernel
theorem dX2_toOf_4 : decode cX2_toOf 4 = .ok (.ireturn, 1) := by decide +kernel
def rm_X2_toOf : Room := { frames := 0, cells := 0, slots := 0, locals := 0 }
set_option maxRecDepth 100000 in
set_option maxHeartbeats 4000000 in
theorem c_X2_toOf (l : Launch) (E : zE) (hV : zV E) (H0 : Heap) (hT0 : HT E H0) (p0 : Int32) : Met l yX2_toOf (zws yX2_toOf cX2_toOf 1 (some .int)) rm_X2_toOf (zP E H0 [.int p0]) (zPI (fun r => True)) 0 0 (fun _ => False) := by
  refine zEnt (by decide) (Nat.le_of_ble_eq_true rfl) (fun p e s m args below meth c ls Q B hr hlk hh hQ hl => ?_)
  have hx := B.1
  have hb := B.2.1
  have hl : lv_has ls 1 [(0, .int p0)] := hl
  refine lv_iload_n hx hb dX2_toOf_0 rfl (lv_at hl 0 rfl) ?_
  refine lv_bipush (v := 32) hx hb dX2_toOf_1 (by decide) ?_
  refine lv_irem hx hb dX2_toOf_3 (by decide) ?_
  refine lv_topi (fun x_1 e_1 => ?_)
  exact rtPI (v := x_1) B hr hlk hh hQ rfl trivial dX2_toOf_4

theorem dX2_isOnBoard_0 : decode cX2_isOnBoard 0 = .ok (.iload_n 1, 1) := by decide +kernel
theorem dX2_isOnBoard_1 : decode cX2_isOnBoard 1 = .ok (.ifCond .lt 27, 3) := by decide +kernel
theorem dX2_isOnBoard_4 : decode cX2_isOnBoard 4 = .ok (.iload_n 1, 1) := by decide +kernel
theorem dX2_isOnBoard_5 : decode cX2_isOnBoard 5 = .ok (.aload_n 0, 1) := by decide +kernel
theorem dX2_isOnBoard_6 : decode cX2_isOnBoard 6 = .ok (.getfield 15, 3) := by decide +kernel
theorem dX2_isOnBoard_9 : decode cX2_isOnBoard 9 = .ok (.if_icmp .ge 19, 3) := by decide +kernel
theorem dX2_isOnBoard_12 : decode cX2_isOnBoard 12 = .ok (.iload_n 2, 1) := by decide +kernel
theorem dX2_isOnBoard_13 : decode cX2_isOnBoard 13 = .ok (.ifCond .lt 15, 3) := by decide +kernel
theorem dX2_isOnBoard_16 : decode cX2_isOnBoard 16 = .ok (.iload_n 2, 1) := by decide +kernel
theorem dX2_isOnBoard_17 : decode cX2_isOnBoard 17 = .ok (.aload_n 0, 1) := by decide +kernel
theorem dX2_isOnBoard_18 : decode cX2_isOnBoard 18 = .ok (.getfield 18, 3) := by decide +kernel
theorem dX2_isOnBoard_21 : decode cX2_isOnBoard 21 = .ok (.if_icmp .ge 7, 3) := by decide +kernel
theorem dX2_isOnBoard_24 : decode cX2_isOnBoard 24 = .ok (.iconst 1, 1) := by decide +kernel
theorem dX2_isOnBoard_25 : decode cX2_isOnBoard 25 = .ok (.goto 4, 3) := by decide +kernel
theorem dX2_isOnBoard_28 : decode cX2_isOnBoard 28 = .ok (.iconst 0, 1) := by decide +kernel
theorem dX2_isOnBoard_29 : decode cX2_isOnBoard 29 = .ok (.ireturn, 1) := by decide +kernel
def rm_X2_isOnBoard : Room := { frames := 0, cells := 0, slots := 0, locals := 0 }
set_option maxRecDepth 100000 in
set_option maxHeartbeats 4000000 in
theorem c_X2_isOnBoard (l : Launch) (E : zE) (hV : zV E) (H0 : Heap) (hT0 : HT E H0) (h0 : Nat) (kh0 : eK E h0 = 3) (p0 : Int32) (p1 : Int32) : Met l yX2_isOnBoard (zws yX2_isOnBoard cX2_isOnBoard 3 (some .boolean)) rm_X2_isOnBoard (zP E H0 [.ref h0, .int p0, .int p1]) (zPI (fun r => 0 ≤ r.toInt ∧ r.toInt ≤ 1)) 0 0 (fun _ => False) := by
  refine zEnt (by decide) (Nat.le_of_ble_eq_true rfl) (fun p e s m args below meth c ls Q B hr hlk hh hQ hl => ?_)
  have hx := B.1
  have hb := B.2.1
  have hl : lv_has ls 3 [(0, .ref h0), (1, .int p0), (2, .int p1)] := hl
  refine lv_iload_n hx hb dX2_isOnBoard_0 rfl (lv_at hl 1 rfl) ?_
  refine lv_if_lt (tgt := 28) hx hb dX2_isOnBoard_1 (by decide) (fun c_1 => ?_) (fun c_1 => ?_)
  · have f_1 := z_lt c_1 rfl kl_0
    refine lv_iconst (v := 0) hx hb dX2_isOnBoard_28 (by decide) ?_
    have := kl_0
    have := kl_0
    exact rtPI (v := 0) B hr hlk hh hQ rfl ⟨by omega, by omega⟩ dX2_isOnBoard_29
  · have f_1 := z_nlt c_1 rfl kl_0
    refine lv_iload_n hx hb dX2_isOnBoard_4 rfl (lv_at hl 1 rfl) ?_
    refine lv_aload_n hx hb dX2_isOnBoard_5 rfl (lv_at hl 0 rfl) ?_
    refine g_getI B fl_RX2_15 hT0 kh0 rfl rfl rfl rfl rfl dX2_isOnBoard_6 (fun x_2 s_2 a_2 b_2 => ?_)
    refine lv_icmp_ge (tgt := 28) hx hb dX2_isOnBoard_9 (by decide) (fun c_3 => ?_) (fun c_3 => ?_)
    · have f_3 := z_le c_3 rfl rfl
      refine lv_iconst (v := 0) hx hb dX2_isOnBoard_28 (by decide) ?_
      have := kl_0
      have := kl_0
      exact rtPI (v := 0) B hr hlk hh hQ rfl ⟨by omega, by omega⟩ dX2_isOnBoard_29
    · have f_3 := z_nle c_3 rfl rfl
      refine lv_iload_n hx hb dX2_isOnBoard_12 rfl (lv_at hl 2 rfl) ?_
      refine lv_if_lt (tgt := 28) hx hb dX2_isOnBoard_13 (by decide) (fun c_4 => ?_) (fun c_4 => ?_)
      · have f_4 := z_lt c_4 rfl kl_0
        refine lv_iconst (v := 0) hx hb dX2_isOnBoard_28 (by decide) ?_
        have := kl_0
        have := kl_0
        exact rtPI (v := 0) B hr hlk hh hQ rfl ⟨by omega, by omega⟩ dX2_isOnBoard_29
      · have f_4 := z_nlt c_4 rfl kl_0
        refine lv_iload_n hx hb dX2_isOnBoard_16 rfl (lv_at hl 2 rfl) ?_
        refine lv_aload_n hx hb dX2_isOnBoard_17 rfl (lv_at hl 0 rfl) ?_
        refine g_getI B fl_RX2_18 hT0 kh0 rfl rfl rfl rfl rfl dX2_isOnBoard_18 (fun x_5 s_5 a_5 b_5 => ?_)
        refine lv_icmp_ge (tgt := 28) hx hb dX2_isOnBoard_21 (by decide) (fun c_6 => ?_) (fun c_6 => ?_)
        · have f_6 := z_le c_6 rfl rfl
          refine lv_iconst (v := 0) hx hb dX2_isOnBoard_28 (by decide) ?_
          have := kl_0
          have := kl_0
          exact rtPI (v := 0) B hr hlk hh hQ rfl ⟨by omega, by omega⟩ dX2_isOnBoard_29
        · have f_6 := z_nle c_6 rfl rfl
          refine lv_iconst (v := 1) hx hb dX2_isOnBoard_24 (by decide) ?_
          refine lv_goto (tgt := 29) hx hb dX2_isOnBoard_25 (by decide) ?_
          have := kl_1
          have := kl_1
          exact rtPI (v := 1) B hr hlk hh hQ rfl ⟨by omega, by omega⟩ dX2_isOnBoard_29

theorem dX2_squareBit_0 : decode cX2_squareBit 0 = .ok (.aload_n 0, 1) := by decide +kernel
theorem dX2_squareBit_1 : decode cX2_squareBit 1 = .ok (.iload_n 1, 1) := by decide +kernel
theorem dX2_squareBit_2 : decode cX2_squareBit 2 = .ok (.iload_n 2, 1) := by decide +kernel
theorem dX2_squareBit_3 : decode cX2_squareBit 3 = .ok (.invokevirtual 111, 3) := by decide +kernel
theorem dX2_squareBit_6 : decode cX2_squareBit 6 = .ok (.ifCond .eq 16, 3) := by decide +kernel
theorem dX2_squareBit_9 : decode cX2_squareBit 9 = .ok (.iconst 1, 1) := by decide +kernel
theorem dX2_squareBit_10 : decode cX2_squareBit 10 = .ok (.iload_n 1, 1) := by decide +kernel
theorem dX2_squareBit_11 : decode cX2_squareBit 11 = .ok (.aload_n 0, 1) := by decide +kernel
theorem dX2_squareBit_12 : decode cX2_squareBit 12 = .ok (.getfield 15, 3) := by decide +kernel
theorem dX2_squareBit_15 : decode cX2_squareBit 15 = .ok (.iload_n 2, 1) := by decide +kernel
theorem dX2_squareBit_16 : decode cX2_squareBit 16 = .ok (.imul, 1) := by decide +kernel
theorem dX2_squareBit_17 : decode cX2_squareBit 17 = .ok (.iadd, 1) := by decide +kernel
theorem dX2_squareBit_18 : decode cX2_squareBit 18 = .ok (.ishl, 1) := by decide +kernel
theorem dX2_squareBit_19 : decode cX2_squareBit 19 = .ok (.goto 4, 3) := by decide +kernel
theorem dX2_squareBit_22 : decode cX2_squareBit 22 = .ok (.iconst 0, 1) := by decide +kernel
theorem dX2_squareBit_23 : decode cX2_squareBit 23 = .ok (.ireturn, 1) := by decide +kernel
def rm_X2_squareBit : Room := { frames := 1, cells := 0, slots := 0, locals := 22 }
set_option maxRecDepth 100000 in
set_option maxHeartbeats 4000000 in
theorem c_X2_squareBit (l : Launch) (E : zE) (hV : zV E) (H0 : Heap) (hT0 : HT E H0) (h0 : Nat) (kh0 : eK E h0 = 3) (p0 : Int32) (p1 : Int32) : Met l yX2_squareBit (zws yX2_squareBit cX2_squareBit 3 (some .int)) rm_X2_squareBit (zP E H0 [.ref h0, .int p0, .int p1]) (zPI (fun r => True)) 0 0 (fun _ => False) := by
  refine zEnt (by decide) (Nat.le_of_ble_eq_true rfl) (fun p e s m args below meth c ls Q B hr hlk hh hQ hl => ?_)
  have hx := B.1
  have hb := B.2.1
  have hl : lv_has ls 3 [(0, .ref h0), (1, .int p0), (2, .int p1)] := hl
  refine lv_aload_n hx hb dX2_squareBit_0 rfl (lv_at hl 0 rfl) ?_
  refine lv_iload_n hx hb dX2_squareBit_1 rfl (lv_at hl 1 rfl) ?_
  refine lv_iload_n hx hb dX2_squareBit_2 rfl (lv_at hl 2 rfl) ?_
  refine zkPI (zrV (rest := []) B (c_X2_isOnBoard l E hV H0 hT0 h0 kh0 p0 p1) cl_RX2_111 hT0 kh0 rfl rfl rfl rfl hl.1 rfl (Nat.le_of_ble_eq_true rfl) dX2_squareBit_3 rfl rfl ⟨rfl, rfl⟩ ⟨Nat.zero_le _, Nat.zero_le _⟩ (zO.rf hh)) (fun x_1 hp_1 => ?_)
  obtain ⟨hp_1_1, hp_1_2⟩ := hp_1
  refine lv_if_eq (tgt := 22) hx hb dX2_squareBit_6 (by decide) (fun c_2 => ?_) (fun c_2 => ?_)
  · have f_2 := z_eq c_2 rfl kl_0
    refine lv_iconst (v := 0) hx hb dX2_squareBit_22 (by decide) ?_
    have := kl_0
    have := kl_0
    exact rtPI (v := 0) B hr hlk hh hQ rfl trivial dX2_squareBit_23
  · have f_2 := z_ne c_2 rfl kl_0
    refine lv_iconst (v := 1) hx hb dX2_squareBit_9 (by decide) ?_
    refine lv_iload_n hx hb dX2_squareBit_10 rfl (lv_at hl 1 rfl) ?_
    refine lv_aload_n hx hb dX2_squareBit_11 rfl (lv_at hl 0 rfl) ?_
    refine g_getI B fl_RX2_15 hT0 kh0 rfl rfl rfl rfl rfl dX2_squareBit_12 (fun x_3 s_3 a_3 b_3 => ?_)
    refine lv_iload_n hx hb dX2_squareBit_15 rfl (lv_at hl 2 rfl) ?_
    refine lv_imul hx hb dX2_squareBit_16 ?_
    refine lv_topi (fun x_4 e_4 => ?_)
    refine lv_iadd hx hb dX2_squareBit_17 ?_
    refine lv_topi (fun x_5 e_5 => ?_)
    refine lv_ishl hx hb dX2_squareBit_18 ?_
    refine lv_topi (fun x_6 e_6 => ?_)
    refine lv_goto (tgt := 23) hx hb dX2_squareBit_19 (by decide) ?_
    exact rtPI (v := x_6) B hr hlk hh hQ rfl trivial dX2_squareBit_23

theorem dX2_kingless_0 : decode cX2_kingless 0 = .ok (.aload_n 0, 1) := by decide +kernel
theorem dX2_kingless_1 : decode cX2_kingless 1 = .ok (.getfield 21, 3) := by decide +kernel
theorem dX2_kingless_4 : decode cX2_kingless 4 = .ok (.ifCond .eq 17, 3) := by decide +kernel
theorem dX2_kingless_7 : decode cX2_kingless 7 = .ok (.aload_n 1, 1) := by decide +kernel
theorem dX2_kingless_8 : decode cX2_kingless 8 = .ok (.getfield 59, 3) := by decide +kernel
theorem dX2_kingless_11 : decode cX2_kingless 11 = .ok (.aload_n 1, 1) := by decide +kernel
theorem dX2_kingless_12 : decode cX2_kingless 12 = .ok (.getfield 64, 3) := by decide +kernel
theorem dX2_kingless_15 : decode cX2_kingless 15 = .ok (.iand, 1) := by decide +kernel
theorem dX2_kingless_16 : decode cX2_kingless 16 = .ok (.ifCond .ne 5, 3) := by decide +kernel
theorem dX2_kingless_19 : decode cX2_kingless 19 = .ok (.iconst 0, 1) := by decide +kernel
theorem dX2_kingless_20 : decode cX2_kingless 20 = .ok (.ireturn, 1) := by decide +kernel
theorem dX2_kingless_21 : decode cX2_kingless 21 = .ok (.aload_n 0, 1) := by decide +kernel
theorem dX2_kingless_22 : decode cX2_kingless 22 = .ok (.getfield 25, 3) := by decide +kernel
theorem dX2_kingless_25 : decode cX2_kingless 25 = .ok (.ifCond .eq 19, 3) := by decide +kernel
theorem dX2_kingless_28 : decode cX2_kingless 28 = .ok (.aload_n 1, 1) := by decide +kernel
theorem dX2_kingless_29 : decode cX2_kingless 29 = .ok (.getfield 67, 3) := by decide +kernel
theorem dX2_kingless_32 : decode cX2_kingless 32 = .ok (.aload_n 1, 1) := by decide +kernel
theorem dX2_kingless_33 : decode cX2_kingless 33 = .ok (.getfield 64, 3) := by decide +kernel
theorem dX2_kingless_36 : decode cX2_kingless 36 = .ok (.iand, 1) := by decide +kernel
theorem dX2_kingless_37 : decode cX2_kingless 37 = .ok (.ifCond .ne 7, 3) := by decide +kernel
theorem dX2_kingless_40 : decode cX2_kingless 40 = .ok (.iconst 1, 1) := by decide +kernel
theorem dX2_kingless_41 : decode cX2_kingless 41 = .ok (.goto 4, 3) := by decide +kernel
theorem dX2_kingless_44 : decode cX2_kingless 44 = .ok (.iconst (-1), 1) := by decide +kernel
theorem dX2_kingless_45 : decode cX2_kingless 45 = .ok (.ireturn, 1) := by decide +kernel
def rm_X2_kingless : Room := { frames := 0, cells := 0, slots := 0, locals := 0 }
set_option maxRecDepth 100000 in
set_option maxHeartbeats 4000000 in
theorem c_X2_kingless (l : Launch) (E : zE) (hV : zV E) (H0 : Heap) (hT0 : HT E H0) (h0 : Nat) (kh0 : eK E h0 = 3) (p0 : Nat) (kp0 : eK E p0 = 5) : Met l yX2_kingless (zws yX2_kingless cX2_kingless 2 (some .int)) rm_X2_kingless (zP E H0 [.ref h0, .ref p0]) (zPI (fun r => (-1) ≤ r.toInt ∧ r.toInt ≤ 1)) 0 0 (fun _ => False) := by
  refine zEnt (by decide) (Nat.le_of_ble_eq_true rfl) (fun p e s m args below meth c ls Q B hr hlk hh hQ hl => ?_)
  have hx := B.1
  have hb := B.2.1
  have hl : lv_has ls 2 [(0, .ref h0), (1, .ref p0)] := hl
  have b21 : ∀ (ls : Array Slot), lv_has ls 2 [(0, .ref h0), (1, .ref p0)] → W p l e rm_X2_kingless s m args below meth c H0 [] 0 0 Q (F0 m 21 ls []) := by
    intro ls hl
    refine lv_aload_n hx hb dX2_kingless_21 rfl (lv_at hl 0 rfl) ?_
    refine g_getI B fl_RX2_25 hT0 kh0 rfl rfl rfl rfl rfl dX2_kingless_22 (fun x_1 s_1 a_1 b_1 => ?_)
    refine lv_if_eq (tgt := 44) hx hb dX2_kingless_25 (by decide) (fun c_2 => ?_) (fun c_2 => ?_)
    · have f_2 := z_eq c_2 rfl kl_0
      refine lv_iconst (v := (-1)) hx hb dX2_kingless_44 (by decide) ?_
      have := kl_m1
      have := kl_m1
      exact rtPI (v := (-1)) B hr hlk hh hQ rfl ⟨by omega, by omega⟩ dX2_kingless_45
    · have f_2 := z_ne c_2 rfl kl_0
      refine lv_aload_n hx hb dX2_kingless_28 rfl (lv_at hl 1 rfl) ?_
      refine g_getI B fl_RX2_67 hT0 kp0 rfl rfl rfl rfl rfl dX2_kingless_29 (fun x_3 s_3 a_3 b_3 => ?_)
      refine lv_aload_n hx hb dX2_kingless_32 rfl (lv_at hl 1 rfl) ?_
      refine g_getI B fl_RX2_64 hT0 kp0 rfl rfl rfl rfl rfl dX2_kingless_33 (fun x_4 s_4 a_4 b_4 => ?_)
      refine lv_iand hx hb dX2_kingless_36 ?_
      refine lv_topi (fun x_5 e_5 => ?_)
      refine lv_if_ne (tgt := 44) hx hb dX2_kingless_37 (by decide) (fun c_6 => ?_) (fun c_6 => ?_)
      · have f_6 := z_ne c_6 rfl kl_0
        refine lv_iconst (v := (-1)) hx hb dX2_kingless_44 (by decide) ?_
        have := kl_m1
        have := kl_m1
        exact rtPI (v := (-1)) B hr hlk hh hQ rfl ⟨by omega, by omega⟩ dX2_kingless_45
      · have f_6 := z_eq c_6 rfl kl_0
        refine lv_iconst (v := 1) hx hb dX2_kingless_40 (by decide) ?_
        refine lv_goto (tgt := 45) hx hb dX2_kingless_41 (by decide) ?_
        have := kl_1
        have := kl_1
        exact rtPI (v := 1) B hr hlk hh hQ rfl ⟨by omega, by omega⟩ dX2_kingless_45
  refine lv_aload_n hx hb dX2_kingless_0 rfl (lv_at hl 0 rfl) ?_
  refine g_getI B fl_RX2_21 hT0 kh0 rfl rfl rfl rfl rfl dX2_kingless_1 (fun x_7 s_7 a_7 b_7 => ?_)
  refine lv_if_eq (tgt := 21) hx hb dX2_kingless_4 (by decide) (fun c_8 => ?_) (fun c_8 => ?_)
  · have f_8 := z_eq c_8 rfl kl_0
    exact b21 ls (lv_sub hl [0, 1] rfl)
  · have f_8 := z_ne c_8 rfl kl_0
    refine lv_aload_n hx hb dX2_kingless_7 rfl (lv_at hl 1 rfl) ?_
    refine g_getI B fl_RX2_59 hT0 kp0 rfl rfl rfl rfl rfl dX2_kingless_8 (fun x_9 s_9 a_9 b_9 => ?_)
    refine lv_aload_n hx hb dX2_kingless_11 rfl (lv_at hl 1 rfl) ?_
    refine g_getI B fl_RX2_64 hT0 kp0 rfl rfl rfl rfl rfl dX2_kingless_12 (fun x_10 s_10 a_10 b_10 => ?_)
    refine lv_iand hx hb dX2_kingless_15 ?_
    refine lv_topi (fun x_11 e_11 => ?_)
    refine lv_if_ne (tgt := 21) hx hb dX2_kingless_16 (by decide) (fun c_12 => ?_) (fun c_12 => ?_)
    · have f_12 := z_ne c_12 rfl kl_0
      exact b21 ls (lv_sub hl [0, 1] rfl)
    · have f_12 := z_eq c_12 rfl kl_0
      refine lv_iconst (v := 0) hx hb dX2_kingless_19 (by decide) ?_
      have := kl_0
      have := kl_0
      exact rtPI (v := 0) B hr hlk hh hQ rfl ⟨by omega, by omega⟩ dX2_kingless_20

theorem dX2_ridesTo_0 : decode cX2_ridesTo 0 = .ok (.aload_n 0, 1) := by decide +kernel
theorem dX2_ridesTo_1 : decode cX2_ridesTo 1 = .ok (.getfield 15, 3) := by decide +kernel
theorem dX2_ridesTo_4 : decode cX2_ridesTo 4 = .ok (.iconst 1, 1) := by decide +kernel
theorem dX2_ridesTo_5 : decode cX2_ridesTo 5 = .ok (.if_icmp .ge 5, 3) := by decide +kernel
theorem dX2_ridesTo_8 : decode cX2_ridesTo 8 = .ok (.iconst 0, 1) := by decide +kernel
theorem dX2_ridesTo_9 : decode cX2_ridesTo 9 = .ok (.ireturn, 1) := by decide +kernel
theorem dX2_ridesTo_10 : decode cX2_ridesTo 10 = .ok (.iconst 0, 1) := by decide +kernel
theorem dX2_ridesTo_11 : decode cX2_ridesTo 11 = .ok (.istore 5, 2) := by decide +kernel
theorem dX2_ridesTo_13 : decode cX2_ridesTo 13 = .ok (.iload_n 1, 1) := by decide +kernel
theorem dX2_ridesTo_14 : decode cX2_ridesTo 14 = .ok (.bipush 48, 2) := by decide +kernel
theorem dX2_ridesTo_16 : decode cX2_ridesTo 16 = .ok (.imul, 1) := by decide +kernel
theorem dX2_ridesTo_17 : decode cX2_ridesTo 17 = .ok (.istore 6, 2) := by decide +kernel
theorem dX2_ridesTo_19 : decode cX2_ridesTo 19 = .ok (.iload 6, 2) := by decide +kernel
theorem dX2_ridesTo_21 : decode cX2_ridesTo 21 = .ok (.aload_n 0, 1) := by decide +kernel
theorem dX2_ridesTo_22 : decode cX2_ridesTo 22 = .ok (.getfield 42, 3) := by decide +kernel
theorem dX2_ridesTo_25 : decode cX2_ridesTo 25 = .ok (.iload_n 1, 1) := by decide +kernel
theorem dX2_ridesTo_26 : decode cX2_ridesTo 26 = .ok (.iaload, 1) := by decide +kernel
theorem dX2_ridesTo_27 : decode cX2_ridesTo 27 = .ok (.iadd, 1) := by decide +kernel
theorem dX2_ridesTo_28 : decode cX2_ridesTo 28 = .ok (.istore 7, 2) := by decide +kernel
theorem dX2_ridesTo_30 : decode cX2_ridesTo 30 = .ok (.iload 6, 2) := by decide +kernel
theorem dX2_ridesTo_32 : decode cX2_ridesTo 32 = .ok (.istore 8, 2) := by decide +kernel
theorem dX2_ridesTo_34 : decode cX2_ridesTo 34 = .ok (.iload 8, 2) := by decide +kernel
theorem dX2_ridesTo_36 : decode cX2_ridesTo 36 = .ok (.iload 7, 2) := by decide +kernel
theorem dX2_ridesTo_38 : decode cX2_ridesTo 38 = .ok (.if_icmp .ge 151, 3) := by decide +kernel
theorem dX2_ridesTo_41 : decode cX2_ridesTo 41 = .ok (.iload_n 2, 1) := by decide +kernel
theorem dX2_ridesTo_42 : decode cX2_ridesTo 42 = .ok (.aload_n 0, 1) := by decide +kernel
theorem dX2_ridesTo_43 : decode cX2_ridesTo 43 = .ok (.getfield 15, 3) := by decide +kernel
theorem dX2_ridesTo_46 : decode cX2_ridesTo 46 = .ok (.irem, 1) := by decide +kernel
theorem dX2_ridesTo_47 : decode cX2_ridesTo 47 = .ok (.aload_n 0, 1) := by decide +kernel
theorem dX2_ridesTo_48 : decode cX2_ridesTo 48 = .ok (.getfield 45, 3) := by decide +kernel
theorem dX2_ridesTo_51 : decode cX2_ridesTo 51 = .ok (.iload 8, 2) := by decide +kernel
theorem dX2_ridesTo_53 : decode cX2_ridesTo 53 = .ok (.iaload, 1) := by decide +kernel
theorem dX2_ridesTo_54 : decode cX2_ridesTo 54 = .ok (.iadd, 1) := by decide +kernel
theorem dX2_ridesTo_55 : decode cX2_ridesTo 55 = .ok (.istore 9, 2) := by decide +kernel
theorem dX2_ridesTo_57 : decode cX2_ridesTo 57 = .ok (.iload_n 2, 1) := by decide +kernel
theorem dX2_ridesTo_58 : decode cX2_ridesTo 58 = .ok (.aload_n 0, 1) := by decide +kernel
theorem dX2_ridesTo_59 : decode cX2_ridesTo 59 = .ok (.getfield 15, 3) := by decide +kernel
theorem dX2_ridesTo_62 : decode cX2_ridesTo 62 = .ok (.idiv, 1) := by decide +kernel
theorem dX2_ridesTo_63 : decode cX2_ridesTo 63 = .ok (.aload_n 0, 1) := by decide +kernel
theorem dX2_ridesTo_64 : decode cX2_ridesTo 64 = .ok (.getfield 48, 3) := by decide +kernel
theorem dX2_ridesTo_67 : decode cX2_ridesTo 67 = .ok (.iload 8, 2) := by decide +kernel
theorem dX2_ridesTo_69 : decode cX2_ridesTo 69 = .ok (.iaload, 1) := by decide +kernel
theorem dX2_ridesTo_70 : decode cX2_ridesTo 70 = .ok (.iadd, 1) := by decide +kernel
theorem dX2_ridesTo_71 : decode cX2_ridesTo 71 = .ok (.istore 10, 2) := by decide +kernel
theorem dX2_ridesTo_73 : decode cX2_ridesTo 73 = .ok (.iconst 0, 1) := by decide +kernel
theorem dX2_ridesTo_74 : decode cX2_ridesTo 74 = .ok (.istore 11, 2) := by decide +kernel
theorem dX2_ridesTo_76 : decode cX2_ridesTo 76 = .ok (.iload 11, 2) := by decide +kernel
theorem dX2_ridesTo_78 : decode cX2_ridesTo 78 = .ok (.bipush 6, 2) := by decide +kernel
theorem dX2_ridesTo_80 : decode cX2_ridesTo 80 = .ok (.if_icmp .ge 103, 3) := by decide +kernel
theorem dX2_ridesTo_83 : decode cX2_ridesTo 83 = .ok (.iload 9, 2) := by decide +kernel
theorem dX2_ridesTo_85 : decode cX2_ridesTo 85 = .ok (.ifCond .lt 98, 3) := by decide +kernel
theorem dX2_ridesTo_88 : decode cX2_ridesTo 88 = .ok (.iload 9, 2) := by decide +kernel
theorem dX2_ridesTo_90 : decode cX2_ridesTo 90 = .ok (.aload_n 0, 1) := by decide +kernel
theorem dX2_ridesTo_91 : decode cX2_ridesTo 91 = .ok (.getfield 15, 3) := by decide +kernel
theorem dX2_ridesTo_94 : decode cX2_ridesTo 94 = .ok (.if_icmp .ge 89, 3) := by decide +kernel
theorem dX2_ridesTo_97 : decode cX2_ridesTo 97 = .ok (.iload 10, 2) := by decide +kernel
theorem dX2_ridesTo_99 : decode cX2_ridesTo 99 = .ok (.ifCond .lt 84, 3) := by decide +kernel
theorem dX2_ridesTo_102 : decode cX2_ridesTo 102 = .ok (.iload 10, 2) := by decide +kernel
theorem dX2_ridesTo_104 : decode cX2_ridesTo 104 = .ok (.aload_n 0, 1) := by decide +kernel
theorem dX2_ridesTo_105 : decode cX2_ridesTo 105 = .ok (.getfield 18, 3) := by decide +kernel
theorem dX2_ridesTo_108 : decode cX2_ridesTo 108 = .ok (.if_icmp .ge 75, 3) := by decide +kernel
theorem dX2_ridesTo_111 : decode cX2_ridesTo 111 = .ok (.iconst 1, 1) := by decide +kernel
theorem dX2_ridesTo_112 : decode cX2_ridesTo 112 = .ok (.iload 9, 2) := by decide +kernel
theorem dX2_ridesTo_114 : decode cX2_ridesTo 114 = .ok (.aload_n 0, 1) := by decide +kernel
theorem dX2_ridesTo_115 : decode cX2_ridesTo 115 = .ok (.getfield 15, 3) := by decide +kernel
theorem dX2_ridesTo_118 : decode cX2_ridesTo 118 = .ok (.iload 10, 2) := by decide +kernel
theorem dX2_ridesTo_120 : decode cX2_ridesTo 120 = .ok (.imul, 1) := by decide +kernel
theorem dX2_ridesTo_121 : decode cX2_ridesTo 121 = .ok (.iadd, 1) := by decide +kernel
theorem dX2_ridesTo_122 : decode cX2_ridesTo 122 = .ok (.ishl, 1) := by decide +kernel
theorem dX2_ridesTo_123 : decode cX2_ridesTo 123 = .ok (.istore 12, 2) := by decide +kernel
theorem dX2_ridesTo_125 : decode cX2_ridesTo 125 = .ok (.iload_n 3, 1) := by decide +kernel
theorem dX2_ridesTo_126 : decode cX2_ridesTo 126 = .ok (.iload 12, 2) := by decide +kernel
theorem dX2_ridesTo_128 : decode cX2_ridesTo 128 = .ok (.iand, 1) := by decide +kernel
theorem dX2_ridesTo_129 : decode cX2_ridesTo 129 = .ok (.ifCond .eq 6, 3) := by decide +kernel
theorem dX2_ridesTo_132 : decode cX2_ridesTo 132 = .ok (.goto 51, 3) := by decide +kernel
theorem dX2_ridesTo_135 : decode cX2_ridesTo 135 = .ok (.iload 5, 2) := by decide +kernel
theorem dX2_ridesTo_137 : decode cX2_ridesTo 137 = .ok (.iload 12, 2) := by decide +kernel
theorem dX2_ridesTo_139 : decode cX2_ridesTo 139 = .ok (.ior, 1) := by decide +kernel
theorem dX2_ridesTo_140 : decode cX2_ridesTo 140 = .ok (.istore 5, 2) := by decide +kernel
theorem dX2_ridesTo_142 : decode cX2_ridesTo 142 = .ok (.iload 4, 2) := by decide +kernel
theorem dX2_ridesTo_144 : decode cX2_ridesTo 144 = .ok (.iload 12, 2) := by decide +kernel
theorem dX2_ridesTo_146 : decode cX2_ridesTo 146 = .ok (.iand, 1) := by decide +kernel
theorem dX2_ridesTo_147 : decode cX2_ridesTo 147 = .ok (.ifCond .eq 6, 3) := by decide +kernel
theorem dX2_ridesTo_150 : decode cX2_ridesTo 150 = .ok (.goto 33, 3) := by decide +kernel
theorem dX2_ridesTo_153 : decode cX2_ridesTo 153 = .ok (.iload 9, 2) := by decide +kernel
theorem dX2_ridesTo_155 : decode cX2_ridesTo 155 = .ok (.aload_n 0, 1) := by decide +kernel
theorem dX2_ridesTo_156 : decode cX2_ridesTo 156 = .ok (.getfield 45, 3) := by decide +kernel
theorem dX2_ridesTo_159 : decode cX2_ridesTo 159 = .ok (.iload 8, 2) := by decide +kernel
theorem dX2_ridesTo_161 : decode cX2_ridesTo 161 = .ok (.iaload, 1) := by decide +kernel
theorem dX2_ridesTo_162 : decode cX2_ridesTo 162 = .ok (.iadd, 1) := by decide +kernel
theorem dX2_ridesTo_163 : decode cX2_ridesTo 163 = .ok (.istore 9, 2) := by decide +kernel
theorem dX2_ridesTo_165 : decode cX2_ridesTo 165 = .ok (.iload 10, 2) := by decide +kernel
theorem dX2_ridesTo_167 : decode cX2_ridesTo 167 = .ok (.aload_n 0, 1) := by decide +kernel
theorem dX2_ridesTo_168 : decode cX2_ridesTo 168 = .ok (.getfield 48, 3) := by decide +kernel
theorem dX2_ridesTo_171 : decode cX2_ridesTo 171 = .ok (.iload 8, 2) := by decide +kernel
theorem dX2_ridesTo_173 : decode cX2_ridesTo 173 = .ok (.iaload, 1) := by decide +kernel
theorem dX2_ridesTo_174 : decode cX2_ridesTo 174 = .ok (.iadd, 1) := by decide +kernel
theorem dX2_ridesTo_175 : decode cX2_ridesTo 175 = .ok (.istore 10, 2) := by decide +kernel
theorem dX2_ridesTo_177 : decode cX2_ridesTo 177 = .ok (.iinc 11 1, 3) := by decide +kernel
theorem dX2_ridesTo_180 : decode cX2_ridesTo 180 = .ok (.goto (-104), 3) := by decide +kernel
theorem dX2_ridesTo_183 : decode cX2_ridesTo 183 = .ok (.iinc 8 1, 3) := by decide +kernel
theorem dX2_ridesTo_186 : decode cX2_ridesTo 186 = .ok (.goto (-152), 3) := by decide +kernel
theorem dX2_ridesTo_189 : decode cX2_ridesTo 189 = .ok (.iload 5, 2) := by decide +kernel
theorem dX2_ridesTo_191 : decode cX2_ridesTo 191 = .ok (.ireturn, 1) := by decide +kernel
def rm_X2_ridesTo : Room := { frames := 0, cells := 0, slots := 0, locals := 0 }
set_option maxRecDepth 100000 in
set_option maxHeartbeats 4000000 in
theorem c_X2_ridesTo (l : Launch) (E : zE) (hV : zV E) (H0 : Heap) (hT0 : HT E H0) (h0 : Nat) (kh0 : eK E h0 = 3) (p0 : Int32) (p0_lo : 0 ≤ p0.toInt) (p0_hi : p0.toInt ≤ 5) (p1 : Int32) (p1_lo : 0 ≤ p1.toInt) (p1_hi : p1.toInt ≤ 29) (p2 : Int32) (p3 : Int32) : Met l yX2_ridesTo (zws yX2_ridesTo cX2_ridesTo 13 (some .int)) rm_X2_ridesTo (zP E H0 [.ref h0, .int p0, .int p1, .int p2, .int p3]) (zPI (fun r => 0 ≤ r.toInt ∧ r.toInt ≤ 1073741823)) 0 0 (fun _ => False) := by
  refine zEnt (by decide) (Nat.le_of_ble_eq_true rfl) (fun p e s m args below meth c ls Q B hr hlk hh hQ hl => ?_)
  have hx := B.1
  have hb := B.2.1
  have hl : lv_has ls 13 [(0, .ref h0), (1, .int p0), (2, .int p1), (3, .int p2), (4, .int p3)] := hl
  have b34 : ∀ (n34 : Nat) (ls : Array Slot) (v34_5 : Int32) (v34_7 : Int32) (v34_8 : Int32) (u34_h0_1 : Int32), 288 - v34_8.toInt < (n34 : Int) → lv_has ls 13 [(0, .ref h0), (2, .int p1), (3, .int p2), (4, .int p3), (5, .int v34_5), (7, .int v34_7), (8, .int v34_8)] → 0 ≤ v34_5.toInt → v34_5.toInt ≤ 1073741823 → 0 ≤ v34_7.toInt → v34_7.toInt ≤ 288 → 0 ≤ v34_8.toInt → v34_8.toInt ≤ 288 → 1 ≤ u34_h0_1.toInt → u34_h0_1.toInt ≤ 5 → sl H0 h0 (zix E 3 1) = some (.int u34_h0_1) → W p l e rm_X2_ridesTo s m args below meth c H0 [] 0 0 Q (F0 m 34 ls []) := by
    intro n34
    induction n34 with
    | zero =>
      intro ls v34_5 v34_7 v34_8 u34_h0_1 hm34 hl f34_1 f34_2 f34_3 f34_4 f34_5 f34_6 f34_7 f34_8 s34_u34_h0_1
      exact absurd hm34 (by omega)
    | succ n34 ih34 =>
      intro ls v34_5 v34_7 v34_8 u34_h0_1 hm34 hl f34_1 f34_2 f34_3 f34_4 f34_5 f34_6 f34_7 f34_8 s34_u34_h0_1
      have b183 : ∀ (ls : Array Slot) (v183_5 : Int32) (u183_h0_10 : Nat) (u183_h0_11 : Nat), lv_has ls 13 [(0, .ref h0), (2, .int p1), (3, .int p2), (4, .int p3), (5, .int v183_5), (7, .int v34_7), (8, .int v34_8)] → eK E u183_h0_10 = 31 → eK E u183_h0_11 = 32 → 0 ≤ v183_5.toInt → v183_5.toInt ≤ 1073741823 → 1 ≤ v34_7.toInt → v34_8.toInt ≤ 287 → sl H0 h0 (zix E 3 1) = some (.int u34_h0_1) → sl H0 h0 (zix E 3 10) = some (.ref u183_h0_10) → sl H0 h0 (zix E 3 11) = some (.ref u183_h0_11) → W p l e rm_X2_ridesTo s m args below meth c H0 [] 0 0 Q (F0 m 183 ls []) := by
        intro ls v183_5 u183_h0_10 u183_h0_11 hl k_u183_h0_10 k_u183_h0_11 f183_1 f183_2 f183_3 f183_4 s183_u183_h0_1 s183_u183_h0_10 s183_u183_h0_11
        obtain ⟨x_1, e_1⟩ : ∃ y : Int32, (v34_8 : Int32) + Int32.ofInt 1 = y := ⟨_, rfl⟩
        refine lv_iinc (v := x_1) (lv' := [(8, .int x_1), (0, .ref h0), (2, .int p1), (3, .int p2), (4, .int p3), (5, .int v183_5), (7, .int v34_7)]) hx hb dX2_ridesTo_183 hl (k := 6) rfl e_1 (by decide) rfl (fun ls hl => ?_)
        have t_1 := z_inc2 e_1 rfl (by decide) (by omega) (by omega)
        refine lv_goto (tgt := 34) hx hb dX2_ridesTo_186 (by decide) ?_
        exact ih34 ls v183_5 v34_7 x_1 u34_h0_1 (by omega) (lv_sub hl [1, 2, 3, 4, 5, 6, 0] rfl) (by omega) (by omega) (by omega) (by omega) (by omega) (by omega) (by omega) (by omega) s183_u183_h0_1
      have b76 : ∀ (n76 : Nat) (ls : Array Slot) (v76_5 : Int32) (v76_9 : Int32) (v76_10 : Int32) (v76_11 : Int32) (u76_h0_10 : Nat) (u76_h0_11 : Nat), 6 - v76_11.toInt < (n76 : Int) → lv_has ls 13 [(0, .ref h0), (2, .int p1), (3, .int p2), (4, .int p3), (5, .int v76_5), (7, .int v34_7), (8, .int v34_8), (9, .int v76_9), (10, .int v76_10), (11, .int v76_11)] → eK E u76_h0_10 = 31 → eK E u76_h0_11 = 32 → 0 ≤ v76_5.toInt → v76_5.toInt ≤ 1073741823 → 1 ≤ v34_7.toInt → v34_8.toInt ≤ 287 → 0 ≤ v76_11.toInt → v76_11.toInt ≤ 6 → sl H0 h0 (zix E 3 1) = some (.int u34_h0_1) → sl H0 h0 (zix E 3 10) = some (.ref u76_h0_10) → sl H0 h0 (zix E 3 11) = some (.ref u76_h0_11) → W p l e rm_X2_ridesTo s m args below meth c H0 [] 0 0 Q (F0 m 76 ls []) := by
        intro n76
        induction n76 with
        | zero =>
          intro ls v76_5 v76_9 v76_10 v76_11 u76_h0_10 u76_h0_11 hm76 hl k_u76_h0_10 k_u76_h0_11 f76_1 f76_2 f76_3 f76_4 f76_5 f76_6 s76_u76_h0_1 s76_u76_h0_10 s76_u76_h0_11
          exact absurd hm76 (by omega)
        | succ n76 ih76 =>
          intro ls v76_5 v76_9 v76_10 v76_11 u76_h0_10 u76_h0_11 hm76 hl k_u76_h0_10 k_u76_h0_11 f76_1 f76_2 f76_3 f76_4 f76_5 f76_6 s76_u76_h0_1 s76_u76_h0_10 s76_u76_h0_11
          refine lv_iload hx hb dX2_ridesTo_76 (lv_at hl 9 rfl) ?_
          refine lv_bipush (v := 6) hx hb dX2_ridesTo_78 (by decide) ?_
          refine lv_icmp_ge (tgt := 183) hx hb dX2_ridesTo_80 (by decide) (fun c_2 => ?_) (fun c_2 => ?_)
          · have f_2 := z_le c_2 kl_6 rfl
            exact b183 ls v76_5 u76_h0_10 u76_h0_11 (lv_sub hl [0, 1, 2, 3, 4, 5, 6] rfl) k_u76_h0_10 k_u76_h0_11 (by omega) (by omega) (by omega) (by omega) s76_u76_h0_1 s76_u76_h0_10 s76_u76_h0_11
          · have f_2 := z_nle c_2 kl_6 rfl
            refine lv_iload hx hb dX2_ridesTo_83 (lv_at hl 7 rfl) ?_
            refine lv_if_lt (tgt := 183) hx hb dX2_ridesTo_85 (by decide) (fun c_3 => ?_) (fun c_3 => ?_)
            · have f_3 := z_lt c_3 rfl kl_0
              exact b183 ls v76_5 u76_h0_10 u76_h0_11 (lv_sub hl [0, 1, 2, 3, 4, 5, 6] rfl) k_u76_h0_10 k_u76_h0_11 (by omega) (by omega) (by omega) (by omega) s76_u76_h0_1 s76_u76_h0_10 s76_u76_h0_11
            · have f_3 := z_nlt c_3 rfl kl_0
              refine lv_iload hx hb dX2_ridesTo_88 (lv_at hl 7 rfl) ?_
              refine lv_aload_n hx hb dX2_ridesTo_90 rfl (lv_at hl 0 rfl) ?_
              refine g_get B fl_RX2_15 hT0 kh0 rfl rfl rfl dX2_ridesTo_91 s76_u76_h0_1 ?_
              refine lv_icmp_ge (tgt := 183) hx hb dX2_ridesTo_94 (by decide) (fun c_4 => ?_) (fun c_4 => ?_)
              · have f_4 := z_le c_4 rfl rfl
                exact b183 ls v76_5 u76_h0_10 u76_h0_11 (lv_sub hl [0, 1, 2, 3, 4, 5, 6] rfl) k_u76_h0_10 k_u76_h0_11 (by omega) (by omega) (by omega) (by omega) s76_u76_h0_1 s76_u76_h0_10 s76_u76_h0_11
              · have f_4 := z_nle c_4 rfl rfl
                refine lv_iload hx hb dX2_ridesTo_97 (lv_at hl 8 rfl) ?_
                refine lv_if_lt (tgt := 183) hx hb dX2_ridesTo_99 (by decide) (fun c_5 => ?_) (fun c_5 => ?_)
                · have f_5 := z_lt c_5 rfl kl_0
                  exact b183 ls v76_5 u76_h0_10 u76_h0_11 (lv_sub hl [0, 1, 2, 3, 4, 5, 6] rfl) k_u76_h0_10 k_u76_h0_11 (by omega) (by omega) (by omega) (by omega) s76_u76_h0_1 s76_u76_h0_10 s76_u76_h0_11
                · have f_5 := z_nlt c_5 rfl kl_0
                  refine lv_iload hx hb dX2_ridesTo_102 (lv_at hl 8 rfl) ?_
                  refine lv_aload_n hx hb dX2_ridesTo_104 rfl (lv_at hl 0 rfl) ?_
                  refine g_getI B fl_RX2_18 hT0 kh0 rfl rfl rfl rfl rfl dX2_ridesTo_105 (fun x_6 s_6 a_6 b_6 => ?_)
                  refine lv_icmp_ge (tgt := 183) hx hb dX2_ridesTo_108 (by decide) (fun c_7 => ?_) (fun c_7 => ?_)
                  · have f_7 := z_le c_7 rfl rfl
                    exact b183 ls v76_5 u76_h0_10 u76_h0_11 (lv_sub hl [0, 1, 2, 3, 4, 5, 6] rfl) k_u76_h0_10 k_u76_h0_11 (by omega) (by omega) (by omega) (by omega) s76_u76_h0_1 s76_u76_h0_10 s76_u76_h0_11
                  · have f_7 := z_nle c_7 rfl rfl
                    refine lv_iconst (v := 1) hx hb dX2_ridesTo_111 (by decide) ?_
                    refine lv_iload hx hb dX2_ridesTo_112 (lv_at hl 7 rfl) ?_
                    refine lv_aload_n hx hb dX2_ridesTo_114 rfl (lv_at hl 0 rfl) ?_
                    refine g_get B fl_RX2_15 hT0 kh0 rfl rfl rfl dX2_ridesTo_115 s76_u76_h0_1 ?_
                    refine lv_iload hx hb dX2_ridesTo_118 (lv_at hl 8 rfl) ?_
                    refine lv_imul hx hb dX2_ridesTo_120 ?_
                    refine lv_topi (fun x_8 e_8 => ?_)
                    have m_8 := z_mulB (a := u34_h0_1.toInt) (b := v76_10.toInt) (A := 5) (B := 5) (by omega) (by omega) (by omega) (by omega)
                    have t_8 := z_mul e_8 rfl rfl (by omega) (by omega)
                    refine lv_iadd hx hb dX2_ridesTo_121 ?_
                    refine lv_topi (fun x_9 e_9 => ?_)
                    have t_9 := z_add e_9 rfl rfl (by omega) (by omega)
                    refine lv_ishl hx hb dX2_ridesTo_122 ?_
                    refine lv_topi (fun x_10 e_10 => ?_)
                    have t_10 := z_shlV (A := 1) 29 e_10 kl_1 rfl (by omega) (by omega) rfl (by omega) (by omega) (by decide)
                    refine lv_istore (lv' := [(12, .int x_10), (0, .ref h0), (2, .int p1), (3, .int p2), (4, .int p3), (5, .int v76_5), (7, .int v34_7), (8, .int v34_8), (9, .int v76_9), (10, .int v76_10), (11, .int v76_11)]) hx hb dX2_ridesTo_123 hl (by decide) rfl (fun ls hl => ?_)
                    refine lv_iload_n hx hb dX2_ridesTo_125 rfl (lv_at hl 3 rfl) ?_
                    refine lv_iload hx hb dX2_ridesTo_126 (lv_at hl 0 rfl) ?_
                    refine lv_iand hx hb dX2_ridesTo_128 ?_
                    refine lv_topi (fun x_11 e_11 => ?_)
                    have t_11 := z_andR e_11 rfl (by omega)
                    refine lv_if_eq (tgt := 135) hx hb dX2_ridesTo_129 (by decide) (fun c_12 => ?_) (fun c_12 => ?_)
                    · have f_12 := z_eq c_12 rfl kl_0
                      refine lv_iload hx hb dX2_ridesTo_135 (lv_at hl 5 rfl) ?_
                      refine lv_iload hx hb dX2_ridesTo_137 (lv_at hl 0 rfl) ?_
                      refine lv_ior hx hb dX2_ridesTo_139 ?_
                      refine lv_topi (fun x_13 e_13 => ?_)
                      have t_13 := z_or 30 e_13 rfl rfl rfl (by omega) (by omega) (by omega) (by omega)
                      refine lv_istore (lv' := [(5, .int x_13), (12, .int x_10), (0, .ref h0), (2, .int p1), (3, .int p2), (4, .int p3), (7, .int v34_7), (8, .int v34_8), (9, .int v76_9), (10, .int v76_10), (11, .int v76_11)]) hx hb dX2_ridesTo_140 hl (by decide) rfl (fun ls hl => ?_)
                      refine lv_iload hx hb dX2_ridesTo_142 (lv_at hl 5 rfl) ?_
                      refine lv_iload hx hb dX2_ridesTo_144 (lv_at hl 1 rfl) ?_
                      refine lv_iand hx hb dX2_ridesTo_146 ?_
                      refine lv_topi (fun x_14 e_14 => ?_)
                      have t_14 := z_andR e_14 rfl (by omega)
                      refine lv_if_eq (tgt := 153) hx hb dX2_ridesTo_147 (by decide) (fun c_15 => ?_) (fun c_15 => ?_)
                      · have f_15 := z_eq c_15 rfl kl_0
                        refine lv_iload hx hb dX2_ridesTo_153 (lv_at hl 8 rfl) ?_
                        refine lv_aload_n hx hb dX2_ridesTo_155 rfl (lv_at hl 2 rfl) ?_
                        refine g_get B fl_RX2_45 hT0 kh0 rfl rfl rfl dX2_ridesTo_156 s76_u76_h0_10 ?_
                        refine lv_iload hx hb dX2_ridesTo_159 (lv_at hl 7 rfl) ?_
                        refine g_ialdI (i := v34_8) (N := 288) B hT0 k_u76_h0_10 rfl rfl rfl rfl (by omega) (by omega) rfl dX2_ridesTo_161 (fun x_16 s_16 a_16 b_16 => ?_)
                        refine lv_iadd hx hb dX2_ridesTo_162 ?_
                        refine lv_topi (fun x_17 e_17 => ?_)
                        refine lv_istore (lv' := [(9, .int x_17), (5, .int x_13), (12, .int x_10), (0, .ref h0), (2, .int p1), (3, .int p2), (4, .int p3), (7, .int v34_7), (8, .int v34_8), (10, .int v76_10), (11, .int v76_11)]) hx hb dX2_ridesTo_163 hl (by decide) rfl (fun ls hl => ?_)
                        refine lv_iload hx hb dX2_ridesTo_165 (lv_at hl 9 rfl) ?_
                        refine lv_aload_n hx hb dX2_ridesTo_167 rfl (lv_at hl 3 rfl) ?_
                        refine g_get B fl_RX2_48 hT0 kh0 rfl rfl rfl dX2_ridesTo_168 s76_u76_h0_11 ?_
                        refine lv_iload hx hb dX2_ridesTo_171 (lv_at hl 8 rfl) ?_
                        refine g_ialdI (i := v34_8) (N := 288) B hT0 k_u76_h0_11 rfl rfl rfl rfl (by omega) (by omega) rfl dX2_ridesTo_173 (fun x_18 s_18 a_18 b_18 => ?_)
                        refine lv_iadd hx hb dX2_ridesTo_174 ?_
                        refine lv_topi (fun x_19 e_19 => ?_)
                        refine lv_istore (lv' := [(10, .int x_19), (9, .int x_17), (5, .int x_13), (12, .int x_10), (0, .ref h0), (2, .int p1), (3, .int p2), (4, .int p3), (7, .int v34_7), (8, .int v34_8), (11, .int v76_11)]) hx hb dX2_ridesTo_175 hl (by decide) rfl (fun ls hl => ?_)
                        obtain ⟨x_20, e_20⟩ : ∃ y : Int32, (v76_11 : Int32) + Int32.ofInt 1 = y := ⟨_, rfl⟩
                        refine lv_iinc (v := x_20) (lv' := [(11, .int x_20), (10, .int x_19), (9, .int x_17), (5, .int x_13), (12, .int x_10), (0, .ref h0), (2, .int p1), (3, .int p2), (4, .int p3), (7, .int v34_7), (8, .int v34_8)]) hx hb dX2_ridesTo_177 hl (k := 10) rfl e_20 (by decide) rfl (fun ls hl => ?_)
                        have t_20 := z_inc2 e_20 rfl (by decide) (by omega) (by omega)
                        refine lv_goto (tgt := 76) hx hb dX2_ridesTo_180 (by decide) ?_
                        exact ih76 ls x_13 x_17 x_19 x_20 u76_h0_10 u76_h0_11 (by omega) (lv_sub hl [5, 6, 7, 8, 3, 9, 10, 2, 1, 0] rfl) k_u76_h0_10 k_u76_h0_11 (by omega) (by omega) (by omega) (by omega) (by omega) (by omega) s76_u76_h0_1 s76_u76_h0_10 s76_u76_h0_11
                      · have f_15 := z_ne c_15 rfl kl_0
                        refine lv_goto (tgt := 183) hx hb dX2_ridesTo_150 (by decide) ?_
                        exact b183 ls x_13 u76_h0_10 u76_h0_11 (lv_sub hl [2, 3, 4, 5, 0, 6, 7] rfl) k_u76_h0_10 k_u76_h0_11 (by omega) (by omega) (by omega) (by omega) s76_u76_h0_1 s76_u76_h0_10 s76_u76_h0_11
                    · have f_12 := z_ne c_12 rfl kl_0
                      refine lv_goto (tgt := 183) hx hb dX2_ridesTo_132 (by decide) ?_
                      exact b183 ls v76_5 u76_h0_10 u76_h0_11 (lv_sub hl [1, 2, 3, 4, 5, 6, 7] rfl) k_u76_h0_10 k_u76_h0_11 (by omega) (by omega) (by omega) (by omega) s76_u76_h0_1 s76_u76_h0_10 s76_u76_h0_11
      refine lv_iload hx hb dX2_ridesTo_34 (lv_at hl 6 rfl) ?_
      refine lv_iload hx hb dX2_ridesTo_36 (lv_at hl 5 rfl) ?_
      refine lv_icmp_ge (tgt := 189) hx hb dX2_ridesTo_38 (by decide) (fun c_21 => ?_) (fun c_21 => ?_)
      · have f_21 := z_le c_21 rfl rfl
        refine lv_iload hx hb dX2_ridesTo_189 (lv_at hl 4 rfl) ?_
        exact rtPI (v := v34_5) B hr hlk hh hQ rfl ⟨by omega, by omega⟩ dX2_ridesTo_191
      · have f_21 := z_nle c_21 rfl rfl
        refine lv_iload_n hx hb dX2_ridesTo_41 rfl (lv_at hl 1 rfl) ?_
        refine lv_aload_n hx hb dX2_ridesTo_42 rfl (lv_at hl 0 rfl) ?_
        refine g_get B fl_RX2_15 hT0 kh0 rfl rfl rfl dX2_ridesTo_43 s34_u34_h0_1 ?_
        refine lv_irem hx hb dX2_ridesTo_46 (z_ne0 (by omega)) ?_
        refine lv_topi (fun x_22 e_22 => ?_)
        have t_22 := z_rem e_22 rfl rfl (by omega) (by omega)
        refine lv_aload_n hx hb dX2_ridesTo_47 rfl (lv_at hl 0 rfl) ?_
        refine g_getR B fl_RX2_45 hT0 kh0 rfl rfl rfl rfl rfl dX2_ridesTo_48 (fun q_23 s_23 k_q_23 => ?_)
        refine lv_iload hx hb dX2_ridesTo_51 (lv_at hl 6 rfl) ?_
        refine g_ialdI (i := v34_8) (N := 288) B hT0 k_q_23 rfl rfl rfl rfl (by omega) (by omega) rfl dX2_ridesTo_53 (fun x_24 s_24 a_24 b_24 => ?_)
        refine lv_iadd hx hb dX2_ridesTo_54 ?_
        refine lv_topi (fun x_25 e_25 => ?_)
        refine lv_istore (lv' := [(9, .int x_25), (0, .ref h0), (2, .int p1), (3, .int p2), (4, .int p3), (5, .int v34_5), (7, .int v34_7), (8, .int v34_8)]) hx hb dX2_ridesTo_55 hl (by decide) rfl (fun ls hl => ?_)
        refine lv_iload_n hx hb dX2_ridesTo_57 rfl (lv_at hl 2 rfl) ?_
        refine lv_aload_n hx hb dX2_ridesTo_58 rfl (lv_at hl 1 rfl) ?_
        refine g_get B fl_RX2_15 hT0 kh0 rfl rfl rfl dX2_ridesTo_59 s34_u34_h0_1 ?_
        refine lv_idiv hx hb dX2_ridesTo_62 (z_ne0 (by omega)) ?_
        refine lv_topi (fun x_26 e_26 => ?_)
        have t_26 := z_div e_26 rfl rfl (by omega) (by omega)
        refine lv_aload_n hx hb dX2_ridesTo_63 rfl (lv_at hl 1 rfl) ?_
        refine g_getR B fl_RX2_48 hT0 kh0 rfl rfl rfl rfl rfl dX2_ridesTo_64 (fun q_27 s_27 k_q_27 => ?_)
        refine lv_iload hx hb dX2_ridesTo_67 (lv_at hl 7 rfl) ?_
        refine g_ialdI (i := v34_8) (N := 288) B hT0 k_q_27 rfl rfl rfl rfl (by omega) (by omega) rfl dX2_ridesTo_69 (fun x_28 s_28 a_28 b_28 => ?_)
        refine lv_iadd hx hb dX2_ridesTo_70 ?_
        refine lv_topi (fun x_29 e_29 => ?_)
        refine lv_istore (lv' := [(10, .int x_29), (9, .int x_25), (0, .ref h0), (2, .int p1), (3, .int p2), (4, .int p3), (5, .int v34_5), (7, .int v34_7), (8, .int v34_8)]) hx hb dX2_ridesTo_71 hl (by decide) rfl (fun ls hl => ?_)
        refine lv_iconst (v := 0) hx hb dX2_ridesTo_73 (by decide) ?_
        refine lv_istore (lv' := [(11, .int 0), (10, .int x_29), (9, .int x_25), (0, .ref h0), (2, .int p1), (3, .int p2), (4, .int p3), (5, .int v34_5), (7, .int v34_7), (8, .int v34_8)]) hx hb dX2_ridesTo_74 hl (by decide) rfl (fun ls hl => ?_)
        have := kl_0
        exact b76 7 ls v34_5 x_25 x_29 0 q_23 q_27 (by omega) (lv_sub hl [3, 4, 5, 6, 7, 8, 9, 2, 1, 0] rfl) k_q_23 k_q_27 (by omega) (by omega) (by omega) (by omega) (by omega) (by omega) s34_u34_h0_1 s_23 s_27
  refine lv_aload_n hx hb dX2_ridesTo_0 rfl (lv_at hl 0 rfl) ?_
  refine g_getI B fl_RX2_15 hT0 kh0 rfl rfl rfl rfl rfl dX2_ridesTo_1 (fun x_30 s_30 a_30 b_30 => ?_)
  refine lv_iconst (v := 1) hx hb dX2_ridesTo_4 (by decide) ?_
  refine lv_icmp_ge (tgt := 10) hx hb dX2_ridesTo_5 (by decide) (fun c_31 => ?_) (fun c_31 => ?_)
  · have f_31 := z_le c_31 kl_1 rfl
    refine lv_iconst (v := 0) hx hb dX2_ridesTo_10 (by decide) ?_
    refine lv_istore (lv' := [(5, .int 0), (0, .ref h0), (1, .int p0), (2, .int p1), (3, .int p2), (4, .int p3)]) hx hb dX2_ridesTo_11 hl (by decide) rfl (fun ls hl => ?_)
    refine lv_iload_n hx hb dX2_ridesTo_13 rfl (lv_at hl 2 rfl) ?_
    refine lv_bipush (v := 48) hx hb dX2_ridesTo_14 (by decide) ?_
    refine lv_imul hx hb dX2_ridesTo_16 ?_
    refine lv_topi (fun x_32 e_32 => ?_)
    have t_32 := z_mul e_32 rfl kl_48 (by omega) (by omega)
    refine lv_istore (lv' := [(6, .int x_32), (5, .int 0), (0, .ref h0), (1, .int p0), (2, .int p1), (3, .int p2), (4, .int p3)]) hx hb dX2_ridesTo_17 hl (by decide) rfl (fun ls hl => ?_)
    refine lv_iload hx hb dX2_ridesTo_19 (lv_at hl 0 rfl) ?_
    refine lv_aload_n hx hb dX2_ridesTo_21 rfl (lv_at hl 2 rfl) ?_
    refine g_getR B fl_RX2_42 hT0 kh0 rfl rfl rfl rfl rfl dX2_ridesTo_22 (fun q_33 s_33 k_q_33 => ?_)
    refine lv_iload_n hx hb dX2_ridesTo_25 rfl (lv_at hl 3 rfl) ?_
    refine g_ialdI (i := p0) (N := 6) B hT0 k_q_33 rfl rfl rfl rfl (by omega) (by omega) rfl dX2_ridesTo_26 (fun x_34 s_34 a_34 b_34 => ?_)
    refine lv_iadd hx hb dX2_ridesTo_27 ?_
    refine lv_topi (fun x_35 e_35 => ?_)
    have t_35 := z_add e_35 rfl rfl (by omega) (by omega)
    refine lv_istore (lv' := [(7, .int x_35), (6, .int x_32), (5, .int 0), (0, .ref h0), (1, .int p0), (2, .int p1), (3, .int p2), (4, .int p3)]) hx hb dX2_ridesTo_28 hl (by decide) rfl (fun ls hl => ?_)
    refine lv_iload hx hb dX2_ridesTo_30 (lv_at hl 1 rfl) ?_
    refine lv_istore (lv' := [(8, .int x_32), (7, .int x_35), (6, .int x_32), (5, .int 0), (0, .ref h0), (1, .int p0), (2, .int p1), (3, .int p2), (4, .int p3)]) hx hb dX2_ridesTo_32 hl (by decide) rfl (fun ls hl => ?_)
    have := kl_0
    exact b34 289 ls 0 x_35 x_32 x_30 (by omega) (lv_sub hl [4, 6, 7, 8, 3, 1, 0] rfl) (by omega) (by omega) (by omega) (by omega) (by omega) (by omega) (by omega) (by omega) s_30
  · have f_31 := z_nle c_31 kl_1 rfl
    refine lv_iconst (v := 0) hx hb dX2_ridesTo_8 (by decide) ?_
    have := kl_0
    have := kl_0
    exact rtPI (v := 0) B hr hlk hh hQ rfl ⟨by omega, by omega⟩ dX2_ridesTo_9

theorem dX2_reach_0 : decode cX2_reach 0 = .ok (.aload_n 1, 1) := by decide +kernel
theorem dX2_reach_1 : decode cX2_reach 1 = .ok (.aload_n 1, 1) := by decide +kernel
theorem dX2_reach_2 : decode cX2_reach 2 = .ok (.getfield 123, 3) := by decide +kernel
theorem dX2_reach_5 : decode cX2_reach 5 = .ok (.invokevirtual 126, 3) := by decide +kernel
theorem dX2_reach_8 : decode cX2_reach 8 = .ok (.istore_n 3, 1) := by decide +kernel
theorem dX2_reach_9 : decode cX2_reach 9 = .ok (.aload_n 1, 1) := by decide +kernel
theorem dX2_reach_10 : decode cX2_reach 10 = .ok (.iload_n 2, 1) := by decide +kernel
theorem dX2_reach_11 : decode cX2_reach 11 = .ok (.invokevirtual 130, 3) := by decide +kernel
theorem dX2_reach_14 : decode cX2_reach 14 = .ok (.istore 4, 2) := by decide +kernel
theorem dX2_reach_16 : decode cX2_reach 16 = .ok (.iload_n 2, 1) := by decide +kernel
theorem dX2_reach_17 : decode cX2_reach 17 = .ok (.ifCond .lt 26, 3) := by decide +kernel
theorem dX2_reach_20 : decode cX2_reach 20 = .ok (.iload_n 2, 1) := by decide +kernel
theorem dX2_reach_21 : decode cX2_reach 21 = .ok (.aload_n 0, 1) := by decide +kernel
theorem dX2_reach_22 : decode cX2_reach 22 = .ok (.getfield 9, 3) := by decide +kernel
theorem dX2_reach_25 : decode cX2_reach 25 = .ok (.if_icmp .ge 18, 3) := by decide +kernel
theorem dX2_reach_28 : decode cX2_reach 28 = .ok (.iload_n 3, 1) := by decide +kernel
theorem dX2_reach_29 : decode cX2_reach 29 = .ok (.iload_n 2, 1) := by decide +kernel
theorem dX2_reach_30 : decode cX2_reach 30 = .ok (.iushr, 1) := by decide +kernel
theorem dX2_reach_31 : decode cX2_reach 31 = .ok (.iconst 1, 1) := by decide +kernel
theorem dX2_reach_32 : decode cX2_reach 32 = .ok (.iand, 1) := by decide +kernel
theorem dX2_reach_33 : decode cX2_reach 33 = .ok (.ifCond .eq 10, 3) := by decide +kernel
theorem dX2_reach_36 : decode cX2_reach 36 = .ok (.iload 4, 2) := by decide +kernel
theorem dX2_reach_38 : decode cX2_reach 38 = .ok (.bipush 6, 2) := by decide +kernel
theorem dX2_reach_40 : decode cX2_reach 40 = .ok (.if_icmp .lt 5, 3) := by decide +kernel
theorem dX2_reach_43 : decode cX2_reach 43 = .ok (.iconst 0, 1) := by decide +kernel
theorem dX2_reach_44 : decode cX2_reach 44 = .ok (.ireturn, 1) := by decide +kernel
theorem dX2_reach_45 : decode cX2_reach 45 = .ok (.aload_n 1, 1) := by decide +kernel
theorem dX2_reach_46 : decode cX2_reach 46 = .ok (.iconst 1, 1) := by decide +kernel
theorem dX2_reach_47 : decode cX2_reach 47 = .ok (.aload_n 1, 1) := by decide +kernel
theorem dX2_reach_48 : decode cX2_reach 48 = .ok (.getfield 123, 3) := by decide +kernel
theorem dX2_reach_51 : decode cX2_reach 51 = .ok (.isub, 1) := by decide +kernel
theorem dX2_reach_52 : decode cX2_reach 52 = .ok (.invokevirtual 126, 3) := by decide +kernel
theorem dX2_reach_55 : decode cX2_reach 55 = .ok (.istore 5, 2) := by decide +kernel
theorem dX2_reach_57 : decode cX2_reach 57 = .ok (.aload_n 0, 1) := by decide +kernel
theorem dX2_reach_58 : decode cX2_reach 58 = .ok (.getfield 28, 3) := by decide +kernel
theorem dX2_reach_61 : decode cX2_reach 61 = .ok (.iload 4, 2) := by decide +kernel
theorem dX2_reach_63 : decode cX2_reach 63 = .ok (.bipush 30, 2) := by decide +kernel
theorem dX2_reach_65 : decode cX2_reach 65 = .ok (.imul, 1) := by decide +kernel
theorem dX2_reach_66 : decode cX2_reach 66 = .ok (.iload_n 2, 1) := by decide +kernel
theorem dX2_reach_67 : decode cX2_reach 67 = .ok (.iadd, 1) := by decide +kernel
theorem dX2_reach_68 : decode cX2_reach 68 = .ok (.iaload, 1) := by decide +kernel
theorem dX2_reach_69 : decode cX2_reach 69 = .ok (.iload_n 3, 1) := by decide +kernel
theorem dX2_reach_70 : decode cX2_reach 70 = .ok (.iconst (-1), 1) := by decide +kernel
theorem dX2_reach_71 : decode cX2_reach 71 = .ok (.ixor, 1) := by decide +kernel
theorem dX2_reach_72 : decode cX2_reach 72 = .ok (.iand, 1) := by decide +kernel
theorem dX2_reach_73 : decode cX2_reach 73 = .ok (.istore 6, 2) := by decide +kernel
theorem dX2_reach_75 : decode cX2_reach 75 = .ok (.aload_n 0, 1) := by decide +kernel
theorem dX2_reach_76 : decode cX2_reach 76 = .ok (.getfield 32, 3) := by decide +kernel
theorem dX2_reach_79 : decode cX2_reach 79 = .ok (.iload 4, 2) := by decide +kernel
theorem dX2_reach_81 : decode cX2_reach 81 = .ok (.baload, 1) := by decide +kernel
theorem dX2_reach_82 : decode cX2_reach 82 = .ok (.ifCond .eq 44, 3) := by decide +kernel
theorem dX2_reach_85 : decode cX2_reach 85 = .ok (.aload_n 1, 1) := by decide +kernel
theorem dX2_reach_86 : decode cX2_reach 86 = .ok (.getfield 123, 3) := by decide +kernel
theorem dX2_reach_89 : decode cX2_reach 89 = .ok (.bipush 30, 2) := by decide +kernel
theorem dX2_reach_91 : decode cX2_reach 91 = .ok (.imul, 1) := by decide +kernel
theorem dX2_reach_92 : decode cX2_reach 92 = .ok (.iload_n 2, 1) := by decide +kernel
theorem dX2_reach_93 : decode cX2_reach 93 = .ok (.iadd, 1) := by decide +kernel
theorem dX2_reach_94 : decode cX2_reach 94 = .ok (.istore 7, 2) := by decide +kernel
theorem dX2_reach_96 : decode cX2_reach 96 = .ok (.iload 6, 2) := by decide +kernel
theorem dX2_reach_98 : decode cX2_reach 98 = .ok (.aload_n 0, 1) := by decide +kernel
theorem dX2_reach_99 : decode cX2_reach 99 = .ok (.getfield 36, 3) := by decide +kernel
theorem dX2_reach_102 : decode cX2_reach 102 = .ok (.iload 7, 2) := by decide +kernel
theorem dX2_reach_104 : decode cX2_reach 104 = .ok (.iaload, 1) := by decide +kernel
theorem dX2_reach_105 : decode cX2_reach 105 = .ok (.iload_n 3, 1) := by decide +kernel
theorem dX2_reach_106 : decode cX2_reach 106 = .ok (.iload 5, 2) := by decide +kernel
theorem dX2_reach_108 : decode cX2_reach 108 = .ok (.ior, 1) := by decide +kernel
theorem dX2_reach_109 : decode cX2_reach 109 = .ok (.iconst (-1), 1) := by decide +kernel
theorem dX2_reach_110 : decode cX2_reach 110 = .ok (.ixor, 1) := by decide +kernel
theorem dX2_reach_111 : decode cX2_reach 111 = .ok (.iand, 1) := by decide +kernel
theorem dX2_reach_112 : decode cX2_reach 112 = .ok (.aload_n 0, 1) := by decide +kernel
theorem dX2_reach_113 : decode cX2_reach 113 = .ok (.getfield 39, 3) := by decide +kernel
theorem dX2_reach_116 : decode cX2_reach 116 = .ok (.iload 7, 2) := by decide +kernel
theorem dX2_reach_118 : decode cX2_reach 118 = .ok (.iaload, 1) := by decide +kernel
theorem dX2_reach_119 : decode cX2_reach 119 = .ok (.iload 5, 2) := by decide +kernel
theorem dX2_reach_121 : decode cX2_reach 121 = .ok (.iand, 1) := by decide +kernel
theorem dX2_reach_122 : decode cX2_reach 122 = .ok (.ior, 1) := by decide +kernel
theorem dX2_reach_123 : decode cX2_reach 123 = .ok (.ior, 1) := by decide +kernel
theorem dX2_reach_124 : decode cX2_reach 124 = .ok (.istore 6, 2) := by decide +kernel
theorem dX2_reach_126 : decode cX2_reach 126 = .ok (.iload 6, 2) := by decide +kernel
theorem dX2_reach_128 : decode cX2_reach 128 = .ok (.aload_n 0, 1) := by decide +kernel
theorem dX2_reach_129 : decode cX2_reach 129 = .ok (.iload 4, 2) := by decide +kernel
theorem dX2_reach_131 : decode cX2_reach 131 = .ok (.iload_n 2, 1) := by decide +kernel
theorem dX2_reach_132 : decode cX2_reach 132 = .ok (.iload_n 3, 1) := by decide +kernel
theorem dX2_reach_133 : decode cX2_reach 133 = .ok (.iload 5, 2) := by decide +kernel
theorem dX2_reach_135 : decode cX2_reach 135 = .ok (.invokevirtual 133, 3) := by decide +kernel
theorem dX2_reach_138 : decode cX2_reach 138 = .ok (.ior, 1) := by decide +kernel
theorem dX2_reach_139 : decode cX2_reach 139 = .ok (.ireturn, 1) := by decide +kernel
def rm_X2_reach : Room := { frames := 1, cells := 0, slots := 0, locals := 32 }
set_option maxRecDepth 100000 in
set_option maxHeartbeats 4000000 in
theorem c_X2_reach (l : Launch) (E : zE) (hV : zV E) (H0 : Heap) (hT0 : HT E H0) (h0 : Nat) (kh0 : eK E h0 = 3) (p0 : Nat) (kp0 : eK E p0 = 5) (p1 : Int32) : Met l yX2_reach (zws yX2_reach cX2_reach 8 (some .int)) rm_X2_reach (zP E H0 [.ref h0, .ref p0, .int p1]) (zPI (fun r => True)) 0 0 (fun _ => False) := by
  refine zEnt (by decide) (Nat.le_of_ble_eq_true rfl) (fun p e s m args below meth c ls Q B hr hlk hh hQ hl => ?_)
  have hx := B.1
  have hb := B.2.1
  have hl : lv_has ls 8 [(0, .ref h0), (1, .ref p0), (2, .int p1)] := hl
  have b126 : ∀ (ls : Array Slot) (v126_3 : Int32) (v126_4 : Int32) (v126_5 : Int32) (v126_6 : Int32), lv_has ls 8 [(0, .ref h0), (2, .int p1), (3, .int v126_3), (4, .int v126_4), (5, .int v126_5), (6, .int v126_6)] → 0 ≤ p1.toInt → p1.toInt ≤ 29 → 0 ≤ v126_4.toInt → v126_4.toInt ≤ 5 → W p l e rm_X2_reach s m args below meth c H0 [] 0 0 Q (F0 m 126 ls []) := by
    intro ls v126_3 v126_4 v126_5 v126_6 hl f126_1 f126_2 f126_3 f126_4
    refine lv_iload hx hb dX2_reach_126 (lv_at hl 5 rfl) ?_
    refine lv_aload_n hx hb dX2_reach_128 rfl (lv_at hl 0 rfl) ?_
    refine lv_iload hx hb dX2_reach_129 (lv_at hl 3 rfl) ?_
    refine lv_iload_n hx hb dX2_reach_131 rfl (lv_at hl 1 rfl) ?_
    refine lv_iload_n hx hb dX2_reach_132 rfl (lv_at hl 2 rfl) ?_
    refine lv_iload hx hb dX2_reach_133 (lv_at hl 4 rfl) ?_
    refine zkPI (zrV (rest := [.int v126_6]) B (c_X2_ridesTo l E hV H0 hT0 h0 kh0 v126_4 (by omega) (by omega) p1 (by omega) (by omega) v126_3 v126_5) cl_RX2_133 hT0 kh0 rfl rfl rfl rfl hl.1 rfl (Nat.le_of_ble_eq_true rfl) dX2_reach_135 rfl rfl ⟨rfl, rfl⟩ ⟨Nat.zero_le _, Nat.zero_le _⟩ (zO.rf hh)) (fun x_1 hp_1 => ?_)
    obtain ⟨hp_1_1, hp_1_2⟩ := hp_1
    refine lv_ior hx hb dX2_reach_138 ?_
    refine lv_topi (fun x_2 e_2 => ?_)
    exact rtPI (v := x_2) B hr hlk hh hQ rfl trivial dX2_reach_139
  refine lv_aload_n hx hb dX2_reach_0 rfl (lv_at hl 1 rfl) ?_
  refine lv_aload_n hx hb dX2_reach_1 rfl (lv_at hl 1 rfl) ?_
  refine g_getI B fl_RX2_123 hT0 kp0 rfl rfl rfl rfl rfl dX2_reach_2 (fun x_3 s_3 a_3 b_3 => ?_)
  refine zkPI (zrV (rest := []) B (c_X4_menOf l E hV H0 hT0 p0 kp0 x_3) cl_RX2_126 hT0 kp0 rfl rfl rfl rfl hl.1 rfl (Nat.le_of_ble_eq_true rfl) dX2_reach_5 rfl rfl ⟨rfl, rfl⟩ ⟨Nat.zero_le _, Nat.zero_le _⟩ (zO.rf hh)) (fun x_4 hp_4 => ?_)
  refine lv_istore_n (lv' := [(3, .int x_4), (0, .ref h0), (1, .ref p0), (2, .int p1)]) hx hb dX2_reach_8 rfl hl (by decide) rfl (fun ls hl => ?_)
  refine lv_aload_n hx hb dX2_reach_9 rfl (lv_at hl 2 rfl) ?_
  refine lv_iload_n hx hb dX2_reach_10 rfl (lv_at hl 3 rfl) ?_
  refine zkPI (zrV (rest := []) B (c_X4_pieceOn l E hV H0 hT0 p0 kp0 p1) cl_RX2_130 hT0 kp0 rfl rfl rfl rfl hl.1 rfl (Nat.le_of_ble_eq_true rfl) dX2_reach_11 rfl rfl ⟨rfl, rfl⟩ ⟨Nat.zero_le _, Nat.zero_le _⟩ (zO.rf hh)) (fun x_5 hp_5 => ?_)
  obtain ⟨hp_5_1, hp_5_2⟩ := hp_5
  refine lv_istore (lv' := [(4, .int x_5), (3, .int x_4), (0, .ref h0), (1, .ref p0), (2, .int p1)]) hx hb dX2_reach_14 hl (by decide) rfl (fun ls hl => ?_)
  refine lv_iload_n hx hb dX2_reach_16 rfl (lv_at hl 4 rfl) ?_
  refine lv_if_lt (tgt := 43) hx hb dX2_reach_17 (by decide) (fun c_6 => ?_) (fun c_6 => ?_)
  · have f_6 := z_lt c_6 rfl kl_0
    refine lv_iconst (v := 0) hx hb dX2_reach_43 (by decide) ?_
    have := kl_0
    have := kl_0
    exact rtPI (v := 0) B hr hlk hh hQ rfl trivial dX2_reach_44
  · have f_6 := z_nlt c_6 rfl kl_0
    refine lv_iload_n hx hb dX2_reach_20 rfl (lv_at hl 4 rfl) ?_
    refine lv_aload_n hx hb dX2_reach_21 rfl (lv_at hl 2 rfl) ?_
    refine g_getI B fl_RX2_9 hT0 kh0 rfl rfl rfl rfl rfl dX2_reach_22 (fun x_7 s_7 a_7 b_7 => ?_)
    refine lv_icmp_ge (tgt := 43) hx hb dX2_reach_25 (by decide) (fun c_8 => ?_) (fun c_8 => ?_)
    · have f_8 := z_le c_8 rfl rfl
      refine lv_iconst (v := 0) hx hb dX2_reach_43 (by decide) ?_
      have := kl_0
      have := kl_0
      exact rtPI (v := 0) B hr hlk hh hQ rfl trivial dX2_reach_44
    · have f_8 := z_nle c_8 rfl rfl
      refine lv_iload_n hx hb dX2_reach_28 rfl (lv_at hl 1 rfl) ?_
      refine lv_iload_n hx hb dX2_reach_29 rfl (lv_at hl 4 rfl) ?_
      refine lv_iushr hx hb dX2_reach_30 rfl ?_
      refine lv_topi (fun x_9 e_9 => ?_)
      refine lv_iconst (v := 1) hx hb dX2_reach_31 (by decide) ?_
      refine lv_iand hx hb dX2_reach_32 ?_
      refine lv_topi (fun x_10 e_10 => ?_)
      have t_10 := z_andR e_10 kl_1 (by omega)
      refine lv_if_eq (tgt := 43) hx hb dX2_reach_33 (by decide) (fun c_11 => ?_) (fun c_11 => ?_)
      · have f_11 := z_eq c_11 rfl kl_0
        refine lv_iconst (v := 0) hx hb dX2_reach_43 (by decide) ?_
        have := kl_0
        have := kl_0
        exact rtPI (v := 0) B hr hlk hh hQ rfl trivial dX2_reach_44
      · have f_11 := z_ne c_11 rfl kl_0
        refine lv_iload hx hb dX2_reach_36 (lv_at hl 0 rfl) ?_
        refine lv_bipush (v := 6) hx hb dX2_reach_38 (by decide) ?_
        refine lv_icmp_lt (tgt := 45) hx hb dX2_reach_40 (by decide) (fun c_12 => ?_) (fun c_12 => ?_)
        · have f_12 := z_lt c_12 rfl kl_6
          refine lv_aload_n hx hb dX2_reach_45 rfl (lv_at hl 3 rfl) ?_
          refine lv_iconst (v := 1) hx hb dX2_reach_46 (by decide) ?_
          refine lv_aload_n hx hb dX2_reach_47 rfl (lv_at hl 3 rfl) ?_
          refine g_get B fl_RX2_123 hT0 kp0 rfl rfl rfl dX2_reach_48 s_3 ?_
          refine lv_isub hx hb dX2_reach_51 ?_
          refine lv_topi (fun x_13 e_13 => ?_)
          have t_13 := z_sub e_13 kl_1 rfl (by omega) (by omega)
          refine zkPI (zrV (rest := []) B (c_X4_menOf l E hV H0 hT0 p0 kp0 x_13) cl_RX2_126 hT0 kp0 rfl rfl rfl rfl hl.1 rfl (Nat.le_of_ble_eq_true rfl) dX2_reach_52 rfl rfl ⟨rfl, rfl⟩ ⟨Nat.zero_le _, Nat.zero_le _⟩ (zO.rf hh)) (fun x_14 hp_14 => ?_)
          refine lv_istore (lv' := [(5, .int x_14), (4, .int x_5), (3, .int x_4), (0, .ref h0), (1, .ref p0), (2, .int p1)]) hx hb dX2_reach_55 hl (by decide) rfl (fun ls hl => ?_)
          refine lv_aload_n hx hb dX2_reach_57 rfl (lv_at hl 3 rfl) ?_
          refine g_getR B fl_RX2_28 hT0 kh0 rfl rfl rfl rfl rfl dX2_reach_58 (fun q_15 s_15 k_q_15 => ?_)
          refine lv_iload hx hb dX2_reach_61 (lv_at hl 1 rfl) ?_
          refine lv_bipush (v := 30) hx hb dX2_reach_63 (by decide) ?_
          refine lv_imul hx hb dX2_reach_65 ?_
          refine lv_topi (fun x_16 e_16 => ?_)
          have t_16 := z_mul e_16 rfl kl_30 (by omega) (by omega)
          refine lv_iload_n hx hb dX2_reach_66 rfl (lv_at hl 5 rfl) ?_
          refine lv_iadd hx hb dX2_reach_67 ?_
          refine lv_topi (fun x_17 e_17 => ?_)
          have t_17 := z_add e_17 rfl rfl (by omega) (by omega)
          refine g_ialdI (i := x_17) (N := 180) B hT0 k_q_15 rfl rfl rfl rfl (by omega) (by omega) rfl dX2_reach_68 (fun x_18 s_18 a_18 b_18 => ?_)
          refine lv_iload_n hx hb dX2_reach_69 rfl (lv_at hl 2 rfl) ?_
          refine lv_iconst (v := (-1)) hx hb dX2_reach_70 (by decide) ?_
          refine lv_ixor hx hb dX2_reach_71 ?_
          refine lv_topi (fun x_19 e_19 => ?_)
          refine lv_iand hx hb dX2_reach_72 ?_
          refine lv_topi (fun x_20 e_20 => ?_)
          refine lv_istore (lv' := [(6, .int x_20), (5, .int x_14), (4, .int x_5), (3, .int x_4), (0, .ref h0), (1, .ref p0), (2, .int p1)]) hx hb dX2_reach_73 hl (by decide) rfl (fun ls hl => ?_)
          refine lv_aload_n hx hb dX2_reach_75 rfl (lv_at hl 4 rfl) ?_
          refine g_getR B fl_RX2_32 hT0 kh0 rfl rfl rfl rfl rfl dX2_reach_76 (fun q_21 s_21 k_q_21 => ?_)
          refine lv_iload hx hb dX2_reach_79 (lv_at hl 2 rfl) ?_
          refine g_zaldI (i := x_5) (N := 6) B hT0 k_q_21 rfl rfl rfl rfl (by omega) (by omega) rfl dX2_reach_81 (fun x_22 s_22 a_22 b_22 => ?_)
          refine lv_if_eq (tgt := 126) hx hb dX2_reach_82 (by decide) (fun c_23 => ?_) (fun c_23 => ?_)
          · have f_23 := z_eq c_23 rfl kl_0
            exact b126 ls x_4 x_5 x_14 x_20 (lv_sub hl [4, 6, 3, 2, 1, 0] rfl) (by omega) (by omega) (by omega) (by omega)
          · have f_23 := z_ne c_23 rfl kl_0
            refine lv_aload_n hx hb dX2_reach_85 rfl (lv_at hl 5 rfl) ?_
            refine g_get B fl_RX2_123 hT0 kp0 rfl rfl rfl dX2_reach_86 s_3 ?_
            refine lv_bipush (v := 30) hx hb dX2_reach_89 (by decide) ?_
            refine lv_imul hx hb dX2_reach_91 ?_
            refine lv_topi (fun x_24 e_24 => ?_)
            have t_24 := z_mul e_24 rfl kl_30 (by omega) (by omega)
            refine lv_iload_n hx hb dX2_reach_92 rfl (lv_at hl 6 rfl) ?_
            refine lv_iadd hx hb dX2_reach_93 ?_
            refine lv_topi (fun x_25 e_25 => ?_)
            have t_25 := z_add e_25 rfl rfl (by omega) (by omega)
            refine lv_istore (lv' := [(7, .int x_25), (6, .int x_20), (5, .int x_14), (4, .int x_5), (3, .int x_4), (0, .ref h0), (1, .ref p0), (2, .int p1)]) hx hb dX2_reach_94 hl (by decide) rfl (fun ls hl => ?_)
            refine lv_iload hx hb dX2_reach_96 (lv_at hl 1 rfl) ?_
            refine lv_aload_n hx hb dX2_reach_98 rfl (lv_at hl 5 rfl) ?_
            refine g_getR B fl_RX2_36 hT0 kh0 rfl rfl rfl rfl rfl dX2_reach_99 (fun q_26 s_26 k_q_26 => ?_)
            refine lv_iload hx hb dX2_reach_102 (lv_at hl 0 rfl) ?_
            refine g_ialdI (i := x_25) (N := 60) B hT0 k_q_26 rfl rfl rfl rfl (by omega) (by omega) rfl dX2_reach_104 (fun x_27 s_27 a_27 b_27 => ?_)
            refine lv_iload_n hx hb dX2_reach_105 rfl (lv_at hl 4 rfl) ?_
            refine lv_iload hx hb dX2_reach_106 (lv_at hl 2 rfl) ?_
            refine lv_ior hx hb dX2_reach_108 ?_
            refine lv_topi (fun x_28 e_28 => ?_)
            refine lv_iconst (v := (-1)) hx hb dX2_reach_109 (by decide) ?_
            refine lv_ixor hx hb dX2_reach_110 ?_
            refine lv_topi (fun x_29 e_29 => ?_)
            refine lv_iand hx hb dX2_reach_111 ?_
            refine lv_topi (fun x_30 e_30 => ?_)
            refine lv_aload_n hx hb dX2_reach_112 rfl (lv_at hl 5 rfl) ?_
            refine g_getR B fl_RX2_39 hT0 kh0 rfl rfl rfl rfl rfl dX2_reach_113 (fun q_31 s_31 k_q_31 => ?_)
            refine lv_iload hx hb dX2_reach_116 (lv_at hl 0 rfl) ?_
            refine g_ialdI (i := x_25) (N := 60) B hT0 k_q_31 rfl rfl rfl rfl (by omega) (by omega) rfl dX2_reach_118 (fun x_32 s_32 a_32 b_32 => ?_)
            refine lv_iload hx hb dX2_reach_119 (lv_at hl 2 rfl) ?_
            refine lv_iand hx hb dX2_reach_121 ?_
            refine lv_topi (fun x_33 e_33 => ?_)
            refine lv_ior hx hb dX2_reach_122 ?_
            refine lv_topi (fun x_34 e_34 => ?_)
            refine lv_ior hx hb dX2_reach_123 ?_
            refine lv_topi (fun x_35 e_35 => ?_)
            refine lv_istore (lv' := [(6, .int x_35), (7, .int x_25), (5, .int x_14), (4, .int x_5), (3, .int x_4), (0, .ref h0), (1, .ref p0), (2, .int p1)]) hx hb dX2_reach_124 hl (by decide) rfl (fun ls hl => ?_)
            exact b126 ls x_4 x_5 x_14 x_35 (lv_sub hl [5, 7, 4, 3, 2, 0] rfl) (by omega) (by omega) (by omega) (by omega)
        · have f_12 := z_nlt c_12 rfl kl_6
          refine lv_iconst (v := 0) hx hb dX2_reach_43 (by decide) ?_
          have := kl_0
          have := kl_0
          exact rtPI (v := 0) B hr hlk hh hQ rfl trivial dX2_reach_44

theorem dX2_movesFrom_0 : decode cX2_movesFrom 0 = .ok (.aload_n 0, 1) := by decide +kernel
theorem dX2_movesFrom_1 : decode cX2_movesFrom 1 = .ok (.aload_n 1, 1) := by decide +kernel
theorem dX2_movesFrom_2 : decode cX2_movesFrom 2 = .ok (.invokevirtual 115, 3) := by decide +kernel
theorem dX2_movesFrom_5 : decode cX2_movesFrom 5 = .ok (.iconst (-1), 1) := by decide +kernel
theorem dX2_movesFrom_6 : decode cX2_movesFrom 6 = .ok (.if_icmp .ne 12, 3) := by decide +kernel
theorem dX2_movesFrom_9 : decode cX2_movesFrom 9 = .ok (.aload_n 0, 1) := by decide +kernel
theorem dX2_movesFrom_10 : decode cX2_movesFrom 10 = .ok (.aload_n 1, 1) := by decide +kernel
theorem dX2_movesFrom_11 : decode cX2_movesFrom 11 = .ok (.iload_n 2, 1) := by decide +kernel
theorem dX2_movesFrom_12 : decode cX2_movesFrom 12 = .ok (.invokevirtual 119, 3) := by decide +kernel
theorem dX2_movesFrom_15 : decode cX2_movesFrom 15 = .ok (.goto 4, 3) := by decide +kernel
theorem dX2_movesFrom_18 : decode cX2_movesFrom 18 = .ok (.iconst 0, 1) := by decide +kernel
theorem dX2_movesFrom_19 : decode cX2_movesFrom 19 = .ok (.ireturn, 1) := by decide +kernel
def rm_X2_movesFrom : Room := { frames := 2, cells := 0, slots := 0, locals := 59 }
set_option maxRecDepth 100000 in
set_option maxHeartbeats 4000000 in
theorem c_X2_movesFrom (l : Launch) (E : zE) (hV : zV E) (H0 : Heap) (hT0 : HT E H0) (h0 : Nat) (kh0 : eK E h0 = 3) (p0 : Nat) (kp0 : eK E p0 = 5) (p1 : Int32) : Met l yX2_movesFrom (zws yX2_movesFrom cX2_movesFrom 3 (some .int)) rm_X2_movesFrom (zP E H0 [.ref h0, .ref p0, .int p1]) (zPI (fun r => True)) 0 0 (fun _ => False) := by
  refine zEnt (by decide) (Nat.le_of_ble_eq_true rfl) (fun p e s m args below meth c ls Q B hr hlk hh hQ hl => ?_)
  have hx := B.1
  have hb := B.2.1
  have hl : lv_has ls 3 [(0, .ref h0), (1, .ref p0), (2, .int p1)] := hl
  refine lv_aload_n hx hb dX2_movesFrom_0 rfl (lv_at hl 0 rfl) ?_
  refine lv_aload_n hx hb dX2_movesFrom_1 rfl (lv_at hl 1 rfl) ?_
  refine zkPI (zrV (rest := []) B (c_X2_kingless l E hV H0 hT0 h0 kh0 p0 kp0) cl_RX2_115 hT0 kh0 rfl rfl rfl rfl hl.1 rfl (Nat.le_of_ble_eq_true rfl) dX2_movesFrom_2 rfl rfl ⟨rfl, rfl⟩ ⟨Nat.zero_le _, Nat.zero_le _⟩ (zO.rf hh)) (fun x_1 hp_1 => ?_)
  obtain ⟨hp_1_1, hp_1_2⟩ := hp_1
  refine lv_iconst (v := (-1)) hx hb dX2_movesFrom_5 (by decide) ?_
  refine lv_icmp_ne (tgt := 18) hx hb dX2_movesFrom_6 (by decide) (fun c_2 => ?_) (fun c_2 => ?_)
  · have f_2 := z_ne c_2 rfl kl_m1
    refine lv_iconst (v := 0) hx hb dX2_movesFrom_18 (by decide) ?_
    have := kl_0
    have := kl_0
    exact rtPI (v := 0) B hr hlk hh hQ rfl trivial dX2_movesFrom_19
  · have f_2 := z_eq c_2 rfl kl_m1
    refine lv_aload_n hx hb dX2_movesFrom_9 rfl (lv_at hl 0 rfl) ?_
    refine lv_aload_n hx hb dX2_movesFrom_10 rfl (lv_at hl 1 rfl) ?_
    refine lv_iload_n hx hb dX2_movesFrom_11 rfl (lv_at hl 2 rfl) ?_
    refine zkPI (zrV (rest := []) B (c_X2_reach l E hV H0 hT0 h0 kh0 p0 kp0 p1) cl_RX2_119 hT0 kh0 rfl rfl rfl rfl hl.1 rfl (Nat.le_of_ble_eq_true rfl) dX2_movesFrom_12 rfl rfl ⟨rfl, rfl⟩ ⟨Nat.zero_le _, Nat.zero_le _⟩ (zO.rf hh)) (fun x_3 hp_3 => ?_)
    refine lv_goto (tgt := 19) hx hb dX2_movesFrom_15 (by decide) ?_
    exact rtPI (v := x_3) B hr hlk hh hQ rfl trivial dX2_movesFrom_19

theorem dX2_canMove_0 : decode cX2_canMove 0 = .ok (.iconst 0, 1) := by decide +kernel
theorem dX2_canMove_1 : decode cX2_canMove 1 = .ok (.istore_n 2, 1) := by decide +kernel
theorem dX2_canMove_2 : decode cX2_canMove 2 = .ok (.iload_n 2, 1) := by decide +kernel
theorem dX2_canMove_3 : decode cX2_canMove 3 = .ok (.aload_n 0, 1) := by decide +kernel
theorem dX2_canMove_4 : decode cX2_canMove 4 = .ok (.getfield 9, 3) := by decide +kernel
theorem dX2_canMove_7 : decode cX2_canMove 7 = .ok (.if_icmp .ge 20, 3) := by decide +kernel
theorem dX2_canMove_10 : decode cX2_canMove 10 = .ok (.aload_n 0, 1) := by decide +kernel
theorem dX2_canMove_11 : decode cX2_canMove 11 = .ok (.aload_n 1, 1) := by decide +kernel
theorem dX2_canMove_12 : decode cX2_canMove 12 = .ok (.iload_n 2, 1) := by decide +kernel
theorem dX2_canMove_13 : decode cX2_canMove 13 = .ok (.invokevirtual 119, 3) := by decide +kernel
theorem dX2_canMove_16 : decode cX2_canMove 16 = .ok (.ifCond .eq 5, 3) := by decide +kernel
theorem dX2_canMove_19 : decode cX2_canMove 19 = .ok (.iconst 1, 1) := by decide +kernel
theorem dX2_canMove_20 : decode cX2_canMove 20 = .ok (.ireturn, 1) := by decide +kernel
theorem dX2_canMove_21 : decode cX2_canMove 21 = .ok (.iinc 2 1, 3) := by decide +kernel
theorem dX2_canMove_24 : decode cX2_canMove 24 = .ok (.goto (-22), 3) := by decide +kernel
theorem dX2_canMove_27 : decode cX2_canMove 27 = .ok (.iconst 0, 1) := by decide +kernel
theorem dX2_canMove_28 : decode cX2_canMove 28 = .ok (.ireturn, 1) := by decide +kernel
def rm_X2_canMove : Room := { frames := 2, cells := 0, slots := 0, locals := 59 }
set_option maxRecDepth 100000 in
set_option maxHeartbeats 4000000 in
theorem c_X2_canMove (l : Launch) (E : zE) (hV : zV E) (H0 : Heap) (hT0 : HT E H0) (h0 : Nat) (kh0 : eK E h0 = 3) (p0 : Nat) (kp0 : eK E p0 = 5) : Met l yX2_canMove (zws yX2_canMove cX2_canMove 3 (some .boolean)) rm_X2_canMove (zP E H0 [.ref h0, .ref p0]) (zPI (fun r => 0 ≤ r.toInt ∧ r.toInt ≤ 1)) 0 0 (fun _ => False) := by
  refine zEnt (by decide) (Nat.le_of_ble_eq_true rfl) (fun p e s m args below meth c ls Q B hr hlk hh hQ hl => ?_)
  have hx := B.1
  have hb := B.2.1
  have hl : lv_has ls 3 [(0, .ref h0), (1, .ref p0)] := hl
  have b2 : ∀ (n2 : Nat) (ls : Array Slot) (v2_2 : Int32), 30 - v2_2.toInt < (n2 : Int) → lv_has ls 3 [(0, .ref h0), (1, .ref p0), (2, .int v2_2)] → 0 ≤ v2_2.toInt → v2_2.toInt ≤ 30 → W p l e rm_X2_canMove s m args below meth c H0 [] 0 0 Q (F0 m 2 ls []) := by
    intro n2
    induction n2 with
    | zero =>
      intro ls v2_2 hm2 hl f2_1 f2_2
      exact absurd hm2 (by omega)
    | succ n2 ih2 =>
      intro ls v2_2 hm2 hl f2_1 f2_2
      refine lv_iload_n hx hb dX2_canMove_2 rfl (lv_at hl 2 rfl) ?_
      refine lv_aload_n hx hb dX2_canMove_3 rfl (lv_at hl 0 rfl) ?_
      refine g_getI B fl_RX2_9 hT0 kh0 rfl rfl rfl rfl rfl dX2_canMove_4 (fun x_1 s_1 a_1 b_1 => ?_)
      refine lv_icmp_ge (tgt := 27) hx hb dX2_canMove_7 (by decide) (fun c_2 => ?_) (fun c_2 => ?_)
      · have f_2 := z_le c_2 rfl rfl
        refine lv_iconst (v := 0) hx hb dX2_canMove_27 (by decide) ?_
        have := kl_0
        have := kl_0
        exact rtPI (v := 0) B hr hlk hh hQ rfl ⟨by omega, by omega⟩ dX2_canMove_28
      · have f_2 := z_nle c_2 rfl rfl
        refine lv_aload_n hx hb dX2_canMove_10 rfl (lv_at hl 0 rfl) ?_
        refine lv_aload_n hx hb dX2_canMove_11 rfl (lv_at hl 1 rfl) ?_
        refine lv_iload_n hx hb dX2_canMove_12 rfl (lv_at hl 2 rfl) ?_
        refine zkPI (zrV (rest := []) B (c_X2_reach l E hV H0 hT0 h0 kh0 p0 kp0 v2_2) cl_RX2_119 hT0 kh0 rfl rfl rfl rfl hl.1 rfl (Nat.le_of_ble_eq_true rfl) dX2_canMove_13 rfl rfl ⟨rfl, rfl⟩ ⟨Nat.zero_le _, Nat.zero_le _⟩ (zO.rf hh)) (fun x_3 hp_3 => ?_)
        refine lv_if_eq (tgt := 21) hx hb dX2_canMove_16 (by decide) (fun c_4 => ?_) (fun c_4 => ?_)
        · have f_4 := z_eq c_4 rfl kl_0
          obtain ⟨x_5, e_5⟩ : ∃ y : Int32, (v2_2 : Int32) + Int32.ofInt 1 = y := ⟨_, rfl⟩
          refine lv_iinc (v := x_5) (lv' := [(2, .int x_5), (0, .ref h0), (1, .ref p0)]) hx hb dX2_canMove_21 hl (k := 2) rfl e_5 (by decide) rfl (fun ls hl => ?_)
          have t_5 := z_inc2 e_5 rfl (by decide) (by omega) (by omega)
          refine lv_goto (tgt := 2) hx hb dX2_canMove_24 (by decide) ?_
          exact ih2 ls x_5 (by omega) (lv_sub hl [1, 2, 0] rfl) (by omega) (by omega)
        · have f_4 := z_ne c_4 rfl kl_0
          refine lv_iconst (v := 1) hx hb dX2_canMove_19 (by decide) ?_
          have := kl_1
          have := kl_1
          exact rtPI (v := 1) B hr hlk hh hQ rfl ⟨by omega, by omega⟩ dX2_canMove_20
  refine lv_iconst (v := 0) hx hb dX2_canMove_0 (by decide) ?_
  refine lv_istore_n (lv' := [(2, .int 0), (0, .ref h0), (1, .ref p0)]) hx hb dX2_canMove_1 rfl hl (by decide) rfl (fun ls hl => ?_)
  have := kl_0
  exact b2 31 ls 0 (by omega) (lv_sub hl [1, 2, 0] rfl) (by omega) (by omega)

theorem dX2_countMoves_0 : decode cX2_countMoves 0 = .ok (.iconst 0, 1) := by decide +kernel
theorem dX2_countMoves_1 : decode cX2_countMoves 1 = .ok (.istore_n 2, 1) := by decide +kernel
theorem dX2_countMoves_2 : decode cX2_countMoves 2 = .ok (.iconst 0, 1) := by decide +kernel
theorem dX2_countMoves_3 : decode cX2_countMoves 3 = .ok (.istore_n 3, 1) := by decide +kernel
theorem dX2_countMoves_4 : decode cX2_countMoves 4 = .ok (.iload_n 3, 1) := by decide +kernel
theorem dX2_countMoves_5 : decode cX2_countMoves 5 = .ok (.aload_n 0, 1) := by decide +kernel
theorem dX2_countMoves_6 : decode cX2_countMoves 6 = .ok (.getfield 9, 3) := by decide +kernel
theorem dX2_countMoves_9 : decode cX2_countMoves 9 = .ok (.if_icmp .ge 30, 3) := by decide +kernel
theorem dX2_countMoves_12 : decode cX2_countMoves 12 = .ok (.aload_n 0, 1) := by decide +kernel
theorem dX2_countMoves_13 : decode cX2_countMoves 13 = .ok (.aload_n 1, 1) := by decide +kernel
theorem dX2_countMoves_14 : decode cX2_countMoves 14 = .ok (.invokevirtual 115, 3) := by decide +kernel
theorem dX2_countMoves_17 : decode cX2_countMoves 17 = .ok (.iconst (-1), 1) := by decide +kernel
theorem dX2_countMoves_18 : decode cX2_countMoves 18 = .ok (.if_icmp .ne 21, 3) := by decide +kernel
theorem dX2_countMoves_21 : decode cX2_countMoves 21 = .ok (.iload_n 2, 1) := by decide +kernel
theorem dX2_countMoves_22 : decode cX2_countMoves 22 = .ok (.aload_n 0, 1) := by decide +kernel
theorem dX2_countMoves_23 : decode cX2_countMoves 23 = .ok (.aload_n 1, 1) := by decide +kernel
theorem dX2_countMoves_24 : decode cX2_countMoves 24 = .ok (.iload_n 3, 1) := by decide +kernel
theorem dX2_countMoves_25 : decode cX2_countMoves 25 = .ok (.invokevirtual 119, 3) := by decide +kernel
theorem dX2_countMoves_28 : decode cX2_countMoves 28 = .ok (.invokestatic 137, 3) := by decide +kernel
theorem dX2_countMoves_31 : decode cX2_countMoves 31 = .ok (.iadd, 1) := by decide +kernel
theorem dX2_countMoves_32 : decode cX2_countMoves 32 = .ok (.istore_n 2, 1) := by decide +kernel
theorem dX2_countMoves_33 : decode cX2_countMoves 33 = .ok (.iinc 3 1, 3) := by decide +kernel
theorem dX2_countMoves_36 : decode cX2_countMoves 36 = .ok (.goto (-32), 3) := by decide +kernel
theorem dX2_countMoves_39 : decode cX2_countMoves 39 = .ok (.iload_n 2, 1) := by decide +kernel
theorem dX2_countMoves_40 : decode cX2_countMoves 40 = .ok (.ireturn, 1) := by decide +kernel
def rm_X2_countMoves : Room := { frames := 2, cells := 0, slots := 0, locals := 59 }
set_option maxRecDepth 100000 in
set_option maxHeartbeats 4000000 in
theorem c_X2_countMoves (l : Launch) (E : zE) (hV : zV E) (H0 : Heap) (hT0 : HT E H0) (h0 : Nat) (kh0 : eK E h0 = 3) (p0 : Nat) (kp0 : eK E p0 = 5) : Met l yX2_countMoves (zws yX2_countMoves cX2_countMoves 4 (some .int)) rm_X2_countMoves (zP E H0 [.ref h0, .ref p0]) (zPI (fun r => True)) 0 0 (fun _ => False) := by
  refine zEnt (by decide) (Nat.le_of_ble_eq_true rfl) (fun p e s m args below meth c ls Q B hr hlk hh hQ hl => ?_)
  have hx := B.1
  have hb := B.2.1
  have hl : lv_has ls 4 [(0, .ref h0), (1, .ref p0)] := hl
  have b4 : ∀ (n4 : Nat) (ls : Array Slot) (v4_2 : Int32) (v4_3 : Int32), 30 - v4_3.toInt < (n4 : Int) → lv_has ls 4 [(0, .ref h0), (1, .ref p0), (2, .int v4_2), (3, .int v4_3)] → 0 ≤ v4_3.toInt → v4_3.toInt ≤ 30 → W p l e rm_X2_countMoves s m args below meth c H0 [] 0 0 Q (F0 m 4 ls []) := by
    intro n4
    induction n4 with
    | zero =>
      intro ls v4_2 v4_3 hm4 hl f4_1 f4_2
      exact absurd hm4 (by omega)
    | succ n4 ih4 =>
      intro ls v4_2 v4_3 hm4 hl f4_1 f4_2
      refine lv_iload_n hx hb dX2_countMoves_4 rfl (lv_at hl 3 rfl) ?_
      refine lv_aload_n hx hb dX2_countMoves_5 rfl (lv_at hl 0 rfl) ?_
      refine g_getI B fl_RX2_9 hT0 kh0 rfl rfl rfl rfl rfl dX2_countMoves_6 (fun x_1 s_1 a_1 b_1 => ?_)
      refine lv_icmp_ge (tgt := 39) hx hb dX2_countMoves_9 (by decide) (fun c_2 => ?_) (fun c_2 => ?_)
      · have f_2 := z_le c_2 rfl rfl
        refine lv_iload_n hx hb dX2_countMoves_39 rfl (lv_at hl 2 rfl) ?_
        exact rtPI (v := v4_2) B hr hlk hh hQ rfl trivial dX2_countMoves_40
      · have f_2 := z_nle c_2 rfl rfl
        refine lv_aload_n hx hb dX2_countMoves_12 rfl (lv_at hl 0 rfl) ?_
        refine lv_aload_n hx hb dX2_countMoves_13 rfl (lv_at hl 1 rfl) ?_
        refine zkPI (zrV (rest := []) B (c_X2_kingless l E hV H0 hT0 h0 kh0 p0 kp0) cl_RX2_115 hT0 kh0 rfl rfl rfl rfl hl.1 rfl (Nat.le_of_ble_eq_true rfl) dX2_countMoves_14 rfl rfl ⟨rfl, rfl⟩ ⟨Nat.zero_le _, Nat.zero_le _⟩ (zO.rf hh)) (fun x_3 hp_3 => ?_)
        obtain ⟨hp_3_1, hp_3_2⟩ := hp_3
        refine lv_iconst (v := (-1)) hx hb dX2_countMoves_17 (by decide) ?_
        refine lv_icmp_ne (tgt := 39) hx hb dX2_countMoves_18 (by decide) (fun c_4 => ?_) (fun c_4 => ?_)
        · have f_4 := z_ne c_4 rfl kl_m1
          refine lv_iload_n hx hb dX2_countMoves_39 rfl (lv_at hl 2 rfl) ?_
          exact rtPI (v := v4_2) B hr hlk hh hQ rfl trivial dX2_countMoves_40
        · have f_4 := z_eq c_4 rfl kl_m1
          refine lv_iload_n hx hb dX2_countMoves_21 rfl (lv_at hl 2 rfl) ?_
          refine lv_aload_n hx hb dX2_countMoves_22 rfl (lv_at hl 0 rfl) ?_
          refine lv_aload_n hx hb dX2_countMoves_23 rfl (lv_at hl 1 rfl) ?_
          refine lv_iload_n hx hb dX2_countMoves_24 rfl (lv_at hl 3 rfl) ?_
          refine zkPI (zrV (rest := [.int v4_2]) B (c_X2_reach l E hV H0 hT0 h0 kh0 p0 kp0 v4_3) cl_RX2_119 hT0 kh0 rfl rfl rfl rfl hl.1 rfl (Nat.le_of_ble_eq_true rfl) dX2_countMoves_25 rfl rfl ⟨rfl, rfl⟩ ⟨Nat.zero_le _, Nat.zero_le _⟩ (zO.rf hh)) (fun x_5 hp_5 => ?_)
          refine zkPI (zrS (rest := [.int v4_2]) B (c_J6_bitCount_0f7a4 l E hV H0 hT0 x_5) cs_RX2_137 rfl hl.1 rfl (Nat.le_of_ble_eq_true rfl) dX2_countMoves_28 rfl rfl ⟨rfl, rfl⟩ ⟨Nat.zero_le _, Nat.zero_le _⟩ (zO.rf hh)) (fun x_6 hp_6 => ?_)
          obtain ⟨hp_6_1, hp_6_2⟩ := hp_6
          refine lv_iadd hx hb dX2_countMoves_31 ?_
          refine lv_topi (fun x_7 e_7 => ?_)
          refine lv_istore_n (lv' := [(2, .int x_7), (0, .ref h0), (1, .ref p0), (3, .int v4_3)]) hx hb dX2_countMoves_32 rfl hl (by decide) rfl (fun ls hl => ?_)
          obtain ⟨x_8, e_8⟩ : ∃ y : Int32, (v4_3 : Int32) + Int32.ofInt 1 = y := ⟨_, rfl⟩
          refine lv_iinc (v := x_8) (lv' := [(3, .int x_8), (2, .int x_7), (0, .ref h0), (1, .ref p0)]) hx hb dX2_countMoves_33 hl (k := 3) rfl e_8 (by decide) rfl (fun ls hl => ?_)
          have t_8 := z_inc2 e_8 rfl (by decide) (by omega) (by omega)
          refine lv_goto (tgt := 4) hx hb dX2_countMoves_36 (by decide) ?_
          exact ih4 ls x_7 x_8 (by omega) (lv_sub hl [2, 3, 1, 0] rfl) (by omega) (by omega)
  refine lv_iconst (v := 0) hx hb dX2_countMoves_0 (by decide) ?_
  refine lv_istore_n (lv' := [(2, .int 0), (0, .ref h0), (1, .ref p0)]) hx hb dX2_countMoves_1 rfl hl (by decide) rfl (fun ls hl => ?_)
  refine lv_iconst (v := 0) hx hb dX2_countMoves_2 (by decide) ?_
  refine lv_istore_n (lv' := [(3, .int 0), (2, .int 0), (0, .ref h0), (1, .ref p0)]) hx hb dX2_countMoves_3 rfl hl (by decide) rfl (fun ls hl => ?_)
  have := kl_0
  have := kl_0
  exact b4 31 ls 0 0 (by omega) (lv_sub hl [2, 3, 1, 0] rfl) (by omega) (by omega)

theorem dX2_bitAt_0 : decode cX2_bitAt 0 = .ok (.iload_n 1, 1) := by decide +kernel
theorem dX2_bitAt_1 : decode cX2_bitAt 1 = .ok (.istore_n 2, 1) := by decide +kernel
theorem dX2_bitAt_2 : decode cX2_bitAt 2 = .ok (.iconst 0, 1) := by decide +kernel
theorem dX2_bitAt_3 : decode cX2_bitAt 3 = .ok (.istore_n 3, 1) := by decide +kernel
theorem dX2_bitAt_4 : decode cX2_bitAt 4 = .ok (.iload_n 3, 1) := by decide +kernel
theorem dX2_bitAt_5 : decode cX2_bitAt 5 = .ok (.bipush 30, 2) := by decide +kernel
theorem dX2_bitAt_7 : decode cX2_bitAt 7 = .ok (.if_icmp .ge 26, 3) := by decide +kernel
theorem dX2_bitAt_10 : decode cX2_bitAt 10 = .ok (.iload_n 0, 1) := by decide +kernel
theorem dX2_bitAt_11 : decode cX2_bitAt 11 = .ok (.iload_n 3, 1) := by decide +kernel
theorem dX2_bitAt_12 : decode cX2_bitAt 12 = .ok (.iushr, 1) := by decide +kernel
theorem dX2_bitAt_13 : decode cX2_bitAt 13 = .ok (.iconst 1, 1) := by decide +kernel
theorem dX2_bitAt_14 : decode cX2_bitAt 14 = .ok (.iand, 1) := by decide +kernel
theorem dX2_bitAt_15 : decode cX2_bitAt 15 = .ok (.ifCond .eq 12, 3) := by decide +kernel
theorem dX2_bitAt_18 : decode cX2_bitAt 18 = .ok (.iload_n 2, 1) := by decide +kernel
theorem dX2_bitAt_19 : decode cX2_bitAt 19 = .ok (.ifCond .ne 5, 3) := by decide +kernel
theorem dX2_bitAt_22 : decode cX2_bitAt 22 = .ok (.iload_n 3, 1) := by decide +kernel
theorem dX2_bitAt_23 : decode cX2_bitAt 23 = .ok (.ireturn, 1) := by decide +kernel
theorem dX2_bitAt_24 : decode cX2_bitAt 24 = .ok (.iinc 2 (-1), 3) := by decide +kernel
theorem dX2_bitAt_27 : decode cX2_bitAt 27 = .ok (.iinc 3 1, 3) := by decide +kernel
theorem dX2_bitAt_30 : decode cX2_bitAt 30 = .ok (.goto (-26), 3) := by decide +kernel
theorem dX2_bitAt_33 : decode cX2_bitAt 33 = .ok (.iconst 0, 1) := by decide +kernel
theorem dX2_bitAt_34 : decode cX2_bitAt 34 = .ok (.ireturn, 1) := by decide +kernel
def rm_X2_bitAt : Room := { frames := 0, cells := 0, slots := 0, locals := 0 }
set_option maxRecDepth 100000 in
set_option maxHeartbeats 4000000 in
theorem c_X2_bitAt (l : Launch) (E : zE) (hV : zV E) (H0 : Heap) (hT0 : HT E H0) (p0 : Int32) (p1 : Int32) : Met l yX2_bitAt (zws yX2_bitAt cX2_bitAt 4 (some .int)) rm_X2_bitAt (zP E H0 [.int p0, .int p1]) (zPI (fun r => 0 ≤ r.toInt ∧ r.toInt ≤ 29)) 0 0 (fun _ => False) := by
  refine zEnt (by decide) (Nat.le_of_ble_eq_true rfl) (fun p e s m args below meth c ls Q B hr hlk hh hQ hl => ?_)
  have hx := B.1
  have hb := B.2.1
  have hl : lv_has ls 4 [(0, .int p0), (1, .int p1)] := hl
  have b4 : ∀ (n4 : Nat) (ls : Array Slot) (v4_2 : Int32) (v4_3 : Int32), 30 - v4_3.toInt < (n4 : Int) → lv_has ls 4 [(0, .int p0), (2, .int v4_2), (3, .int v4_3)] → 0 ≤ v4_3.toInt → v4_3.toInt ≤ 30 → W p l e rm_X2_bitAt s m args below meth c H0 [] 0 0 Q (F0 m 4 ls []) := by
    intro n4
    induction n4 with
    | zero =>
      intro ls v4_2 v4_3 hm4 hl f4_1 f4_2
      exact absurd hm4 (by omega)
    | succ n4 ih4 =>
      intro ls v4_2 v4_3 hm4 hl f4_1 f4_2
      have b27 : ∀ (ls : Array Slot) (v27_2 : Int32), lv_has ls 4 [(0, .int p0), (2, .int v27_2), (3, .int v4_3)] → v4_3.toInt ≤ 29 → W p l e rm_X2_bitAt s m args below meth c H0 [] 0 0 Q (F0 m 27 ls []) := by
        intro ls v27_2 hl f27_1
        obtain ⟨x_1, e_1⟩ : ∃ y : Int32, (v4_3 : Int32) + Int32.ofInt 1 = y := ⟨_, rfl⟩
        refine lv_iinc (v := x_1) (lv' := [(3, .int x_1), (0, .int p0), (2, .int v27_2)]) hx hb dX2_bitAt_27 hl (k := 2) rfl e_1 (by decide) rfl (fun ls hl => ?_)
        have t_1 := z_inc2 e_1 rfl (by decide) (by omega) (by omega)
        refine lv_goto (tgt := 4) hx hb dX2_bitAt_30 (by decide) ?_
        exact ih4 ls v27_2 x_1 (by omega) (lv_sub hl [1, 2, 0] rfl) (by omega) (by omega)
      refine lv_iload_n hx hb dX2_bitAt_4 rfl (lv_at hl 2 rfl) ?_
      refine lv_bipush (v := 30) hx hb dX2_bitAt_5 (by decide) ?_
      refine lv_icmp_ge (tgt := 33) hx hb dX2_bitAt_7 (by decide) (fun c_2 => ?_) (fun c_2 => ?_)
      · have f_2 := z_le c_2 kl_30 rfl
        refine lv_iconst (v := 0) hx hb dX2_bitAt_33 (by decide) ?_
        have := kl_0
        have := kl_0
        exact rtPI (v := 0) B hr hlk hh hQ rfl ⟨by omega, by omega⟩ dX2_bitAt_34
      · have f_2 := z_nle c_2 kl_30 rfl
        refine lv_iload_n hx hb dX2_bitAt_10 rfl (lv_at hl 0 rfl) ?_
        refine lv_iload_n hx hb dX2_bitAt_11 rfl (lv_at hl 2 rfl) ?_
        refine lv_iushr hx hb dX2_bitAt_12 rfl ?_
        refine lv_topi (fun x_3 e_3 => ?_)
        refine lv_iconst (v := 1) hx hb dX2_bitAt_13 (by decide) ?_
        refine lv_iand hx hb dX2_bitAt_14 ?_
        refine lv_topi (fun x_4 e_4 => ?_)
        have t_4 := z_andR e_4 kl_1 (by omega)
        refine lv_if_eq (tgt := 27) hx hb dX2_bitAt_15 (by decide) (fun c_5 => ?_) (fun c_5 => ?_)
        · have f_5 := z_eq c_5 rfl kl_0
          exact b27 ls v4_2 (lv_sub hl [0, 1, 2] rfl) (by omega)
        · have f_5 := z_ne c_5 rfl kl_0
          refine lv_iload_n hx hb dX2_bitAt_18 rfl (lv_at hl 1 rfl) ?_
          refine lv_if_ne (tgt := 24) hx hb dX2_bitAt_19 (by decide) (fun c_6 => ?_) (fun c_6 => ?_)
          · have f_6 := z_ne c_6 rfl kl_0
            obtain ⟨x_7, e_7⟩ : ∃ y : Int32, (v4_2 : Int32) + Int32.ofInt (-1) = y := ⟨_, rfl⟩
            refine lv_iinc (v := x_7) (lv' := [(2, .int x_7), (0, .int p0), (3, .int v4_3)]) hx hb dX2_bitAt_24 hl (k := 1) rfl e_7 (by decide) rfl (fun ls hl => ?_)
            exact b27 ls x_7 (lv_sub hl [1, 0, 2] rfl) (by omega)
          · have f_6 := z_eq c_6 rfl kl_0
            refine lv_iload_n hx hb dX2_bitAt_22 rfl (lv_at hl 2 rfl) ?_
            exact rtPI (v := v4_3) B hr hlk hh hQ rfl ⟨by omega, by omega⟩ dX2_bitAt_23
  refine lv_iload_n hx hb dX2_bitAt_0 rfl (lv_at hl 1 rfl) ?_
  refine lv_istore_n (lv' := [(2, .int p1), (0, .int p0), (1, .int p1)]) hx hb dX2_bitAt_1 rfl hl (by decide) rfl (fun ls hl => ?_)
  refine lv_iconst (v := 0) hx hb dX2_bitAt_2 (by decide) ?_
  refine lv_istore_n (lv' := [(3, .int 0), (2, .int p1), (0, .int p0), (1, .int p1)]) hx hb dX2_bitAt_3 rfl hl (by decide) rfl (fun ls hl => ?_)
  have := kl_0
  exact b4 31 ls p1 0 (by omega) (lv_sub hl [2, 1, 0] rfl) (by omega) (by omega)

theorem dX2_findMove_0 : decode cX2_findMove 0 = .ok (.iload_n 2, 1) := by decide +kernel
theorem dX2_findMove_1 : decode cX2_findMove 1 = .ok (.ifCond .lt 12, 3) := by decide +kernel
theorem dX2_findMove_4 : decode cX2_findMove 4 = .ok (.aload_n 0, 1) := by decide +kernel
theorem dX2_findMove_5 : decode cX2_findMove 5 = .ok (.aload_n 1, 1) := by decide +kernel
theorem dX2_findMove_6 : decode cX2_findMove 6 = .ok (.invokevirtual 115, 3) := by decide +kernel
theorem dX2_findMove_9 : decode cX2_findMove 9 = .ok (.iconst (-1), 1) := by decide +kernel
theorem dX2_findMove_10 : decode cX2_findMove 10 = .ok (.if_icmp .eq 5, 3) := by decide +kernel
theorem dX2_findMove_13 : decode cX2_findMove 13 = .ok (.iconst (-1), 1) := by decide +kernel
theorem dX2_findMove_14 : decode cX2_findMove 14 = .ok (.ireturn, 1) := by decide +kernel
theorem dX2_findMove_15 : decode cX2_findMove 15 = .ok (.iload_n 2, 1) := by decide +kernel
theorem dX2_findMove_16 : decode cX2_findMove 16 = .ok (.istore_n 3, 1) := by decide +kernel
theorem dX2_findMove_17 : decode cX2_findMove 17 = .ok (.iconst 0, 1) := by decide +kernel
theorem dX2_findMove_18 : decode cX2_findMove 18 = .ok (.istore 4, 2) := by decide +kernel
theorem dX2_findMove_20 : decode cX2_findMove 20 = .ok (.iload 4, 2) := by decide +kernel
theorem dX2_findMove_22 : decode cX2_findMove 22 = .ok (.aload_n 0, 1) := by decide +kernel
theorem dX2_findMove_23 : decode cX2_findMove 23 = .ok (.getfield 9, 3) := by decide +kernel
theorem dX2_findMove_26 : decode cX2_findMove 26 = .ok (.if_icmp .ge 49, 3) := by decide +kernel
theorem dX2_findMove_29 : decode cX2_findMove 29 = .ok (.aload_n 0, 1) := by decide +kernel
theorem dX2_findMove_30 : decode cX2_findMove 30 = .ok (.aload_n 1, 1) := by decide +kernel
theorem dX2_findMove_31 : decode cX2_findMove 31 = .ok (.iload 4, 2) := by decide +kernel
theorem dX2_findMove_33 : decode cX2_findMove 33 = .ok (.invokevirtual 119, 3) := by decide +kernel
theorem dX2_findMove_36 : decode cX2_findMove 36 = .ok (.istore 5, 2) := by decide +kernel
theorem dX2_findMove_38 : decode cX2_findMove 38 = .ok (.iload 5, 2) := by decide +kernel
theorem dX2_findMove_40 : decode cX2_findMove 40 = .ok (.invokestatic 137, 3) := by decide +kernel
theorem dX2_findMove_43 : decode cX2_findMove 43 = .ok (.istore 6, 2) := by decide +kernel
theorem dX2_findMove_45 : decode cX2_findMove 45 = .ok (.iload_n 3, 1) := by decide +kernel
theorem dX2_findMove_46 : decode cX2_findMove 46 = .ok (.iload 6, 2) := by decide +kernel
theorem dX2_findMove_48 : decode cX2_findMove 48 = .ok (.if_icmp .ge 16, 3) := by decide +kernel
theorem dX2_findMove_51 : decode cX2_findMove 51 = .ok (.bipush 32, 2) := by decide +kernel
theorem dX2_findMove_53 : decode cX2_findMove 53 = .ok (.iload 4, 2) := by decide +kernel
theorem dX2_findMove_55 : decode cX2_findMove 55 = .ok (.imul, 1) := by decide +kernel
theorem dX2_findMove_56 : decode cX2_findMove 56 = .ok (.iload 5, 2) := by decide +kernel
theorem dX2_findMove_58 : decode cX2_findMove 58 = .ok (.iload_n 3, 1) := by decide +kernel
theorem dX2_findMove_59 : decode cX2_findMove 59 = .ok (.invokestatic 142, 3) := by decide +kernel
theorem dX2_findMove_62 : decode cX2_findMove 62 = .ok (.iadd, 1) := by decide +kernel
theorem dX2_findMove_63 : decode cX2_findMove 63 = .ok (.ireturn, 1) := by decide +kernel
theorem dX2_findMove_64 : decode cX2_findMove 64 = .ok (.iload_n 3, 1) := by decide +kernel
theorem dX2_findMove_65 : decode cX2_findMove 65 = .ok (.iload 6, 2) := by decide +kernel
theorem dX2_findMove_67 : decode cX2_findMove 67 = .ok (.isub, 1) := by decide +kernel
theorem dX2_findMove_68 : decode cX2_findMove 68 = .ok (.istore_n 3, 1) := by decide +kernel
theorem dX2_findMove_69 : decode cX2_findMove 69 = .ok (.iinc 4 1, 3) := by decide +kernel
theorem dX2_findMove_72 : decode cX2_findMove 72 = .ok (.goto (-52), 3) := by decide +kernel
theorem dX2_findMove_75 : decode cX2_findMove 75 = .ok (.iconst (-1), 1) := by decide +kernel
theorem dX2_findMove_76 : decode cX2_findMove 76 = .ok (.ireturn, 1) := by decide +kernel
def rm_X2_findMove : Room := { frames := 2, cells := 0, slots := 0, locals := 59 }
set_option maxRecDepth 100000 in
set_option maxHeartbeats 4000000 in
theorem c_X2_findMove (l : Launch) (E : zE) (hV : zV E) (H0 : Heap) (hT0 : HT E H0) (h0 : Nat) (kh0 : eK E h0 = 3) (p0 : Nat) (kp0 : eK E p0 = 5) (p1 : Int32) : Met l yX2_findMove (zws yX2_findMove cX2_findMove 7 (some .int)) rm_X2_findMove (zP E H0 [.ref h0, .ref p0, .int p1]) (zPI (fun r => (-1) ≤ r.toInt ∧ r.toInt ≤ 957)) 0 0 (fun _ => False) := by
  refine zEnt (by decide) (Nat.le_of_ble_eq_true rfl) (fun p e s m args below meth c ls Q B hr hlk hh hQ hl => ?_)
  have hx := B.1
  have hb := B.2.1
  have hl : lv_has ls 7 [(0, .ref h0), (1, .ref p0), (2, .int p1)] := hl
  have b20 : ∀ (n20 : Nat) (ls : Array Slot) (v20_3 : Int32) (v20_4 : Int32), 30 - v20_4.toInt < (n20 : Int) → lv_has ls 7 [(0, .ref h0), (1, .ref p0), (3, .int v20_3), (4, .int v20_4)] → (-63) ≤ v20_3.toInt → 0 ≤ v20_4.toInt → v20_4.toInt ≤ 30 → W p l e rm_X2_findMove s m args below meth c H0 [] 0 0 Q (F0 m 20 ls []) := by
    intro n20
    induction n20 with
    | zero =>
      intro ls v20_3 v20_4 hm20 hl f20_1 f20_2 f20_3
      exact absurd hm20 (by omega)
    | succ n20 ih20 =>
      intro ls v20_3 v20_4 hm20 hl f20_1 f20_2 f20_3
      refine lv_iload hx hb dX2_findMove_20 (lv_at hl 3 rfl) ?_
      refine lv_aload_n hx hb dX2_findMove_22 rfl (lv_at hl 0 rfl) ?_
      refine g_getI B fl_RX2_9 hT0 kh0 rfl rfl rfl rfl rfl dX2_findMove_23 (fun x_1 s_1 a_1 b_1 => ?_)
      refine lv_icmp_ge (tgt := 75) hx hb dX2_findMove_26 (by decide) (fun c_2 => ?_) (fun c_2 => ?_)
      · have f_2 := z_le c_2 rfl rfl
        refine lv_iconst (v := (-1)) hx hb dX2_findMove_75 (by decide) ?_
        have := kl_m1
        have := kl_m1
        exact rtPI (v := (-1)) B hr hlk hh hQ rfl ⟨by omega, by omega⟩ dX2_findMove_76
      · have f_2 := z_nle c_2 rfl rfl
        refine lv_aload_n hx hb dX2_findMove_29 rfl (lv_at hl 0 rfl) ?_
        refine lv_aload_n hx hb dX2_findMove_30 rfl (lv_at hl 1 rfl) ?_
        refine lv_iload hx hb dX2_findMove_31 (lv_at hl 3 rfl) ?_
        refine zkPI (zrV (rest := []) B (c_X2_reach l E hV H0 hT0 h0 kh0 p0 kp0 v20_4) cl_RX2_119 hT0 kh0 rfl rfl rfl rfl hl.1 rfl (Nat.le_of_ble_eq_true rfl) dX2_findMove_33 rfl rfl ⟨rfl, rfl⟩ ⟨Nat.zero_le _, Nat.zero_le _⟩ (zO.rf hh)) (fun x_3 hp_3 => ?_)
        refine lv_istore (lv' := [(5, .int x_3), (0, .ref h0), (1, .ref p0), (3, .int v20_3), (4, .int v20_4)]) hx hb dX2_findMove_36 hl (by decide) rfl (fun ls hl => ?_)
        refine lv_iload hx hb dX2_findMove_38 (lv_at hl 0 rfl) ?_
        refine zkPI (zrS (rest := []) B (c_J6_bitCount_0f7a4 l E hV H0 hT0 x_3) cs_RX2_137 rfl hl.1 rfl (Nat.le_of_ble_eq_true rfl) dX2_findMove_40 rfl rfl ⟨rfl, rfl⟩ ⟨Nat.zero_le _, Nat.zero_le _⟩ (zO.rf hh)) (fun x_4 hp_4 => ?_)
        obtain ⟨hp_4_1, hp_4_2⟩ := hp_4
        refine lv_istore (lv' := [(6, .int x_4), (5, .int x_3), (0, .ref h0), (1, .ref p0), (3, .int v20_3), (4, .int v20_4)]) hx hb dX2_findMove_43 hl (by decide) rfl (fun ls hl => ?_)
        refine lv_iload_n hx hb dX2_findMove_45 rfl (lv_at hl 4 rfl) ?_
        refine lv_iload hx hb dX2_findMove_46 (lv_at hl 0 rfl) ?_
        refine lv_icmp_ge (tgt := 64) hx hb dX2_findMove_48 (by decide) (fun c_5 => ?_) (fun c_5 => ?_)
        · have f_5 := z_le c_5 rfl rfl
          refine lv_iload_n hx hb dX2_findMove_64 rfl (lv_at hl 4 rfl) ?_
          refine lv_iload hx hb dX2_findMove_65 (lv_at hl 0 rfl) ?_
          refine lv_isub hx hb dX2_findMove_67 ?_
          refine lv_topi (fun x_6 e_6 => ?_)
          have := z_rng v20_3
          have t_6 := z_sub e_6 rfl rfl (by omega) (by omega)
          refine lv_istore_n (lv' := [(3, .int x_6), (6, .int x_4), (5, .int x_3), (0, .ref h0), (1, .ref p0), (4, .int v20_4)]) hx hb dX2_findMove_68 rfl hl (by decide) rfl (fun ls hl => ?_)
          obtain ⟨x_7, e_7⟩ : ∃ y : Int32, (v20_4 : Int32) + Int32.ofInt 1 = y := ⟨_, rfl⟩
          refine lv_iinc (v := x_7) (lv' := [(4, .int x_7), (3, .int x_6), (6, .int x_4), (5, .int x_3), (0, .ref h0), (1, .ref p0)]) hx hb dX2_findMove_69 hl (k := 5) rfl e_7 (by decide) rfl (fun ls hl => ?_)
          have t_7 := z_inc2 e_7 rfl (by decide) (by omega) (by omega)
          refine lv_goto (tgt := 20) hx hb dX2_findMove_72 (by decide) ?_
          exact ih20 ls x_6 x_7 (by omega) (lv_sub hl [4, 5, 1, 0] rfl) (by omega) (by omega) (by omega)
        · have f_5 := z_nle c_5 rfl rfl
          refine lv_bipush (v := 32) hx hb dX2_findMove_51 (by decide) ?_
          refine lv_iload hx hb dX2_findMove_53 (lv_at hl 5 rfl) ?_
          refine lv_imul hx hb dX2_findMove_55 ?_
          refine lv_topi (fun x_8 e_8 => ?_)
          have t_8 := z_mul e_8 kl_32 rfl (by omega) (by omega)
          refine lv_iload hx hb dX2_findMove_56 (lv_at hl 1 rfl) ?_
          refine lv_iload_n hx hb dX2_findMove_58 rfl (lv_at hl 4 rfl) ?_
          refine zkPI (zrS (rest := [.int x_8]) B (c_X2_bitAt l E hV H0 hT0 x_3 v20_3) cs_RX2_142 rfl hl.1 rfl (Nat.le_of_ble_eq_true rfl) dX2_findMove_59 rfl rfl ⟨rfl, rfl⟩ ⟨Nat.zero_le _, Nat.zero_le _⟩ (zO.rf hh)) (fun x_9 hp_9 => ?_)
          obtain ⟨hp_9_1, hp_9_2⟩ := hp_9
          refine lv_iadd hx hb dX2_findMove_62 ?_
          refine lv_topi (fun x_10 e_10 => ?_)
          have t_10 := z_add e_10 rfl rfl (by omega) (by omega)
          exact rtPI (v := x_10) B hr hlk hh hQ rfl ⟨by omega, by omega⟩ dX2_findMove_63
  refine lv_iload_n hx hb dX2_findMove_0 rfl (lv_at hl 2 rfl) ?_
  refine lv_if_lt (tgt := 13) hx hb dX2_findMove_1 (by decide) (fun c_11 => ?_) (fun c_11 => ?_)
  · have f_11 := z_lt c_11 rfl kl_0
    refine lv_iconst (v := (-1)) hx hb dX2_findMove_13 (by decide) ?_
    have := kl_m1
    have := kl_m1
    exact rtPI (v := (-1)) B hr hlk hh hQ rfl ⟨by omega, by omega⟩ dX2_findMove_14
  · have f_11 := z_nlt c_11 rfl kl_0
    refine lv_aload_n hx hb dX2_findMove_4 rfl (lv_at hl 0 rfl) ?_
    refine lv_aload_n hx hb dX2_findMove_5 rfl (lv_at hl 1 rfl) ?_
    refine zkPI (zrV (rest := []) B (c_X2_kingless l E hV H0 hT0 h0 kh0 p0 kp0) cl_RX2_115 hT0 kh0 rfl rfl rfl rfl hl.1 rfl (Nat.le_of_ble_eq_true rfl) dX2_findMove_6 rfl rfl ⟨rfl, rfl⟩ ⟨Nat.zero_le _, Nat.zero_le _⟩ (zO.rf hh)) (fun x_12 hp_12 => ?_)
    obtain ⟨hp_12_1, hp_12_2⟩ := hp_12
    refine lv_iconst (v := (-1)) hx hb dX2_findMove_9 (by decide) ?_
    refine lv_icmp_eq (tgt := 15) hx hb dX2_findMove_10 (by decide) (fun c_13 => ?_) (fun c_13 => ?_)
    · have f_13 := z_eq c_13 rfl kl_m1
      refine lv_iload_n hx hb dX2_findMove_15 rfl (lv_at hl 2 rfl) ?_
      refine lv_istore_n (lv' := [(3, .int p1), (0, .ref h0), (1, .ref p0), (2, .int p1)]) hx hb dX2_findMove_16 rfl hl (by decide) rfl (fun ls hl => ?_)
      refine lv_iconst (v := 0) hx hb dX2_findMove_17 (by decide) ?_
      refine lv_istore (lv' := [(4, .int 0), (3, .int p1), (0, .ref h0), (1, .ref p0), (2, .int p1)]) hx hb dX2_findMove_18 hl (by decide) rfl (fun ls hl => ?_)
      have := kl_0
      exact b20 31 ls p1 0 (by omega) (lv_sub hl [2, 3, 1, 0] rfl) (by omega) (by omega) (by omega)
    · have f_13 := z_ne c_13 rfl kl_m1
      refine lv_iconst (v := (-1)) hx hb dX2_findMove_13 (by decide) ?_
      have := kl_m1
      have := kl_m1
      exact rtPI (v := (-1)) B hr hlk hh hQ rfl ⟨by omega, by omega⟩ dX2_findMove_14

theorem dX2_make_0 : decode cX2_make 0 = .ok (.aload_n 1, 1) := by decide +kernel
theorem dX2_make_1 : decode cX2_make 1 = .ok (.getfield 123, 3) := by decide +kernel
theorem dX2_make_4 : decode cX2_make 4 = .ok (.iload_n 2, 1) := by decide +kernel
theorem dX2_make_5 : decode cX2_make 5 = .ok (.if_icmp .eq 5, 3) := by decide +kernel
theorem dX2_make_8 : decode cX2_make 8 = .ok (.iconst 0, 1) := by decide +kernel
theorem dX2_make_9 : decode cX2_make 9 = .ok (.ireturn, 1) := by decide +kernel
theorem dX2_make_10 : decode cX2_make 10 = .ok (.aload_n 0, 1) := by decide +kernel
theorem dX2_make_11 : decode cX2_make 11 = .ok (.aload_n 1, 1) := by decide +kernel
theorem dX2_make_12 : decode cX2_make 12 = .ok (.iload_n 3, 1) := by decide +kernel
theorem dX2_make_13 : decode cX2_make 13 = .ok (.invokevirtual 145, 3) := by decide +kernel
theorem dX2_make_16 : decode cX2_make 16 = .ok (.istore 4, 2) := by decide +kernel
theorem dX2_make_18 : decode cX2_make 18 = .ok (.iload 4, 2) := by decide +kernel
theorem dX2_make_20 : decode cX2_make 20 = .ok (.iconst (-1), 1) := by decide +kernel
theorem dX2_make_21 : decode cX2_make 21 = .ok (.if_icmp .ne 5, 3) := by decide +kernel
theorem dX2_make_24 : decode cX2_make 24 = .ok (.iconst 0, 1) := by decide +kernel
theorem dX2_make_25 : decode cX2_make 25 = .ok (.ireturn, 1) := by decide +kernel
theorem dX2_make_26 : decode cX2_make 26 = .ok (.aload_n 1, 1) := by decide +kernel
theorem dX2_make_27 : decode cX2_make 27 = .ok (.iload 4, 2) := by decide +kernel
theorem dX2_make_29 : decode cX2_make 29 = .ok (.invokestatic 148, 3) := by decide +kernel
theorem dX2_make_32 : decode cX2_make 32 = .ok (.iload 4, 2) := by decide +kernel
theorem dX2_make_34 : decode cX2_make 34 = .ok (.invokestatic 151, 3) := by decide +kernel
theorem dX2_make_37 : decode cX2_make 37 = .ok (.invokevirtual 154, 3) := by decide +kernel
theorem dX2_make_40 : decode cX2_make 40 = .ok (.iconst 1, 1) := by decide +kernel
theorem dX2_make_41 : decode cX2_make 41 = .ok (.ireturn, 1) := by decide +kernel
def rm_X2_make : Room := { frames := 3, cells := 0, slots := 0, locals := 85 }
abbrev wS_X2_make : List (Nat × Nat) := [(5, 0), (5, 1), (5, 2), (5, 3), (5, 4), (5, 5), (5, 6)]
set_option maxRecDepth 100000 in
set_option maxHeartbeats 4000000 in
theorem c_X2_make (l : Launch) (E : zE) (hV : zV E) (H0 : Heap) (hT0 : HT E H0) (h0 : Nat) (kh0 : eK E h0 = 3) (p0 : Nat) (kp0 : eK E p0 = 5) (p1 : Int32) (p2 : Int32) : Met l yX2_make (zws yX2_make cX2_make 5 (some .boolean)) rm_X2_make (zP E H0 [.ref h0, .ref p0, .int p1, .int p2]) (zQI E E wS_X2_make (fun r H1 => 0 ≤ r.toInt ∧ r.toInt ≤ 1)) 0 0 (zfr E) := by
  refine zEnt (by decide) (Nat.le_of_ble_eq_true rfl) (fun p e s m args below meth c ls Q B hr hlk hh hQ hl => ?_)
  have hx := B.1
  have hb := B.2.1
  have hG0 : zG E wS_X2_make H0 H0 [] := zG.rf hT0
  have hl : lv_has ls 5 [(0, .ref h0), (1, .ref p0), (2, .int p1), (3, .int p2)] := hl
  refine lv_aload_n hx hb dX2_make_0 rfl (lv_at hl 1 rfl) ?_
  refine g_getI B fl_RX2_123 hT0 kp0 rfl rfl rfl rfl rfl dX2_make_1 (fun x_1 s_1 a_1 b_1 => ?_)
  refine lv_iload_n hx hb dX2_make_4 rfl (lv_at hl 2 rfl) ?_
  refine lv_icmp_eq (tgt := 10) hx hb dX2_make_5 (by decide) (fun c_2 => ?_) (fun c_2 => ?_)
  · have f_2 := z_eq c_2 rfl rfl
    refine lv_aload_n hx hb dX2_make_10 rfl (lv_at hl 0 rfl) ?_
    refine lv_aload_n hx hb dX2_make_11 rfl (lv_at hl 1 rfl) ?_
    refine lv_iload_n hx hb dX2_make_12 rfl (lv_at hl 3 rfl) ?_
    refine zkPI (zrV (rest := []) B (c_X2_findMove l E hV H0 hT0 h0 kh0 p0 kp0 p2) cl_RX2_145 hT0 kh0 rfl rfl rfl rfl hl.1 rfl (Nat.le_of_ble_eq_true rfl) dX2_make_13 rfl rfl ⟨rfl, rfl⟩ ⟨Nat.zero_le _, Nat.zero_le _⟩ (zO.of hG0 hh)) (fun x_3 hp_3 => ?_)
    obtain ⟨hp_3_1, hp_3_2⟩ := hp_3
    refine lv_istore (lv' := [(4, .int x_3), (0, .ref h0), (1, .ref p0), (2, .int p1), (3, .int p2)]) hx hb dX2_make_16 hl (by decide) rfl (fun ls hl => ?_)
    refine lv_iload hx hb dX2_make_18 (lv_at hl 0 rfl) ?_
    refine lv_iconst (v := (-1)) hx hb dX2_make_20 (by decide) ?_
    refine lv_icmp_ne (tgt := 26) hx hb dX2_make_21 (by decide) (fun c_4 => ?_) (fun c_4 => ?_)
    · have f_4 := z_ne c_4 rfl kl_m1
      refine lv_aload_n hx hb dX2_make_26 rfl (lv_at hl 2 rfl) ?_
      refine lv_iload hx hb dX2_make_27 (lv_at hl 0 rfl) ?_
      refine zkPI (zrS (rest := [.ref p0]) B (c_X2_fromOf l E hV H0 hT0 x_3) cs_RX2_148 rfl hl.1 rfl (Nat.le_of_ble_eq_true rfl) dX2_make_29 rfl rfl ⟨rfl, rfl⟩ ⟨Nat.zero_le _, Nat.zero_le _⟩ (zO.of hG0 hh)) (fun x_5 hp_5 => ?_)
      refine lv_iload hx hb dX2_make_32 (lv_at hl 0 rfl) ?_
      refine zkPI (zrS (rest := [.int x_5, .ref p0]) B (c_X2_toOf l E hV H0 hT0 x_3) cs_RX2_151 rfl hl.1 rfl (Nat.le_of_ble_eq_true rfl) dX2_make_34 rfl rfl ⟨rfl, rfl⟩ ⟨Nat.zero_le _, Nat.zero_le _⟩ (zO.of hG0 hh)) (fun x_6 hp_6 => ?_)
      refine zkV (zrV (rest := []) B (c_X4_carry l E hV H0 hT0 p0 kp0 x_5 x_6) cl_RX2_154 hT0 kp0 rfl rfl rfl rfl hl.1 rfl (Nat.le_of_ble_eq_true rfl) dX2_make_37 rfl rfl ⟨rfl, rfl⟩ ⟨Nat.zero_le _, Nat.zero_le _⟩ (zO.of hG0 hh)) hG0 rfl (fun H7 lc7 hp_7 gH7 rH7 => ?_)
      refine lv_iconst (v := 1) hx hb dX2_make_40 (by decide) ?_
      have := kl_1
      have := kl_1
      exact rtI (v := 1) B hr hlk hh hQ gH7 rfl ⟨by omega, by omega⟩ dX2_make_41
    · have f_4 := z_eq c_4 rfl kl_m1
      refine lv_iconst (v := 0) hx hb dX2_make_24 (by decide) ?_
      have := kl_0
      have := kl_0
      exact rtI (v := 0) B hr hlk hh hQ hG0 rfl ⟨by omega, by omega⟩ dX2_make_25
  · have f_2 := z_ne c_2 rfl rfl
    refine lv_iconst (v := 0) hx hb dX2_make_8 (by decide) ?_
    have := kl_0
    have := kl_0
    exact rtI (v := 0) B hr hlk hh hQ hG0 rfl ⟨by omega, by omega⟩ dX2_make_9

theorem dX2_loser_0 : decode cX2_loser 0 = .ok (.aload_n 0, 1) := by decide +kernel
theorem dX2_loser_1 : decode cX2_loser 1 = .ok (.aload_n 1, 1) := by decide +kernel
theorem dX2_loser_2 : decode cX2_loser 2 = .ok (.invokevirtual 115, 3) := by decide +kernel
theorem dX2_loser_5 : decode cX2_loser 5 = .ok (.istore_n 2, 1) := by decide +kernel
theorem dX2_loser_6 : decode cX2_loser 6 = .ok (.iload_n 2, 1) := by decide +kernel
theorem dX2_loser_7 : decode cX2_loser 7 = .ok (.iconst (-1), 1) := by decide +kernel
theorem dX2_loser_8 : decode cX2_loser 8 = .ok (.if_icmp .eq 5, 3) := by decide +kernel
theorem dX2_loser_11 : decode cX2_loser 11 = .ok (.iload_n 2, 1) := by decide +kernel
theorem dX2_loser_12 : decode cX2_loser 12 = .ok (.ireturn, 1) := by decide +kernel
theorem dX2_loser_13 : decode cX2_loser 13 = .ok (.aload_n 0, 1) := by decide +kernel
theorem dX2_loser_14 : decode cX2_loser 14 = .ok (.aload_n 1, 1) := by decide +kernel
theorem dX2_loser_15 : decode cX2_loser 15 = .ok (.invokevirtual 158, 3) := by decide +kernel
theorem dX2_loser_18 : decode cX2_loser 18 = .ok (.ifCond .eq 7, 3) := by decide +kernel
theorem dX2_loser_21 : decode cX2_loser 21 = .ok (.iconst (-1), 1) := by decide +kernel
theorem dX2_loser_22 : decode cX2_loser 22 = .ok (.goto 7, 3) := by decide +kernel
theorem dX2_loser_25 : decode cX2_loser 25 = .ok (.aload_n 1, 1) := by decide +kernel
theorem dX2_loser_26 : decode cX2_loser 26 = .ok (.getfield 123, 3) := by decide +kernel
theorem dX2_loser_29 : decode cX2_loser 29 = .ok (.ireturn, 1) := by decide +kernel
def rm_X2_loser : Room := { frames := 3, cells := 0, slots := 0, locals := 81 }
set_option maxRecDepth 100000 in
set_option maxHeartbeats 4000000 in
theorem c_X2_loser (l : Launch) (E : zE) (hV : zV E) (H0 : Heap) (hT0 : HT E H0) (h0 : Nat) (kh0 : eK E h0 = 3) (p0 : Nat) (kp0 : eK E p0 = 5) : Met l yX2_loser (zws yX2_loser cX2_loser 3 (some .int)) rm_X2_loser (zP E H0 [.ref h0, .ref p0]) (zPI (fun r => (-1) ≤ r.toInt ∧ r.toInt ≤ 1)) 0 0 (fun _ => False) := by
  refine zEnt (by decide) (Nat.le_of_ble_eq_true rfl) (fun p e s m args below meth c ls Q B hr hlk hh hQ hl => ?_)
  have hx := B.1
  have hb := B.2.1
  have hl : lv_has ls 3 [(0, .ref h0), (1, .ref p0)] := hl
  refine lv_aload_n hx hb dX2_loser_0 rfl (lv_at hl 0 rfl) ?_
  refine lv_aload_n hx hb dX2_loser_1 rfl (lv_at hl 1 rfl) ?_
  refine zkPI (zrV (rest := []) B (c_X2_kingless l E hV H0 hT0 h0 kh0 p0 kp0) cl_RX2_115 hT0 kh0 rfl rfl rfl rfl hl.1 rfl (Nat.le_of_ble_eq_true rfl) dX2_loser_2 rfl rfl ⟨rfl, rfl⟩ ⟨Nat.zero_le _, Nat.zero_le _⟩ (zO.rf hh)) (fun x_1 hp_1 => ?_)
  obtain ⟨hp_1_1, hp_1_2⟩ := hp_1
  refine lv_istore_n (lv' := [(2, .int x_1), (0, .ref h0), (1, .ref p0)]) hx hb dX2_loser_5 rfl hl (by decide) rfl (fun ls hl => ?_)
  refine lv_iload_n hx hb dX2_loser_6 rfl (lv_at hl 0 rfl) ?_
  refine lv_iconst (v := (-1)) hx hb dX2_loser_7 (by decide) ?_
  refine lv_icmp_eq (tgt := 13) hx hb dX2_loser_8 (by decide) (fun c_2 => ?_) (fun c_2 => ?_)
  · have f_2 := z_eq c_2 rfl kl_m1
    refine lv_aload_n hx hb dX2_loser_13 rfl (lv_at hl 1 rfl) ?_
    refine lv_aload_n hx hb dX2_loser_14 rfl (lv_at hl 2 rfl) ?_
    refine zkPI (zrV (rest := []) B (c_X2_canMove l E hV H0 hT0 h0 kh0 p0 kp0) cl_RX2_158 hT0 kh0 rfl rfl rfl rfl hl.1 rfl (Nat.le_of_ble_eq_true rfl) dX2_loser_15 rfl rfl ⟨rfl, rfl⟩ ⟨Nat.zero_le _, Nat.zero_le _⟩ (zO.rf hh)) (fun x_3 hp_3 => ?_)
    obtain ⟨hp_3_1, hp_3_2⟩ := hp_3
    refine lv_if_eq (tgt := 25) hx hb dX2_loser_18 (by decide) (fun c_4 => ?_) (fun c_4 => ?_)
    · have f_4 := z_eq c_4 rfl kl_0
      refine lv_aload_n hx hb dX2_loser_25 rfl (lv_at hl 2 rfl) ?_
      refine g_getI B fl_RX2_123 hT0 kp0 rfl rfl rfl rfl rfl dX2_loser_26 (fun x_5 s_5 a_5 b_5 => ?_)
      exact rtPI (v := x_5) B hr hlk hh hQ rfl ⟨by omega, by omega⟩ dX2_loser_29
    · have f_4 := z_ne c_4 rfl kl_0
      refine lv_iconst (v := (-1)) hx hb dX2_loser_21 (by decide) ?_
      refine lv_goto (tgt := 29) hx hb dX2_loser_22 (by decide) ?_
      have := kl_m1
      have := kl_m1
      exact rtPI (v := (-1)) B hr hlk hh hQ rfl ⟨by omega, by omega⟩ dX2_loser_29
  · have f_2 := z_ne c_2 rfl kl_m1
    refine lv_iload_n hx hb dX2_loser_11 rfl (lv_at hl 0 rfl) ?_
    exact rtPI (v := x_1) B hr hlk hh hQ rfl ⟨by omega, by omega⟩ dX2_loser_12
