theorem dJ6_bitCount_0f7a4_0 : decode cJ6_bitCount_0f7a4 0 = .ok (.iload_n 0, 1) := by decide +kernel
theorem dJ6_bitCount_0f7a4_1 : decode cJ6_bitCount_0f7a4 1 = .ok (.iload_n 0, 1) := by decide +kernel
theorem dJ6_bitCount_0f7a4_2 : decode cJ6_bitCount_0f7a4 2 = .ok (.iconst 1, 1) := by decide +kernel
theorem dJ6_bitCount_0f7a4_3 : decode cJ6_bitCount_0f7a4 3 = .ok (.iushr, 1) := by decide +kernel
theorem dJ6_bitCount_0f7a4_4 : decode cJ6_bitCount_0f7a4 4 = .ok (.ldc_w 265, 3) := by decide +kernel
theorem dJ6_bitCount_0f7a4_7 : decode cJ6_bitCount_0f7a4 7 = .ok (.iand, 1) := by decide +kernel
theorem dJ6_bitCount_0f7a4_8 : decode cJ6_bitCount_0f7a4 8 = .ok (.isub, 1) := by decide +kernel
theorem dJ6_bitCount_0f7a4_9 : decode cJ6_bitCount_0f7a4 9 = .ok (.istore_n 0, 1) := by decide +kernel
theorem dJ6_bitCount_0f7a4_10 : decode cJ6_bitCount_0f7a4 10 = .ok (.iload_n 0, 1) := by decide +kernel
theorem dJ6_bitCount_0f7a4_11 : decode cJ6_bitCount_0f7a4 11 = .ok (.ldc_w 266, 3) := by decide +kernel
theorem dJ6_bitCount_0f7a4_14 : decode cJ6_bitCount_0f7a4 14 = .ok (.iand, 1) := by decide +kernel
theorem dJ6_bitCount_0f7a4_15 : decode cJ6_bitCount_0f7a4 15 = .ok (.iload_n 0, 1) := by decide +kernel
theorem dJ6_bitCount_0f7a4_16 : decode cJ6_bitCount_0f7a4 16 = .ok (.iconst 2, 1) := by decide +kernel
theorem dJ6_bitCount_0f7a4_17 : decode cJ6_bitCount_0f7a4 17 = .ok (.iushr, 1) := by decide +kernel
theorem dJ6_bitCount_0f7a4_18 : decode cJ6_bitCount_0f7a4 18 = .ok (.ldc_w 266, 3) := by decide +kernel
theorem dJ6_bitCount_0f7a4_21 : decode cJ6_bitCount_0f7a4 21 = .ok (.iand, 1) := by decide +kernel
theorem dJ6_bitCount_0f7a4_22 : decode cJ6_bitCount_0f7a4 22 = .ok (.iadd, 1) := by decide +kernel
theorem dJ6_bitCount_0f7a4_23 : decode cJ6_bitCount_0f7a4 23 = .ok (.istore_n 0, 1) := by decide +kernel
theorem dJ6_bitCount_0f7a4_24 : decode cJ6_bitCount_0f7a4 24 = .ok (.iload_n 0, 1) := by decide +kernel
theorem dJ6_bitCount_0f7a4_25 : decode cJ6_bitCount_0f7a4 25 = .ok (.iload_n 0, 1) := by decide +kernel
theorem dJ6_bitCount_0f7a4_26 : decode cJ6_bitCount_0f7a4 26 = .ok (.iconst 4, 1) := by decide +kernel
theorem dJ6_bitCount_0f7a4_27 : decode cJ6_bitCount_0f7a4 27 = .ok (.iushr, 1) := by decide +kernel
theorem dJ6_bitCount_0f7a4_28 : decode cJ6_bitCount_0f7a4 28 = .ok (.iadd, 1) := by decide +kernel
theorem dJ6_bitCount_0f7a4_29 : decode cJ6_bitCount_0f7a4 29 = .ok (.ldc_w 267, 3) := by decide +kernel
theorem dJ6_bitCount_0f7a4_32 : decode cJ6_bitCount_0f7a4 32 = .ok (.iand, 1) := by decide +kernel
theorem dJ6_bitCount_0f7a4_33 : decode cJ6_bitCount_0f7a4 33 = .ok (.istore_n 0, 1) := by decide +kernel
theorem dJ6_bitCount_0f7a4_34 : decode cJ6_bitCount_0f7a4 34 = .ok (.iload_n 0, 1) := by decide +kernel
theorem dJ6_bitCount_0f7a4_35 : decode cJ6_bitCount_0f7a4 35 = .ok (.iload_n 0, 1) := by decide +kernel
theorem dJ6_bitCount_0f7a4_36 : decode cJ6_bitCount_0f7a4 36 = .ok (.bipush 8, 2) := by decide +kernel
theorem dJ6_bitCount_0f7a4_38 : decode cJ6_bitCount_0f7a4 38 = .ok (.iushr, 1) := by decide +kernel
theorem dJ6_bitCount_0f7a4_39 : decode cJ6_bitCount_0f7a4 39 = .ok (.iadd, 1) := by decide +kernel
theorem dJ6_bitCount_0f7a4_40 : decode cJ6_bitCount_0f7a4 40 = .ok (.istore_n 0, 1) := by decide +kernel
theorem dJ6_bitCount_0f7a4_41 : decode cJ6_bitCount_0f7a4 41 = .ok (.iload_n 0, 1) := by decide +kernel
theorem dJ6_bitCount_0f7a4_42 : decode cJ6_bitCount_0f7a4 42 = .ok (.iload_n 0, 1) := by decide +kernel
theorem dJ6_bitCount_0f7a4_43 : decode cJ6_bitCount_0f7a4 43 = .ok (.bipush 16, 2) := by decide +kernel
theorem dJ6_bitCount_0f7a4_45 : decode cJ6_bitCount_0f7a4 45 = .ok (.iushr, 1) := by decide +kernel
theorem dJ6_bitCount_0f7a4_46 : decode cJ6_bitCount_0f7a4 46 = .ok (.iadd, 1) := by decide +kernel
theorem dJ6_bitCount_0f7a4_47 : decode cJ6_bitCount_0f7a4 47 = .ok (.istore_n 0, 1) := by decide +kernel
theorem dJ6_bitCount_0f7a4_48 : decode cJ6_bitCount_0f7a4 48 = .ok (.iload_n 0, 1) := by decide +kernel
theorem dJ6_bitCount_0f7a4_49 : decode cJ6_bitCount_0f7a4 49 = .ok (.bipush 63, 2) := by decide +kernel
theorem dJ6_bitCount_0f7a4_51 : decode cJ6_bitCount_0f7a4 51 = .ok (.iand, 1) := by decide +kernel
theorem dJ6_bitCount_0f7a4_52 : decode cJ6_bitCount_0f7a4 52 = .ok (.ireturn, 1) := by decide +kernel
def rm_J6_bitCount_0f7a4 : Room := { frames := 0, cells := 0, slots := 0, locals := 0 }
set_option maxRecDepth 100000 in
set_option maxHeartbeats 4000000 in
theorem c_J6_bitCount_0f7a4 (l : Launch) (E : zE) (hV : zV E) (H0 : Heap) (hT0 : HT E H0) (p0 : Int32) : Met l yJ6_bitCount_0f7a4 (zws yJ6_bitCount_0f7a4 cJ6_bitCount_0f7a4 1 (some .int)) rm_J6_bitCount_0f7a4 (zP E H0 [.int p0]) (zPI (fun r => 0 ≤ r.toInt ∧ r.toInt ≤ 63)) 0 0 (fun _ => False) := by
  refine zEnt (by decide) (Nat.le_of_ble_eq_true rfl) (fun p e s m args below meth c ls Q B hr hlk hh hQ hl => ?_)
  have hx := B.1
  have hb := B.2.1
  have hl : lv_has ls 1 [(0, .int p0)] := hl
  refine lv_iload_n hx hb dJ6_bitCount_0f7a4_0 rfl (lv_at hl 0 rfl) ?_
  refine lv_iload_n hx hb dJ6_bitCount_0f7a4_1 rfl (lv_at hl 0 rfl) ?_
  refine lv_iconst (v := 1) hx hb dJ6_bitCount_0f7a4_2 (by decide) ?_
  refine lv_iushr hx hb dJ6_bitCount_0f7a4_3 rfl ?_
  refine lv_topi (fun x_1 e_1 => ?_)
  refine lv_ldcw hx hb B.2.2.2.1 (B.2.2.2.2.1 _ (mc_wsL_law_r32 _ (List.mem_of_getElem? (i := 14) rfl))) dJ6_bitCount_0f7a4_4 ?_
  refine lv_iand hx hb dJ6_bitCount_0f7a4_7 ?_
  refine lv_topi (fun x_2 e_2 => ?_)
  have t_2 := z_andR e_2 kl_1431655765 (by omega)
  refine lv_isub hx hb dJ6_bitCount_0f7a4_8 ?_
  refine lv_topi (fun x_3 e_3 => ?_)
  refine lv_istore_n (lv' := [(0, .int x_3)]) hx hb dJ6_bitCount_0f7a4_9 rfl hl (by decide) rfl (fun ls hl => ?_)
  refine lv_iload_n hx hb dJ6_bitCount_0f7a4_10 rfl (lv_at hl 0 rfl) ?_
  refine lv_ldcw hx hb B.2.2.2.1 (B.2.2.2.2.1 _ (mc_wsL_law_r32 _ (List.mem_of_getElem? (i := 15) rfl))) dJ6_bitCount_0f7a4_11 ?_
  refine lv_iand hx hb dJ6_bitCount_0f7a4_14 ?_
  refine lv_topi (fun x_4 e_4 => ?_)
  have t_4 := z_andR e_4 kl_858993459 (by omega)
  refine lv_iload_n hx hb dJ6_bitCount_0f7a4_15 rfl (lv_at hl 0 rfl) ?_
  refine lv_iconst (v := 2) hx hb dJ6_bitCount_0f7a4_16 (by decide) ?_
  refine lv_iushr hx hb dJ6_bitCount_0f7a4_17 rfl ?_
  refine lv_topi (fun x_5 e_5 => ?_)
  refine lv_ldcw hx hb B.2.2.2.1 (B.2.2.2.2.1 _ (mc_wsL_law_r32 _ (List.mem_of_getElem? (i := 15) rfl))) dJ6_bitCount_0f7a4_18 ?_
  refine lv_iand hx hb dJ6_bitCount_0f7a4_21 ?_
  refine lv_topi (fun x_6 e_6 => ?_)
  have t_6 := z_andR e_6 kl_858993459 (by omega)
  refine lv_iadd hx hb dJ6_bitCount_0f7a4_22 ?_
  refine lv_topi (fun x_7 e_7 => ?_)
  have t_7 := z_add e_7 rfl rfl (by omega) (by omega)
  refine lv_istore_n (lv' := [(0, .int x_7)]) hx hb dJ6_bitCount_0f7a4_23 rfl hl (by decide) rfl (fun ls hl => ?_)
  refine lv_iload_n hx hb dJ6_bitCount_0f7a4_24 rfl (lv_at hl 0 rfl) ?_
  refine lv_iload_n hx hb dJ6_bitCount_0f7a4_25 rfl (lv_at hl 0 rfl) ?_
  refine lv_iconst (v := 4) hx hb dJ6_bitCount_0f7a4_26 (by decide) ?_
  refine lv_iushr hx hb dJ6_bitCount_0f7a4_27 rfl ?_
  refine lv_topi (fun x_8 e_8 => ?_)
  refine lv_iadd hx hb dJ6_bitCount_0f7a4_28 ?_
  refine lv_topi (fun x_9 e_9 => ?_)
  refine lv_ldcw hx hb B.2.2.2.1 (B.2.2.2.2.1 _ (mc_wsL_law_r32 _ (List.mem_of_getElem? (i := 16) rfl))) dJ6_bitCount_0f7a4_29 ?_
  refine lv_iand hx hb dJ6_bitCount_0f7a4_32 ?_
  refine lv_topi (fun x_10 e_10 => ?_)
  have t_10 := z_andR e_10 kl_252645135 (by omega)
  refine lv_istore_n (lv' := [(0, .int x_10)]) hx hb dJ6_bitCount_0f7a4_33 rfl hl (by decide) rfl (fun ls hl => ?_)
  refine lv_iload_n hx hb dJ6_bitCount_0f7a4_34 rfl (lv_at hl 0 rfl) ?_
  refine lv_iload_n hx hb dJ6_bitCount_0f7a4_35 rfl (lv_at hl 0 rfl) ?_
  refine lv_bipush (v := 8) hx hb dJ6_bitCount_0f7a4_36 (by decide) ?_
  refine lv_iushr hx hb dJ6_bitCount_0f7a4_38 rfl ?_
  refine lv_topi (fun x_11 e_11 => ?_)
  refine lv_iadd hx hb dJ6_bitCount_0f7a4_39 ?_
  refine lv_topi (fun x_12 e_12 => ?_)
  refine lv_istore_n (lv' := [(0, .int x_12)]) hx hb dJ6_bitCount_0f7a4_40 rfl hl (by decide) rfl (fun ls hl => ?_)
  refine lv_iload_n hx hb dJ6_bitCount_0f7a4_41 rfl (lv_at hl 0 rfl) ?_
  refine lv_iload_n hx hb dJ6_bitCount_0f7a4_42 rfl (lv_at hl 0 rfl) ?_
  refine lv_bipush (v := 16) hx hb dJ6_bitCount_0f7a4_43 (by decide) ?_
  refine lv_iushr hx hb dJ6_bitCount_0f7a4_45 rfl ?_
  refine lv_topi (fun x_13 e_13 => ?_)
  refine lv_iadd hx hb dJ6_bitCount_0f7a4_46 ?_
  refine lv_topi (fun x_14 e_14 => ?_)
  refine lv_istore_n (lv' := [(0, .int x_14)]) hx hb dJ6_bitCount_0f7a4_47 rfl hl (by decide) rfl (fun ls hl => ?_)
  refine lv_iload_n hx hb dJ6_bitCount_0f7a4_48 rfl (lv_at hl 0 rfl) ?_
  refine lv_bipush (v := 63) hx hb dJ6_bitCount_0f7a4_49 (by decide) ?_
  refine lv_iand hx hb dJ6_bitCount_0f7a4_51 ?_
  refine lv_topi (fun x_15 e_15 => ?_)
  have t_15 := z_andR e_15 kl_63 (by omega)
  exact rtPI (v := x_15) B hr hlk hh hQ rfl ⟨by omega, by omega⟩ dJ6_bitCount_0f7a4_52

theorem dX4_menOf_0 : decode cX4_menOf 0 = .ok (.iload_n 1, 1) := by decide +kernel
theorem dX4_menOf_1 : decode cX4_menOf 1 = .ok (.ifCond .ne 10, 3) := by decide +kernel
theorem dX4_menOf_4 : decode cX4_menOf 4 = .ok (.aload_n 0, 1) := by decide +kernel
theorem dX4_menOf_5 : decode cX4_menOf 5 = .ok (.getfield 15, 3) := by decide +kernel
theorem dX4_menOf_8 : decode cX4_menOf 8 = .ok (.goto 7, 3) := by decide +kernel
theorem dX4_menOf_11 : decode cX4_menOf 11 = .ok (.aload_n 0, 1) := by decide +kernel
theorem dX4_menOf_12 : decode cX4_menOf 12 = .ok (.getfield 18, 3) := by decide +kernel
theorem dX4_menOf_15 : decode cX4_menOf 15 = .ok (.ireturn, 1) := by decide +kernel
def rm_X4_menOf : Room := { frames := 0, cells := 0, slots := 0, locals := 0 }
set_option maxRecDepth 100000 in
set_option maxHeartbeats 4000000 in
theorem c_X4_menOf (l : Launch) (E : zE) (hV : zV E) (H0 : Heap) (hT0 : HT E H0) (h0 : Nat) (kh0 : eK E h0 = 5) (p0 : Int32) : Met l yX4_menOf (zws yX4_menOf cX4_menOf 2 (some .int)) rm_X4_menOf (zP E H0 [.ref h0, .int p0]) (zPI (fun r => True)) 0 0 (fun _ => False) := by
  refine zEnt (by decide) (Nat.le_of_ble_eq_true rfl) (fun p e s m args below meth c ls Q B hr hlk hh hQ hl => ?_)
  have hx := B.1
  have hb := B.2.1
  have hl : lv_has ls 2 [(0, .ref h0), (1, .int p0)] := hl
  refine lv_iload_n hx hb dX4_menOf_0 rfl (lv_at hl 1 rfl) ?_
  refine lv_if_ne (tgt := 11) hx hb dX4_menOf_1 (by decide) (fun c_1 => ?_) (fun c_1 => ?_)
  · have f_1 := z_ne c_1 rfl kl_0
    refine lv_aload_n hx hb dX4_menOf_11 rfl (lv_at hl 0 rfl) ?_
    refine g_getI B fl_RX4_18 hT0 kh0 rfl rfl rfl rfl rfl dX4_menOf_12 (fun x_2 s_2 a_2 b_2 => ?_)
    exact rtPI (v := x_2) B hr hlk hh hQ rfl trivial dX4_menOf_15
  · have f_1 := z_eq c_1 rfl kl_0
    refine lv_aload_n hx hb dX4_menOf_4 rfl (lv_at hl 0 rfl) ?_
    refine g_getI B fl_RX4_15 hT0 kh0 rfl rfl rfl rfl rfl dX4_menOf_5 (fun x_3 s_3 a_3 b_3 => ?_)
    refine lv_goto (tgt := 15) hx hb dX4_menOf_8 (by decide) ?_
    exact rtPI (v := x_3) B hr hlk hh hQ rfl trivial dX4_menOf_15

theorem dX4_isFree_0 : decode cX4_isFree 0 = .ok (.aload_n 0, 1) := by decide +kernel
theorem dX4_isFree_1 : decode cX4_isFree 1 = .ok (.getfield 15, 3) := by decide +kernel
theorem dX4_isFree_4 : decode cX4_isFree 4 = .ok (.aload_n 0, 1) := by decide +kernel
theorem dX4_isFree_5 : decode cX4_isFree 5 = .ok (.getfield 18, 3) := by decide +kernel
theorem dX4_isFree_8 : decode cX4_isFree 8 = .ok (.ior, 1) := by decide +kernel
theorem dX4_isFree_9 : decode cX4_isFree 9 = .ok (.iload_n 1, 1) := by decide +kernel
theorem dX4_isFree_10 : decode cX4_isFree 10 = .ok (.iushr, 1) := by decide +kernel
theorem dX4_isFree_11 : decode cX4_isFree 11 = .ok (.iconst 1, 1) := by decide +kernel
theorem dX4_isFree_12 : decode cX4_isFree 12 = .ok (.iand, 1) := by decide +kernel
theorem dX4_isFree_13 : decode cX4_isFree 13 = .ok (.ifCond .ne 7, 3) := by decide +kernel
theorem dX4_isFree_16 : decode cX4_isFree 16 = .ok (.iconst 1, 1) := by decide +kernel
theorem dX4_isFree_17 : decode cX4_isFree 17 = .ok (.goto 4, 3) := by decide +kernel
theorem dX4_isFree_20 : decode cX4_isFree 20 = .ok (.iconst 0, 1) := by decide +kernel
theorem dX4_isFree_21 : decode cX4_isFree 21 = .ok (.ireturn, 1) := by decide +kernel
def rm_X4_isFree : Room := { frames := 0, cells := 0, slots := 0, locals := 0 }
set_option maxRecDepth 100000 in
set_option maxHeartbeats 4000000 in
theorem c_X4_isFree (l : Launch) (E : zE) (hV : zV E) (H0 : Heap) (hT0 : HT E H0) (h0 : Nat) (kh0 : eK E h0 = 5) (p0 : Int32) : Met l yX4_isFree (zws yX4_isFree cX4_isFree 2 (some .boolean)) rm_X4_isFree (zP E H0 [.ref h0, .int p0]) (zPI (fun r => 0 ≤ r.toInt ∧ r.toInt ≤ 1)) 0 0 (fun _ => False) := by
  refine zEnt (by decide) (Nat.le_of_ble_eq_true rfl) (fun p e s m args below meth c ls Q B hr hlk hh hQ hl => ?_)
  have hx := B.1
  have hb := B.2.1
  have hl : lv_has ls 2 [(0, .ref h0), (1, .int p0)] := hl
  refine lv_aload_n hx hb dX4_isFree_0 rfl (lv_at hl 0 rfl) ?_
  refine g_getI B fl_RX4_15 hT0 kh0 rfl rfl rfl rfl rfl dX4_isFree_1 (fun x_1 s_1 a_1 b_1 => ?_)
  refine lv_aload_n hx hb dX4_isFree_4 rfl (lv_at hl 0 rfl) ?_
  refine g_getI B fl_RX4_18 hT0 kh0 rfl rfl rfl rfl rfl dX4_isFree_5 (fun x_2 s_2 a_2 b_2 => ?_)
  refine lv_ior hx hb dX4_isFree_8 ?_
  refine lv_topi (fun x_3 e_3 => ?_)
  refine lv_iload_n hx hb dX4_isFree_9 rfl (lv_at hl 1 rfl) ?_
  refine lv_iushr hx hb dX4_isFree_10 rfl ?_
  refine lv_topi (fun x_4 e_4 => ?_)
  refine lv_iconst (v := 1) hx hb dX4_isFree_11 (by decide) ?_
  refine lv_iand hx hb dX4_isFree_12 ?_
  refine lv_topi (fun x_5 e_5 => ?_)
  have t_5 := z_andR e_5 kl_1 (by omega)
  refine lv_if_ne (tgt := 20) hx hb dX4_isFree_13 (by decide) (fun c_6 => ?_) (fun c_6 => ?_)
  · have f_6 := z_ne c_6 rfl kl_0
    refine lv_iconst (v := 0) hx hb dX4_isFree_20 (by decide) ?_
    have := kl_0
    have := kl_0
    exact rtPI (v := 0) B hr hlk hh hQ rfl ⟨by omega, by omega⟩ dX4_isFree_21
  · have f_6 := z_eq c_6 rfl kl_0
    refine lv_iconst (v := 1) hx hb dX4_isFree_16 (by decide) ?_
    refine lv_goto (tgt := 21) hx hb dX4_isFree_17 (by decide) ?_
    have := kl_1
    have := kl_1
    exact rtPI (v := 1) B hr hlk hh hQ rfl ⟨by omega, by omega⟩ dX4_isFree_21

theorem dX4_pieceOn_0 : decode cX4_pieceOn 0 = .ok (.aload_n 0, 1) := by decide +kernel
theorem dX4_pieceOn_1 : decode cX4_pieceOn 1 = .ok (.getfield 24, 3) := by decide +kernel
theorem dX4_pieceOn_4 : decode cX4_pieceOn 4 = .ok (.iload_n 1, 1) := by decide +kernel
theorem dX4_pieceOn_5 : decode cX4_pieceOn 5 = .ok (.iushr, 1) := by decide +kernel
theorem dX4_pieceOn_6 : decode cX4_pieceOn 6 = .ok (.iconst 1, 1) := by decide +kernel
theorem dX4_pieceOn_7 : decode cX4_pieceOn 7 = .ok (.iand, 1) := by decide +kernel
theorem dX4_pieceOn_8 : decode cX4_pieceOn 8 = .ok (.aload_n 0, 1) := by decide +kernel
theorem dX4_pieceOn_9 : decode cX4_pieceOn 9 = .ok (.getfield 27, 3) := by decide +kernel
theorem dX4_pieceOn_12 : decode cX4_pieceOn 12 = .ok (.iload_n 1, 1) := by decide +kernel
theorem dX4_pieceOn_13 : decode cX4_pieceOn 13 = .ok (.iushr, 1) := by decide +kernel
theorem dX4_pieceOn_14 : decode cX4_pieceOn 14 = .ok (.iconst 1, 1) := by decide +kernel
theorem dX4_pieceOn_15 : decode cX4_pieceOn 15 = .ok (.iand, 1) := by decide +kernel
theorem dX4_pieceOn_16 : decode cX4_pieceOn 16 = .ok (.iconst 1, 1) := by decide +kernel
theorem dX4_pieceOn_17 : decode cX4_pieceOn 17 = .ok (.ishl, 1) := by decide +kernel
theorem dX4_pieceOn_18 : decode cX4_pieceOn 18 = .ok (.ior, 1) := by decide +kernel
theorem dX4_pieceOn_19 : decode cX4_pieceOn 19 = .ok (.aload_n 0, 1) := by decide +kernel
theorem dX4_pieceOn_20 : decode cX4_pieceOn 20 = .ok (.getfield 30, 3) := by decide +kernel
theorem dX4_pieceOn_23 : decode cX4_pieceOn 23 = .ok (.iload_n 1, 1) := by decide +kernel
theorem dX4_pieceOn_24 : decode cX4_pieceOn 24 = .ok (.iushr, 1) := by decide +kernel
theorem dX4_pieceOn_25 : decode cX4_pieceOn 25 = .ok (.iconst 1, 1) := by decide +kernel
theorem dX4_pieceOn_26 : decode cX4_pieceOn 26 = .ok (.iand, 1) := by decide +kernel
theorem dX4_pieceOn_27 : decode cX4_pieceOn 27 = .ok (.iconst 2, 1) := by decide +kernel
theorem dX4_pieceOn_28 : decode cX4_pieceOn 28 = .ok (.ishl, 1) := by decide +kernel
theorem dX4_pieceOn_29 : decode cX4_pieceOn 29 = .ok (.ior, 1) := by decide +kernel
theorem dX4_pieceOn_30 : decode cX4_pieceOn 30 = .ok (.ireturn, 1) := by decide +kernel
def rm_X4_pieceOn : Room := { frames := 0, cells := 0, slots := 0, locals := 0 }
set_option maxRecDepth 100000 in
set_option maxHeartbeats 4000000 in
theorem c_X4_pieceOn (l : Launch) (E : zE) (hV : zV E) (H0 : Heap) (hT0 : HT E H0) (h0 : Nat) (kh0 : eK E h0 = 5) (p0 : Int32) : Met l yX4_pieceOn (zws yX4_pieceOn cX4_pieceOn 2 (some .int)) rm_X4_pieceOn (zP E H0 [.ref h0, .int p0]) (zPI (fun r => 0 ≤ r.toInt ∧ r.toInt ≤ 7)) 0 0 (fun _ => False) := by
  refine zEnt (by decide) (Nat.le_of_ble_eq_true rfl) (fun p e s m args below meth c ls Q B hr hlk hh hQ hl => ?_)
  have hx := B.1
  have hb := B.2.1
  have hl : lv_has ls 2 [(0, .ref h0), (1, .int p0)] := hl
  refine lv_aload_n hx hb dX4_pieceOn_0 rfl (lv_at hl 0 rfl) ?_
  refine g_getI B fl_RX4_24 hT0 kh0 rfl rfl rfl rfl rfl dX4_pieceOn_1 (fun x_1 s_1 a_1 b_1 => ?_)
  refine lv_iload_n hx hb dX4_pieceOn_4 rfl (lv_at hl 1 rfl) ?_
  refine lv_iushr hx hb dX4_pieceOn_5 rfl ?_
  refine lv_topi (fun x_2 e_2 => ?_)
  refine lv_iconst (v := 1) hx hb dX4_pieceOn_6 (by decide) ?_
  refine lv_iand hx hb dX4_pieceOn_7 ?_
  refine lv_topi (fun x_3 e_3 => ?_)
  have t_3 := z_andR e_3 kl_1 (by omega)
  refine lv_aload_n hx hb dX4_pieceOn_8 rfl (lv_at hl 0 rfl) ?_
  refine g_getI B fl_RX4_27 hT0 kh0 rfl rfl rfl rfl rfl dX4_pieceOn_9 (fun x_4 s_4 a_4 b_4 => ?_)
  refine lv_iload_n hx hb dX4_pieceOn_12 rfl (lv_at hl 1 rfl) ?_
  refine lv_iushr hx hb dX4_pieceOn_13 rfl ?_
  refine lv_topi (fun x_5 e_5 => ?_)
  refine lv_iconst (v := 1) hx hb dX4_pieceOn_14 (by decide) ?_
  refine lv_iand hx hb dX4_pieceOn_15 ?_
  refine lv_topi (fun x_6 e_6 => ?_)
  have t_6 := z_andR e_6 kl_1 (by omega)
  refine lv_iconst (v := 1) hx hb dX4_pieceOn_16 (by decide) ?_
  refine lv_ishl hx hb dX4_pieceOn_17 ?_
  refine lv_topi (fun x_7 e_7 => ?_)
  have t_7 := z_shl 1 e_7 rfl (by decide) (by omega) (by omega)
  refine lv_ior hx hb dX4_pieceOn_18 ?_
  refine lv_topi (fun x_8 e_8 => ?_)
  have t_8 := z_or 2 e_8 rfl rfl rfl (by omega) (by omega) (by omega) (by omega)
  refine lv_aload_n hx hb dX4_pieceOn_19 rfl (lv_at hl 0 rfl) ?_
  refine g_getI B fl_RX4_30 hT0 kh0 rfl rfl rfl rfl rfl dX4_pieceOn_20 (fun x_9 s_9 a_9 b_9 => ?_)
  refine lv_iload_n hx hb dX4_pieceOn_23 rfl (lv_at hl 1 rfl) ?_
  refine lv_iushr hx hb dX4_pieceOn_24 rfl ?_
  refine lv_topi (fun x_10 e_10 => ?_)
  refine lv_iconst (v := 1) hx hb dX4_pieceOn_25 (by decide) ?_
  refine lv_iand hx hb dX4_pieceOn_26 ?_
  refine lv_topi (fun x_11 e_11 => ?_)
  have t_11 := z_andR e_11 kl_1 (by omega)
  refine lv_iconst (v := 2) hx hb dX4_pieceOn_27 (by decide) ?_
  refine lv_ishl hx hb dX4_pieceOn_28 ?_
  refine lv_topi (fun x_12 e_12 => ?_)
  have t_12 := z_shl 2 e_12 rfl (by decide) (by omega) (by omega)
  refine lv_ior hx hb dX4_pieceOn_29 ?_
  refine lv_topi (fun x_13 e_13 => ?_)
  have t_13 := z_or 3 e_13 rfl rfl rfl (by omega) (by omega) (by omega) (by omega)
  exact rtPI (v := x_13) B hr hlk hh hQ rfl ⟨by omega, by omega⟩ dX4_pieceOn_30

theorem dX4_manOn_0 : decode cX4_manOn 0 = .ok (.aload_n 0, 1) := by decide +kernel
theorem dX4_manOn_1 : decode cX4_manOn 1 = .ok (.iload_n 1, 1) := by decide +kernel
theorem dX4_manOn_2 : decode cX4_manOn 2 = .ok (.invokevirtual 43, 3) := by decide +kernel
theorem dX4_manOn_5 : decode cX4_manOn 5 = .ok (.ifCond .eq 7, 3) := by decide +kernel
theorem dX4_manOn_8 : decode cX4_manOn 8 = .ok (.iconst (-1), 1) := by decide +kernel
theorem dX4_manOn_9 : decode cX4_manOn 9 = .ok (.goto 19, 3) := by decide +kernel
theorem dX4_manOn_12 : decode cX4_manOn 12 = .ok (.iconst 2, 1) := by decide +kernel
theorem dX4_manOn_13 : decode cX4_manOn 13 = .ok (.aload_n 0, 1) := by decide +kernel
theorem dX4_manOn_14 : decode cX4_manOn 14 = .ok (.iload_n 1, 1) := by decide +kernel
theorem dX4_manOn_15 : decode cX4_manOn 15 = .ok (.invokevirtual 47, 3) := by decide +kernel
theorem dX4_manOn_18 : decode cX4_manOn 18 = .ok (.imul, 1) := by decide +kernel
theorem dX4_manOn_19 : decode cX4_manOn 19 = .ok (.aload_n 0, 1) := by decide +kernel
theorem dX4_manOn_20 : decode cX4_manOn 20 = .ok (.getfield 18, 3) := by decide +kernel
theorem dX4_manOn_23 : decode cX4_manOn 23 = .ok (.iload_n 1, 1) := by decide +kernel
theorem dX4_manOn_24 : decode cX4_manOn 24 = .ok (.iushr, 1) := by decide +kernel
theorem dX4_manOn_25 : decode cX4_manOn 25 = .ok (.iconst 1, 1) := by decide +kernel
theorem dX4_manOn_26 : decode cX4_manOn 26 = .ok (.iand, 1) := by decide +kernel
theorem dX4_manOn_27 : decode cX4_manOn 27 = .ok (.iadd, 1) := by decide +kernel
theorem dX4_manOn_28 : decode cX4_manOn 28 = .ok (.ireturn, 1) := by decide +kernel
def rm_X4_manOn : Room := { frames := 1, cells := 0, slots := 0, locals := 21 }
set_option maxRecDepth 100000 in
set_option maxHeartbeats 4000000 in
theorem c_X4_manOn (l : Launch) (E : zE) (hV : zV E) (H0 : Heap) (hT0 : HT E H0) (h0 : Nat) (kh0 : eK E h0 = 5) (p0 : Int32) : Met l yX4_manOn (zws yX4_manOn cX4_manOn 2 (some .int)) rm_X4_manOn (zP E H0 [.ref h0, .int p0]) (zPI (fun r => (-1) ≤ r.toInt ∧ r.toInt ≤ 15)) 0 0 (fun _ => False) := by
  refine zEnt (by decide) (Nat.le_of_ble_eq_true rfl) (fun p e s m args below meth c ls Q B hr hlk hh hQ hl => ?_)
  have hx := B.1
  have hb := B.2.1
  have hl : lv_has ls 2 [(0, .ref h0), (1, .int p0)] := hl
  refine lv_aload_n hx hb dX4_manOn_0 rfl (lv_at hl 0 rfl) ?_
  refine lv_iload_n hx hb dX4_manOn_1 rfl (lv_at hl 1 rfl) ?_
  refine zkPI (zrV (rest := []) B (c_X4_isFree l E hV H0 hT0 h0 kh0 p0) cl_RX4_43 hT0 kh0 rfl rfl rfl rfl hl.1 rfl (Nat.le_of_ble_eq_true rfl) dX4_manOn_2 rfl rfl ⟨rfl, rfl⟩ ⟨Nat.zero_le _, Nat.zero_le _⟩ (zO.rf hh)) (fun x_1 hp_1 => ?_)
  obtain ⟨hp_1_1, hp_1_2⟩ := hp_1
  refine lv_if_eq (tgt := 12) hx hb dX4_manOn_5 (by decide) (fun c_2 => ?_) (fun c_2 => ?_)
  · have f_2 := z_eq c_2 rfl kl_0
    refine lv_iconst (v := 2) hx hb dX4_manOn_12 (by decide) ?_
    refine lv_aload_n hx hb dX4_manOn_13 rfl (lv_at hl 0 rfl) ?_
    refine lv_iload_n hx hb dX4_manOn_14 rfl (lv_at hl 1 rfl) ?_
    refine zkPI (zrV (rest := [.int 2]) B (c_X4_pieceOn l E hV H0 hT0 h0 kh0 p0) cl_RX4_47 hT0 kh0 rfl rfl rfl rfl hl.1 rfl (Nat.le_of_ble_eq_true rfl) dX4_manOn_15 rfl rfl ⟨rfl, rfl⟩ ⟨Nat.zero_le _, Nat.zero_le _⟩ (zO.rf hh)) (fun x_3 hp_3 => ?_)
    obtain ⟨hp_3_1, hp_3_2⟩ := hp_3
    refine lv_imul hx hb dX4_manOn_18 ?_
    refine lv_topi (fun x_4 e_4 => ?_)
    have t_4 := z_mul e_4 kl_2 rfl (by omega) (by omega)
    refine lv_aload_n hx hb dX4_manOn_19 rfl (lv_at hl 0 rfl) ?_
    refine g_getI B fl_RX4_18 hT0 kh0 rfl rfl rfl rfl rfl dX4_manOn_20 (fun x_5 s_5 a_5 b_5 => ?_)
    refine lv_iload_n hx hb dX4_manOn_23 rfl (lv_at hl 1 rfl) ?_
    refine lv_iushr hx hb dX4_manOn_24 rfl ?_
    refine lv_topi (fun x_6 e_6 => ?_)
    refine lv_iconst (v := 1) hx hb dX4_manOn_25 (by decide) ?_
    refine lv_iand hx hb dX4_manOn_26 ?_
    refine lv_topi (fun x_7 e_7 => ?_)
    have t_7 := z_andR e_7 kl_1 (by omega)
    refine lv_iadd hx hb dX4_manOn_27 ?_
    refine lv_topi (fun x_8 e_8 => ?_)
    have t_8 := z_add e_8 rfl rfl (by omega) (by omega)
    exact rtPI (v := x_8) B hr hlk hh hQ rfl ⟨by omega, by omega⟩ dX4_manOn_28
  · have f_2 := z_ne c_2 rfl kl_0
    refine lv_iconst (v := (-1)) hx hb dX4_manOn_8 (by decide) ?_
    refine lv_goto (tgt := 28) hx hb dX4_manOn_9 (by decide) ?_
    have := kl_m1
    have := kl_m1
    exact rtPI (v := (-1)) B hr hlk hh hQ rfl ⟨by omega, by omega⟩ dX4_manOn_28

theorem dX4_carried_0 : decode cX4_carried 0 = .ok (.iload_n 0, 1) := by decide +kernel
theorem dX4_carried_1 : decode cX4_carried 1 = .ok (.iconst 1, 1) := by decide +kernel
theorem dX4_carried_2 : decode cX4_carried 2 = .ok (.iload_n 1, 1) := by decide +kernel
theorem dX4_carried_3 : decode cX4_carried 3 = .ok (.ishl, 1) := by decide +kernel
theorem dX4_carried_4 : decode cX4_carried 4 = .ok (.iconst (-1), 1) := by decide +kernel
theorem dX4_carried_5 : decode cX4_carried 5 = .ok (.ixor, 1) := by decide +kernel
theorem dX4_carried_6 : decode cX4_carried 6 = .ok (.iand, 1) := by decide +kernel
theorem dX4_carried_7 : decode cX4_carried 7 = .ok (.iconst 1, 1) := by decide +kernel
theorem dX4_carried_8 : decode cX4_carried 8 = .ok (.iload_n 2, 1) := by decide +kernel
theorem dX4_carried_9 : decode cX4_carried 9 = .ok (.ishl, 1) := by decide +kernel
theorem dX4_carried_10 : decode cX4_carried 10 = .ok (.iconst (-1), 1) := by decide +kernel
theorem dX4_carried_11 : decode cX4_carried 11 = .ok (.ixor, 1) := by decide +kernel
theorem dX4_carried_12 : decode cX4_carried 12 = .ok (.iand, 1) := by decide +kernel
theorem dX4_carried_13 : decode cX4_carried 13 = .ok (.iload_n 0, 1) := by decide +kernel
theorem dX4_carried_14 : decode cX4_carried 14 = .ok (.iload_n 1, 1) := by decide +kernel
theorem dX4_carried_15 : decode cX4_carried 15 = .ok (.iushr, 1) := by decide +kernel
theorem dX4_carried_16 : decode cX4_carried 16 = .ok (.iconst 1, 1) := by decide +kernel
theorem dX4_carried_17 : decode cX4_carried 17 = .ok (.iand, 1) := by decide +kernel
theorem dX4_carried_18 : decode cX4_carried 18 = .ok (.iload_n 2, 1) := by decide +kernel
theorem dX4_carried_19 : decode cX4_carried 19 = .ok (.ishl, 1) := by decide +kernel
theorem dX4_carried_20 : decode cX4_carried 20 = .ok (.ior, 1) := by decide +kernel
theorem dX4_carried_21 : decode cX4_carried 21 = .ok (.ireturn, 1) := by decide +kernel
def rm_X4_carried : Room := { frames := 0, cells := 0, slots := 0, locals := 0 }
set_option maxRecDepth 100000 in
set_option maxHeartbeats 4000000 in
theorem c_X4_carried (l : Launch) (E : zE) (hV : zV E) (H0 : Heap) (hT0 : HT E H0) (p0 : Int32) (p1 : Int32) (p2 : Int32) : Met l yX4_carried (zws yX4_carried cX4_carried 3 (some .int)) rm_X4_carried (zP E H0 [.int p0, .int p1, .int p2]) (zPI (fun r => True)) 0 0 (fun _ => False) := by
  refine zEnt (by decide) (Nat.le_of_ble_eq_true rfl) (fun p e s m args below meth c ls Q B hr hlk hh hQ hl => ?_)
  have hx := B.1
  have hb := B.2.1
  have hl : lv_has ls 3 [(0, .int p0), (1, .int p1), (2, .int p2)] := hl
  refine lv_iload_n hx hb dX4_carried_0 rfl (lv_at hl 0 rfl) ?_
  refine lv_iconst (v := 1) hx hb dX4_carried_1 (by decide) ?_
  refine lv_iload_n hx hb dX4_carried_2 rfl (lv_at hl 1 rfl) ?_
  refine lv_ishl hx hb dX4_carried_3 ?_
  refine lv_topi (fun x_1 e_1 => ?_)
  refine lv_iconst (v := (-1)) hx hb dX4_carried_4 (by decide) ?_
  refine lv_ixor hx hb dX4_carried_5 ?_
  refine lv_topi (fun x_2 e_2 => ?_)
  refine lv_iand hx hb dX4_carried_6 ?_
  refine lv_topi (fun x_3 e_3 => ?_)
  refine lv_iconst (v := 1) hx hb dX4_carried_7 (by decide) ?_
  refine lv_iload_n hx hb dX4_carried_8 rfl (lv_at hl 2 rfl) ?_
  refine lv_ishl hx hb dX4_carried_9 ?_
  refine lv_topi (fun x_4 e_4 => ?_)
  refine lv_iconst (v := (-1)) hx hb dX4_carried_10 (by decide) ?_
  refine lv_ixor hx hb dX4_carried_11 ?_
  refine lv_topi (fun x_5 e_5 => ?_)
  refine lv_iand hx hb dX4_carried_12 ?_
  refine lv_topi (fun x_6 e_6 => ?_)
  refine lv_iload_n hx hb dX4_carried_13 rfl (lv_at hl 0 rfl) ?_
  refine lv_iload_n hx hb dX4_carried_14 rfl (lv_at hl 1 rfl) ?_
  refine lv_iushr hx hb dX4_carried_15 rfl ?_
  refine lv_topi (fun x_7 e_7 => ?_)
  refine lv_iconst (v := 1) hx hb dX4_carried_16 (by decide) ?_
  refine lv_iand hx hb dX4_carried_17 ?_
  refine lv_topi (fun x_8 e_8 => ?_)
  have t_8 := z_andR e_8 kl_1 (by omega)
  refine lv_iload_n hx hb dX4_carried_18 rfl (lv_at hl 2 rfl) ?_
  refine lv_ishl hx hb dX4_carried_19 ?_
  refine lv_topi (fun x_9 e_9 => ?_)
  refine lv_ior hx hb dX4_carried_20 ?_
  refine lv_topi (fun x_10 e_10 => ?_)
  exact rtPI (v := x_10) B hr hlk hh hQ rfl trivial dX4_carried_21

theorem dX4_carry_0 : decode cX4_carry 0 = .ok (.aload_n 0, 1) := by decide +kernel
theorem dX4_carry_1 : decode cX4_carry 1 = .ok (.aload_n 0, 1) := by decide +kernel
theorem dX4_carry_2 : decode cX4_carry 2 = .ok (.getfield 15, 3) := by decide +kernel
theorem dX4_carry_5 : decode cX4_carry 5 = .ok (.iload_n 1, 1) := by decide +kernel
theorem dX4_carry_6 : decode cX4_carry 6 = .ok (.iload_n 2, 1) := by decide +kernel
theorem dX4_carry_7 : decode cX4_carry 7 = .ok (.invokestatic 50, 3) := by decide +kernel
theorem dX4_carry_10 : decode cX4_carry 10 = .ok (.putfield 15, 3) := by decide +kernel
theorem dX4_carry_13 : decode cX4_carry 13 = .ok (.aload_n 0, 1) := by decide +kernel
theorem dX4_carry_14 : decode cX4_carry 14 = .ok (.aload_n 0, 1) := by decide +kernel
theorem dX4_carry_15 : decode cX4_carry 15 = .ok (.getfield 18, 3) := by decide +kernel
theorem dX4_carry_18 : decode cX4_carry 18 = .ok (.iload_n 1, 1) := by decide +kernel
theorem dX4_carry_19 : decode cX4_carry 19 = .ok (.iload_n 2, 1) := by decide +kernel
theorem dX4_carry_20 : decode cX4_carry 20 = .ok (.invokestatic 50, 3) := by decide +kernel
theorem dX4_carry_23 : decode cX4_carry 23 = .ok (.putfield 18, 3) := by decide +kernel
theorem dX4_carry_26 : decode cX4_carry 26 = .ok (.aload_n 0, 1) := by decide +kernel
theorem dX4_carry_27 : decode cX4_carry 27 = .ok (.aload_n 0, 1) := by decide +kernel
theorem dX4_carry_28 : decode cX4_carry 28 = .ok (.getfield 21, 3) := by decide +kernel
theorem dX4_carry_31 : decode cX4_carry 31 = .ok (.iload_n 1, 1) := by decide +kernel
theorem dX4_carry_32 : decode cX4_carry 32 = .ok (.iload_n 2, 1) := by decide +kernel
theorem dX4_carry_33 : decode cX4_carry 33 = .ok (.invokestatic 50, 3) := by decide +kernel
theorem dX4_carry_36 : decode cX4_carry 36 = .ok (.putfield 21, 3) := by decide +kernel
theorem dX4_carry_39 : decode cX4_carry 39 = .ok (.aload_n 0, 1) := by decide +kernel
theorem dX4_carry_40 : decode cX4_carry 40 = .ok (.aload_n 0, 1) := by decide +kernel
theorem dX4_carry_41 : decode cX4_carry 41 = .ok (.getfield 24, 3) := by decide +kernel
theorem dX4_carry_44 : decode cX4_carry 44 = .ok (.iload_n 1, 1) := by decide +kernel
theorem dX4_carry_45 : decode cX4_carry 45 = .ok (.iload_n 2, 1) := by decide +kernel
theorem dX4_carry_46 : decode cX4_carry 46 = .ok (.invokestatic 50, 3) := by decide +kernel
theorem dX4_carry_49 : decode cX4_carry 49 = .ok (.putfield 24, 3) := by decide +kernel
theorem dX4_carry_52 : decode cX4_carry 52 = .ok (.aload_n 0, 1) := by decide +kernel
theorem dX4_carry_53 : decode cX4_carry 53 = .ok (.aload_n 0, 1) := by decide +kernel
theorem dX4_carry_54 : decode cX4_carry 54 = .ok (.getfield 27, 3) := by decide +kernel
theorem dX4_carry_57 : decode cX4_carry 57 = .ok (.iload_n 1, 1) := by decide +kernel
theorem dX4_carry_58 : decode cX4_carry 58 = .ok (.iload_n 2, 1) := by decide +kernel
theorem dX4_carry_59 : decode cX4_carry 59 = .ok (.invokestatic 50, 3) := by decide +kernel
theorem dX4_carry_62 : decode cX4_carry 62 = .ok (.putfield 27, 3) := by decide +kernel
theorem dX4_carry_65 : decode cX4_carry 65 = .ok (.aload_n 0, 1) := by decide +kernel
theorem dX4_carry_66 : decode cX4_carry 66 = .ok (.aload_n 0, 1) := by decide +kernel
theorem dX4_carry_67 : decode cX4_carry 67 = .ok (.getfield 30, 3) := by decide +kernel
theorem dX4_carry_70 : decode cX4_carry 70 = .ok (.iload_n 1, 1) := by decide +kernel
theorem dX4_carry_71 : decode cX4_carry 71 = .ok (.iload_n 2, 1) := by decide +kernel
theorem dX4_carry_72 : decode cX4_carry 72 = .ok (.invokestatic 50, 3) := by decide +kernel
theorem dX4_carry_75 : decode cX4_carry 75 = .ok (.putfield 30, 3) := by decide +kernel
theorem dX4_carry_78 : decode cX4_carry 78 = .ok (.aload_n 0, 1) := by decide +kernel
theorem dX4_carry_79 : decode cX4_carry 79 = .ok (.iconst 1, 1) := by decide +kernel
theorem dX4_carry_80 : decode cX4_carry 80 = .ok (.aload_n 0, 1) := by decide +kernel
theorem dX4_carry_81 : decode cX4_carry 81 = .ok (.getfield 9, 3) := by decide +kernel
theorem dX4_carry_84 : decode cX4_carry 84 = .ok (.isub, 1) := by decide +kernel
theorem dX4_carry_85 : decode cX4_carry 85 = .ok (.putfield 9, 3) := by decide +kernel
theorem dX4_carry_88 : decode cX4_carry 88 = .ok (.return_, 1) := by decide +kernel
def rm_X4_carry : Room := { frames := 1, cells := 0, slots := 0, locals := 22 }
abbrev wS_X4_carry : List (Nat × Nat) := [(5, 0), (5, 1), (5, 2), (5, 3), (5, 4), (5, 5), (5, 6)]
set_option maxRecDepth 100000 in
set_option maxHeartbeats 4000000 in
theorem c_X4_carry (l : Launch) (E : zE) (hV : zV E) (H0 : Heap) (hT0 : HT E H0) (h0 : Nat) (kh0 : eK E h0 = 5) (p0 : Int32) (p1 : Int32) : Met l yX4_carry (zws yX4_carry cX4_carry 3 none) rm_X4_carry (zP E H0 [.ref h0, .int p0, .int p1]) (zQV E E wS_X4_carry (fun H1 => True)) 0 0 (zfr E) := by
  refine zEnt (by decide) (Nat.le_of_ble_eq_true rfl) (fun p e s m args below meth c ls Q B hr hlk hh hQ hl => ?_)
  have hx := B.1
  have hb := B.2.1
  have hG0 : zG E wS_X4_carry H0 H0 [] := zG.rf hT0
  have hl : lv_has ls 3 [(0, .ref h0), (1, .int p0), (2, .int p1)] := hl
  refine lv_aload_n hx hb dX4_carry_0 rfl (lv_at hl 0 rfl) ?_
  refine lv_aload_n hx hb dX4_carry_1 rfl (lv_at hl 0 rfl) ?_
  refine g_getI B fl_RX4_15 hT0 kh0 rfl rfl rfl rfl rfl dX4_carry_2 (fun x_1 s_1 a_1 b_1 => ?_)
  refine lv_iload_n hx hb dX4_carry_5 rfl (lv_at hl 1 rfl) ?_
  refine lv_iload_n hx hb dX4_carry_6 rfl (lv_at hl 2 rfl) ?_
  refine zkPI (zrS (rest := [.ref h0]) B (c_X4_carried l E hV H0 hT0 x_1 p0 p1) cs_RX4_50 rfl hl.1 rfl (Nat.le_of_ble_eq_true rfl) dX4_carry_7 rfl rfl ⟨rfl, rfl⟩ ⟨Nat.zero_le _, Nat.zero_le _⟩ (zO.of hG0 hh)) (fun x_2 hp_2 => ?_)
  refine g_putI B fp_RX4_15 hV hG0 kh0 rfl rfl rfl rfl rfl (z_rng _).1 (z_rng _).2 rfl dX4_carry_10 (fun H3 lc3 gH3 uH3 => ?_)
  refine lv_aload_n hx hb dX4_carry_13 rfl (lv_at hl 0 rfl) ?_
  refine lv_aload_n hx hb dX4_carry_14 rfl (lv_at hl 0 rfl) ?_
  refine g_getI B fl_RX4_18 gH3.1 kh0 rfl rfl rfl rfl rfl dX4_carry_15 (fun x_4 s_4 a_4 b_4 => ?_)
  refine lv_iload_n hx hb dX4_carry_18 rfl (lv_at hl 1 rfl) ?_
  refine lv_iload_n hx hb dX4_carry_19 rfl (lv_at hl 2 rfl) ?_
  refine zkPI (zrS (rest := [.ref h0]) B (c_X4_carried l E hV H3 gH3.1 x_4 p0 p1) cs_RX4_50 rfl hl.1 rfl (Nat.le_of_ble_eq_true rfl) dX4_carry_20 rfl rfl ⟨rfl, rfl⟩ ⟨Nat.zero_le _, Nat.zero_le _⟩ (zO.of gH3 hh)) (fun x_5 hp_5 => ?_)
  refine g_putI B fp_RX4_18 hV gH3 kh0 rfl rfl rfl rfl rfl (z_rng _).1 (z_rng _).2 rfl dX4_carry_23 (fun H6 lc6 gH6 uH6 => ?_)
  refine lv_aload_n hx hb dX4_carry_26 rfl (lv_at hl 0 rfl) ?_
  refine lv_aload_n hx hb dX4_carry_27 rfl (lv_at hl 0 rfl) ?_
  refine g_getI B fl_RX4_21 gH6.1 kh0 rfl rfl rfl rfl rfl dX4_carry_28 (fun x_7 s_7 a_7 b_7 => ?_)
  refine lv_iload_n hx hb dX4_carry_31 rfl (lv_at hl 1 rfl) ?_
  refine lv_iload_n hx hb dX4_carry_32 rfl (lv_at hl 2 rfl) ?_
  refine zkPI (zrS (rest := [.ref h0]) B (c_X4_carried l E hV H6 gH6.1 x_7 p0 p1) cs_RX4_50 rfl hl.1 rfl (Nat.le_of_ble_eq_true rfl) dX4_carry_33 rfl rfl ⟨rfl, rfl⟩ ⟨Nat.zero_le _, Nat.zero_le _⟩ (zO.of gH6 hh)) (fun x_8 hp_8 => ?_)
  refine g_putI B fp_RX4_21 hV gH6 kh0 rfl rfl rfl rfl rfl (z_rng _).1 (z_rng _).2 rfl dX4_carry_36 (fun H9 lc9 gH9 uH9 => ?_)
  refine lv_aload_n hx hb dX4_carry_39 rfl (lv_at hl 0 rfl) ?_
  refine lv_aload_n hx hb dX4_carry_40 rfl (lv_at hl 0 rfl) ?_
  refine g_getI B fl_RX4_24 gH9.1 kh0 rfl rfl rfl rfl rfl dX4_carry_41 (fun x_10 s_10 a_10 b_10 => ?_)
  refine lv_iload_n hx hb dX4_carry_44 rfl (lv_at hl 1 rfl) ?_
  refine lv_iload_n hx hb dX4_carry_45 rfl (lv_at hl 2 rfl) ?_
  refine zkPI (zrS (rest := [.ref h0]) B (c_X4_carried l E hV H9 gH9.1 x_10 p0 p1) cs_RX4_50 rfl hl.1 rfl (Nat.le_of_ble_eq_true rfl) dX4_carry_46 rfl rfl ⟨rfl, rfl⟩ ⟨Nat.zero_le _, Nat.zero_le _⟩ (zO.of gH9 hh)) (fun x_11 hp_11 => ?_)
  refine g_putI B fp_RX4_24 hV gH9 kh0 rfl rfl rfl rfl rfl (z_rng _).1 (z_rng _).2 rfl dX4_carry_49 (fun H12 lc12 gH12 uH12 => ?_)
  refine lv_aload_n hx hb dX4_carry_52 rfl (lv_at hl 0 rfl) ?_
  refine lv_aload_n hx hb dX4_carry_53 rfl (lv_at hl 0 rfl) ?_
  refine g_getI B fl_RX4_27 gH12.1 kh0 rfl rfl rfl rfl rfl dX4_carry_54 (fun x_13 s_13 a_13 b_13 => ?_)
  refine lv_iload_n hx hb dX4_carry_57 rfl (lv_at hl 1 rfl) ?_
  refine lv_iload_n hx hb dX4_carry_58 rfl (lv_at hl 2 rfl) ?_
  refine zkPI (zrS (rest := [.ref h0]) B (c_X4_carried l E hV H12 gH12.1 x_13 p0 p1) cs_RX4_50 rfl hl.1 rfl (Nat.le_of_ble_eq_true rfl) dX4_carry_59 rfl rfl ⟨rfl, rfl⟩ ⟨Nat.zero_le _, Nat.zero_le _⟩ (zO.of gH12 hh)) (fun x_14 hp_14 => ?_)
  refine g_putI B fp_RX4_27 hV gH12 kh0 rfl rfl rfl rfl rfl (z_rng _).1 (z_rng _).2 rfl dX4_carry_62 (fun H15 lc15 gH15 uH15 => ?_)
  refine lv_aload_n hx hb dX4_carry_65 rfl (lv_at hl 0 rfl) ?_
  refine lv_aload_n hx hb dX4_carry_66 rfl (lv_at hl 0 rfl) ?_
  refine g_getI B fl_RX4_30 gH15.1 kh0 rfl rfl rfl rfl rfl dX4_carry_67 (fun x_16 s_16 a_16 b_16 => ?_)
  refine lv_iload_n hx hb dX4_carry_70 rfl (lv_at hl 1 rfl) ?_
  refine lv_iload_n hx hb dX4_carry_71 rfl (lv_at hl 2 rfl) ?_
  refine zkPI (zrS (rest := [.ref h0]) B (c_X4_carried l E hV H15 gH15.1 x_16 p0 p1) cs_RX4_50 rfl hl.1 rfl (Nat.le_of_ble_eq_true rfl) dX4_carry_72 rfl rfl ⟨rfl, rfl⟩ ⟨Nat.zero_le _, Nat.zero_le _⟩ (zO.of gH15 hh)) (fun x_17 hp_17 => ?_)
  refine g_putI B fp_RX4_30 hV gH15 kh0 rfl rfl rfl rfl rfl (z_rng _).1 (z_rng _).2 rfl dX4_carry_75 (fun H18 lc18 gH18 uH18 => ?_)
  refine lv_aload_n hx hb dX4_carry_78 rfl (lv_at hl 0 rfl) ?_
  refine lv_iconst (v := 1) hx hb dX4_carry_79 (by decide) ?_
  refine lv_aload_n hx hb dX4_carry_80 rfl (lv_at hl 0 rfl) ?_
  refine g_getI B fl_RX4_9 gH18.1 kh0 rfl rfl rfl rfl rfl dX4_carry_81 (fun x_19 s_19 a_19 b_19 => ?_)
  refine lv_isub hx hb dX4_carry_84 ?_
  refine lv_topi (fun x_20 e_20 => ?_)
  have t_20 := z_sub e_20 kl_1 rfl (by omega) (by omega)
  refine g_putI B fp_RX4_9 hV gH18 kh0 rfl rfl rfl rfl rfl (by omega) (by omega) rfl dX4_carry_85 (fun H21 lc21 gH21 uH21 => ?_)
  exact rtV B hr hlk hh hQ gH21 trivial dX4_carry_88

theorem dX4_clear_0 : decode cX4_clear 0 = .ok (.aload_n 0, 1) := by decide +kernel
theorem dX4_clear_1 : decode cX4_clear 1 = .ok (.iconst 0, 1) := by decide +kernel
theorem dX4_clear_2 : decode cX4_clear 2 = .ok (.putfield 9, 3) := by decide +kernel
theorem dX4_clear_5 : decode cX4_clear 5 = .ok (.aload_n 0, 1) := by decide +kernel
theorem dX4_clear_6 : decode cX4_clear 6 = .ok (.iconst 0, 1) := by decide +kernel
theorem dX4_clear_7 : decode cX4_clear 7 = .ok (.putfield 15, 3) := by decide +kernel
theorem dX4_clear_10 : decode cX4_clear 10 = .ok (.aload_n 0, 1) := by decide +kernel
theorem dX4_clear_11 : decode cX4_clear 11 = .ok (.iconst 0, 1) := by decide +kernel
theorem dX4_clear_12 : decode cX4_clear 12 = .ok (.putfield 18, 3) := by decide +kernel
theorem dX4_clear_15 : decode cX4_clear 15 = .ok (.aload_n 0, 1) := by decide +kernel
theorem dX4_clear_16 : decode cX4_clear 16 = .ok (.iconst 0, 1) := by decide +kernel
theorem dX4_clear_17 : decode cX4_clear 17 = .ok (.putfield 21, 3) := by decide +kernel
theorem dX4_clear_20 : decode cX4_clear 20 = .ok (.aload_n 0, 1) := by decide +kernel
theorem dX4_clear_21 : decode cX4_clear 21 = .ok (.iconst 0, 1) := by decide +kernel
theorem dX4_clear_22 : decode cX4_clear 22 = .ok (.putfield 24, 3) := by decide +kernel
theorem dX4_clear_25 : decode cX4_clear 25 = .ok (.aload_n 0, 1) := by decide +kernel
theorem dX4_clear_26 : decode cX4_clear 26 = .ok (.iconst 0, 1) := by decide +kernel
theorem dX4_clear_27 : decode cX4_clear 27 = .ok (.putfield 27, 3) := by decide +kernel
theorem dX4_clear_30 : decode cX4_clear 30 = .ok (.aload_n 0, 1) := by decide +kernel
theorem dX4_clear_31 : decode cX4_clear 31 = .ok (.iconst 0, 1) := by decide +kernel
theorem dX4_clear_32 : decode cX4_clear 32 = .ok (.putfield 30, 3) := by decide +kernel
theorem dX4_clear_35 : decode cX4_clear 35 = .ok (.return_, 1) := by decide +kernel
def rm_X4_clear : Room := { frames := 0, cells := 0, slots := 0, locals := 0 }
abbrev wS_X4_clear : List (Nat × Nat) := [(5, 0), (5, 1), (5, 2), (5, 3), (5, 4), (5, 5), (5, 6)]
set_option maxRecDepth 100000 in
set_option maxHeartbeats 4000000 in
theorem c_X4_clear (l : Launch) (E : zE) (hV : zV E) (H0 : Heap) (hT0 : HT E H0) (h0 : Nat) (kh0 : eK E h0 = 5) : Met l yX4_clear (zws yX4_clear cX4_clear 1 none) rm_X4_clear (zP E H0 [.ref h0]) (zQV E E wS_X4_clear (fun H1 => True)) 0 0 (zfr E) := by
  refine zEnt (by decide) (Nat.le_of_ble_eq_true rfl) (fun p e s m args below meth c ls Q B hr hlk hh hQ hl => ?_)
  have hx := B.1
  have hb := B.2.1
  have hG0 : zG E wS_X4_clear H0 H0 [] := zG.rf hT0
  have hl : lv_has ls 1 [(0, .ref h0)] := hl
  refine lv_aload_n hx hb dX4_clear_0 rfl (lv_at hl 0 rfl) ?_
  refine lv_iconst (v := 0) hx hb dX4_clear_1 (by decide) ?_
  have := kl_0
  refine g_putI B fp_RX4_9 hV hG0 kh0 rfl rfl rfl rfl rfl (by omega) (by omega) rfl dX4_clear_2 (fun H1 lc1 gH1 uH1 => ?_)
  refine lv_aload_n hx hb dX4_clear_5 rfl (lv_at hl 0 rfl) ?_
  refine lv_iconst (v := 0) hx hb dX4_clear_6 (by decide) ?_
  have := kl_0
  refine g_putI B fp_RX4_15 hV gH1 kh0 rfl rfl rfl rfl rfl (z_rng _).1 (z_rng _).2 rfl dX4_clear_7 (fun H2 lc2 gH2 uH2 => ?_)
  refine lv_aload_n hx hb dX4_clear_10 rfl (lv_at hl 0 rfl) ?_
  refine lv_iconst (v := 0) hx hb dX4_clear_11 (by decide) ?_
  have := kl_0
  refine g_putI B fp_RX4_18 hV gH2 kh0 rfl rfl rfl rfl rfl (z_rng _).1 (z_rng _).2 rfl dX4_clear_12 (fun H3 lc3 gH3 uH3 => ?_)
  refine lv_aload_n hx hb dX4_clear_15 rfl (lv_at hl 0 rfl) ?_
  refine lv_iconst (v := 0) hx hb dX4_clear_16 (by decide) ?_
  have := kl_0
  refine g_putI B fp_RX4_21 hV gH3 kh0 rfl rfl rfl rfl rfl (z_rng _).1 (z_rng _).2 rfl dX4_clear_17 (fun H4 lc4 gH4 uH4 => ?_)
  refine lv_aload_n hx hb dX4_clear_20 rfl (lv_at hl 0 rfl) ?_
  refine lv_iconst (v := 0) hx hb dX4_clear_21 (by decide) ?_
  have := kl_0
  refine g_putI B fp_RX4_24 hV gH4 kh0 rfl rfl rfl rfl rfl (z_rng _).1 (z_rng _).2 rfl dX4_clear_22 (fun H5 lc5 gH5 uH5 => ?_)
  refine lv_aload_n hx hb dX4_clear_25 rfl (lv_at hl 0 rfl) ?_
  refine lv_iconst (v := 0) hx hb dX4_clear_26 (by decide) ?_
  have := kl_0
  refine g_putI B fp_RX4_27 hV gH5 kh0 rfl rfl rfl rfl rfl (z_rng _).1 (z_rng _).2 rfl dX4_clear_27 (fun H6 lc6 gH6 uH6 => ?_)
  refine lv_aload_n hx hb dX4_clear_30 rfl (lv_at hl 0 rfl) ?_
  refine lv_iconst (v := 0) hx hb dX4_clear_31 (by decide) ?_
  have := kl_0
  refine g_putI B fp_RX4_30 hV gH6 kh0 rfl rfl rfl rfl rfl (z_rng _).1 (z_rng _).2 rfl dX4_clear_32 (fun H7 lc7 gH7 uH7 => ?_)
  exact rtV B hr hlk hh hQ gH7 trivial dX4_clear_35

theorem dX4_copyOf_0 : decode cX4_copyOf 0 = .ok (.aload_n 0, 1) := by decide +kernel
theorem dX4_copyOf_1 : decode cX4_copyOf 1 = .ok (.aload_n 1, 1) := by decide +kernel
theorem dX4_copyOf_2 : decode cX4_copyOf 2 = .ok (.getfield 9, 3) := by decide +kernel
theorem dX4_copyOf_5 : decode cX4_copyOf 5 = .ok (.putfield 9, 3) := by decide +kernel
theorem dX4_copyOf_8 : decode cX4_copyOf 8 = .ok (.aload_n 0, 1) := by decide +kernel
theorem dX4_copyOf_9 : decode cX4_copyOf 9 = .ok (.aload_n 1, 1) := by decide +kernel
theorem dX4_copyOf_10 : decode cX4_copyOf 10 = .ok (.getfield 15, 3) := by decide +kernel
theorem dX4_copyOf_13 : decode cX4_copyOf 13 = .ok (.putfield 15, 3) := by decide +kernel
theorem dX4_copyOf_16 : decode cX4_copyOf 16 = .ok (.aload_n 0, 1) := by decide +kernel
theorem dX4_copyOf_17 : decode cX4_copyOf 17 = .ok (.aload_n 1, 1) := by decide +kernel
theorem dX4_copyOf_18 : decode cX4_copyOf 18 = .ok (.getfield 18, 3) := by decide +kernel
theorem dX4_copyOf_21 : decode cX4_copyOf 21 = .ok (.putfield 18, 3) := by decide +kernel
theorem dX4_copyOf_24 : decode cX4_copyOf 24 = .ok (.aload_n 0, 1) := by decide +kernel
theorem dX4_copyOf_25 : decode cX4_copyOf 25 = .ok (.aload_n 1, 1) := by decide +kernel
theorem dX4_copyOf_26 : decode cX4_copyOf 26 = .ok (.getfield 21, 3) := by decide +kernel
theorem dX4_copyOf_29 : decode cX4_copyOf 29 = .ok (.putfield 21, 3) := by decide +kernel
theorem dX4_copyOf_32 : decode cX4_copyOf 32 = .ok (.aload_n 0, 1) := by decide +kernel
theorem dX4_copyOf_33 : decode cX4_copyOf 33 = .ok (.aload_n 1, 1) := by decide +kernel
theorem dX4_copyOf_34 : decode cX4_copyOf 34 = .ok (.getfield 24, 3) := by decide +kernel
theorem dX4_copyOf_37 : decode cX4_copyOf 37 = .ok (.putfield 24, 3) := by decide +kernel
theorem dX4_copyOf_40 : decode cX4_copyOf 40 = .ok (.aload_n 0, 1) := by decide +kernel
theorem dX4_copyOf_41 : decode cX4_copyOf 41 = .ok (.aload_n 1, 1) := by decide +kernel
theorem dX4_copyOf_42 : decode cX4_copyOf 42 = .ok (.getfield 27, 3) := by decide +kernel
theorem dX4_copyOf_45 : decode cX4_copyOf 45 = .ok (.putfield 27, 3) := by decide +kernel
theorem dX4_copyOf_48 : decode cX4_copyOf 48 = .ok (.aload_n 0, 1) := by decide +kernel
theorem dX4_copyOf_49 : decode cX4_copyOf 49 = .ok (.aload_n 1, 1) := by decide +kernel
theorem dX4_copyOf_50 : decode cX4_copyOf 50 = .ok (.getfield 30, 3) := by decide +kernel
theorem dX4_copyOf_53 : decode cX4_copyOf 53 = .ok (.putfield 30, 3) := by decide +kernel
theorem dX4_copyOf_56 : decode cX4_copyOf 56 = .ok (.return_, 1) := by decide +kernel
def rm_X4_copyOf : Room := { frames := 0, cells := 0, slots := 0, locals := 0 }
abbrev wS_X4_copyOf : List (Nat × Nat) := [(5, 0), (5, 1), (5, 2), (5, 3), (5, 4), (5, 5), (5, 6)]
set_option maxRecDepth 100000 in
set_option maxHeartbeats 4000000 in
theorem c_X4_copyOf (l : Launch) (E : zE) (hV : zV E) (H0 : Heap) (hT0 : HT E H0) (h0 : Nat) (kh0 : eK E h0 = 5) (p0 : Nat) (kp0 : eK E p0 = 5) : Met l yX4_copyOf (zws yX4_copyOf cX4_copyOf 2 none) rm_X4_copyOf (zP E H0 [.ref h0, .ref p0]) (zQV E E wS_X4_copyOf (fun H1 => True)) 0 0 (zfr E) := by
  refine zEnt (by decide) (Nat.le_of_ble_eq_true rfl) (fun p e s m args below meth c ls Q B hr hlk hh hQ hl => ?_)
  have hx := B.1
  have hb := B.2.1
  have hG0 : zG E wS_X4_copyOf H0 H0 [] := zG.rf hT0
  have hl : lv_has ls 2 [(0, .ref h0), (1, .ref p0)] := hl
  refine lv_aload_n hx hb dX4_copyOf_0 rfl (lv_at hl 0 rfl) ?_
  refine lv_aload_n hx hb dX4_copyOf_1 rfl (lv_at hl 1 rfl) ?_
  refine g_getI B fl_RX4_9 hT0 kp0 rfl rfl rfl rfl rfl dX4_copyOf_2 (fun x_1 s_1 a_1 b_1 => ?_)
  refine g_putI B fp_RX4_9 hV hG0 kh0 rfl rfl rfl rfl rfl (by omega) (by omega) rfl dX4_copyOf_5 (fun H2 lc2 gH2 uH2 => ?_)
  refine lv_aload_n hx hb dX4_copyOf_8 rfl (lv_at hl 0 rfl) ?_
  refine lv_aload_n hx hb dX4_copyOf_9 rfl (lv_at hl 1 rfl) ?_
  refine g_getI B fl_RX4_15 gH2.1 kp0 rfl rfl rfl rfl rfl dX4_copyOf_10 (fun x_3 s_3 a_3 b_3 => ?_)
  refine g_putI B fp_RX4_15 hV gH2 kh0 rfl rfl rfl rfl rfl (z_rng _).1 (z_rng _).2 rfl dX4_copyOf_13 (fun H4 lc4 gH4 uH4 => ?_)
  refine lv_aload_n hx hb dX4_copyOf_16 rfl (lv_at hl 0 rfl) ?_
  refine lv_aload_n hx hb dX4_copyOf_17 rfl (lv_at hl 1 rfl) ?_
  refine g_getI B fl_RX4_18 gH4.1 kp0 rfl rfl rfl rfl rfl dX4_copyOf_18 (fun x_5 s_5 a_5 b_5 => ?_)
  refine g_putI B fp_RX4_18 hV gH4 kh0 rfl rfl rfl rfl rfl (z_rng _).1 (z_rng _).2 rfl dX4_copyOf_21 (fun H6 lc6 gH6 uH6 => ?_)
  refine lv_aload_n hx hb dX4_copyOf_24 rfl (lv_at hl 0 rfl) ?_
  refine lv_aload_n hx hb dX4_copyOf_25 rfl (lv_at hl 1 rfl) ?_
  refine g_getI B fl_RX4_21 gH6.1 kp0 rfl rfl rfl rfl rfl dX4_copyOf_26 (fun x_7 s_7 a_7 b_7 => ?_)
  refine g_putI B fp_RX4_21 hV gH6 kh0 rfl rfl rfl rfl rfl (z_rng _).1 (z_rng _).2 rfl dX4_copyOf_29 (fun H8 lc8 gH8 uH8 => ?_)
  refine lv_aload_n hx hb dX4_copyOf_32 rfl (lv_at hl 0 rfl) ?_
  refine lv_aload_n hx hb dX4_copyOf_33 rfl (lv_at hl 1 rfl) ?_
  refine g_getI B fl_RX4_24 gH8.1 kp0 rfl rfl rfl rfl rfl dX4_copyOf_34 (fun x_9 s_9 a_9 b_9 => ?_)
  refine g_putI B fp_RX4_24 hV gH8 kh0 rfl rfl rfl rfl rfl (z_rng _).1 (z_rng _).2 rfl dX4_copyOf_37 (fun H10 lc10 gH10 uH10 => ?_)
  refine lv_aload_n hx hb dX4_copyOf_40 rfl (lv_at hl 0 rfl) ?_
  refine lv_aload_n hx hb dX4_copyOf_41 rfl (lv_at hl 1 rfl) ?_
  refine g_getI B fl_RX4_27 gH10.1 kp0 rfl rfl rfl rfl rfl dX4_copyOf_42 (fun x_11 s_11 a_11 b_11 => ?_)
  refine g_putI B fp_RX4_27 hV gH10 kh0 rfl rfl rfl rfl rfl (z_rng _).1 (z_rng _).2 rfl dX4_copyOf_45 (fun H12 lc12 gH12 uH12 => ?_)
  refine lv_aload_n hx hb dX4_copyOf_48 rfl (lv_at hl 0 rfl) ?_
  refine lv_aload_n hx hb dX4_copyOf_49 rfl (lv_at hl 1 rfl) ?_
  refine g_getI B fl_RX4_30 gH12.1 kp0 rfl rfl rfl rfl rfl dX4_copyOf_50 (fun x_13 s_13 a_13 b_13 => ?_)
  refine g_putI B fp_RX4_30 hV gH12 kh0 rfl rfl rfl rfl rfl (z_rng _).1 (z_rng _).2 rfl dX4_copyOf_53 (fun H14 lc14 gH14 uH14 => ?_)
  exact rtV B hr hlk hh hQ gH14 trivial dX4_copyOf_56

theorem dX4_unlikeSquares_0 : decode cX4_unlikeSquares 0 = .ok (.aload_n 0, 1) := by decide +kernel
theorem dX4_unlikeSquares_1 : decode cX4_unlikeSquares 1 = .ok (.getfield 15, 3) := by decide +kernel
theorem dX4_unlikeSquares_4 : decode cX4_unlikeSquares 4 = .ok (.aload_n 1, 1) := by decide +kernel
theorem dX4_unlikeSquares_5 : decode cX4_unlikeSquares 5 = .ok (.getfield 15, 3) := by decide +kernel
theorem dX4_unlikeSquares_8 : decode cX4_unlikeSquares 8 = .ok (.ixor, 1) := by decide +kernel
theorem dX4_unlikeSquares_9 : decode cX4_unlikeSquares 9 = .ok (.aload_n 0, 1) := by decide +kernel
theorem dX4_unlikeSquares_10 : decode cX4_unlikeSquares 10 = .ok (.getfield 18, 3) := by decide +kernel
theorem dX4_unlikeSquares_13 : decode cX4_unlikeSquares 13 = .ok (.aload_n 1, 1) := by decide +kernel
theorem dX4_unlikeSquares_14 : decode cX4_unlikeSquares 14 = .ok (.getfield 18, 3) := by decide +kernel
theorem dX4_unlikeSquares_17 : decode cX4_unlikeSquares 17 = .ok (.ixor, 1) := by decide +kernel
theorem dX4_unlikeSquares_18 : decode cX4_unlikeSquares 18 = .ok (.ior, 1) := by decide +kernel
theorem dX4_unlikeSquares_19 : decode cX4_unlikeSquares 19 = .ok (.aload_n 0, 1) := by decide +kernel
theorem dX4_unlikeSquares_20 : decode cX4_unlikeSquares 20 = .ok (.getfield 24, 3) := by decide +kernel
theorem dX4_unlikeSquares_23 : decode cX4_unlikeSquares 23 = .ok (.aload_n 1, 1) := by decide +kernel
theorem dX4_unlikeSquares_24 : decode cX4_unlikeSquares 24 = .ok (.getfield 24, 3) := by decide +kernel
theorem dX4_unlikeSquares_27 : decode cX4_unlikeSquares 27 = .ok (.ixor, 1) := by decide +kernel
theorem dX4_unlikeSquares_28 : decode cX4_unlikeSquares 28 = .ok (.ior, 1) := by decide +kernel
theorem dX4_unlikeSquares_29 : decode cX4_unlikeSquares 29 = .ok (.aload_n 0, 1) := by decide +kernel
theorem dX4_unlikeSquares_30 : decode cX4_unlikeSquares 30 = .ok (.getfield 27, 3) := by decide +kernel
theorem dX4_unlikeSquares_33 : decode cX4_unlikeSquares 33 = .ok (.aload_n 1, 1) := by decide +kernel
theorem dX4_unlikeSquares_34 : decode cX4_unlikeSquares 34 = .ok (.getfield 27, 3) := by decide +kernel
theorem dX4_unlikeSquares_37 : decode cX4_unlikeSquares 37 = .ok (.ixor, 1) := by decide +kernel
theorem dX4_unlikeSquares_38 : decode cX4_unlikeSquares 38 = .ok (.ior, 1) := by decide +kernel
theorem dX4_unlikeSquares_39 : decode cX4_unlikeSquares 39 = .ok (.aload_n 0, 1) := by decide +kernel
theorem dX4_unlikeSquares_40 : decode cX4_unlikeSquares 40 = .ok (.getfield 30, 3) := by decide +kernel
theorem dX4_unlikeSquares_43 : decode cX4_unlikeSquares 43 = .ok (.aload_n 1, 1) := by decide +kernel
theorem dX4_unlikeSquares_44 : decode cX4_unlikeSquares 44 = .ok (.getfield 30, 3) := by decide +kernel
theorem dX4_unlikeSquares_47 : decode cX4_unlikeSquares 47 = .ok (.ixor, 1) := by decide +kernel
theorem dX4_unlikeSquares_48 : decode cX4_unlikeSquares 48 = .ok (.ior, 1) := by decide +kernel
theorem dX4_unlikeSquares_49 : decode cX4_unlikeSquares 49 = .ok (.ireturn, 1) := by decide +kernel
def rm_X4_unlikeSquares : Room := { frames := 0, cells := 0, slots := 0, locals := 0 }
set_option maxRecDepth 100000 in
set_option maxHeartbeats 4000000 in
theorem c_X4_unlikeSquares (l : Launch) (E : zE) (hV : zV E) (H0 : Heap) (hT0 : HT E H0) (h0 : Nat) (kh0 : eK E h0 = 5) (p0 : Nat) (kp0 : eK E p0 = 5) : Met l yX4_unlikeSquares (zws yX4_unlikeSquares cX4_unlikeSquares 2 (some .int)) rm_X4_unlikeSquares (zP E H0 [.ref h0, .ref p0]) (zPI (fun r => True)) 0 0 (fun _ => False) := by
  refine zEnt (by decide) (Nat.le_of_ble_eq_true rfl) (fun p e s m args below meth c ls Q B hr hlk hh hQ hl => ?_)
  have hx := B.1
  have hb := B.2.1
  have hl : lv_has ls 2 [(0, .ref h0), (1, .ref p0)] := hl
  refine lv_aload_n hx hb dX4_unlikeSquares_0 rfl (lv_at hl 0 rfl) ?_
  refine g_getI B fl_RX4_15 hT0 kh0 rfl rfl rfl rfl rfl dX4_unlikeSquares_1 (fun x_1 s_1 a_1 b_1 => ?_)
  refine lv_aload_n hx hb dX4_unlikeSquares_4 rfl (lv_at hl 1 rfl) ?_
  refine g_getI B fl_RX4_15 hT0 kp0 rfl rfl rfl rfl rfl dX4_unlikeSquares_5 (fun x_2 s_2 a_2 b_2 => ?_)
  refine lv_ixor hx hb dX4_unlikeSquares_8 ?_
  refine lv_topi (fun x_3 e_3 => ?_)
  refine lv_aload_n hx hb dX4_unlikeSquares_9 rfl (lv_at hl 0 rfl) ?_
  refine g_getI B fl_RX4_18 hT0 kh0 rfl rfl rfl rfl rfl dX4_unlikeSquares_10 (fun x_4 s_4 a_4 b_4 => ?_)
  refine lv_aload_n hx hb dX4_unlikeSquares_13 rfl (lv_at hl 1 rfl) ?_
  refine g_getI B fl_RX4_18 hT0 kp0 rfl rfl rfl rfl rfl dX4_unlikeSquares_14 (fun x_5 s_5 a_5 b_5 => ?_)
  refine lv_ixor hx hb dX4_unlikeSquares_17 ?_
  refine lv_topi (fun x_6 e_6 => ?_)
  refine lv_ior hx hb dX4_unlikeSquares_18 ?_
  refine lv_topi (fun x_7 e_7 => ?_)
  refine lv_aload_n hx hb dX4_unlikeSquares_19 rfl (lv_at hl 0 rfl) ?_
  refine g_getI B fl_RX4_24 hT0 kh0 rfl rfl rfl rfl rfl dX4_unlikeSquares_20 (fun x_8 s_8 a_8 b_8 => ?_)
  refine lv_aload_n hx hb dX4_unlikeSquares_23 rfl (lv_at hl 1 rfl) ?_
  refine g_getI B fl_RX4_24 hT0 kp0 rfl rfl rfl rfl rfl dX4_unlikeSquares_24 (fun x_9 s_9 a_9 b_9 => ?_)
  refine lv_ixor hx hb dX4_unlikeSquares_27 ?_
  refine lv_topi (fun x_10 e_10 => ?_)
  refine lv_ior hx hb dX4_unlikeSquares_28 ?_
  refine lv_topi (fun x_11 e_11 => ?_)
  refine lv_aload_n hx hb dX4_unlikeSquares_29 rfl (lv_at hl 0 rfl) ?_
  refine g_getI B fl_RX4_27 hT0 kh0 rfl rfl rfl rfl rfl dX4_unlikeSquares_30 (fun x_12 s_12 a_12 b_12 => ?_)
  refine lv_aload_n hx hb dX4_unlikeSquares_33 rfl (lv_at hl 1 rfl) ?_
  refine g_getI B fl_RX4_27 hT0 kp0 rfl rfl rfl rfl rfl dX4_unlikeSquares_34 (fun x_13 s_13 a_13 b_13 => ?_)
  refine lv_ixor hx hb dX4_unlikeSquares_37 ?_
  refine lv_topi (fun x_14 e_14 => ?_)
  refine lv_ior hx hb dX4_unlikeSquares_38 ?_
  refine lv_topi (fun x_15 e_15 => ?_)
  refine lv_aload_n hx hb dX4_unlikeSquares_39 rfl (lv_at hl 0 rfl) ?_
  refine g_getI B fl_RX4_30 hT0 kh0 rfl rfl rfl rfl rfl dX4_unlikeSquares_40 (fun x_16 s_16 a_16 b_16 => ?_)
  refine lv_aload_n hx hb dX4_unlikeSquares_43 rfl (lv_at hl 1 rfl) ?_
  refine g_getI B fl_RX4_30 hT0 kp0 rfl rfl rfl rfl rfl dX4_unlikeSquares_44 (fun x_17 s_17 a_17 b_17 => ?_)
  refine lv_ixor hx hb dX4_unlikeSquares_47 ?_
  refine lv_topi (fun x_18 e_18 => ?_)
  refine lv_ior hx hb dX4_unlikeSquares_48 ?_
  refine lv_topi (fun x_19 e_19 => ?_)
  exact rtPI (v := x_19) B hr hlk hh hQ rfl trivial dX4_unlikeSquares_49

theorem dX4_isLike_0 : decode cX4_isLike 0 = .ok (.aload_n 0, 1) := by decide +kernel
theorem dX4_isLike_1 : decode cX4_isLike 1 = .ok (.getfield 9, 3) := by decide +kernel
theorem dX4_isLike_4 : decode cX4_isLike 4 = .ok (.aload_n 1, 1) := by decide +kernel
theorem dX4_isLike_5 : decode cX4_isLike 5 = .ok (.getfield 9, 3) := by decide +kernel
theorem dX4_isLike_8 : decode cX4_isLike 8 = .ok (.if_icmp .ne 15, 3) := by decide +kernel
theorem dX4_isLike_11 : decode cX4_isLike 11 = .ok (.aload_n 0, 1) := by decide +kernel
theorem dX4_isLike_12 : decode cX4_isLike 12 = .ok (.aload_n 1, 1) := by decide +kernel
theorem dX4_isLike_13 : decode cX4_isLike 13 = .ok (.invokevirtual 33, 3) := by decide +kernel
theorem dX4_isLike_16 : decode cX4_isLike 16 = .ok (.ifCond .ne 7, 3) := by decide +kernel
theorem dX4_isLike_19 : decode cX4_isLike 19 = .ok (.iconst 1, 1) := by decide +kernel
theorem dX4_isLike_20 : decode cX4_isLike 20 = .ok (.goto 4, 3) := by decide +kernel
theorem dX4_isLike_23 : decode cX4_isLike 23 = .ok (.iconst 0, 1) := by decide +kernel
theorem dX4_isLike_24 : decode cX4_isLike 24 = .ok (.ireturn, 1) := by decide +kernel
def rm_X4_isLike : Room := { frames := 1, cells := 0, slots := 0, locals := 21 }
set_option maxRecDepth 100000 in
set_option maxHeartbeats 4000000 in
theorem c_X4_isLike (l : Launch) (E : zE) (hV : zV E) (H0 : Heap) (hT0 : HT E H0) (h0 : Nat) (kh0 : eK E h0 = 5) (p0 : Nat) (kp0 : eK E p0 = 5) : Met l yX4_isLike (zws yX4_isLike cX4_isLike 2 (some .boolean)) rm_X4_isLike (zP E H0 [.ref h0, .ref p0]) (zPI (fun r => 0 ≤ r.toInt ∧ r.toInt ≤ 1)) 0 0 (fun _ => False) := by
  refine zEnt (by decide) (Nat.le_of_ble_eq_true rfl) (fun p e s m args below meth c ls Q B hr hlk hh hQ hl => ?_)
  have hx := B.1
  have hb := B.2.1
  have hl : lv_has ls 2 [(0, .ref h0), (1, .ref p0)] := hl
  refine lv_aload_n hx hb dX4_isLike_0 rfl (lv_at hl 0 rfl) ?_
  refine g_getI B fl_RX4_9 hT0 kh0 rfl rfl rfl rfl rfl dX4_isLike_1 (fun x_1 s_1 a_1 b_1 => ?_)
  refine lv_aload_n hx hb dX4_isLike_4 rfl (lv_at hl 1 rfl) ?_
  refine g_getI B fl_RX4_9 hT0 kp0 rfl rfl rfl rfl rfl dX4_isLike_5 (fun x_2 s_2 a_2 b_2 => ?_)
  refine lv_icmp_ne (tgt := 23) hx hb dX4_isLike_8 (by decide) (fun c_3 => ?_) (fun c_3 => ?_)
  · have f_3 := z_ne c_3 rfl rfl
    refine lv_iconst (v := 0) hx hb dX4_isLike_23 (by decide) ?_
    have := kl_0
    have := kl_0
    exact rtPI (v := 0) B hr hlk hh hQ rfl ⟨by omega, by omega⟩ dX4_isLike_24
  · have f_3 := z_eq c_3 rfl rfl
    refine lv_aload_n hx hb dX4_isLike_11 rfl (lv_at hl 0 rfl) ?_
    refine lv_aload_n hx hb dX4_isLike_12 rfl (lv_at hl 1 rfl) ?_
    refine zkPI (zrV (rest := []) B (c_X4_unlikeSquares l E hV H0 hT0 h0 kh0 p0 kp0) cl_RX4_33 hT0 kh0 rfl rfl rfl rfl hl.1 rfl (Nat.le_of_ble_eq_true rfl) dX4_isLike_13 rfl rfl ⟨rfl, rfl⟩ ⟨Nat.zero_le _, Nat.zero_le _⟩ (zO.rf hh)) (fun x_4 hp_4 => ?_)
    refine lv_if_ne (tgt := 23) hx hb dX4_isLike_16 (by decide) (fun c_5 => ?_) (fun c_5 => ?_)
    · have f_5 := z_ne c_5 rfl kl_0
      refine lv_iconst (v := 0) hx hb dX4_isLike_23 (by decide) ?_
      have := kl_0
      have := kl_0
      exact rtPI (v := 0) B hr hlk hh hQ rfl ⟨by omega, by omega⟩ dX4_isLike_24
    · have f_5 := z_eq c_5 rfl kl_0
      refine lv_iconst (v := 1) hx hb dX4_isLike_19 (by decide) ?_
      refine lv_goto (tgt := 24) hx hb dX4_isLike_20 (by decide) ?_
      have := kl_1
      have := kl_1
      exact rtPI (v := 1) B hr hlk hh hQ rfl ⟨by omega, by omega⟩ dX4_isLike_24

theorem dX4_countUnlike_0 : decode cX4_countUnlike 0 = .ok (.aload_n 0, 1) := by decide +kernel
theorem dX4_countUnlike_1 : decode cX4_countUnlike 1 = .ok (.aload_n 1, 1) := by decide +kernel
theorem dX4_countUnlike_2 : decode cX4_countUnlike 2 = .ok (.invokevirtual 33, 3) := by decide +kernel
theorem dX4_countUnlike_5 : decode cX4_countUnlike 5 = .ok (.invokestatic 37, 3) := by decide +kernel
theorem dX4_countUnlike_8 : decode cX4_countUnlike 8 = .ok (.ireturn, 1) := by decide +kernel
def rm_X4_countUnlike : Room := { frames := 1, cells := 0, slots := 0, locals := 21 }
set_option maxRecDepth 100000 in
set_option maxHeartbeats 4000000 in
theorem c_X4_countUnlike (l : Launch) (E : zE) (hV : zV E) (H0 : Heap) (hT0 : HT E H0) (h0 : Nat) (kh0 : eK E h0 = 5) (p0 : Nat) (kp0 : eK E p0 = 5) : Met l yX4_countUnlike (zws yX4_countUnlike cX4_countUnlike 2 (some .int)) rm_X4_countUnlike (zP E H0 [.ref h0, .ref p0]) (zPI (fun r => 0 ≤ r.toInt ∧ r.toInt ≤ 63)) 0 0 (fun _ => False) := by
  refine zEnt (by decide) (Nat.le_of_ble_eq_true rfl) (fun p e s m args below meth c ls Q B hr hlk hh hQ hl => ?_)
  have hx := B.1
  have hb := B.2.1
  have hl : lv_has ls 2 [(0, .ref h0), (1, .ref p0)] := hl
  refine lv_aload_n hx hb dX4_countUnlike_0 rfl (lv_at hl 0 rfl) ?_
  refine lv_aload_n hx hb dX4_countUnlike_1 rfl (lv_at hl 1 rfl) ?_
  refine zkPI (zrV (rest := []) B (c_X4_unlikeSquares l E hV H0 hT0 h0 kh0 p0 kp0) cl_RX4_33 hT0 kh0 rfl rfl rfl rfl hl.1 rfl (Nat.le_of_ble_eq_true rfl) dX4_countUnlike_2 rfl rfl ⟨rfl, rfl⟩ ⟨Nat.zero_le _, Nat.zero_le _⟩ (zO.rf hh)) (fun x_1 hp_1 => ?_)
  refine zkPI (zrS (rest := []) B (c_J6_bitCount_0f7a4 l E hV H0 hT0 x_1) cs_RX4_37 rfl hl.1 rfl (Nat.le_of_ble_eq_true rfl) dX4_countUnlike_5 rfl rfl ⟨rfl, rfl⟩ ⟨Nat.zero_le _, Nat.zero_le _⟩ (zO.rf hh)) (fun x_2 hp_2 => ?_)
  obtain ⟨hp_2_1, hp_2_2⟩ := hp_2
  exact rtPI (v := x_2) B hr hlk hh hQ rfl ⟨by omega, by omega⟩ dX4_countUnlike_8

theorem dX4_put_0 : decode cX4_put 0 = .ok (.iconst 1, 1) := by decide +kernel
theorem dX4_put_1 : decode cX4_put 1 = .ok (.iload_n 1, 1) := by decide +kernel
theorem dX4_put_2 : decode cX4_put 2 = .ok (.ishl, 1) := by decide +kernel
theorem dX4_put_3 : decode cX4_put 3 = .ok (.istore 5, 2) := by decide +kernel
theorem dX4_put_5 : decode cX4_put 5 = .ok (.aload_n 0, 1) := by decide +kernel
theorem dX4_put_6 : decode cX4_put 6 = .ok (.dup, 1) := by decide +kernel
theorem dX4_put_7 : decode cX4_put 7 = .ok (.getfield 15, 3) := by decide +kernel
theorem dX4_put_10 : decode cX4_put 10 = .ok (.iload_n 3, 1) := by decide +kernel
theorem dX4_put_11 : decode cX4_put 11 = .ok (.ifCond .ne 8, 3) := by decide +kernel
theorem dX4_put_14 : decode cX4_put 14 = .ok (.iload 5, 2) := by decide +kernel
theorem dX4_put_16 : decode cX4_put 16 = .ok (.goto 4, 3) := by decide +kernel
theorem dX4_put_19 : decode cX4_put 19 = .ok (.iconst 0, 1) := by decide +kernel
theorem dX4_put_20 : decode cX4_put 20 = .ok (.ior, 1) := by decide +kernel
theorem dX4_put_21 : decode cX4_put 21 = .ok (.putfield 15, 3) := by decide +kernel
theorem dX4_put_24 : decode cX4_put 24 = .ok (.aload_n 0, 1) := by decide +kernel
theorem dX4_put_25 : decode cX4_put 25 = .ok (.dup, 1) := by decide +kernel
theorem dX4_put_26 : decode cX4_put 26 = .ok (.getfield 18, 3) := by decide +kernel
theorem dX4_put_29 : decode cX4_put 29 = .ok (.iload_n 3, 1) := by decide +kernel
theorem dX4_put_30 : decode cX4_put 30 = .ok (.iconst 1, 1) := by decide +kernel
theorem dX4_put_31 : decode cX4_put 31 = .ok (.if_icmp .ne 8, 3) := by decide +kernel
theorem dX4_put_34 : decode cX4_put 34 = .ok (.iload 5, 2) := by decide +kernel
theorem dX4_put_36 : decode cX4_put 36 = .ok (.goto 4, 3) := by decide +kernel
theorem dX4_put_39 : decode cX4_put 39 = .ok (.iconst 0, 1) := by decide +kernel
theorem dX4_put_40 : decode cX4_put 40 = .ok (.ior, 1) := by decide +kernel
theorem dX4_put_41 : decode cX4_put 41 = .ok (.putfield 18, 3) := by decide +kernel
theorem dX4_put_44 : decode cX4_put 44 = .ok (.aload_n 0, 1) := by decide +kernel
theorem dX4_put_45 : decode cX4_put 45 = .ok (.dup, 1) := by decide +kernel
theorem dX4_put_46 : decode cX4_put 46 = .ok (.getfield 21, 3) := by decide +kernel
theorem dX4_put_49 : decode cX4_put 49 = .ok (.iload 4, 2) := by decide +kernel
theorem dX4_put_51 : decode cX4_put 51 = .ok (.ifCond .eq 8, 3) := by decide +kernel
theorem dX4_put_54 : decode cX4_put 54 = .ok (.iload 5, 2) := by decide +kernel
theorem dX4_put_56 : decode cX4_put 56 = .ok (.goto 4, 3) := by decide +kernel
theorem dX4_put_59 : decode cX4_put 59 = .ok (.iconst 0, 1) := by decide +kernel
theorem dX4_put_60 : decode cX4_put 60 = .ok (.ior, 1) := by decide +kernel
theorem dX4_put_61 : decode cX4_put 61 = .ok (.putfield 21, 3) := by decide +kernel
theorem dX4_put_64 : decode cX4_put 64 = .ok (.aload_n 0, 1) := by decide +kernel
theorem dX4_put_65 : decode cX4_put 65 = .ok (.dup, 1) := by decide +kernel
theorem dX4_put_66 : decode cX4_put 66 = .ok (.getfield 24, 3) := by decide +kernel
theorem dX4_put_69 : decode cX4_put 69 = .ok (.iload_n 2, 1) := by decide +kernel
theorem dX4_put_70 : decode cX4_put 70 = .ok (.iconst 1, 1) := by decide +kernel
theorem dX4_put_71 : decode cX4_put 71 = .ok (.iand, 1) := by decide +kernel
theorem dX4_put_72 : decode cX4_put 72 = .ok (.ifCond .eq 8, 3) := by decide +kernel
theorem dX4_put_75 : decode cX4_put 75 = .ok (.iload 5, 2) := by decide +kernel
theorem dX4_put_77 : decode cX4_put 77 = .ok (.goto 4, 3) := by decide +kernel
theorem dX4_put_80 : decode cX4_put 80 = .ok (.iconst 0, 1) := by decide +kernel
theorem dX4_put_81 : decode cX4_put 81 = .ok (.ior, 1) := by decide +kernel
theorem dX4_put_82 : decode cX4_put 82 = .ok (.putfield 24, 3) := by decide +kernel
theorem dX4_put_85 : decode cX4_put 85 = .ok (.aload_n 0, 1) := by decide +kernel
theorem dX4_put_86 : decode cX4_put 86 = .ok (.dup, 1) := by decide +kernel
theorem dX4_put_87 : decode cX4_put 87 = .ok (.getfield 27, 3) := by decide +kernel
theorem dX4_put_90 : decode cX4_put 90 = .ok (.iload_n 2, 1) := by decide +kernel
theorem dX4_put_91 : decode cX4_put 91 = .ok (.iconst 2, 1) := by decide +kernel
theorem dX4_put_92 : decode cX4_put 92 = .ok (.iand, 1) := by decide +kernel
theorem dX4_put_93 : decode cX4_put 93 = .ok (.ifCond .eq 8, 3) := by decide +kernel
theorem dX4_put_96 : decode cX4_put 96 = .ok (.iload 5, 2) := by decide +kernel
theorem dX4_put_98 : decode cX4_put 98 = .ok (.goto 4, 3) := by decide +kernel
theorem dX4_put_101 : decode cX4_put 101 = .ok (.iconst 0, 1) := by decide +kernel
theorem dX4_put_102 : decode cX4_put 102 = .ok (.ior, 1) := by decide +kernel
theorem dX4_put_103 : decode cX4_put 103 = .ok (.putfield 27, 3) := by decide +kernel
theorem dX4_put_106 : decode cX4_put 106 = .ok (.aload_n 0, 1) := by decide +kernel
theorem dX4_put_107 : decode cX4_put 107 = .ok (.dup, 1) := by decide +kernel
theorem dX4_put_108 : decode cX4_put 108 = .ok (.getfield 30, 3) := by decide +kernel
theorem dX4_put_111 : decode cX4_put 111 = .ok (.iload_n 2, 1) := by decide +kernel
theorem dX4_put_112 : decode cX4_put 112 = .ok (.iconst 4, 1) := by decide +kernel
theorem dX4_put_113 : decode cX4_put 113 = .ok (.iand, 1) := by decide +kernel
theorem dX4_put_114 : decode cX4_put 114 = .ok (.ifCond .eq 8, 3) := by decide +kernel
theorem dX4_put_117 : decode cX4_put 117 = .ok (.iload 5, 2) := by decide +kernel
theorem dX4_put_119 : decode cX4_put 119 = .ok (.goto 4, 3) := by decide +kernel
theorem dX4_put_122 : decode cX4_put 122 = .ok (.iconst 0, 1) := by decide +kernel
theorem dX4_put_123 : decode cX4_put 123 = .ok (.ior, 1) := by decide +kernel
theorem dX4_put_124 : decode cX4_put 124 = .ok (.putfield 30, 3) := by decide +kernel
theorem dX4_put_127 : decode cX4_put 127 = .ok (.return_, 1) := by decide +kernel
def rm_X4_put : Room := { frames := 0, cells := 0, slots := 0, locals := 0 }
abbrev wS_X4_put : List (Nat × Nat) := [(5, 1), (5, 2), (5, 3), (5, 4), (5, 5), (5, 6)]
set_option maxRecDepth 100000 in
set_option maxHeartbeats 4000000 in
theorem c_X4_put (l : Launch) (E : zE) (hV : zV E) (H0 : Heap) (hT0 : HT E H0) (h0 : Nat) (kh0 : eK E h0 = 5) (p0 : Int32) (p1 : Int32) (p2 : Int32) (p3 : Int32) (p3_lo : 0 ≤ p3.toInt) (p3_hi : p3.toInt ≤ 1) : Met l yX4_put (zws yX4_put cX4_put 6 none) rm_X4_put (zP E H0 [.ref h0, .int p0, .int p1, .int p2, .int p3]) (zQV E E wS_X4_put (fun H1 => True)) 0 0 (zfr E) := by
  refine zEnt (by decide) (Nat.le_of_ble_eq_true rfl) (fun p e s m args below meth c ls Q B hr hlk hh hQ hl => ?_)
  have hx := B.1
  have hb := B.2.1
  have hG0 : zG E wS_X4_put H0 H0 [] := zG.rf hT0
  have hl : lv_has ls 6 [(0, .ref h0), (1, .int p0), (2, .int p1), (3, .int p2), (4, .int p3)] := hl
  have b102 : ∀ (H102 : Heap) (lc102 : List Loc) (ls : Array Slot) (v102_5 : Int32) (w102_0 : Int32) (w102_1 : Int32), zG E wS_X4_put H0 H102 lc102 → lv_has ls 6 [(0, .ref h0), (2, .int p1), (5, .int v102_5)] → W p l e rm_X4_put s m args below meth c H102 lc102 0 0 Q (F0 m 102 ls [.int w102_0, .int w102_1, .ref h0]) := by
    intro H102 lc102 ls v102_5 w102_0 w102_1 gH102 hl
    refine lv_ior hx hb dX4_put_102 ?_
    refine lv_topi (fun x_1 e_1 => ?_)
    refine g_putI B fp_RX4_27 hV gH102 kh0 rfl rfl rfl rfl rfl (z_rng _).1 (z_rng _).2 rfl dX4_put_103 (fun H2 lc2 gH2 uH2 => ?_)
    refine lv_aload_n hx hb dX4_put_106 rfl (lv_at hl 0 rfl) ?_
    refine lv_dup hx hb dX4_put_107 rfl ?_
    refine g_getI B fl_RX4_30 gH2.1 kh0 rfl rfl rfl rfl rfl dX4_put_108 (fun x_3 s_3 a_3 b_3 => ?_)
    refine lv_iload_n hx hb dX4_put_111 rfl (lv_at hl 1 rfl) ?_
    refine lv_iconst (v := 4) hx hb dX4_put_112 (by decide) ?_
    refine lv_iand hx hb dX4_put_113 ?_
    refine lv_topi (fun x_4 e_4 => ?_)
    have t_4 := z_andR e_4 kl_4 (by omega)
    refine lv_if_eq (tgt := 122) hx hb dX4_put_114 (by decide) (fun c_5 => ?_) (fun c_5 => ?_)
    · have f_5 := z_eq c_5 rfl kl_0
      refine lv_iconst (v := 0) hx hb dX4_put_122 (by decide) ?_
      refine lv_ior hx hb dX4_put_123 ?_
      refine lv_topi (fun x_6 e_6 => ?_)
      refine g_putI B fp_RX4_30 hV gH2 kh0 rfl rfl rfl rfl rfl (z_rng _).1 (z_rng _).2 rfl dX4_put_124 (fun H7 lc7 gH7 uH7 => ?_)
      exact rtV B hr hlk hh hQ gH7 trivial dX4_put_127
    · have f_5 := z_ne c_5 rfl kl_0
      refine lv_iload hx hb dX4_put_117 (lv_at hl 2 rfl) ?_
      refine lv_goto (tgt := 123) hx hb dX4_put_119 (by decide) ?_
      refine lv_ior hx hb dX4_put_123 ?_
      refine lv_topi (fun x_8 e_8 => ?_)
      refine g_putI B fp_RX4_30 hV gH2 kh0 rfl rfl rfl rfl rfl (z_rng _).1 (z_rng _).2 rfl dX4_put_124 (fun H9 lc9 gH9 uH9 => ?_)
      exact rtV B hr hlk hh hQ gH9 trivial dX4_put_127
  have b81 : ∀ (H81 : Heap) (lc81 : List Loc) (ls : Array Slot) (v81_5 : Int32) (w81_0 : Int32) (w81_1 : Int32), zG E wS_X4_put H0 H81 lc81 → lv_has ls 6 [(0, .ref h0), (2, .int p1), (5, .int v81_5)] → W p l e rm_X4_put s m args below meth c H81 lc81 0 0 Q (F0 m 81 ls [.int w81_0, .int w81_1, .ref h0]) := by
    intro H81 lc81 ls v81_5 w81_0 w81_1 gH81 hl
    refine lv_ior hx hb dX4_put_81 ?_
    refine lv_topi (fun x_10 e_10 => ?_)
    refine g_putI B fp_RX4_24 hV gH81 kh0 rfl rfl rfl rfl rfl (z_rng _).1 (z_rng _).2 rfl dX4_put_82 (fun H11 lc11 gH11 uH11 => ?_)
    refine lv_aload_n hx hb dX4_put_85 rfl (lv_at hl 0 rfl) ?_
    refine lv_dup hx hb dX4_put_86 rfl ?_
    refine g_getI B fl_RX4_27 gH11.1 kh0 rfl rfl rfl rfl rfl dX4_put_87 (fun x_12 s_12 a_12 b_12 => ?_)
    refine lv_iload_n hx hb dX4_put_90 rfl (lv_at hl 1 rfl) ?_
    refine lv_iconst (v := 2) hx hb dX4_put_91 (by decide) ?_
    refine lv_iand hx hb dX4_put_92 ?_
    refine lv_topi (fun x_13 e_13 => ?_)
    have t_13 := z_andR e_13 kl_2 (by omega)
    refine lv_if_eq (tgt := 101) hx hb dX4_put_93 (by decide) (fun c_14 => ?_) (fun c_14 => ?_)
    · have f_14 := z_eq c_14 rfl kl_0
      refine lv_iconst (v := 0) hx hb dX4_put_101 (by decide) ?_
      have := kl_0
      exact b102 H11 lc11 ls v81_5 0 x_12 gH11 (lv_sub hl [0, 1, 2] rfl)
    · have f_14 := z_ne c_14 rfl kl_0
      refine lv_iload hx hb dX4_put_96 (lv_at hl 2 rfl) ?_
      refine lv_goto (tgt := 102) hx hb dX4_put_98 (by decide) ?_
      exact b102 H11 lc11 ls v81_5 v81_5 x_12 gH11 (lv_sub hl [0, 1, 2] rfl)
  have b60 : ∀ (H60 : Heap) (lc60 : List Loc) (ls : Array Slot) (v60_5 : Int32) (w60_0 : Int32) (w60_1 : Int32), zG E wS_X4_put H0 H60 lc60 → lv_has ls 6 [(0, .ref h0), (2, .int p1), (5, .int v60_5)] → W p l e rm_X4_put s m args below meth c H60 lc60 0 0 Q (F0 m 60 ls [.int w60_0, .int w60_1, .ref h0]) := by
    intro H60 lc60 ls v60_5 w60_0 w60_1 gH60 hl
    refine lv_ior hx hb dX4_put_60 ?_
    refine lv_topi (fun x_15 e_15 => ?_)
    refine g_putI B fp_RX4_21 hV gH60 kh0 rfl rfl rfl rfl rfl (z_rng _).1 (z_rng _).2 rfl dX4_put_61 (fun H16 lc16 gH16 uH16 => ?_)
    refine lv_aload_n hx hb dX4_put_64 rfl (lv_at hl 0 rfl) ?_
    refine lv_dup hx hb dX4_put_65 rfl ?_
    refine g_getI B fl_RX4_24 gH16.1 kh0 rfl rfl rfl rfl rfl dX4_put_66 (fun x_17 s_17 a_17 b_17 => ?_)
    refine lv_iload_n hx hb dX4_put_69 rfl (lv_at hl 1 rfl) ?_
    refine lv_iconst (v := 1) hx hb dX4_put_70 (by decide) ?_
    refine lv_iand hx hb dX4_put_71 ?_
    refine lv_topi (fun x_18 e_18 => ?_)
    have t_18 := z_andR e_18 kl_1 (by omega)
    refine lv_if_eq (tgt := 80) hx hb dX4_put_72 (by decide) (fun c_19 => ?_) (fun c_19 => ?_)
    · have f_19 := z_eq c_19 rfl kl_0
      refine lv_iconst (v := 0) hx hb dX4_put_80 (by decide) ?_
      have := kl_0
      exact b81 H16 lc16 ls v60_5 0 x_17 gH16 (lv_sub hl [0, 1, 2] rfl)
    · have f_19 := z_ne c_19 rfl kl_0
      refine lv_iload hx hb dX4_put_75 (lv_at hl 2 rfl) ?_
      refine lv_goto (tgt := 81) hx hb dX4_put_77 (by decide) ?_
      exact b81 H16 lc16 ls v60_5 v60_5 x_17 gH16 (lv_sub hl [0, 1, 2] rfl)
  have b40 : ∀ (H40 : Heap) (lc40 : List Loc) (ls : Array Slot) (v40_5 : Int32) (w40_0 : Int32) (w40_1 : Int32), zG E wS_X4_put H0 H40 lc40 → lv_has ls 6 [(0, .ref h0), (2, .int p1), (4, .int p3), (5, .int v40_5)] → W p l e rm_X4_put s m args below meth c H40 lc40 0 0 Q (F0 m 40 ls [.int w40_0, .int w40_1, .ref h0]) := by
    intro H40 lc40 ls v40_5 w40_0 w40_1 gH40 hl
    refine lv_ior hx hb dX4_put_40 ?_
    refine lv_topi (fun x_20 e_20 => ?_)
    refine g_putI B fp_RX4_18 hV gH40 kh0 rfl rfl rfl rfl rfl (z_rng _).1 (z_rng _).2 rfl dX4_put_41 (fun H21 lc21 gH21 uH21 => ?_)
    refine lv_aload_n hx hb dX4_put_44 rfl (lv_at hl 0 rfl) ?_
    refine lv_dup hx hb dX4_put_45 rfl ?_
    refine g_getI B fl_RX4_21 gH21.1 kh0 rfl rfl rfl rfl rfl dX4_put_46 (fun x_22 s_22 a_22 b_22 => ?_)
    refine lv_iload hx hb dX4_put_49 (lv_at hl 2 rfl) ?_
    refine lv_if_eq (tgt := 59) hx hb dX4_put_51 (by decide) (fun c_23 => ?_) (fun c_23 => ?_)
    · have f_23 := z_eq c_23 rfl kl_0
      refine lv_iconst (v := 0) hx hb dX4_put_59 (by decide) ?_
      have := kl_0
      exact b60 H21 lc21 ls v40_5 0 x_22 gH21 (lv_sub hl [0, 1, 3] rfl)
    · have f_23 := z_ne c_23 rfl kl_0
      refine lv_iload hx hb dX4_put_54 (lv_at hl 3 rfl) ?_
      refine lv_goto (tgt := 60) hx hb dX4_put_56 (by decide) ?_
      exact b60 H21 lc21 ls v40_5 v40_5 x_22 gH21 (lv_sub hl [0, 1, 3] rfl)
  have b20 : ∀ (ls : Array Slot) (v20_5 : Int32) (w20_0 : Int32) (w20_1 : Int32), lv_has ls 6 [(0, .ref h0), (2, .int p1), (3, .int p2), (4, .int p3), (5, .int v20_5)] → W p l e rm_X4_put s m args below meth c H0 [] 0 0 Q (F0 m 20 ls [.int w20_0, .int w20_1, .ref h0]) := by
    intro ls v20_5 w20_0 w20_1 hl
    refine lv_ior hx hb dX4_put_20 ?_
    refine lv_topi (fun x_24 e_24 => ?_)
    refine g_putI B fp_RX4_15 hV hG0 kh0 rfl rfl rfl rfl rfl (z_rng _).1 (z_rng _).2 rfl dX4_put_21 (fun H25 lc25 gH25 uH25 => ?_)
    refine lv_aload_n hx hb dX4_put_24 rfl (lv_at hl 0 rfl) ?_
    refine lv_dup hx hb dX4_put_25 rfl ?_
    refine g_getI B fl_RX4_18 gH25.1 kh0 rfl rfl rfl rfl rfl dX4_put_26 (fun x_26 s_26 a_26 b_26 => ?_)
    refine lv_iload_n hx hb dX4_put_29 rfl (lv_at hl 2 rfl) ?_
    refine lv_iconst (v := 1) hx hb dX4_put_30 (by decide) ?_
    refine lv_icmp_ne (tgt := 39) hx hb dX4_put_31 (by decide) (fun c_27 => ?_) (fun c_27 => ?_)
    · have f_27 := z_ne c_27 rfl kl_1
      refine lv_iconst (v := 0) hx hb dX4_put_39 (by decide) ?_
      have := kl_0
      exact b40 H25 lc25 ls v20_5 0 x_26 gH25 (lv_sub hl [0, 1, 3, 4] rfl)
    · have f_27 := z_eq c_27 rfl kl_1
      refine lv_iload hx hb dX4_put_34 (lv_at hl 4 rfl) ?_
      refine lv_goto (tgt := 40) hx hb dX4_put_36 (by decide) ?_
      exact b40 H25 lc25 ls v20_5 v20_5 x_26 gH25 (lv_sub hl [0, 1, 3, 4] rfl)
  refine lv_iconst (v := 1) hx hb dX4_put_0 (by decide) ?_
  refine lv_iload_n hx hb dX4_put_1 rfl (lv_at hl 1 rfl) ?_
  refine lv_ishl hx hb dX4_put_2 ?_
  refine lv_topi (fun x_28 e_28 => ?_)
  refine lv_istore (lv' := [(5, .int x_28), (0, .ref h0), (1, .int p0), (2, .int p1), (3, .int p2), (4, .int p3)]) hx hb dX4_put_3 hl (by decide) rfl (fun ls hl => ?_)
  refine lv_aload_n hx hb dX4_put_5 rfl (lv_at hl 1 rfl) ?_
  refine lv_dup hx hb dX4_put_6 rfl ?_
  refine g_getI B fl_RX4_15 hT0 kh0 rfl rfl rfl rfl rfl dX4_put_7 (fun x_29 s_29 a_29 b_29 => ?_)
  refine lv_iload_n hx hb dX4_put_10 rfl (lv_at hl 4 rfl) ?_
  refine lv_if_ne (tgt := 19) hx hb dX4_put_11 (by decide) (fun c_30 => ?_) (fun c_30 => ?_)
  · have f_30 := z_ne c_30 rfl kl_0
    refine lv_iconst (v := 0) hx hb dX4_put_19 (by decide) ?_
    have := kl_0
    exact b20 ls x_28 0 x_29 (lv_sub hl [1, 3, 4, 5, 0] rfl)
  · have f_30 := z_eq c_30 rfl kl_0
    refine lv_iload hx hb dX4_put_14 (lv_at hl 0 rfl) ?_
    refine lv_goto (tgt := 20) hx hb dX4_put_16 (by decide) ?_
    exact b20 ls x_28 x_28 x_29 (lv_sub hl [1, 3, 4, 5, 0] rfl)
