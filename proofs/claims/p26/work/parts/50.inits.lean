def zLX4 : List Nat := []
theorem dX4_init_0 : decode cX4_init 0 = .ok (.aload_n 0, 1) := by decide +kernel
theorem dX4_init_1 : decode cX4_init 1 = .ok (.invokespecial 3, 3) := by decide +kernel
theorem dX4_init_4 : decode cX4_init 4 = .ok (.aload_n 0, 1) := by decide +kernel
theorem dX4_init_5 : decode cX4_init 5 = .ok (.iconst 0, 1) := by decide +kernel
theorem dX4_init_6 : decode cX4_init 6 = .ok (.putfield 9, 3) := by decide +kernel
theorem dX4_init_9 : decode cX4_init 9 = .ok (.aload_n 0, 1) := by decide +kernel
theorem dX4_init_10 : decode cX4_init 10 = .ok (.iconst 0, 1) := by decide +kernel
theorem dX4_init_11 : decode cX4_init 11 = .ok (.putfield 15, 3) := by decide +kernel
theorem dX4_init_14 : decode cX4_init 14 = .ok (.aload_n 0, 1) := by decide +kernel
theorem dX4_init_15 : decode cX4_init 15 = .ok (.iconst 0, 1) := by decide +kernel
theorem dX4_init_16 : decode cX4_init 16 = .ok (.putfield 18, 3) := by decide +kernel
theorem dX4_init_19 : decode cX4_init 19 = .ok (.aload_n 0, 1) := by decide +kernel
theorem dX4_init_20 : decode cX4_init 20 = .ok (.iconst 0, 1) := by decide +kernel
theorem dX4_init_21 : decode cX4_init 21 = .ok (.putfield 21, 3) := by decide +kernel
theorem dX4_init_24 : decode cX4_init 24 = .ok (.aload_n 0, 1) := by decide +kernel
theorem dX4_init_25 : decode cX4_init 25 = .ok (.iconst 0, 1) := by decide +kernel
theorem dX4_init_26 : decode cX4_init 26 = .ok (.putfield 24, 3) := by decide +kernel
theorem dX4_init_29 : decode cX4_init 29 = .ok (.aload_n 0, 1) := by decide +kernel
theorem dX4_init_30 : decode cX4_init 30 = .ok (.iconst 0, 1) := by decide +kernel
theorem dX4_init_31 : decode cX4_init 31 = .ok (.putfield 27, 3) := by decide +kernel
theorem dX4_init_34 : decode cX4_init 34 = .ok (.aload_n 0, 1) := by decide +kernel
theorem dX4_init_35 : decode cX4_init 35 = .ok (.iconst 0, 1) := by decide +kernel
theorem dX4_init_36 : decode cX4_init 36 = .ok (.putfield 30, 3) := by decide +kernel
theorem dX4_init_39 : decode cX4_init 39 = .ok (.return_, 1) := by decide +kernel
def rm_X4_init : Room := { frames := 1, cells := 0, slots := 0, locals := 12 }
set_option maxRecDepth 100000 in
set_option maxHeartbeats 4000000 in
theorem m_X4_init (l : Launch) (E : zE) (hV : zV E) (H0 : Heap) (b : Nat) (kb : eK E b = 5) (hbn : b < H0.size) (hT : zTh E 5 b H0 [.int 0, .int 0, .int 0, .int 0, .int 0, .int 0, .int 0]) (hKi : zKi E H0.size []) : Met l yX4_init (zws yX4_init cX4_init 1 none) rm_X4_init (zPm E H0 [.ref b]) (zQm E b 0 H0) 0 0 (zfm b H0.size) := by
  refine zEntM (by decide) rfl (Nat.le_of_ble_eq_true rfl) (fun p e s m args below meth c ls Q B hA hnm hr hlk hh hQ hl => ?_)
  have hx := B.1
  have hb := B.2.1
  have hl : lv_has ls 1 [(0, .ref b)] := hl
  have hC : zCo E b [] H0 H0 0 [] := zCo.rf
  have kne : eK E b ≠ 0 := by omega
  refine lv_aload_n hx hb dX4_init_0 rfl (lv_at hl 0 rfl) ?_
  refine m_obj B (mc_wsL_law_r4 _ (List.mem_of_getElem? (i := 3) rfl)) (mc_wsL_law_r1 _ (List.mem_of_getElem? (i := 10) rfl)) (mc_wsL_law_r1 _ (List.mem_of_getElem? (i := 11) rfl)) hl.1 dX4_init_1 rfl rfl ?_
  refine lv_aload_n hx hb dX4_init_4 rfl (lv_at hl 0 rfl) ?_
  refine lv_iconst (v := 0) hx hb dX4_init_5 (by decide) ?_
  refine m_put B fp_RX4_9 hV hbn hC hT rfl rfl rfl rfl (v := .int 0) rfl rfl dX4_init_6 (fun H1 lc1 hC hT o_ => ?_)
  have hT : zTh E 5 b H1 [.int 0, .int 0, .int 0, .int 0, .int 0, .int 0, .int 0] := hT
  refine lv_aload_n hx hb dX4_init_9 rfl (lv_at hl 0 rfl) ?_
  refine lv_iconst (v := 0) hx hb dX4_init_10 (by decide) ?_
  refine m_put B fp_RX4_15 hV hbn hC hT rfl rfl rfl rfl (v := .int 0) rfl rfl dX4_init_11 (fun H2 lc2 hC hT o_ => ?_)
  have hT : zTh E 5 b H2 [.int 0, .int 0, .int 0, .int 0, .int 0, .int 0, .int 0] := hT
  refine lv_aload_n hx hb dX4_init_14 rfl (lv_at hl 0 rfl) ?_
  refine lv_iconst (v := 0) hx hb dX4_init_15 (by decide) ?_
  refine m_put B fp_RX4_18 hV hbn hC hT rfl rfl rfl rfl (v := .int 0) rfl rfl dX4_init_16 (fun H3 lc3 hC hT o_ => ?_)
  have hT : zTh E 5 b H3 [.int 0, .int 0, .int 0, .int 0, .int 0, .int 0, .int 0] := hT
  refine lv_aload_n hx hb dX4_init_19 rfl (lv_at hl 0 rfl) ?_
  refine lv_iconst (v := 0) hx hb dX4_init_20 (by decide) ?_
  refine m_put B fp_RX4_21 hV hbn hC hT rfl rfl rfl rfl (v := .int 0) rfl rfl dX4_init_21 (fun H4 lc4 hC hT o_ => ?_)
  have hT : zTh E 5 b H4 [.int 0, .int 0, .int 0, .int 0, .int 0, .int 0, .int 0] := hT
  refine lv_aload_n hx hb dX4_init_24 rfl (lv_at hl 0 rfl) ?_
  refine lv_iconst (v := 0) hx hb dX4_init_25 (by decide) ?_
  refine m_put B fp_RX4_24 hV hbn hC hT rfl rfl rfl rfl (v := .int 0) rfl rfl dX4_init_26 (fun H5 lc5 hC hT o_ => ?_)
  have hT : zTh E 5 b H5 [.int 0, .int 0, .int 0, .int 0, .int 0, .int 0, .int 0] := hT
  refine lv_aload_n hx hb dX4_init_29 rfl (lv_at hl 0 rfl) ?_
  refine lv_iconst (v := 0) hx hb dX4_init_30 (by decide) ?_
  refine m_put B fp_RX4_27 hV hbn hC hT rfl rfl rfl rfl (v := .int 0) rfl rfl dX4_init_31 (fun H6 lc6 hC hT o_ => ?_)
  have hT : zTh E 5 b H6 [.int 0, .int 0, .int 0, .int 0, .int 0, .int 0, .int 0] := hT
  refine lv_aload_n hx hb dX4_init_34 rfl (lv_at hl 0 rfl) ?_
  refine lv_iconst (v := 0) hx hb dX4_init_35 (by decide) ?_
  refine m_put B fp_RX4_30 hV hbn hC hT rfl rfl rfl rfl (v := .int 0) rfl rfl dX4_init_36 (fun H7 lc7 hC hT o_ => ?_)
  have hT : zTh E 5 b H7 [.int 0, .int 0, .int 0, .int 0, .int 0, .int 0, .int 0] := hT
  exact m_retM B hr hlk hh hQ hC (hT.done kb (fun j hj => match j, hj with
    | 0, _ => ⟨_, rfl, (dn_i (by decide) (by decide))⟩
    | 1, _ => ⟨_, rfl, (dn_i (by decide) (by decide))⟩
    | 2, _ => ⟨_, rfl, (dn_i (by decide) (by decide))⟩
    | 3, _ => ⟨_, rfl, (dn_i (by decide) (by decide))⟩
    | 4, _ => ⟨_, rfl, (dn_i (by decide) (by decide))⟩
    | 5, _ => ⟨_, rfl, (dn_i (by decide) (by decide))⟩
    | 6, _ => ⟨_, rfl, (dn_i (by decide) (by decide))⟩
    | j + 7, h => absurd h (Nat.not_lt.mpr (Nat.le_add_left _ _)))) dX4_init_39

def zLX10 : List Nat := [51, 52, 53, 54, 55, 56, 57, 5]
theorem dX10_init_0 : decode cX10_init 0 = .ok (.aload_n 0, 1) := by decide +kernel
theorem dX10_init_1 : decode cX10_init 1 = .ok (.invokespecial 3, 3) := by decide +kernel
theorem dX10_init_4 : decode cX10_init 4 = .ok (.aload_n 0, 1) := by decide +kernel
theorem dX10_init_5 : decode cX10_init 5 = .ok (.iconst 0, 1) := by decide +kernel
theorem dX10_init_6 : decode cX10_init 6 = .ok (.putfield 9, 3) := by decide +kernel
theorem dX10_init_9 : decode cX10_init 9 = .ok (.aload_n 0, 1) := by decide +kernel
theorem dX10_init_10 : decode cX10_init 10 = .ok (.iconst 0, 1) := by decide +kernel
theorem dX10_init_11 : decode cX10_init 11 = .ok (.putfield 15, 3) := by decide +kernel
theorem dX10_init_14 : decode cX10_init 14 = .ok (.aload_n 0, 1) := by decide +kernel
theorem dX10_init_15 : decode cX10_init 15 = .ok (.iconst 0, 1) := by decide +kernel
theorem dX10_init_16 : decode cX10_init 16 = .ok (.putfield 18, 3) := by decide +kernel
theorem dX10_init_19 : decode cX10_init 19 = .ok (.aload_n 0, 1) := by decide +kernel
theorem dX10_init_20 : decode cX10_init 20 = .ok (.iconst 0, 1) := by decide +kernel
theorem dX10_init_21 : decode cX10_init 21 = .ok (.putfield 21, 3) := by decide +kernel
theorem dX10_init_24 : decode cX10_init 24 = .ok (.aload_n 0, 1) := by decide +kernel
theorem dX10_init_25 : decode cX10_init 25 = .ok (.iconst 0, 1) := by decide +kernel
theorem dX10_init_26 : decode cX10_init 26 = .ok (.putfield 24, 3) := by decide +kernel
theorem dX10_init_29 : decode cX10_init 29 = .ok (.aload_n 0, 1) := by decide +kernel
theorem dX10_init_30 : decode cX10_init 30 = .ok (.bipush 6, 2) := by decide +kernel
theorem dX10_init_32 : decode cX10_init 32 = .ok (.newarray .boolean, 2) := by decide +kernel
theorem dX10_init_34 : decode cX10_init 34 = .ok (.putfield 27, 3) := by decide +kernel
theorem dX10_init_37 : decode cX10_init 37 = .ok (.aload_n 0, 1) := by decide +kernel
theorem dX10_init_38 : decode cX10_init 38 = .ok (.bipush 6, 2) := by decide +kernel
theorem dX10_init_40 : decode cX10_init 40 = .ok (.newarray .boolean, 2) := by decide +kernel
theorem dX10_init_42 : decode cX10_init 42 = .ok (.putfield 31, 3) := by decide +kernel
theorem dX10_init_45 : decode cX10_init 45 = .ok (.aload_n 0, 1) := by decide +kernel
theorem dX10_init_46 : decode cX10_init 46 = .ok (.bipush 6, 2) := by decide +kernel
theorem dX10_init_48 : decode cX10_init 48 = .ok (.newarray .int, 2) := by decide +kernel
theorem dX10_init_50 : decode cX10_init 50 = .ok (.putfield 34, 3) := by decide +kernel
theorem dX10_init_53 : decode cX10_init 53 = .ok (.aload_n 0, 1) := by decide +kernel
theorem dX10_init_54 : decode cX10_init 54 = .ok (.bipush 36, 2) := by decide +kernel
theorem dX10_init_56 : decode cX10_init 56 = .ok (.newarray .boolean, 2) := by decide +kernel
theorem dX10_init_58 : decode cX10_init 58 = .ok (.putfield 38, 3) := by decide +kernel
theorem dX10_init_61 : decode cX10_init 61 = .ok (.aload_n 0, 1) := by decide +kernel
theorem dX10_init_62 : decode cX10_init 62 = .ok (.bipush 36, 2) := by decide +kernel
theorem dX10_init_64 : decode cX10_init 64 = .ok (.newarray .int, 2) := by decide +kernel
theorem dX10_init_66 : decode cX10_init 66 = .ok (.putfield 41, 3) := by decide +kernel
theorem dX10_init_69 : decode cX10_init 69 = .ok (.aload_n 0, 1) := by decide +kernel
theorem dX10_init_70 : decode cX10_init 70 = .ok (.bipush 36, 2) := by decide +kernel
theorem dX10_init_72 : decode cX10_init 72 = .ok (.newarray .int, 2) := by decide +kernel
theorem dX10_init_74 : decode cX10_init 74 = .ok (.putfield 44, 3) := by decide +kernel
theorem dX10_init_77 : decode cX10_init 77 = .ok (.aload_n 0, 1) := by decide +kernel
theorem dX10_init_78 : decode cX10_init 78 = .ok (.bipush 12, 2) := by decide +kernel
theorem dX10_init_80 : decode cX10_init 80 = .ok (.newarray .int, 2) := by decide +kernel
theorem dX10_init_82 : decode cX10_init 82 = .ok (.putfield 47, 3) := by decide +kernel
theorem dX10_init_85 : decode cX10_init 85 = .ok (.aload_n 0, 1) := by decide +kernel
theorem dX10_init_86 : decode cX10_init 86 = .ok (.new 50, 3) := by decide +kernel
theorem dX10_init_89 : decode cX10_init 89 = .ok (.dup, 1) := by decide +kernel
theorem dX10_init_90 : decode cX10_init 90 = .ok (.invokespecial 52, 3) := by decide +kernel
theorem dX10_init_93 : decode cX10_init 93 = .ok (.putfield 53, 3) := by decide +kernel
theorem dX10_init_96 : decode cX10_init 96 = .ok (.return_, 1) := by decide +kernel
def rm_X10_init : Room := { frames := 2, cells := 8, slots := 145, locals := 32 }
set_option maxRecDepth 100000 in
set_option maxHeartbeats 4000000 in
theorem m_X10_init (l : Launch) (E : zE) (hV : zV E) (H0 : Heap) (b : Nat) (kb : eK E b = 11) (hbn : b < H0.size) (hT : zTh E 11 b H0 [.int 0, .int 0, .int 0, .int 0, .int 0, .null, .null, .null, .null, .null, .null, .null, .null]) (hKi : zKi E H0.size zLX10) : Met l yX10_init (zws yX10_init cX10_init 1 none) rm_X10_init (zPm E H0 [.ref b]) (zQm E b 8 H0) 8 145 (zfm b H0.size) := by
  refine zEntM (by decide) rfl (Nat.le_of_ble_eq_true rfl) (fun p e s m args below meth c ls Q B hA hnm hr hlk hh hQ hl => ?_)
  have hx := B.1
  have hb := B.2.1
  have hl : lv_has ls 1 [(0, .ref b)] := hl
  have hC : zCo E b [] H0 H0 0 [] := zCo.rf
  have kne : eK E b ≠ 0 := by omega
  refine lv_aload_n hx hb dX10_init_0 rfl (lv_at hl 0 rfl) ?_
  refine m_obj B (mc_wsL_law_r3 _ (List.mem_of_getElem? (i := 6) rfl)) (mc_wsL_law_r1 _ (List.mem_of_getElem? (i := 10) rfl)) (mc_wsL_law_r1 _ (List.mem_of_getElem? (i := 11) rfl)) hl.1 dX10_init_1 rfl rfl ?_
  refine lv_aload_n hx hb dX10_init_4 rfl (lv_at hl 0 rfl) ?_
  refine lv_iconst (v := 0) hx hb dX10_init_5 (by decide) ?_
  refine m_put B fp_RX10_9 hV hbn hC hT rfl rfl rfl rfl (v := .int 0) rfl rfl dX10_init_6 (fun H1 lc1 hC hT o_ => ?_)
  have hT : zTh E 11 b H1 [.int 0, .int 0, .int 0, .int 0, .int 0, .null, .null, .null, .null, .null, .null, .null, .null] := hT
  refine lv_aload_n hx hb dX10_init_9 rfl (lv_at hl 0 rfl) ?_
  refine lv_iconst (v := 0) hx hb dX10_init_10 (by decide) ?_
  refine m_put B fp_RX10_15 hV hbn hC hT rfl rfl rfl rfl (v := .int 0) rfl rfl dX10_init_11 (fun H2 lc2 hC hT o_ => ?_)
  have hT : zTh E 11 b H2 [.int 0, .int 0, .int 0, .int 0, .int 0, .null, .null, .null, .null, .null, .null, .null, .null] := hT
  refine lv_aload_n hx hb dX10_init_14 rfl (lv_at hl 0 rfl) ?_
  refine lv_iconst (v := 0) hx hb dX10_init_15 (by decide) ?_
  refine m_put B fp_RX10_18 hV hbn hC hT rfl rfl rfl rfl (v := .int 0) rfl rfl dX10_init_16 (fun H3 lc3 hC hT o_ => ?_)
  have hT : zTh E 11 b H3 [.int 0, .int 0, .int 0, .int 0, .int 0, .null, .null, .null, .null, .null, .null, .null, .null] := hT
  refine lv_aload_n hx hb dX10_init_19 rfl (lv_at hl 0 rfl) ?_
  refine lv_iconst (v := 0) hx hb dX10_init_20 (by decide) ?_
  refine m_put B fp_RX10_21 hV hbn hC hT rfl rfl rfl rfl (v := .int 0) rfl rfl dX10_init_21 (fun H4 lc4 hC hT o_ => ?_)
  have hT : zTh E 11 b H4 [.int 0, .int 0, .int 0, .int 0, .int 0, .null, .null, .null, .null, .null, .null, .null, .null] := hT
  refine lv_aload_n hx hb dX10_init_24 rfl (lv_at hl 0 rfl) ?_
  refine lv_iconst (v := 0) hx hb dX10_init_25 (by decide) ?_
  refine m_put B fp_RX10_24 hV hbn hC hT rfl rfl rfl rfl (v := .int 0) rfl rfl dX10_init_26 (fun H5 lc5 hC hT o_ => ?_)
  have hT : zTh E 11 b H5 [.int 0, .int 0, .int 0, .int 0, .int 0, .null, .null, .null, .null, .null, .null, .null, .null] := hT
  refine lv_aload_n hx hb dX10_init_29 rfl (lv_at hl 0 rfl) ?_
  refine lv_bipush (v := 6) hx hb dX10_init_30 (by decide) ?_
  refine m_newa (z := 0) (atype := .boolean) B hA hbn hC hT rfl (mc_wsL_law_r3 _ (List.mem_of_getElem? (i := 12) rfl)) (hKi 0 51 rfl) rfl rfl rfl rfl (by decide) (by decide) (fun j _ => dn_i (by decide) (by decide)) (Nat.le_of_ble_eq_true rfl) (Nat.le_of_ble_eq_true rfl) (Nat.le_of_ble_eq_true rfl) dX10_init_32 (fun H6 hC hT o_ => ?_)
  refine m_putF B ff_RX10_27 hnm hV hbn hC hT rfl rfl rfl rfl (v := .ref (H0.size + 0)) rfl rfl dX10_init_34 (fun H7 lc7 hC hT o_ => ?_)
  have hT : zTh E 11 b H7 [.int 0, .int 0, .int 0, .int 0, .int 0, .ref (H0.size + 0), .null, .null, .null, .null, .null, .null, .null] := hT
  refine lv_aload_n hx hb dX10_init_37 rfl (lv_at hl 0 rfl) ?_
  refine lv_bipush (v := 6) hx hb dX10_init_38 (by decide) ?_
  refine m_newa (z := 1) (atype := .boolean) B hA hbn hC hT rfl (mc_wsL_law_r3 _ (List.mem_of_getElem? (i := 12) rfl)) (hKi 1 52 rfl) rfl rfl rfl rfl (by decide) (by decide) (fun j _ => dn_i (by decide) (by decide)) (Nat.le_of_ble_eq_true rfl) (Nat.le_of_ble_eq_true rfl) (Nat.le_of_ble_eq_true rfl) dX10_init_40 (fun H8 hC hT o_ => ?_)
  refine m_putF B ff_RX10_31 hnm hV hbn hC hT rfl rfl rfl rfl (v := .ref (H0.size + 1)) rfl rfl dX10_init_42 (fun H9 lc9 hC hT o_ => ?_)
  have hT : zTh E 11 b H9 [.int 0, .int 0, .int 0, .int 0, .int 0, .ref (H0.size + 0), .ref (H0.size + 1), .null, .null, .null, .null, .null, .null] := hT
  refine lv_aload_n hx hb dX10_init_45 rfl (lv_at hl 0 rfl) ?_
  refine lv_bipush (v := 6) hx hb dX10_init_46 (by decide) ?_
  refine m_newa (z := 2) (atype := .int) B hA hbn hC hT rfl (mc_wsL_law_r3 _ (List.mem_of_getElem? (i := 15) rfl)) (hKi 2 53 rfl) rfl rfl rfl rfl (by decide) (by decide) (fun j _ => dn_i (by decide) (by decide)) (Nat.le_of_ble_eq_true rfl) (Nat.le_of_ble_eq_true rfl) (Nat.le_of_ble_eq_true rfl) dX10_init_48 (fun H10 hC hT o_ => ?_)
  refine m_putF B ff_RX10_34 hnm hV hbn hC hT rfl rfl rfl rfl (v := .ref (H0.size + 2)) rfl rfl dX10_init_50 (fun H11 lc11 hC hT o_ => ?_)
  have hT : zTh E 11 b H11 [.int 0, .int 0, .int 0, .int 0, .int 0, .ref (H0.size + 0), .ref (H0.size + 1), .ref (H0.size + 2), .null, .null, .null, .null, .null] := hT
  refine lv_aload_n hx hb dX10_init_53 rfl (lv_at hl 0 rfl) ?_
  refine lv_bipush (v := 36) hx hb dX10_init_54 (by decide) ?_
  refine m_newa (z := 3) (atype := .boolean) B hA hbn hC hT rfl (mc_wsL_law_r3 _ (List.mem_of_getElem? (i := 12) rfl)) (hKi 3 54 rfl) rfl rfl rfl rfl (by decide) (by decide) (fun j _ => dn_i (by decide) (by decide)) (Nat.le_of_ble_eq_true rfl) (Nat.le_of_ble_eq_true rfl) (Nat.le_of_ble_eq_true rfl) dX10_init_56 (fun H12 hC hT o_ => ?_)
  refine m_putF B ff_RX10_38 hnm hV hbn hC hT rfl rfl rfl rfl (v := .ref (H0.size + 3)) rfl rfl dX10_init_58 (fun H13 lc13 hC hT o_ => ?_)
  have hT : zTh E 11 b H13 [.int 0, .int 0, .int 0, .int 0, .int 0, .ref (H0.size + 0), .ref (H0.size + 1), .ref (H0.size + 2), .ref (H0.size + 3), .null, .null, .null, .null] := hT
  refine lv_aload_n hx hb dX10_init_61 rfl (lv_at hl 0 rfl) ?_
  refine lv_bipush (v := 36) hx hb dX10_init_62 (by decide) ?_
  refine m_newa (z := 4) (atype := .int) B hA hbn hC hT rfl (mc_wsL_law_r3 _ (List.mem_of_getElem? (i := 15) rfl)) (hKi 4 55 rfl) rfl rfl rfl rfl (by decide) (by decide) (fun j _ => dn_i (by decide) (by decide)) (Nat.le_of_ble_eq_true rfl) (Nat.le_of_ble_eq_true rfl) (Nat.le_of_ble_eq_true rfl) dX10_init_64 (fun H14 hC hT o_ => ?_)
  refine m_putF B ff_RX10_41 hnm hV hbn hC hT rfl rfl rfl rfl (v := .ref (H0.size + 4)) rfl rfl dX10_init_66 (fun H15 lc15 hC hT o_ => ?_)
  have hT : zTh E 11 b H15 [.int 0, .int 0, .int 0, .int 0, .int 0, .ref (H0.size + 0), .ref (H0.size + 1), .ref (H0.size + 2), .ref (H0.size + 3), .ref (H0.size + 4), .null, .null, .null] := hT
  refine lv_aload_n hx hb dX10_init_69 rfl (lv_at hl 0 rfl) ?_
  refine lv_bipush (v := 36) hx hb dX10_init_70 (by decide) ?_
  refine m_newa (z := 5) (atype := .int) B hA hbn hC hT rfl (mc_wsL_law_r3 _ (List.mem_of_getElem? (i := 15) rfl)) (hKi 5 56 rfl) rfl rfl rfl rfl (by decide) (by decide) (fun j _ => dn_i (by decide) (by decide)) (Nat.le_of_ble_eq_true rfl) (Nat.le_of_ble_eq_true rfl) (Nat.le_of_ble_eq_true rfl) dX10_init_72 (fun H16 hC hT o_ => ?_)
  refine m_putF B ff_RX10_44 hnm hV hbn hC hT rfl rfl rfl rfl (v := .ref (H0.size + 5)) rfl rfl dX10_init_74 (fun H17 lc17 hC hT o_ => ?_)
  have hT : zTh E 11 b H17 [.int 0, .int 0, .int 0, .int 0, .int 0, .ref (H0.size + 0), .ref (H0.size + 1), .ref (H0.size + 2), .ref (H0.size + 3), .ref (H0.size + 4), .ref (H0.size + 5), .null, .null] := hT
  refine lv_aload_n hx hb dX10_init_77 rfl (lv_at hl 0 rfl) ?_
  refine lv_bipush (v := 12) hx hb dX10_init_78 (by decide) ?_
  refine m_newa (z := 6) (atype := .int) B hA hbn hC hT rfl (mc_wsL_law_r3 _ (List.mem_of_getElem? (i := 15) rfl)) (hKi 6 57 rfl) rfl rfl rfl rfl (by decide) (by decide) (fun j _ => dn_i (by decide) (by decide)) (Nat.le_of_ble_eq_true rfl) (Nat.le_of_ble_eq_true rfl) (Nat.le_of_ble_eq_true rfl) dX10_init_80 (fun H18 hC hT o_ => ?_)
  refine m_putF B ff_RX10_47 hnm hV hbn hC hT rfl rfl rfl rfl (v := .ref (H0.size + 6)) rfl rfl dX10_init_82 (fun H19 lc19 hC hT o_ => ?_)
  have hT : zTh E 11 b H19 [.int 0, .int 0, .int 0, .int 0, .int 0, .ref (H0.size + 0), .ref (H0.size + 1), .ref (H0.size + 2), .ref (H0.size + 3), .ref (H0.size + 4), .ref (H0.size + 5), .ref (H0.size + 6), .null] := hT
  refine lv_aload_n hx hb dX10_init_85 rfl (lv_at hl 0 rfl) ?_
  refine m_new (z := 7) (kn := 5) B hbn hC hT nw_RX10_50 (hKi 7 5 rfl) rfl rfl rfl (Nat.le_of_ble_eq_true rfl) (Nat.le_of_ble_eq_true rfl) dX10_init_86 (fun H20 hC hT hTn o_ => ?_)
  refine lv_dup hx hb dX10_init_89 rfl ?_
  refine zkM (b := b) (zrIN (rest := [.ref (H0.size + 7), .ref b]) B hA (m_X4_init l E hV H20 (H0.size + 7) (hKi 7 5 rfl) (by rw [hC.1]; omega) hTn zKi.nil) cn_RX10_52 rfl hl.1 rfl (Nat.le_of_ble_eq_true rfl) dX10_init_90 rfl rfl ⟨rfl, rfl⟩ ⟨Nat.le_of_ble_eq_true rfl, Nat.le_of_ble_eq_true rfl⟩ (hC.zO hh kne)) hbn hC hT (by omega) (by omega) (hKi.ne 8 0 rfl rfl) (fun H21 lc21 hC hT hq o_ => ?_)
  refine m_putF B ff_RX10_53 hnm hV hbn hC hT rfl rfl rfl rfl (v := .ref (H0.size + 7)) rfl rfl dX10_init_93 (fun H22 lc22 hC hT o_ => ?_)
  have hT : zTh E 11 b H22 [.int 0, .int 0, .int 0, .int 0, .int 0, .ref (H0.size + 0), .ref (H0.size + 1), .ref (H0.size + 2), .ref (H0.size + 3), .ref (H0.size + 4), .ref (H0.size + 5), .ref (H0.size + 6), .ref (H0.size + 7)] := hT
  exact m_retM B hr hlk hh hQ hC (hT.done kb (fun j hj => match j, hj with
    | 0, _ => ⟨_, rfl, (dn_i (by decide) (by decide))⟩
    | 1, _ => ⟨_, rfl, (dn_i (by decide) (by decide))⟩
    | 2, _ => ⟨_, rfl, (dn_i (by decide) (by decide))⟩
    | 3, _ => ⟨_, rfl, (dn_i (by decide) (by decide))⟩
    | 4, _ => ⟨_, rfl, (dn_i (by decide) (by decide))⟩
    | 5, _ => ⟨_, rfl, (dn_r (hKi 0 51 rfl))⟩
    | 6, _ => ⟨_, rfl, (dn_r (hKi 1 52 rfl))⟩
    | 7, _ => ⟨_, rfl, (dn_r (hKi 2 53 rfl))⟩
    | 8, _ => ⟨_, rfl, (dn_r (hKi 3 54 rfl))⟩
    | 9, _ => ⟨_, rfl, (dn_r (hKi 4 55 rfl))⟩
    | 10, _ => ⟨_, rfl, (dn_r (hKi 5 56 rfl))⟩
    | 11, _ => ⟨_, rfl, (dn_r (hKi 6 57 rfl))⟩
    | 12, _ => ⟨_, rfl, (dn_r (hKi 7 5 rfl))⟩
    | j + 13, h => absurd h (Nat.not_lt.mpr (Nat.le_add_left _ _)))) dX10_init_96

def zLX9 : List Nat := [48, 49]
theorem dX9_init_0 : decode cX9_init 0 = .ok (.aload_n 0, 1) := by decide +kernel
theorem dX9_init_1 : decode cX9_init 1 = .ok (.invokespecial 3, 3) := by decide +kernel
theorem dX9_init_4 : decode cX9_init 4 = .ok (.aload_n 0, 1) := by decide +kernel
theorem dX9_init_5 : decode cX9_init 5 = .ok (.iconst 0, 1) := by decide +kernel
theorem dX9_init_6 : decode cX9_init 6 = .ok (.putfield 9, 3) := by decide +kernel
theorem dX9_init_9 : decode cX9_init 9 = .ok (.aload_n 0, 1) := by decide +kernel
theorem dX9_init_10 : decode cX9_init 10 = .ok (.sipush 1601, 3) := by decide +kernel
theorem dX9_init_13 : decode cX9_init 13 = .ok (.newarray .byte, 2) := by decide +kernel
theorem dX9_init_15 : decode cX9_init 15 = .ok (.putfield 15, 3) := by decide +kernel
theorem dX9_init_18 : decode cX9_init 18 = .ok (.aload_n 0, 1) := by decide +kernel
theorem dX9_init_19 : decode cX9_init 19 = .ok (.sipush 1601, 3) := by decide +kernel
theorem dX9_init_22 : decode cX9_init 22 = .ok (.newarray .int, 2) := by decide +kernel
theorem dX9_init_24 : decode cX9_init 24 = .ok (.putfield 19, 3) := by decide +kernel
theorem dX9_init_27 : decode cX9_init 27 = .ok (.aload_n 0, 1) := by decide +kernel
theorem dX9_init_28 : decode cX9_init 28 = .ok (.iconst 0, 1) := by decide +kernel
theorem dX9_init_29 : decode cX9_init 29 = .ok (.putfield 23, 3) := by decide +kernel
theorem dX9_init_32 : decode cX9_init 32 = .ok (.aload_n 0, 1) := by decide +kernel
theorem dX9_init_33 : decode cX9_init 33 = .ok (.aload_n 1, 1) := by decide +kernel
theorem dX9_init_34 : decode cX9_init 34 = .ok (.putfield 26, 3) := by decide +kernel
theorem dX9_init_37 : decode cX9_init 37 = .ok (.return_, 1) := by decide +kernel
def rm_X9_init : Room := { frames := 1, cells := 2, slots := 3202, locals := 12 }
set_option maxRecDepth 100000 in
set_option maxHeartbeats 4000000 in
theorem m_X9_init (l : Launch) (E : zE) (hV : zV E) (H0 : Heap) (b : Nat) (kb : eK E b = 10) (hbn : b < H0.size) (hT : zTh E 10 b H0 [.int 0, .null, .null, .null, .int 0]) (p0 : Nat) (kp0 : eK E p0 = 50) (hKi : zKi E H0.size zLX9) : Met l yX9_init (zws yX9_init cX9_init 2 none) rm_X9_init (zPm E H0 [.ref b, .ref p0]) (zQm E b 2 H0) 2 3202 (zfm b H0.size) := by
  refine zEntM (by decide) rfl (Nat.le_of_ble_eq_true rfl) (fun p e s m args below meth c ls Q B hA hnm hr hlk hh hQ hl => ?_)
  have hx := B.1
  have hb := B.2.1
  have hl : lv_has ls 2 [(0, .ref b), (1, .ref p0)] := hl
  have hC : zCo E b [] H0 H0 0 [] := zCo.rf
  have kne : eK E b ≠ 0 := by omega
  refine lv_aload_n hx hb dX9_init_0 rfl (lv_at hl 0 rfl) ?_
  refine m_obj B (mc_wsL_law_r5 _ (List.mem_of_getElem? (i := 7) rfl)) (mc_wsL_law_r1 _ (List.mem_of_getElem? (i := 10) rfl)) (mc_wsL_law_r1 _ (List.mem_of_getElem? (i := 11) rfl)) hl.1 dX9_init_1 rfl rfl ?_
  refine lv_aload_n hx hb dX9_init_4 rfl (lv_at hl 0 rfl) ?_
  refine lv_iconst (v := 0) hx hb dX9_init_5 (by decide) ?_
  refine m_put B fp_RX9_9 hV hbn hC hT rfl rfl rfl rfl (v := .int 0) rfl rfl dX9_init_6 (fun H1 lc1 hC hT o_ => ?_)
  have hT : zTh E 10 b H1 [.int 0, .null, .null, .null, .int 0] := hT
  refine lv_aload_n hx hb dX9_init_9 rfl (lv_at hl 0 rfl) ?_
  refine lv_sipush (v := 1601) hx hb dX9_init_10 (by decide) ?_
  refine m_newa (z := 0) (atype := .byte) B hA hbn hC hT rfl (mc_wsL_law_r1 _ (List.mem_of_getElem? (i := 12) rfl)) (hKi 0 48 rfl) rfl rfl rfl rfl (by decide) (by decide) (fun j _ => dn_i (by decide) (by decide)) (Nat.le_of_ble_eq_true rfl) (Nat.le_of_ble_eq_true rfl) (Nat.le_of_ble_eq_true rfl) dX9_init_13 (fun H2 hC hT o_ => ?_)
  refine m_putF B ff_RX9_15 hnm hV hbn hC hT rfl rfl rfl rfl (v := .ref (H0.size + 0)) rfl rfl dX9_init_15 (fun H3 lc3 hC hT o_ => ?_)
  have hT : zTh E 10 b H3 [.int 0, .ref (H0.size + 0), .null, .null, .int 0] := hT
  refine lv_aload_n hx hb dX9_init_18 rfl (lv_at hl 0 rfl) ?_
  refine lv_sipush (v := 1601) hx hb dX9_init_19 (by decide) ?_
  refine m_newa (z := 1) (atype := .int) B hA hbn hC hT rfl (mc_wsL_law_r3 _ (List.mem_of_getElem? (i := 15) rfl)) (hKi 1 49 rfl) rfl rfl rfl rfl (by decide) (by decide) (fun j _ => dn_i (by decide) (by decide)) (Nat.le_of_ble_eq_true rfl) (Nat.le_of_ble_eq_true rfl) (Nat.le_of_ble_eq_true rfl) dX9_init_22 (fun H4 hC hT o_ => ?_)
  refine m_putF B ff_RX9_19 hnm hV hbn hC hT rfl rfl rfl rfl (v := .ref (H0.size + 1)) rfl rfl dX9_init_24 (fun H5 lc5 hC hT o_ => ?_)
  have hT : zTh E 10 b H5 [.int 0, .ref (H0.size + 0), .ref (H0.size + 1), .null, .int 0] := hT
  refine lv_aload_n hx hb dX9_init_27 rfl (lv_at hl 0 rfl) ?_
  refine lv_iconst (v := 0) hx hb dX9_init_28 (by decide) ?_
  refine m_put B fp_RX9_23 hV hbn hC hT rfl rfl rfl rfl (v := .int 0) rfl rfl dX9_init_29 (fun H6 lc6 hC hT o_ => ?_)
  have hT : zTh E 10 b H6 [.int 0, .ref (H0.size + 0), .ref (H0.size + 1), .null, .int 0] := hT
  refine lv_aload_n hx hb dX9_init_32 rfl (lv_at hl 0 rfl) ?_
  refine lv_aload_n hx hb dX9_init_33 rfl (lv_at hl 1 rfl) ?_
  refine m_putF B ff_RX9_26 hnm hV hbn hC hT rfl rfl rfl rfl (v := .ref p0) rfl rfl dX9_init_34 (fun H7 lc7 hC hT o_ => ?_)
  have hT : zTh E 10 b H7 [.int 0, .ref (H0.size + 0), .ref (H0.size + 1), .ref p0, .int 0] := hT
  exact m_retM B hr hlk hh hQ hC (hT.done kb (fun j hj => match j, hj with
    | 0, _ => ⟨_, rfl, (dn_i (by decide) (by decide))⟩
    | 1, _ => ⟨_, rfl, (dn_r (hKi 0 48 rfl))⟩
    | 2, _ => ⟨_, rfl, (dn_r (hKi 1 49 rfl))⟩
    | 3, _ => ⟨_, rfl, (dn_r kp0)⟩
    | 4, _ => ⟨_, rfl, (dn_i (by decide) (by decide))⟩
    | j + 5, h => absurd h (Nat.not_lt.mpr (Nat.le_add_left _ _)))) dX9_init_37

def zLX5 : List Nat := [39, 10, 48, 49]
theorem dX5_init_0 : decode cX5_init 0 = .ok (.aload_n 0, 1) := by decide +kernel
theorem dX5_init_1 : decode cX5_init 1 = .ok (.invokespecial 3, 3) := by decide +kernel
theorem dX5_init_4 : decode cX5_init 4 = .ok (.aload_n 0, 1) := by decide +kernel
theorem dX5_init_5 : decode cX5_init 5 = .ok (.iconst 0, 1) := by decide +kernel
theorem dX5_init_6 : decode cX5_init 6 = .ok (.putfield 9, 3) := by decide +kernel
theorem dX5_init_9 : decode cX5_init 9 = .ok (.aload_n 0, 1) := by decide +kernel
theorem dX5_init_10 : decode cX5_init 10 = .ok (.iconst (-1), 1) := by decide +kernel
theorem dX5_init_11 : decode cX5_init 11 = .ok (.putfield 15, 3) := by decide +kernel
theorem dX5_init_14 : decode cX5_init 14 = .ok (.aload_n 0, 1) := by decide +kernel
theorem dX5_init_15 : decode cX5_init 15 = .ok (.iconst 0, 1) := by decide +kernel
theorem dX5_init_16 : decode cX5_init 16 = .ok (.putfield 18, 3) := by decide +kernel
theorem dX5_init_19 : decode cX5_init 19 = .ok (.aload_n 0, 1) := by decide +kernel
theorem dX5_init_20 : decode cX5_init 20 = .ok (.iconst 0, 1) := by decide +kernel
theorem dX5_init_21 : decode cX5_init 21 = .ok (.putfield 23, 3) := by decide +kernel
theorem dX5_init_24 : decode cX5_init 24 = .ok (.aload_n 0, 1) := by decide +kernel
theorem dX5_init_25 : decode cX5_init 25 = .ok (.iconst 0, 1) := by decide +kernel
theorem dX5_init_26 : decode cX5_init 26 = .ok (.putfield 26, 3) := by decide +kernel
theorem dX5_init_29 : decode cX5_init 29 = .ok (.aload_n 0, 1) := by decide +kernel
theorem dX5_init_30 : decode cX5_init 30 = .ok (.iconst 0, 1) := by decide +kernel
theorem dX5_init_31 : decode cX5_init 31 = .ok (.putfield 29, 3) := by decide +kernel
theorem dX5_init_34 : decode cX5_init 34 = .ok (.aload_n 0, 1) := by decide +kernel
theorem dX5_init_35 : decode cX5_init 35 = .ok (.iconst 0, 1) := by decide +kernel
theorem dX5_init_36 : decode cX5_init 36 = .ok (.putfield 32, 3) := by decide +kernel
theorem dX5_init_39 : decode cX5_init 39 = .ok (.aload_n 0, 1) := by decide +kernel
theorem dX5_init_40 : decode cX5_init 40 = .ok (.bipush 6, 2) := by decide +kernel
theorem dX5_init_42 : decode cX5_init 42 = .ok (.newarray .int, 2) := by decide +kernel
theorem dX5_init_44 : decode cX5_init 44 = .ok (.putfield 35, 3) := by decide +kernel
theorem dX5_init_47 : decode cX5_init 47 = .ok (.aload_n 0, 1) := by decide +kernel
theorem dX5_init_48 : decode cX5_init 48 = .ok (.new 21, 3) := by decide +kernel
theorem dX5_init_51 : decode cX5_init 51 = .ok (.dup, 1) := by decide +kernel
theorem dX5_init_52 : decode cX5_init 52 = .ok (.aload_n 1, 1) := by decide +kernel
theorem dX5_init_53 : decode cX5_init 53 = .ok (.invokespecial 39, 3) := by decide +kernel
theorem dX5_init_56 : decode cX5_init 56 = .ok (.putfield 42, 3) := by decide +kernel
theorem dX5_init_59 : decode cX5_init 59 = .ok (.aload_n 0, 1) := by decide +kernel
theorem dX5_init_60 : decode cX5_init 60 = .ok (.aload_n 2, 1) := by decide +kernel
theorem dX5_init_61 : decode cX5_init 61 = .ok (.putfield 46, 3) := by decide +kernel
theorem dX5_init_64 : decode cX5_init 64 = .ok (.return_, 1) := by decide +kernel
def rm_X5_init : Room := { frames := 2, cells := 4, slots := 3213, locals := 33 }
set_option maxRecDepth 100000 in
set_option maxHeartbeats 4000000 in
theorem m_X5_init (l : Launch) (E : zE) (hV : zV E) (H0 : Heap) (b : Nat) (kb : eK E b = 6) (hbn : b < H0.size) (hT : zTh E 6 b H0 [.int 0, .int 0, .null, .null, .int 0, .int 0, .int 0, .int 0, .int 0, .null]) (p0 : Nat) (kp0 : eK E p0 = 50) (p1 : Nat) (kp1 : eK E p1 = 11) (hKi : zKi E H0.size zLX5) : Met l yX5_init (zws yX5_init cX5_init 3 none) rm_X5_init (zPm E H0 [.ref b, .ref p0, .ref p1]) (zQm E b 4 H0) 4 3213 (zfm b H0.size) := by
  refine zEntM (by decide) rfl (Nat.le_of_ble_eq_true rfl) (fun p e s m args below meth c ls Q B hA hnm hr hlk hh hQ hl => ?_)
  have hx := B.1
  have hb := B.2.1
  have hl : lv_has ls 3 [(0, .ref b), (1, .ref p0), (2, .ref p1)] := hl
  have hC : zCo E b [] H0 H0 0 [] := zCo.rf
  have kne : eK E b ≠ 0 := by omega
  refine lv_aload_n hx hb dX5_init_0 rfl (lv_at hl 0 rfl) ?_
  refine m_obj B (mc_wsL_law_r4 _ (List.mem_of_getElem? (i := 14) rfl)) (mc_wsL_law_r1 _ (List.mem_of_getElem? (i := 10) rfl)) (mc_wsL_law_r1 _ (List.mem_of_getElem? (i := 11) rfl)) hl.1 dX5_init_1 rfl rfl ?_
  refine lv_aload_n hx hb dX5_init_4 rfl (lv_at hl 0 rfl) ?_
  refine lv_iconst (v := 0) hx hb dX5_init_5 (by decide) ?_
  refine m_put B fp_RX5_9 hV hbn hC hT rfl rfl rfl rfl (v := .int 0) rfl rfl dX5_init_6 (fun H1 lc1 hC hT o_ => ?_)
  have hT : zTh E 6 b H1 [.int 0, .int 0, .null, .null, .int 0, .int 0, .int 0, .int 0, .int 0, .null] := hT
  refine lv_aload_n hx hb dX5_init_9 rfl (lv_at hl 0 rfl) ?_
  refine lv_iconst (v := (-1)) hx hb dX5_init_10 (by decide) ?_
  refine m_put B fp_RX5_15 hV hbn hC hT rfl rfl rfl rfl (v := .int (-1)) rfl rfl dX5_init_11 (fun H2 lc2 hC hT o_ => ?_)
  have hT : zTh E 6 b H2 [.int 0, .int (-1), .null, .null, .int 0, .int 0, .int 0, .int 0, .int 0, .null] := hT
  refine lv_aload_n hx hb dX5_init_14 rfl (lv_at hl 0 rfl) ?_
  refine lv_iconst (v := 0) hx hb dX5_init_15 (by decide) ?_
  refine m_put B fp_RX5_18 hV hbn hC hT rfl rfl rfl rfl (v := .int 0) rfl rfl dX5_init_16 (fun H3 lc3 hC hT o_ => ?_)
  have hT : zTh E 6 b H3 [.int 0, .int (-1), .null, .null, .int 0, .int 0, .int 0, .int 0, .int 0, .null] := hT
  refine lv_aload_n hx hb dX5_init_19 rfl (lv_at hl 0 rfl) ?_
  refine lv_iconst (v := 0) hx hb dX5_init_20 (by decide) ?_
  refine m_put B fp_RX5_23 hV hbn hC hT rfl rfl rfl rfl (v := .int 0) rfl rfl dX5_init_21 (fun H4 lc4 hC hT o_ => ?_)
  have hT : zTh E 6 b H4 [.int 0, .int (-1), .null, .null, .int 0, .int 0, .int 0, .int 0, .int 0, .null] := hT
  refine lv_aload_n hx hb dX5_init_24 rfl (lv_at hl 0 rfl) ?_
  refine lv_iconst (v := 0) hx hb dX5_init_25 (by decide) ?_
  refine m_put B fp_RX5_26 hV hbn hC hT rfl rfl rfl rfl (v := .int 0) rfl rfl dX5_init_26 (fun H5 lc5 hC hT o_ => ?_)
  have hT : zTh E 6 b H5 [.int 0, .int (-1), .null, .null, .int 0, .int 0, .int 0, .int 0, .int 0, .null] := hT
  refine lv_aload_n hx hb dX5_init_29 rfl (lv_at hl 0 rfl) ?_
  refine lv_iconst (v := 0) hx hb dX5_init_30 (by decide) ?_
  refine m_put B fp_RX5_29 hV hbn hC hT rfl rfl rfl rfl (v := .int 0) rfl rfl dX5_init_31 (fun H6 lc6 hC hT o_ => ?_)
  have hT : zTh E 6 b H6 [.int 0, .int (-1), .null, .null, .int 0, .int 0, .int 0, .int 0, .int 0, .null] := hT
  refine lv_aload_n hx hb dX5_init_34 rfl (lv_at hl 0 rfl) ?_
  refine lv_iconst (v := 0) hx hb dX5_init_35 (by decide) ?_
  refine m_put B fp_RX5_32 hV hbn hC hT rfl rfl rfl rfl (v := .int 0) rfl rfl dX5_init_36 (fun H7 lc7 hC hT o_ => ?_)
  have hT : zTh E 6 b H7 [.int 0, .int (-1), .null, .null, .int 0, .int 0, .int 0, .int 0, .int 0, .null] := hT
  refine lv_aload_n hx hb dX5_init_39 rfl (lv_at hl 0 rfl) ?_
  refine lv_bipush (v := 6) hx hb dX5_init_40 (by decide) ?_
  refine m_newa (z := 0) (atype := .int) B hA hbn hC hT rfl (mc_wsL_law_r3 _ (List.mem_of_getElem? (i := 15) rfl)) (hKi 0 39 rfl) rfl rfl rfl rfl (by decide) (by decide) (fun j _ => dn_i (by decide) (by decide)) (Nat.le_of_ble_eq_true rfl) (Nat.le_of_ble_eq_true rfl) (Nat.le_of_ble_eq_true rfl) dX5_init_42 (fun H8 hC hT o_ => ?_)
  refine m_putF B ff_RX5_35 hnm hV hbn hC hT rfl rfl rfl rfl (v := .ref (H0.size + 0)) rfl rfl dX5_init_44 (fun H9 lc9 hC hT o_ => ?_)
  have hT : zTh E 6 b H9 [.int 0, .int (-1), .null, .null, .int 0, .int 0, .int 0, .int 0, .int 0, .ref (H0.size + 0)] := hT
  refine lv_aload_n hx hb dX5_init_47 rfl (lv_at hl 0 rfl) ?_
  refine m_new (z := 1) (kn := 10) B hbn hC hT nw_RX5_21 (hKi 1 10 rfl) rfl rfl rfl (Nat.le_of_ble_eq_true rfl) (Nat.le_of_ble_eq_true rfl) dX5_init_48 (fun H10 hC hT hTn o_ => ?_)
  refine lv_dup hx hb dX5_init_51 rfl ?_
  refine lv_aload_n hx hb dX5_init_52 rfl (lv_at hl 1 rfl) ?_
  refine zkM (b := b) (zrI (rest := [.ref (H0.size + 1), .ref b]) B hA (m_X9_init l E hV H10 (H0.size + 1) (hKi 1 10 rfl) (by rw [hC.1]; omega) hTn p0 kp0 (by rw [hC.1]; exact hKi.sub 2 zLX9 rfl)) ci_RX5_39 rfl hl.1 rfl (Nat.le_of_ble_eq_true rfl) dX5_init_53 rfl rfl ⟨rfl, rfl⟩ ⟨Nat.le_of_ble_eq_true rfl, Nat.le_of_ble_eq_true rfl⟩ (hC.zO hh kne)) hbn hC hT (by omega) (by omega) (hKi.ne 2 2 rfl rfl) (fun H11 lc11 hC hT hq o_ => ?_)
  refine m_putF B ff_RX5_42 hnm hV hbn hC hT rfl rfl rfl rfl (v := .ref (H0.size + 1)) rfl rfl dX5_init_56 (fun H12 lc12 hC hT o_ => ?_)
  have hT : zTh E 6 b H12 [.int 0, .int (-1), .ref (H0.size + 1), .null, .int 0, .int 0, .int 0, .int 0, .int 0, .ref (H0.size + 0)] := hT
  refine lv_aload_n hx hb dX5_init_59 rfl (lv_at hl 0 rfl) ?_
  refine lv_aload_n hx hb dX5_init_60 rfl (lv_at hl 2 rfl) ?_
  refine m_put B fp_RX5_46 hV hbn hC hT rfl rfl rfl rfl (v := .ref p1) rfl rfl dX5_init_61 (fun H13 lc13 hC hT o_ => ?_)
  have hT : zTh E 6 b H13 [.int 0, .int (-1), .ref (H0.size + 1), .ref p1, .int 0, .int 0, .int 0, .int 0, .int 0, .ref (H0.size + 0)] := hT
  exact m_retM B hr hlk hh hQ hC (hT.done kb (fun j hj => match j, hj with
    | 0, _ => ⟨_, rfl, (dn_i (by decide) (by decide))⟩
    | 1, _ => ⟨_, rfl, (dn_i (by decide) (by decide))⟩
    | 2, _ => ⟨_, rfl, (dn_r (hKi 1 10 rfl))⟩
    | 3, _ => ⟨_, rfl, (dn_r kp1)⟩
    | 4, _ => ⟨_, rfl, (dn_i (by decide) (by decide))⟩
    | 5, _ => ⟨_, rfl, (dn_i (by decide) (by decide))⟩
    | 6, _ => ⟨_, rfl, (dn_i (by decide) (by decide))⟩
    | 7, _ => ⟨_, rfl, (dn_i (by decide) (by decide))⟩
    | 8, _ => ⟨_, rfl, (dn_i (by decide) (by decide))⟩
    | 9, _ => ⟨_, rfl, (dn_r (hKi 0 39 rfl))⟩
    | j + 10, h => absurd h (Nat.not_lt.mpr (Nat.le_add_left _ _)))) dX5_init_64

def zLX2 : List Nat := [26, 27, 28, 29, 30, 31, 32]
theorem dX2_init_0 : decode cX2_init 0 = .ok (.aload_n 0, 1) := by decide +kernel
theorem dX2_init_1 : decode cX2_init 1 = .ok (.invokespecial 3, 3) := by decide +kernel
theorem dX2_init_4 : decode cX2_init 4 = .ok (.aload_n 0, 1) := by decide +kernel
theorem dX2_init_5 : decode cX2_init 5 = .ok (.iconst 0, 1) := by decide +kernel
theorem dX2_init_6 : decode cX2_init 6 = .ok (.putfield 9, 3) := by decide +kernel
theorem dX2_init_9 : decode cX2_init 9 = .ok (.aload_n 0, 1) := by decide +kernel
theorem dX2_init_10 : decode cX2_init 10 = .ok (.iconst 0, 1) := by decide +kernel
theorem dX2_init_11 : decode cX2_init 11 = .ok (.putfield 15, 3) := by decide +kernel
theorem dX2_init_14 : decode cX2_init 14 = .ok (.aload_n 0, 1) := by decide +kernel
theorem dX2_init_15 : decode cX2_init 15 = .ok (.iconst 0, 1) := by decide +kernel
theorem dX2_init_16 : decode cX2_init 16 = .ok (.putfield 18, 3) := by decide +kernel
theorem dX2_init_19 : decode cX2_init 19 = .ok (.aload_n 0, 1) := by decide +kernel
theorem dX2_init_20 : decode cX2_init 20 = .ok (.iconst 0, 1) := by decide +kernel
theorem dX2_init_21 : decode cX2_init 21 = .ok (.putfield 21, 3) := by decide +kernel
theorem dX2_init_24 : decode cX2_init 24 = .ok (.aload_n 0, 1) := by decide +kernel
theorem dX2_init_25 : decode cX2_init 25 = .ok (.iconst 0, 1) := by decide +kernel
theorem dX2_init_26 : decode cX2_init 26 = .ok (.putfield 25, 3) := by decide +kernel
theorem dX2_init_29 : decode cX2_init 29 = .ok (.aload_n 0, 1) := by decide +kernel
theorem dX2_init_30 : decode cX2_init 30 = .ok (.sipush 180, 3) := by decide +kernel
theorem dX2_init_33 : decode cX2_init 33 = .ok (.newarray .int, 2) := by decide +kernel
theorem dX2_init_35 : decode cX2_init 35 = .ok (.putfield 28, 3) := by decide +kernel
theorem dX2_init_38 : decode cX2_init 38 = .ok (.aload_n 0, 1) := by decide +kernel
theorem dX2_init_39 : decode cX2_init 39 = .ok (.bipush 6, 2) := by decide +kernel
theorem dX2_init_41 : decode cX2_init 41 = .ok (.newarray .boolean, 2) := by decide +kernel
theorem dX2_init_43 : decode cX2_init 43 = .ok (.putfield 32, 3) := by decide +kernel
theorem dX2_init_46 : decode cX2_init 46 = .ok (.aload_n 0, 1) := by decide +kernel
theorem dX2_init_47 : decode cX2_init 47 = .ok (.bipush 60, 2) := by decide +kernel
theorem dX2_init_49 : decode cX2_init 49 = .ok (.newarray .int, 2) := by decide +kernel
theorem dX2_init_51 : decode cX2_init 51 = .ok (.putfield 36, 3) := by decide +kernel
theorem dX2_init_54 : decode cX2_init 54 = .ok (.aload_n 0, 1) := by decide +kernel
theorem dX2_init_55 : decode cX2_init 55 = .ok (.bipush 60, 2) := by decide +kernel
theorem dX2_init_57 : decode cX2_init 57 = .ok (.newarray .int, 2) := by decide +kernel
theorem dX2_init_59 : decode cX2_init 59 = .ok (.putfield 39, 3) := by decide +kernel
theorem dX2_init_62 : decode cX2_init 62 = .ok (.aload_n 0, 1) := by decide +kernel
theorem dX2_init_63 : decode cX2_init 63 = .ok (.bipush 6, 2) := by decide +kernel
theorem dX2_init_65 : decode cX2_init 65 = .ok (.newarray .int, 2) := by decide +kernel
theorem dX2_init_67 : decode cX2_init 67 = .ok (.putfield 42, 3) := by decide +kernel
theorem dX2_init_70 : decode cX2_init 70 = .ok (.aload_n 0, 1) := by decide +kernel
theorem dX2_init_71 : decode cX2_init 71 = .ok (.sipush 288, 3) := by decide +kernel
theorem dX2_init_74 : decode cX2_init 74 = .ok (.newarray .int, 2) := by decide +kernel
theorem dX2_init_76 : decode cX2_init 76 = .ok (.putfield 45, 3) := by decide +kernel
theorem dX2_init_79 : decode cX2_init 79 = .ok (.aload_n 0, 1) := by decide +kernel
theorem dX2_init_80 : decode cX2_init 80 = .ok (.sipush 288, 3) := by decide +kernel
theorem dX2_init_83 : decode cX2_init 83 = .ok (.newarray .int, 2) := by decide +kernel
theorem dX2_init_85 : decode cX2_init 85 = .ok (.putfield 48, 3) := by decide +kernel
theorem dX2_init_88 : decode cX2_init 88 = .ok (.return_, 1) := by decide +kernel
def rm_X2_init : Room := { frames := 1, cells := 7, slots := 888, locals := 12 }
set_option maxRecDepth 100000 in
set_option maxHeartbeats 4000000 in
theorem m_X2_init (l : Launch) (E : zE) (hV : zV E) (H0 : Heap) (b : Nat) (kb : eK E b = 3) (hbn : b < H0.size) (hT : zTh E 3 b H0 [.int 0, .int 0, .int 0, .int 0, .int 0, .null, .null, .null, .null, .null, .null, .null]) (hKi : zKi E H0.size zLX2) : Met l yX2_init (zws yX2_init cX2_init 1 none) rm_X2_init (zPm E H0 [.ref b]) (zQm E b 7 H0) 7 888 (zfm b H0.size) := by
  refine zEntM (by decide) rfl (Nat.le_of_ble_eq_true rfl) (fun p e s m args below meth c ls Q B hA hnm hr hlk hh hQ hl => ?_)
  have hx := B.1
  have hb := B.2.1
  have hl : lv_has ls 1 [(0, .ref b)] := hl
  have hC : zCo E b [] H0 H0 0 [] := zCo.rf
  have kne : eK E b ≠ 0 := by omega
  refine lv_aload_n hx hb dX2_init_0 rfl (lv_at hl 0 rfl) ?_
  refine m_obj B (mc_wsL_law_r5 _ (List.mem_of_getElem? (i := 15) rfl)) (mc_wsL_law_r1 _ (List.mem_of_getElem? (i := 10) rfl)) (mc_wsL_law_r1 _ (List.mem_of_getElem? (i := 11) rfl)) hl.1 dX2_init_1 rfl rfl ?_
  refine lv_aload_n hx hb dX2_init_4 rfl (lv_at hl 0 rfl) ?_
  refine lv_iconst (v := 0) hx hb dX2_init_5 (by decide) ?_
  refine m_put B fp_RX2_9 hV hbn hC hT rfl rfl rfl rfl (v := .int 0) rfl rfl dX2_init_6 (fun H1 lc1 hC hT o_ => ?_)
  have hT : zTh E 3 b H1 [.int 0, .int 0, .int 0, .int 0, .int 0, .null, .null, .null, .null, .null, .null, .null] := hT
  refine lv_aload_n hx hb dX2_init_9 rfl (lv_at hl 0 rfl) ?_
  refine lv_iconst (v := 0) hx hb dX2_init_10 (by decide) ?_
  refine m_put B fp_RX2_15 hV hbn hC hT rfl rfl rfl rfl (v := .int 0) rfl rfl dX2_init_11 (fun H2 lc2 hC hT o_ => ?_)
  have hT : zTh E 3 b H2 [.int 0, .int 0, .int 0, .int 0, .int 0, .null, .null, .null, .null, .null, .null, .null] := hT
  refine lv_aload_n hx hb dX2_init_14 rfl (lv_at hl 0 rfl) ?_
  refine lv_iconst (v := 0) hx hb dX2_init_15 (by decide) ?_
  refine m_put B fp_RX2_18 hV hbn hC hT rfl rfl rfl rfl (v := .int 0) rfl rfl dX2_init_16 (fun H3 lc3 hC hT o_ => ?_)
  have hT : zTh E 3 b H3 [.int 0, .int 0, .int 0, .int 0, .int 0, .null, .null, .null, .null, .null, .null, .null] := hT
  refine lv_aload_n hx hb dX2_init_19 rfl (lv_at hl 0 rfl) ?_
  refine lv_iconst (v := 0) hx hb dX2_init_20 (by decide) ?_
  refine m_put B fp_RX2_21 hV hbn hC hT rfl rfl rfl rfl (v := .int 0) rfl rfl dX2_init_21 (fun H4 lc4 hC hT o_ => ?_)
  have hT : zTh E 3 b H4 [.int 0, .int 0, .int 0, .int 0, .int 0, .null, .null, .null, .null, .null, .null, .null] := hT
  refine lv_aload_n hx hb dX2_init_24 rfl (lv_at hl 0 rfl) ?_
  refine lv_iconst (v := 0) hx hb dX2_init_25 (by decide) ?_
  refine m_put B fp_RX2_25 hV hbn hC hT rfl rfl rfl rfl (v := .int 0) rfl rfl dX2_init_26 (fun H5 lc5 hC hT o_ => ?_)
  have hT : zTh E 3 b H5 [.int 0, .int 0, .int 0, .int 0, .int 0, .null, .null, .null, .null, .null, .null, .null] := hT
  refine lv_aload_n hx hb dX2_init_29 rfl (lv_at hl 0 rfl) ?_
  refine lv_sipush (v := 180) hx hb dX2_init_30 (by decide) ?_
  refine m_newa (z := 0) (atype := .int) B hA hbn hC hT rfl (mc_wsL_law_r3 _ (List.mem_of_getElem? (i := 15) rfl)) (hKi 0 26 rfl) rfl rfl rfl rfl (by decide) (by decide) (fun j _ => dn_i (by decide) (by decide)) (Nat.le_of_ble_eq_true rfl) (Nat.le_of_ble_eq_true rfl) (Nat.le_of_ble_eq_true rfl) dX2_init_33 (fun H6 hC hT o_ => ?_)
  refine m_putF B ff_RX2_28 hnm hV hbn hC hT rfl rfl rfl rfl (v := .ref (H0.size + 0)) rfl rfl dX2_init_35 (fun H7 lc7 hC hT o_ => ?_)
  have hT : zTh E 3 b H7 [.int 0, .int 0, .int 0, .int 0, .int 0, .ref (H0.size + 0), .null, .null, .null, .null, .null, .null] := hT
  refine lv_aload_n hx hb dX2_init_38 rfl (lv_at hl 0 rfl) ?_
  refine lv_bipush (v := 6) hx hb dX2_init_39 (by decide) ?_
  refine m_newa (z := 1) (atype := .boolean) B hA hbn hC hT rfl (mc_wsL_law_r3 _ (List.mem_of_getElem? (i := 12) rfl)) (hKi 1 27 rfl) rfl rfl rfl rfl (by decide) (by decide) (fun j _ => dn_i (by decide) (by decide)) (Nat.le_of_ble_eq_true rfl) (Nat.le_of_ble_eq_true rfl) (Nat.le_of_ble_eq_true rfl) dX2_init_41 (fun H8 hC hT o_ => ?_)
  refine m_putF B ff_RX2_32 hnm hV hbn hC hT rfl rfl rfl rfl (v := .ref (H0.size + 1)) rfl rfl dX2_init_43 (fun H9 lc9 hC hT o_ => ?_)
  have hT : zTh E 3 b H9 [.int 0, .int 0, .int 0, .int 0, .int 0, .ref (H0.size + 0), .ref (H0.size + 1), .null, .null, .null, .null, .null] := hT
  refine lv_aload_n hx hb dX2_init_46 rfl (lv_at hl 0 rfl) ?_
  refine lv_bipush (v := 60) hx hb dX2_init_47 (by decide) ?_
  refine m_newa (z := 2) (atype := .int) B hA hbn hC hT rfl (mc_wsL_law_r3 _ (List.mem_of_getElem? (i := 15) rfl)) (hKi 2 28 rfl) rfl rfl rfl rfl (by decide) (by decide) (fun j _ => dn_i (by decide) (by decide)) (Nat.le_of_ble_eq_true rfl) (Nat.le_of_ble_eq_true rfl) (Nat.le_of_ble_eq_true rfl) dX2_init_49 (fun H10 hC hT o_ => ?_)
  refine m_putF B ff_RX2_36 hnm hV hbn hC hT rfl rfl rfl rfl (v := .ref (H0.size + 2)) rfl rfl dX2_init_51 (fun H11 lc11 hC hT o_ => ?_)
  have hT : zTh E 3 b H11 [.int 0, .int 0, .int 0, .int 0, .int 0, .ref (H0.size + 0), .ref (H0.size + 1), .ref (H0.size + 2), .null, .null, .null, .null] := hT
  refine lv_aload_n hx hb dX2_init_54 rfl (lv_at hl 0 rfl) ?_
  refine lv_bipush (v := 60) hx hb dX2_init_55 (by decide) ?_
  refine m_newa (z := 3) (atype := .int) B hA hbn hC hT rfl (mc_wsL_law_r3 _ (List.mem_of_getElem? (i := 15) rfl)) (hKi 3 29 rfl) rfl rfl rfl rfl (by decide) (by decide) (fun j _ => dn_i (by decide) (by decide)) (Nat.le_of_ble_eq_true rfl) (Nat.le_of_ble_eq_true rfl) (Nat.le_of_ble_eq_true rfl) dX2_init_57 (fun H12 hC hT o_ => ?_)
  refine m_putF B ff_RX2_39 hnm hV hbn hC hT rfl rfl rfl rfl (v := .ref (H0.size + 3)) rfl rfl dX2_init_59 (fun H13 lc13 hC hT o_ => ?_)
  have hT : zTh E 3 b H13 [.int 0, .int 0, .int 0, .int 0, .int 0, .ref (H0.size + 0), .ref (H0.size + 1), .ref (H0.size + 2), .ref (H0.size + 3), .null, .null, .null] := hT
  refine lv_aload_n hx hb dX2_init_62 rfl (lv_at hl 0 rfl) ?_
  refine lv_bipush (v := 6) hx hb dX2_init_63 (by decide) ?_
  refine m_newa (z := 4) (atype := .int) B hA hbn hC hT rfl (mc_wsL_law_r3 _ (List.mem_of_getElem? (i := 15) rfl)) (hKi 4 30 rfl) rfl rfl rfl rfl (by decide) (by decide) (fun j _ => dn_i (by decide) (by decide)) (Nat.le_of_ble_eq_true rfl) (Nat.le_of_ble_eq_true rfl) (Nat.le_of_ble_eq_true rfl) dX2_init_65 (fun H14 hC hT o_ => ?_)
  refine m_putF B ff_RX2_42 hnm hV hbn hC hT rfl rfl rfl rfl (v := .ref (H0.size + 4)) rfl rfl dX2_init_67 (fun H15 lc15 hC hT o_ => ?_)
  have hT : zTh E 3 b H15 [.int 0, .int 0, .int 0, .int 0, .int 0, .ref (H0.size + 0), .ref (H0.size + 1), .ref (H0.size + 2), .ref (H0.size + 3), .ref (H0.size + 4), .null, .null] := hT
  refine lv_aload_n hx hb dX2_init_70 rfl (lv_at hl 0 rfl) ?_
  refine lv_sipush (v := 288) hx hb dX2_init_71 (by decide) ?_
  refine m_newa (z := 5) (atype := .int) B hA hbn hC hT rfl (mc_wsL_law_r3 _ (List.mem_of_getElem? (i := 15) rfl)) (hKi 5 31 rfl) rfl rfl rfl rfl (by decide) (by decide) (fun j _ => dn_i (by decide) (by decide)) (Nat.le_of_ble_eq_true rfl) (Nat.le_of_ble_eq_true rfl) (Nat.le_of_ble_eq_true rfl) dX2_init_74 (fun H16 hC hT o_ => ?_)
  refine m_putF B ff_RX2_45 hnm hV hbn hC hT rfl rfl rfl rfl (v := .ref (H0.size + 5)) rfl rfl dX2_init_76 (fun H17 lc17 hC hT o_ => ?_)
  have hT : zTh E 3 b H17 [.int 0, .int 0, .int 0, .int 0, .int 0, .ref (H0.size + 0), .ref (H0.size + 1), .ref (H0.size + 2), .ref (H0.size + 3), .ref (H0.size + 4), .ref (H0.size + 5), .null] := hT
  refine lv_aload_n hx hb dX2_init_79 rfl (lv_at hl 0 rfl) ?_
  refine lv_sipush (v := 288) hx hb dX2_init_80 (by decide) ?_
  refine m_newa (z := 6) (atype := .int) B hA hbn hC hT rfl (mc_wsL_law_r3 _ (List.mem_of_getElem? (i := 15) rfl)) (hKi 6 32 rfl) rfl rfl rfl rfl (by decide) (by decide) (fun j _ => dn_i (by decide) (by decide)) (Nat.le_of_ble_eq_true rfl) (Nat.le_of_ble_eq_true rfl) (Nat.le_of_ble_eq_true rfl) dX2_init_83 (fun H18 hC hT o_ => ?_)
  refine m_putF B ff_RX2_48 hnm hV hbn hC hT rfl rfl rfl rfl (v := .ref (H0.size + 6)) rfl rfl dX2_init_85 (fun H19 lc19 hC hT o_ => ?_)
  have hT : zTh E 3 b H19 [.int 0, .int 0, .int 0, .int 0, .int 0, .ref (H0.size + 0), .ref (H0.size + 1), .ref (H0.size + 2), .ref (H0.size + 3), .ref (H0.size + 4), .ref (H0.size + 5), .ref (H0.size + 6)] := hT
  exact m_retM B hr hlk hh hQ hC (hT.done kb (fun j hj => match j, hj with
    | 0, _ => ⟨_, rfl, (dn_i (by decide) (by decide))⟩
    | 1, _ => ⟨_, rfl, (dn_i (by decide) (by decide))⟩
    | 2, _ => ⟨_, rfl, (dn_i (by decide) (by decide))⟩
    | 3, _ => ⟨_, rfl, (dn_i (by decide) (by decide))⟩
    | 4, _ => ⟨_, rfl, (dn_i (by decide) (by decide))⟩
    | 5, _ => ⟨_, rfl, (dn_r (hKi 0 26 rfl))⟩
    | 6, _ => ⟨_, rfl, (dn_r (hKi 1 27 rfl))⟩
    | 7, _ => ⟨_, rfl, (dn_r (hKi 2 28 rfl))⟩
    | 8, _ => ⟨_, rfl, (dn_r (hKi 3 29 rfl))⟩
    | 9, _ => ⟨_, rfl, (dn_r (hKi 4 30 rfl))⟩
    | 10, _ => ⟨_, rfl, (dn_r (hKi 5 31 rfl))⟩
    | 11, _ => ⟨_, rfl, (dn_r (hKi 6 32 rfl))⟩
    | j + 12, h => absurd h (Nat.not_lt.mpr (Nat.le_add_left _ _)))) dX2_init_88

def zLX6 : List Nat := [40, 5, 5, 5, 5, 5]
theorem dX6_init_0 : decode cX6_init 0 = .ok (.aload_n 0, 1) := by decide +kernel
theorem dX6_init_1 : decode cX6_init 1 = .ok (.invokespecial 3, 3) := by decide +kernel
theorem dX6_init_4 : decode cX6_init 4 = .ok (.aload_n 0, 1) := by decide +kernel
theorem dX6_init_5 : decode cX6_init 5 = .ok (.iconst 5, 1) := by decide +kernel
theorem dX6_init_6 : decode cX6_init 6 = .ok (.anewarray 9, 3) := by decide +kernel
theorem dX6_init_9 : decode cX6_init 9 = .ok (.putfield 11, 3) := by decide +kernel
theorem dX6_init_12 : decode cX6_init 12 = .ok (.aload_n 0, 1) := by decide +kernel
theorem dX6_init_13 : decode cX6_init 13 = .ok (.iconst 0, 1) := by decide +kernel
theorem dX6_init_14 : decode cX6_init 14 = .ok (.putfield 17, 3) := by decide +kernel
theorem dX6_init_17 : decode cX6_init 17 = .ok (.aload_n 0, 1) := by decide +kernel
theorem dX6_init_18 : decode cX6_init 18 = .ok (.aload_n 1, 1) := by decide +kernel
theorem dX6_init_19 : decode cX6_init 19 = .ok (.putfield 21, 3) := by decide +kernel
theorem dX6_init_22 : decode cX6_init 22 = .ok (.iconst 0, 1) := by decide +kernel
theorem dX6_init_23 : decode cX6_init 23 = .ok (.istore_n 2, 1) := by decide +kernel
theorem dX6_init_24 : decode cX6_init 24 = .ok (.iload_n 2, 1) := by decide +kernel
theorem dX6_init_25 : decode cX6_init 25 = .ok (.iconst 4, 1) := by decide +kernel
theorem dX6_init_26 : decode cX6_init 26 = .ok (.if_icmp .gt 22, 3) := by decide +kernel
theorem dX6_init_29 : decode cX6_init 29 = .ok (.aload_n 0, 1) := by decide +kernel
theorem dX6_init_30 : decode cX6_init 30 = .ok (.getfield 11, 3) := by decide +kernel
theorem dX6_init_33 : decode cX6_init 33 = .ok (.iload_n 2, 1) := by decide +kernel
theorem dX6_init_34 : decode cX6_init 34 = .ok (.new 9, 3) := by decide +kernel
theorem dX6_init_37 : decode cX6_init 37 = .ok (.dup, 1) := by decide +kernel
theorem dX6_init_38 : decode cX6_init 38 = .ok (.invokespecial 25, 3) := by decide +kernel
theorem dX6_init_41 : decode cX6_init 41 = .ok (.aastore, 1) := by decide +kernel
theorem dX6_init_42 : decode cX6_init 42 = .ok (.iinc 2 1, 3) := by decide +kernel
theorem dX6_init_45 : decode cX6_init 45 = .ok (.goto (-21), 3) := by decide +kernel
theorem dX6_init_48 : decode cX6_init 48 = .ok (.return_, 1) := by decide +kernel
def rm_X6_init : Room := { frames := 2, cells := 6, slots := 40, locals := 32 }
set_option maxRecDepth 100000 in
set_option maxHeartbeats 4000000 in
theorem m_X6_init (l : Launch) (E : zE) (hV : zV E) (H0 : Heap) (b : Nat) (kb : eK E b = 7) (hbn : b < H0.size) (hT : zTh E 7 b H0 [.null, .null, .int 0]) (p0 : Nat) (kp0 : eK E p0 = 3) (hKi : zKi E H0.size zLX6) : Met l yX6_init (zws yX6_init cX6_init 3 none) rm_X6_init (zPm E H0 [.ref b, .ref p0]) (zQm E b 6 H0) 6 40 (zfm b H0.size) := by
  refine zEntM (by decide) rfl (Nat.le_of_ble_eq_true rfl) (fun p e s m args below meth c ls Q B hA hnm hr hlk hh hQ hl => ?_)
  have hx := B.1
  have hb := B.2.1
  have hl : lv_has ls 3 [(0, .ref b), (1, .ref p0)] := hl
  have hC : zCo E b [] H0 H0 0 [] := zCo.rf
  have kne : eK E b ≠ 0 := by omega
  refine lv_aload_n hx hb dX6_init_0 rfl (lv_at hl 0 rfl) ?_
  refine m_obj B (mc_wsL_law_r6 _ (List.mem_of_getElem? (i := 7) rfl)) (mc_wsL_law_r1 _ (List.mem_of_getElem? (i := 10) rfl)) (mc_wsL_law_r1 _ (List.mem_of_getElem? (i := 11) rfl)) hl.1 dX6_init_1 rfl rfl ?_
  refine lv_aload_n hx hb dX6_init_4 rfl (lv_at hl 0 rfl) ?_
  refine lv_iconst (v := 5) hx hb dX6_init_5 (by decide) ?_
  refine m_anew (z := 0) B hA hbn hC hT (mc_wsL_law_r6 _ (List.mem_of_getElem? (i := 8) rfl)) (hKi 0 40 rfl) rfl rfl rfl rfl (by decide) (by decide) (Nat.le_of_ble_eq_true rfl) (Nat.le_of_ble_eq_true rfl) (Nat.le_of_ble_eq_true rfl) dX6_init_6 (fun H1 hC hT hO0 o_ => ?_)
  refine m_putF B ff_RX6_11 hnm hV hbn hC hT rfl rfl rfl rfl (v := .ref (H0.size + 0)) rfl rfl dX6_init_9 (fun H2 lc2 hC hT o_ => ?_)
  have hO0 := hO0.kept (o_ _ (by omega))
  have hT : zTh E 7 b H2 [.null, .ref (H0.size + 0), .int 0] := hT
  refine lv_aload_n hx hb dX6_init_12 rfl (lv_at hl 0 rfl) ?_
  refine lv_iconst (v := 0) hx hb dX6_init_13 (by decide) ?_
  refine m_put B fp_RX6_17 hV hbn hC hT rfl rfl rfl rfl (v := .int 0) rfl rfl dX6_init_14 (fun H3 lc3 hC hT o_ => ?_)
  have hO0 := hO0.kept (o_ _ (by omega))
  have hT : zTh E 7 b H3 [.null, .ref (H0.size + 0), .int 0] := hT
  refine lv_aload_n hx hb dX6_init_17 rfl (lv_at hl 0 rfl) ?_
  refine lv_aload_n hx hb dX6_init_18 rfl (lv_at hl 1 rfl) ?_
  refine m_putF B ff_RX6_21 hnm hV hbn hC hT rfl rfl rfl rfl (v := .ref p0) rfl rfl dX6_init_19 (fun H4 lc4 hC hT o_ => ?_)
  have hO0 := hO0.kept (o_ _ (by omega))
  have hT : zTh E 7 b H4 [.ref p0, .ref (H0.size + 0), .int 0] := hT
  refine lv_iconst (v := 0) hx hb dX6_init_22 (by decide) ?_
  refine lv_istore_n (lv' := [(2, .int 0), (0, .ref b), (1, .ref p0)]) hx hb dX6_init_23 rfl hl (by decide) rfl (fun ls hl => ?_)
  have hk5 : ∀ i, i < 5 → eK E (H0.size + (1 + i)) = 5 := fun i hi => hKi _ _ (((by decide +kernel : ∀ i, i < 5 → zLX6[1 + i]? = some 5)) i hi)
  have loop : ∀ (d i : Nat), i + d = 5 → ∀ (H : Heap) (locs : List Loc) (ls : Array Slot), zCo E b [H0.size + 0] H0 H (1 + 1 * i) locs → zTh E 7 b H [.ref p0, .ref (H0.size + 0), .int 0] → zOp E (H0.size + 0) H i → lv_has ls 3 [(2, .int (nI i)), (0, .ref b), (1, .ref p0)] → W p l e rm_X6_init s m args below meth c H locs (1 + 1 * i) (5 + 7 * i) Q (F0 m 24 ls []) := by
    intro d
    induction d with
    | zero =>
      intro i hi H locs ls hC hT hO0 hl
      have ti := nI_toInt (n := i) (by omega)
      refine lv_iload_n hx hb dX6_init_24 rfl (lv_at hl 0 rfl) ?_
      refine lv_iconst (v := 4) hx hb dX6_init_25 (by decide) ?_
      refine lv_icmp_gt (tgt := 48) hx hb dX6_init_26 (by decide) (fun c_1 => ?_) (fun c_1 => ?_)
      · have hi : i = 5 := by omega
        subst hi
        have hC := hC.close (hO0.done (hKi 0 40 rfl) rfl rfl (fun _ => rfl))
        exact m_retM B hr hlk hh hQ hC (hT.done kb (fun j hj => match j, hj with
    | 0, _ => ⟨_, rfl, (dn_r kp0)⟩
    | 1, _ => ⟨_, rfl, (dn_r (hKi 0 40 rfl))⟩
    | 2, _ => ⟨_, rfl, (dn_i (by decide) (by decide))⟩
    | j + 3, h => absurd h (Nat.not_lt.mpr (Nat.le_add_left _ _)))) dX6_init_48
      · have f_1 := z_nlt c_1 kl_4 ti
        omega
    | succ d ih =>
      intro i hi H locs ls hC hT hO0 hl
      have ti := nI_toInt (n := i) (by omega)
      refine lv_iload_n hx hb dX6_init_24 rfl (lv_at hl 0 rfl) ?_
      refine lv_iconst (v := 4) hx hb dX6_init_25 (by decide) ?_
      refine lv_icmp_gt (tgt := 48) hx hb dX6_init_26 (by decide) (fun c_1 => ?_) (fun c_1 => ?_)
      · have f_1 := z_lt c_1 kl_4 ti
        omega
      · have f_1 := z_nlt c_1 kl_4 ti
        refine lv_aload_n hx hb dX6_init_29 rfl (lv_at hl 1 rfl) ?_
        refine m_get B fl_RX6_11 hT rfl rfl (j := 1) rfl dX6_init_30 ?_
        refine lv_iload_n hx hb dX6_init_33 rfl (lv_at hl 0 rfl) ?_
        have kz : eK E (H0.size + (1 + 1 * i)) = 5 := hk5 (1 * i) (by omega)
        refine m_new (z := 1 + 1 * i) (kn := 5) B hbn hC hT nw_RX6_9 kz rfl rfl rfl (by show _ ≤ 6; omega) (by show _ ≤ 40; omega) dX6_init_34 (fun H5 hC hT hTn o_ => ?_)
        have hO0 := hO0.kept (o_ _ (by omega))
        refine lv_dup hx hb dX6_init_37 rfl ?_
        refine zkM (b := b) (zrIN (rest := [.ref (H0.size + (1 + 1 * i)), .int (nI i), .ref (H0.size + 0)]) B hA (m_X4_init l E hV H5 (H0.size + (1 + 1 * i)) kz (by rw [hC.1]; omega) hTn zKi.nil) cn_RX6_25 rfl hl.1 rfl (Nat.le_of_ble_eq_true rfl) dX6_init_38 rfl rfl ⟨rfl, rfl⟩ ⟨by show _ ≤ 6; omega, by show _ ≤ 40; omega⟩ (hC.zO hh kne)) hbn hC hT (by omega) (by omega) (fun q _ _ => by omega) (fun H6 lc6 hC hT hq o_ => ?_)
        have hO0 := hO0.kept (o_ _ (by omega) (by omega))
        refine m_aast (a := H0.size + 0) (i := i) (N := 5) B hA hbn hC hT hO0 List.mem_cons_self (by omega) (hKi 0 40 rfl) rfl rfl rfl (by omega) (by omega) kz hq dX6_init_41 (fun H7 lc7 hC hT hO0 o_ => ?_)
        refine lv_iinc (v := nI (i + 1)) (lv' := [(2, .int (nI (i + 1))), (0, .ref b), (1, .ref p0)]) hx hb dX6_init_42 hl (k := 0) rfl (z_inc i 1) (by decide) rfl (fun ls hl => ?_)
        refine lv_goto (tgt := 24) hx hb dX6_init_45 (by decide) ?_
        refine W.widen (k := 1 + 1 * (i + 1)) (n := 5 + 7 * (i + 1)) (by omega) (by omega) ?_
        exact ih (i + 1) (by omega) _ _ _ (hC.cast (by omega)) hT hO0 hl
  exact loop 5 0 rfl _ _ _ hC hT hO0 hl

def zLX3 : List Nat := [33, 34, 35, 36, 37, 38, 5, 5, 5, 5, 5, 5, 5, 5, 5, 5, 5, 5, 5, 5, 5, 5, 5, 5, 5, 5, 5, 5, 5, 5, 5, 5, 5, 5, 5, 5, 5, 5, 5, 5, 5, 5, 5, 5, 5, 5, 5, 5, 5, 5, 5, 5, 5, 5, 5, 5, 5, 5, 5, 5, 5, 5, 5, 5, 5, 5, 5, 5, 5, 5, 5, 5, 5, 5, 5, 5, 5, 5, 5, 5, 5, 5, 5, 5, 5, 5, 5, 5, 5, 5, 5, 5, 5, 5, 5, 5, 5, 5, 5, 5, 5, 5, 5, 5, 5, 5, 5, 5, 5, 5, 5, 5, 5, 5, 5, 5, 5, 5, 5, 5, 5, 5, 5, 5, 5, 5, 5, 5]
theorem dX3_init_0 : decode cX3_init 0 = .ok (.aload_n 0, 1) := by decide +kernel
theorem dX3_init_1 : decode cX3_init 1 = .ok (.invokespecial 3, 3) := by decide +kernel
theorem dX3_init_4 : decode cX3_init 4 = .ok (.aload_n 0, 1) := by decide +kernel
theorem dX3_init_5 : decode cX3_init 5 = .ok (.iconst 0, 1) := by decide +kernel
theorem dX3_init_6 : decode cX3_init 6 = .ok (.putfield 9, 3) := by decide +kernel
theorem dX3_init_9 : decode cX3_init 9 = .ok (.aload_n 0, 1) := by decide +kernel
theorem dX3_init_10 : decode cX3_init 10 = .ok (.iconst 0, 1) := by decide +kernel
theorem dX3_init_11 : decode cX3_init 11 = .ok (.putfield 15, 3) := by decide +kernel
theorem dX3_init_14 : decode cX3_init 14 = .ok (.aload_n 0, 1) := by decide +kernel
theorem dX3_init_15 : decode cX3_init 15 = .ok (.sipush 240, 3) := by decide +kernel
theorem dX3_init_18 : decode cX3_init 18 = .ok (.newarray .int, 2) := by decide +kernel
theorem dX3_init_20 : decode cX3_init 20 = .ok (.putfield 18, 3) := by decide +kernel
theorem dX3_init_23 : decode cX3_init 23 = .ok (.aload_n 0, 1) := by decide +kernel
theorem dX3_init_24 : decode cX3_init 24 = .ok (.sipush 240, 3) := by decide +kernel
theorem dX3_init_27 : decode cX3_init 27 = .ok (.newarray .int, 2) := by decide +kernel
theorem dX3_init_29 : decode cX3_init 29 = .ok (.putfield 22, 3) := by decide +kernel
theorem dX3_init_32 : decode cX3_init 32 = .ok (.aload_n 0, 1) := by decide +kernel
theorem dX3_init_33 : decode cX3_init 33 = .ok (.sipush 240, 3) := by decide +kernel
theorem dX3_init_36 : decode cX3_init 36 = .ok (.newarray .boolean, 2) := by decide +kernel
theorem dX3_init_38 : decode cX3_init 38 = .ok (.putfield 25, 3) := by decide +kernel
theorem dX3_init_41 : decode cX3_init 41 = .ok (.aload_n 0, 1) := by decide +kernel
theorem dX3_init_42 : decode cX3_init 42 = .ok (.bipush 60, 2) := by decide +kernel
theorem dX3_init_44 : decode cX3_init 44 = .ok (.newarray .boolean, 2) := by decide +kernel
theorem dX3_init_46 : decode cX3_init 46 = .ok (.putfield 29, 3) := by decide +kernel
theorem dX3_init_49 : decode cX3_init 49 = .ok (.aload_n 0, 1) := by decide +kernel
theorem dX3_init_50 : decode cX3_init 50 = .ok (.bipush 122, 2) := by decide +kernel
theorem dX3_init_52 : decode cX3_init 52 = .ok (.anewarray 32, 3) := by decide +kernel
theorem dX3_init_55 : decode cX3_init 55 = .ok (.putfield 34, 3) := by decide +kernel
theorem dX3_init_58 : decode cX3_init 58 = .ok (.aload_n 0, 1) := by decide +kernel
theorem dX3_init_59 : decode cX3_init 59 = .ok (.iconst 3, 1) := by decide +kernel
theorem dX3_init_60 : decode cX3_init 60 = .ok (.newarray .int, 2) := by decide +kernel
theorem dX3_init_62 : decode cX3_init 62 = .ok (.putfield 38, 3) := by decide +kernel
theorem dX3_init_65 : decode cX3_init 65 = .ok (.aload_n 0, 1) := by decide +kernel
theorem dX3_init_66 : decode cX3_init 66 = .ok (.aload_n 1, 1) := by decide +kernel
theorem dX3_init_67 : decode cX3_init 67 = .ok (.putfield 41, 3) := by decide +kernel
theorem dX3_init_70 : decode cX3_init 70 = .ok (.iconst 0, 1) := by decide +kernel
theorem dX3_init_71 : decode cX3_init 71 = .ok (.istore_n 2, 1) := by decide +kernel
theorem dX3_init_72 : decode cX3_init 72 = .ok (.iload_n 2, 1) := by decide +kernel
theorem dX3_init_73 : decode cX3_init 73 = .ok (.aload_n 0, 1) := by decide +kernel
theorem dX3_init_74 : decode cX3_init 74 = .ok (.getfield 34, 3) := by decide +kernel
theorem dX3_init_77 : decode cX3_init 77 = .ok (.arraylength, 1) := by decide +kernel
theorem dX3_init_78 : decode cX3_init 78 = .ok (.if_icmp .ge 22, 3) := by decide +kernel
theorem dX3_init_81 : decode cX3_init 81 = .ok (.aload_n 0, 1) := by decide +kernel
theorem dX3_init_82 : decode cX3_init 82 = .ok (.getfield 34, 3) := by decide +kernel
theorem dX3_init_85 : decode cX3_init 85 = .ok (.iload_n 2, 1) := by decide +kernel
theorem dX3_init_86 : decode cX3_init 86 = .ok (.new 32, 3) := by decide +kernel
theorem dX3_init_89 : decode cX3_init 89 = .ok (.dup, 1) := by decide +kernel
theorem dX3_init_90 : decode cX3_init 90 = .ok (.invokespecial 45, 3) := by decide +kernel
theorem dX3_init_93 : decode cX3_init 93 = .ok (.aastore, 1) := by decide +kernel
theorem dX3_init_94 : decode cX3_init 94 = .ok (.iinc 2 1, 3) := by decide +kernel
theorem dX3_init_97 : decode cX3_init 97 = .ok (.goto (-25), 3) := by decide +kernel
theorem dX3_init_100 : decode cX3_init 100 = .ok (.return_, 1) := by decide +kernel
def rm_X3_init : Room := { frames := 2, cells := 128, slots := 1759, locals := 32 }
set_option maxRecDepth 100000 in
set_option maxHeartbeats 4000000 in
theorem m_X3_init (l : Launch) (E : zE) (hV : zV E) (H0 : Heap) (b : Nat) (kb : eK E b = 4) (hbn : b < H0.size) (hT : zTh E 4 b H0 [.int 0, .int 0, .null, .null, .null, .null, .null, .null, .null]) (p0 : Nat) (kp0 : eK E p0 = 3) (hKi : zKi E H0.size zLX3) : Met l yX3_init (zws yX3_init cX3_init 3 none) rm_X3_init (zPm E H0 [.ref b, .ref p0]) (zQm E b 128 H0) 128 1759 (zfm b H0.size) := by
  refine zEntM (by decide) rfl (Nat.le_of_ble_eq_true rfl) (fun p e s m args below meth c ls Q B hA hnm hr hlk hh hQ hl => ?_)
  have hx := B.1
  have hb := B.2.1
  have hl : lv_has ls 3 [(0, .ref b), (1, .ref p0)] := hl
  have hC : zCo E b [] H0 H0 0 [] := zCo.rf
  have kne : eK E b ≠ 0 := by omega
  refine lv_aload_n hx hb dX3_init_0 rfl (lv_at hl 0 rfl) ?_
  refine m_obj B (mc_wsL_law_r6 _ (List.mem_of_getElem? (i := 15) rfl)) (mc_wsL_law_r1 _ (List.mem_of_getElem? (i := 10) rfl)) (mc_wsL_law_r1 _ (List.mem_of_getElem? (i := 11) rfl)) hl.1 dX3_init_1 rfl rfl ?_
  refine lv_aload_n hx hb dX3_init_4 rfl (lv_at hl 0 rfl) ?_
  refine lv_iconst (v := 0) hx hb dX3_init_5 (by decide) ?_
  refine m_put B fp_RX3_9 hV hbn hC hT rfl rfl rfl rfl (v := .int 0) rfl rfl dX3_init_6 (fun H1 lc1 hC hT o_ => ?_)
  have hT : zTh E 4 b H1 [.int 0, .int 0, .null, .null, .null, .null, .null, .null, .null] := hT
  refine lv_aload_n hx hb dX3_init_9 rfl (lv_at hl 0 rfl) ?_
  refine lv_iconst (v := 0) hx hb dX3_init_10 (by decide) ?_
  refine m_put B fp_RX3_15 hV hbn hC hT rfl rfl rfl rfl (v := .int 0) rfl rfl dX3_init_11 (fun H2 lc2 hC hT o_ => ?_)
  have hT : zTh E 4 b H2 [.int 0, .int 0, .null, .null, .null, .null, .null, .null, .null] := hT
  refine lv_aload_n hx hb dX3_init_14 rfl (lv_at hl 0 rfl) ?_
  refine lv_sipush (v := 240) hx hb dX3_init_15 (by decide) ?_
  refine m_newa (z := 0) (atype := .int) B hA hbn hC hT rfl (mc_wsL_law_r3 _ (List.mem_of_getElem? (i := 15) rfl)) (hKi 0 33 rfl) rfl rfl rfl rfl (by decide) (by decide) (fun j _ => dn_i (by decide) (by decide)) (Nat.le_of_ble_eq_true rfl) (Nat.le_of_ble_eq_true rfl) (Nat.le_of_ble_eq_true rfl) dX3_init_18 (fun H3 hC hT o_ => ?_)
  refine m_putF B ff_RX3_18 hnm hV hbn hC hT rfl rfl rfl rfl (v := .ref (H0.size + 0)) rfl rfl dX3_init_20 (fun H4 lc4 hC hT o_ => ?_)
  have hT : zTh E 4 b H4 [.int 0, .int 0, .ref (H0.size + 0), .null, .null, .null, .null, .null, .null] := hT
  refine lv_aload_n hx hb dX3_init_23 rfl (lv_at hl 0 rfl) ?_
  refine lv_sipush (v := 240) hx hb dX3_init_24 (by decide) ?_
  refine m_newa (z := 1) (atype := .int) B hA hbn hC hT rfl (mc_wsL_law_r3 _ (List.mem_of_getElem? (i := 15) rfl)) (hKi 1 34 rfl) rfl rfl rfl rfl (by decide) (by decide) (fun j _ => dn_i (by decide) (by decide)) (Nat.le_of_ble_eq_true rfl) (Nat.le_of_ble_eq_true rfl) (Nat.le_of_ble_eq_true rfl) dX3_init_27 (fun H5 hC hT o_ => ?_)
  refine m_putF B ff_RX3_22 hnm hV hbn hC hT rfl rfl rfl rfl (v := .ref (H0.size + 1)) rfl rfl dX3_init_29 (fun H6 lc6 hC hT o_ => ?_)
  have hT : zTh E 4 b H6 [.int 0, .int 0, .ref (H0.size + 0), .ref (H0.size + 1), .null, .null, .null, .null, .null] := hT
  refine lv_aload_n hx hb dX3_init_32 rfl (lv_at hl 0 rfl) ?_
  refine lv_sipush (v := 240) hx hb dX3_init_33 (by decide) ?_
  refine m_newa (z := 2) (atype := .boolean) B hA hbn hC hT rfl (mc_wsL_law_r3 _ (List.mem_of_getElem? (i := 12) rfl)) (hKi 2 35 rfl) rfl rfl rfl rfl (by decide) (by decide) (fun j _ => dn_i (by decide) (by decide)) (Nat.le_of_ble_eq_true rfl) (Nat.le_of_ble_eq_true rfl) (Nat.le_of_ble_eq_true rfl) dX3_init_36 (fun H7 hC hT o_ => ?_)
  refine m_putF B ff_RX3_25 hnm hV hbn hC hT rfl rfl rfl rfl (v := .ref (H0.size + 2)) rfl rfl dX3_init_38 (fun H8 lc8 hC hT o_ => ?_)
  have hT : zTh E 4 b H8 [.int 0, .int 0, .ref (H0.size + 0), .ref (H0.size + 1), .ref (H0.size + 2), .null, .null, .null, .null] := hT
  refine lv_aload_n hx hb dX3_init_41 rfl (lv_at hl 0 rfl) ?_
  refine lv_bipush (v := 60) hx hb dX3_init_42 (by decide) ?_
  refine m_newa (z := 3) (atype := .boolean) B hA hbn hC hT rfl (mc_wsL_law_r3 _ (List.mem_of_getElem? (i := 12) rfl)) (hKi 3 36 rfl) rfl rfl rfl rfl (by decide) (by decide) (fun j _ => dn_i (by decide) (by decide)) (Nat.le_of_ble_eq_true rfl) (Nat.le_of_ble_eq_true rfl) (Nat.le_of_ble_eq_true rfl) dX3_init_44 (fun H9 hC hT o_ => ?_)
  refine m_putF B ff_RX3_29 hnm hV hbn hC hT rfl rfl rfl rfl (v := .ref (H0.size + 3)) rfl rfl dX3_init_46 (fun H10 lc10 hC hT o_ => ?_)
  have hT : zTh E 4 b H10 [.int 0, .int 0, .ref (H0.size + 0), .ref (H0.size + 1), .ref (H0.size + 2), .ref (H0.size + 3), .null, .null, .null] := hT
  refine lv_aload_n hx hb dX3_init_49 rfl (lv_at hl 0 rfl) ?_
  refine lv_bipush (v := 122) hx hb dX3_init_50 (by decide) ?_
  refine m_anew (z := 4) B hA hbn hC hT (mc_wsL_law_r6 _ (List.mem_of_getElem? (i := 22) rfl)) (hKi 4 37 rfl) rfl rfl rfl rfl (by decide) (by decide) (Nat.le_of_ble_eq_true rfl) (Nat.le_of_ble_eq_true rfl) (Nat.le_of_ble_eq_true rfl) dX3_init_52 (fun H11 hC hT hO0 o_ => ?_)
  refine m_putF B ff_RX3_34 hnm hV hbn hC hT rfl rfl rfl rfl (v := .ref (H0.size + 4)) rfl rfl dX3_init_55 (fun H12 lc12 hC hT o_ => ?_)
  have hO0 := hO0.kept (o_ _ (by omega))
  have hT : zTh E 4 b H12 [.int 0, .int 0, .ref (H0.size + 0), .ref (H0.size + 1), .ref (H0.size + 2), .ref (H0.size + 3), .null, .ref (H0.size + 4), .null] := hT
  refine lv_aload_n hx hb dX3_init_58 rfl (lv_at hl 0 rfl) ?_
  refine lv_iconst (v := 3) hx hb dX3_init_59 (by decide) ?_
  refine m_newa (z := 5) (atype := .int) B hA hbn hC hT rfl (mc_wsL_law_r3 _ (List.mem_of_getElem? (i := 15) rfl)) (hKi 5 38 rfl) rfl rfl rfl rfl (by decide) (by decide) (fun j _ => dn_i (by decide) (by decide)) (Nat.le_of_ble_eq_true rfl) (Nat.le_of_ble_eq_true rfl) (Nat.le_of_ble_eq_true rfl) dX3_init_60 (fun H13 hC hT o_ => ?_)
  have hO0 := hO0.kept (o_ _ (by omega))
  refine m_putF B ff_RX3_38 hnm hV hbn hC hT rfl rfl rfl rfl (v := .ref (H0.size + 5)) rfl rfl dX3_init_62 (fun H14 lc14 hC hT o_ => ?_)
  have hO0 := hO0.kept (o_ _ (by omega))
  have hT : zTh E 4 b H14 [.int 0, .int 0, .ref (H0.size + 0), .ref (H0.size + 1), .ref (H0.size + 2), .ref (H0.size + 3), .null, .ref (H0.size + 4), .ref (H0.size + 5)] := hT
  refine lv_aload_n hx hb dX3_init_65 rfl (lv_at hl 0 rfl) ?_
  refine lv_aload_n hx hb dX3_init_66 rfl (lv_at hl 1 rfl) ?_
  refine m_putF B ff_RX3_41 hnm hV hbn hC hT rfl rfl rfl rfl (v := .ref p0) rfl rfl dX3_init_67 (fun H15 lc15 hC hT o_ => ?_)
  have hO0 := hO0.kept (o_ _ (by omega))
  have hT : zTh E 4 b H15 [.int 0, .int 0, .ref (H0.size + 0), .ref (H0.size + 1), .ref (H0.size + 2), .ref (H0.size + 3), .ref p0, .ref (H0.size + 4), .ref (H0.size + 5)] := hT
  refine lv_iconst (v := 0) hx hb dX3_init_70 (by decide) ?_
  refine lv_istore_n (lv' := [(2, .int 0), (0, .ref b), (1, .ref p0)]) hx hb dX3_init_71 rfl hl (by decide) rfl (fun ls hl => ?_)
  have hk5 : ∀ i, i < 122 → eK E (H0.size + (6 + i)) = 5 := fun i hi => hKi _ _ (((by decide +kernel : ∀ i, i < 122 → zLX3[6 + i]? = some 5)) i hi)
  have loop : ∀ (d i : Nat), i + d = 122 → ∀ (H : Heap) (locs : List Loc) (ls : Array Slot), zCo E b [H0.size + 4] H0 H (6 + 1 * i) locs → zTh E 4 b H [.int 0, .int 0, .ref (H0.size + 0), .ref (H0.size + 1), .ref (H0.size + 2), .ref (H0.size + 3), .ref p0, .ref (H0.size + 4), .ref (H0.size + 5)] → zOp E (H0.size + 4) H i → lv_has ls 3 [(2, .int (nI i)), (0, .ref b), (1, .ref p0)] → W p l e rm_X3_init s m args below meth c H locs (6 + 1 * i) (905 + 7 * i) Q (F0 m 72 ls []) := by
    intro d
    induction d with
    | zero =>
      intro i hi H locs ls hC hT hO0 hl
      have ti := nI_toInt (n := i) (by omega)
      refine lv_iload_n hx hb dX3_init_72 rfl (lv_at hl 0 rfl) ?_
      refine lv_aload_n hx hb dX3_init_73 rfl (lv_at hl 1 rfl) ?_
      refine m_get B fl_RX3_34 hT rfl rfl (j := 7) rfl dX3_init_74 ?_
      refine m_alen (N := 122) B hO0 (hKi 4 37 rfl) rfl rfl rfl dX3_init_77 ?_
      refine lv_icmp_ge (tgt := 100) hx hb dX3_init_78 (by decide) (fun c_1 => ?_) (fun c_1 => ?_)
      · have hi : i = 122 := by omega
        subst hi
        have hC := hC.close (hO0.done (hKi 4 37 rfl) rfl rfl (fun _ => rfl))
        exact m_retM B hr hlk hh hQ hC (hT.done kb (fun j hj => match j, hj with
    | 0, _ => ⟨_, rfl, (dn_i (by decide) (by decide))⟩
    | 1, _ => ⟨_, rfl, (dn_i (by decide) (by decide))⟩
    | 2, _ => ⟨_, rfl, (dn_r (hKi 0 33 rfl))⟩
    | 3, _ => ⟨_, rfl, (dn_r (hKi 1 34 rfl))⟩
    | 4, _ => ⟨_, rfl, (dn_r (hKi 2 35 rfl))⟩
    | 5, _ => ⟨_, rfl, (dn_r (hKi 3 36 rfl))⟩
    | 6, _ => ⟨_, rfl, (dn_r kp0)⟩
    | 7, _ => ⟨_, rfl, (dn_r (hKi 4 37 rfl))⟩
    | 8, _ => ⟨_, rfl, (dn_r (hKi 5 38 rfl))⟩
    | j + 9, h => absurd h (Nat.not_lt.mpr (Nat.le_add_left _ _)))) dX3_init_100
      · have f_1 := z_nle c_1 (nI_toInt (by omega)) ti
        omega
    | succ d ih =>
      intro i hi H locs ls hC hT hO0 hl
      have ti := nI_toInt (n := i) (by omega)
      refine lv_iload_n hx hb dX3_init_72 rfl (lv_at hl 0 rfl) ?_
      refine lv_aload_n hx hb dX3_init_73 rfl (lv_at hl 1 rfl) ?_
      refine m_get B fl_RX3_34 hT rfl rfl (j := 7) rfl dX3_init_74 ?_
      refine m_alen (N := 122) B hO0 (hKi 4 37 rfl) rfl rfl rfl dX3_init_77 ?_
      refine lv_icmp_ge (tgt := 100) hx hb dX3_init_78 (by decide) (fun c_1 => ?_) (fun c_1 => ?_)
      · have f_1 := z_le c_1 (nI_toInt (by omega)) ti
        omega
      · have f_1 := z_nle c_1 (nI_toInt (by omega)) ti
        refine lv_aload_n hx hb dX3_init_81 rfl (lv_at hl 1 rfl) ?_
        refine m_get B fl_RX3_34 hT rfl rfl (j := 7) rfl dX3_init_82 ?_
        refine lv_iload_n hx hb dX3_init_85 rfl (lv_at hl 0 rfl) ?_
        have kz : eK E (H0.size + (6 + 1 * i)) = 5 := hk5 (1 * i) (by omega)
        refine m_new (z := 6 + 1 * i) (kn := 5) B hbn hC hT nw_RX3_32 kz rfl rfl rfl (by show _ ≤ 128; omega) (by show _ ≤ 1759; omega) dX3_init_86 (fun H16 hC hT hTn o_ => ?_)
        have hO0 := hO0.kept (o_ _ (by omega))
        refine lv_dup hx hb dX3_init_89 rfl ?_
        refine zkM (b := b) (zrIN (rest := [.ref (H0.size + (6 + 1 * i)), .int (nI i), .ref (H0.size + 4)]) B hA (m_X4_init l E hV H16 (H0.size + (6 + 1 * i)) kz (by rw [hC.1]; omega) hTn zKi.nil) cn_RX3_45 rfl hl.1 rfl (Nat.le_of_ble_eq_true rfl) dX3_init_90 rfl rfl ⟨rfl, rfl⟩ ⟨by show _ ≤ 128; omega, by show _ ≤ 1759; omega⟩ (hC.zO hh kne)) hbn hC hT (by omega) (by omega) (fun q _ _ => by omega) (fun H17 lc17 hC hT hq o_ => ?_)
        have hO0 := hO0.kept (o_ _ (by omega) (by omega))
        refine m_aast (a := H0.size + 4) (i := i) (N := 122) B hA hbn hC hT hO0 List.mem_cons_self (by omega) (hKi 4 37 rfl) rfl rfl rfl (by omega) (by omega) kz hq dX3_init_93 (fun H18 lc18 hC hT hO0 o_ => ?_)
        refine lv_iinc (v := nI (i + 1)) (lv' := [(2, .int (nI (i + 1))), (0, .ref b), (1, .ref p0)]) hx hb dX3_init_94 hl (k := 0) rfl (z_inc i 1) (by decide) rfl (fun ls hl => ?_)
        refine lv_goto (tgt := 72) hx hb dX3_init_97 (by decide) ?_
        refine W.widen (k := 6 + 1 * (i + 1)) (n := 905 + 7 * (i + 1)) (by omega) (by omega) ?_
        exact ih (i + 1) (by omega) _ _ _ (hC.cast (by omega)) hT hO0 hl
  exact loop 122 0 rfl _ _ _ hC hT hO0 hl

def zLX1 : List Nat := [25, 25, 5, 5, 5, 5, 5, 5, 5, 5, 5, 5, 5, 5, 5, 5, 5, 5, 5, 5, 5, 5, 5, 5, 5, 5, 5, 5, 5, 5, 5, 5, 5, 5, 5, 5, 5, 5, 5, 5, 5, 5, 5, 5, 5, 5, 5, 5, 5, 5, 5, 5, 5, 5, 5, 5, 5, 5, 5, 5, 5, 5, 5, 5, 5, 5, 5, 5, 5, 5, 5, 5, 5, 5, 5, 5, 5, 5, 5, 5, 5, 5, 5, 5, 5, 5, 5, 5, 5, 5, 5, 5, 5, 5, 5, 5, 5, 5, 5, 5, 5, 5, 5, 5, 5, 5, 5, 5, 5, 5, 5, 5, 5, 5, 5, 5, 5, 5, 5, 5, 5, 5, 5, 5, 5, 5, 5, 5, 5, 5, 5]
theorem dX1_init_0 : decode cX1_init 0 = .ok (.aload_n 0, 1) := by decide +kernel
theorem dX1_init_1 : decode cX1_init 1 = .ok (.invokespecial 3, 3) := by decide +kernel
theorem dX1_init_4 : decode cX1_init 4 = .ok (.aload_n 0, 1) := by decide +kernel
theorem dX1_init_5 : decode cX1_init 5 = .ok (.bipush 64, 2) := by decide +kernel
theorem dX1_init_7 : decode cX1_init 7 = .ok (.anewarray 9, 3) := by decide +kernel
theorem dX1_init_10 : decode cX1_init 10 = .ok (.putfield 11, 3) := by decide +kernel
theorem dX1_init_13 : decode cX1_init 13 = .ok (.aload_n 0, 1) := by decide +kernel
theorem dX1_init_14 : decode cX1_init 14 = .ok (.bipush 64, 2) := by decide +kernel
theorem dX1_init_16 : decode cX1_init 16 = .ok (.anewarray 9, 3) := by decide +kernel
theorem dX1_init_19 : decode cX1_init 19 = .ok (.putfield 17, 3) := by decide +kernel
theorem dX1_init_22 : decode cX1_init 22 = .ok (.aload_n 0, 1) := by decide +kernel
theorem dX1_init_23 : decode cX1_init 23 = .ok (.iconst 0, 1) := by decide +kernel
theorem dX1_init_24 : decode cX1_init 24 = .ok (.putfield 20, 3) := by decide +kernel
theorem dX1_init_27 : decode cX1_init 27 = .ok (.aload_n 0, 1) := by decide +kernel
theorem dX1_init_28 : decode cX1_init 28 = .ok (.iconst 0, 1) := by decide +kernel
theorem dX1_init_29 : decode cX1_init 29 = .ok (.putfield 24, 3) := by decide +kernel
theorem dX1_init_32 : decode cX1_init 32 = .ok (.aload_n 0, 1) := by decide +kernel
theorem dX1_init_33 : decode cX1_init 33 = .ok (.new 9, 3) := by decide +kernel
theorem dX1_init_36 : decode cX1_init 36 = .ok (.dup, 1) := by decide +kernel
theorem dX1_init_37 : decode cX1_init 37 = .ok (.invokespecial 27, 3) := by decide +kernel
theorem dX1_init_40 : decode cX1_init 40 = .ok (.putfield 28, 3) := by decide +kernel
theorem dX1_init_43 : decode cX1_init 43 = .ok (.aload_n 0, 1) := by decide +kernel
theorem dX1_init_44 : decode cX1_init 44 = .ok (.aload_n 1, 1) := by decide +kernel
theorem dX1_init_45 : decode cX1_init 45 = .ok (.putfield 32, 3) := by decide +kernel
theorem dX1_init_48 : decode cX1_init 48 = .ok (.aload_n 0, 1) := by decide +kernel
theorem dX1_init_49 : decode cX1_init 49 = .ok (.aload_n 2, 1) := by decide +kernel
theorem dX1_init_50 : decode cX1_init 50 = .ok (.putfield 36, 3) := by decide +kernel
theorem dX1_init_53 : decode cX1_init 53 = .ok (.iconst 0, 1) := by decide +kernel
theorem dX1_init_54 : decode cX1_init 54 = .ok (.istore_n 3, 1) := by decide +kernel
theorem dX1_init_55 : decode cX1_init 55 = .ok (.iload_n 3, 1) := by decide +kernel
theorem dX1_init_56 : decode cX1_init 56 = .ok (.bipush 64, 2) := by decide +kernel
theorem dX1_init_58 : decode cX1_init 58 = .ok (.if_icmp .ge 35, 3) := by decide +kernel
theorem dX1_init_61 : decode cX1_init 61 = .ok (.aload_n 0, 1) := by decide +kernel
theorem dX1_init_62 : decode cX1_init 62 = .ok (.getfield 11, 3) := by decide +kernel
theorem dX1_init_65 : decode cX1_init 65 = .ok (.iload_n 3, 1) := by decide +kernel
theorem dX1_init_66 : decode cX1_init 66 = .ok (.new 9, 3) := by decide +kernel
theorem dX1_init_69 : decode cX1_init 69 = .ok (.dup, 1) := by decide +kernel
theorem dX1_init_70 : decode cX1_init 70 = .ok (.invokespecial 27, 3) := by decide +kernel
theorem dX1_init_73 : decode cX1_init 73 = .ok (.aastore, 1) := by decide +kernel
theorem dX1_init_74 : decode cX1_init 74 = .ok (.aload_n 0, 1) := by decide +kernel
theorem dX1_init_75 : decode cX1_init 75 = .ok (.getfield 17, 3) := by decide +kernel
theorem dX1_init_78 : decode cX1_init 78 = .ok (.iload_n 3, 1) := by decide +kernel
theorem dX1_init_79 : decode cX1_init 79 = .ok (.new 9, 3) := by decide +kernel
theorem dX1_init_82 : decode cX1_init 82 = .ok (.dup, 1) := by decide +kernel
theorem dX1_init_83 : decode cX1_init 83 = .ok (.invokespecial 27, 3) := by decide +kernel
theorem dX1_init_86 : decode cX1_init 86 = .ok (.aastore, 1) := by decide +kernel
theorem dX1_init_87 : decode cX1_init 87 = .ok (.iinc 3 1, 3) := by decide +kernel
theorem dX1_init_90 : decode cX1_init 90 = .ok (.goto (-35), 3) := by decide +kernel
theorem dX1_init_93 : decode cX1_init 93 = .ok (.return_, 1) := by decide +kernel
def rm_X1_init : Room := { frames := 2, cells := 131, slots := 1031, locals := 32 }
set_option maxRecDepth 100000 in
set_option maxHeartbeats 4000000 in
theorem m_X1_init (l : Launch) (E : zE) (hV : zV E) (H0 : Heap) (b : Nat) (kb : eK E b = 2) (hbn : b < H0.size) (hT : zTh E 2 b H0 [.null, .null, .null, .null, .int 0, .int 0, .null]) (p0 : Nat) (kp0 : eK E p0 = 3) (p1 : Nat) (kp1 : eK E p1 = 4) (hKi : zKi E H0.size zLX1) : Met l yX1_init (zws yX1_init cX1_init 4 none) rm_X1_init (zPm E H0 [.ref b, .ref p0, .ref p1]) (zQm E b 131 H0) 131 1031 (zfm b H0.size) := by
  refine zEntM (by decide) rfl (Nat.le_of_ble_eq_true rfl) (fun p e s m args below meth c ls Q B hA hnm hr hlk hh hQ hl => ?_)
  have hx := B.1
  have hb := B.2.1
  have hl : lv_has ls 4 [(0, .ref b), (1, .ref p0), (2, .ref p1)] := hl
  have hC : zCo E b [] H0 H0 0 [] := zCo.rf
  have kne : eK E b ≠ 0 := by omega
  refine lv_aload_n hx hb dX1_init_0 rfl (lv_at hl 0 rfl) ?_
  refine m_obj B (mc_wsL_law_r7 _ (List.mem_of_getElem? (i := 5) rfl)) (mc_wsL_law_r1 _ (List.mem_of_getElem? (i := 10) rfl)) (mc_wsL_law_r1 _ (List.mem_of_getElem? (i := 11) rfl)) hl.1 dX1_init_1 rfl rfl ?_
  refine lv_aload_n hx hb dX1_init_4 rfl (lv_at hl 0 rfl) ?_
  refine lv_bipush (v := 64) hx hb dX1_init_5 (by decide) ?_
  refine m_anew (z := 0) B hA hbn hC hT (mc_wsL_law_r7 _ (List.mem_of_getElem? (i := 6) rfl)) (hKi 0 25 rfl) rfl rfl rfl rfl (by decide) (by decide) (Nat.le_of_ble_eq_true rfl) (Nat.le_of_ble_eq_true rfl) (Nat.le_of_ble_eq_true rfl) dX1_init_7 (fun H1 hC hT hO0 o_ => ?_)
  refine m_put B fp_RX1_11 hV hbn hC hT rfl rfl rfl rfl (v := .ref (H0.size + 0)) rfl rfl dX1_init_10 (fun H2 lc2 hC hT o_ => ?_)
  have hO0 := hO0.kept (o_ _ (by omega))
  have hT : zTh E 2 b H2 [.null, .null, .ref (H0.size + 0), .null, .int 0, .int 0, .null] := hT
  refine lv_aload_n hx hb dX1_init_13 rfl (lv_at hl 0 rfl) ?_
  refine lv_bipush (v := 64) hx hb dX1_init_14 (by decide) ?_
  refine m_anew (z := 1) B hA hbn hC hT (mc_wsL_law_r7 _ (List.mem_of_getElem? (i := 6) rfl)) (hKi 1 25 rfl) rfl rfl rfl rfl (by decide) (by decide) (Nat.le_of_ble_eq_true rfl) (Nat.le_of_ble_eq_true rfl) (Nat.le_of_ble_eq_true rfl) dX1_init_16 (fun H3 hC hT hO1 o_ => ?_)
  have hO0 := hO0.kept (o_ _ (by omega))
  refine m_put B fp_RX1_17 hV hbn hC hT rfl rfl rfl rfl (v := .ref (H0.size + 1)) rfl rfl dX1_init_19 (fun H4 lc4 hC hT o_ => ?_)
  have hO0 := hO0.kept (o_ _ (by omega))
  have hO1 := hO1.kept (o_ _ (by omega))
  have hT : zTh E 2 b H4 [.null, .null, .ref (H0.size + 0), .ref (H0.size + 1), .int 0, .int 0, .null] := hT
  refine lv_aload_n hx hb dX1_init_22 rfl (lv_at hl 0 rfl) ?_
  refine lv_iconst (v := 0) hx hb dX1_init_23 (by decide) ?_
  refine m_put B fp_RX1_20 hV hbn hC hT rfl rfl rfl rfl (v := .int 0) rfl rfl dX1_init_24 (fun H5 lc5 hC hT o_ => ?_)
  have hO0 := hO0.kept (o_ _ (by omega))
  have hO1 := hO1.kept (o_ _ (by omega))
  have hT : zTh E 2 b H5 [.null, .null, .ref (H0.size + 0), .ref (H0.size + 1), .int 0, .int 0, .null] := hT
  refine lv_aload_n hx hb dX1_init_27 rfl (lv_at hl 0 rfl) ?_
  refine lv_iconst (v := 0) hx hb dX1_init_28 (by decide) ?_
  refine m_put B fp_RX1_24 hV hbn hC hT rfl rfl rfl rfl (v := .int 0) rfl rfl dX1_init_29 (fun H6 lc6 hC hT o_ => ?_)
  have hO0 := hO0.kept (o_ _ (by omega))
  have hO1 := hO1.kept (o_ _ (by omega))
  have hT : zTh E 2 b H6 [.null, .null, .ref (H0.size + 0), .ref (H0.size + 1), .int 0, .int 0, .null] := hT
  refine lv_aload_n hx hb dX1_init_32 rfl (lv_at hl 0 rfl) ?_
  refine m_new (z := 2) (kn := 5) B hbn hC hT nw_RX1_9 (hKi 2 5 rfl) rfl rfl rfl (Nat.le_of_ble_eq_true rfl) (Nat.le_of_ble_eq_true rfl) dX1_init_33 (fun H7 hC hT hTn o_ => ?_)
  have hO0 := hO0.kept (o_ _ (by omega))
  have hO1 := hO1.kept (o_ _ (by omega))
  refine lv_dup hx hb dX1_init_36 rfl ?_
  refine zkM (b := b) (zrIN (rest := [.ref (H0.size + 2), .ref b]) B hA (m_X4_init l E hV H7 (H0.size + 2) (hKi 2 5 rfl) (by rw [hC.1]; omega) hTn zKi.nil) cn_RX1_27 rfl hl.1 rfl (Nat.le_of_ble_eq_true rfl) dX1_init_37 rfl rfl ⟨rfl, rfl⟩ ⟨Nat.le_of_ble_eq_true rfl, Nat.le_of_ble_eq_true rfl⟩ (hC.zO hh kne)) hbn hC hT (by omega) (by omega) (hKi.ne 3 0 rfl rfl) (fun H8 lc8 hC hT hq o_ => ?_)
  have hO0 := hO0.kept (o_ _ (by omega) (by omega))
  have hO1 := hO1.kept (o_ _ (by omega) (by omega))
  refine m_putF B ff_RX1_28 hnm hV hbn hC hT rfl rfl rfl rfl (v := .ref (H0.size + 2)) rfl rfl dX1_init_40 (fun H9 lc9 hC hT o_ => ?_)
  have hO0 := hO0.kept (o_ _ (by omega))
  have hO1 := hO1.kept (o_ _ (by omega))
  have hT : zTh E 2 b H9 [.null, .null, .ref (H0.size + 0), .ref (H0.size + 1), .int 0, .int 0, .ref (H0.size + 2)] := hT
  refine lv_aload_n hx hb dX1_init_43 rfl (lv_at hl 0 rfl) ?_
  refine lv_aload_n hx hb dX1_init_44 rfl (lv_at hl 1 rfl) ?_
  refine m_putF B ff_RX1_32 hnm hV hbn hC hT rfl rfl rfl rfl (v := .ref p0) rfl rfl dX1_init_45 (fun H10 lc10 hC hT o_ => ?_)
  have hO0 := hO0.kept (o_ _ (by omega))
  have hO1 := hO1.kept (o_ _ (by omega))
  have hT : zTh E 2 b H10 [.ref p0, .null, .ref (H0.size + 0), .ref (H0.size + 1), .int 0, .int 0, .ref (H0.size + 2)] := hT
  refine lv_aload_n hx hb dX1_init_48 rfl (lv_at hl 0 rfl) ?_
  refine lv_aload_n hx hb dX1_init_49 rfl (lv_at hl 2 rfl) ?_
  refine m_putF B ff_RX1_36 hnm hV hbn hC hT rfl rfl rfl rfl (v := .ref p1) rfl rfl dX1_init_50 (fun H11 lc11 hC hT o_ => ?_)
  have hO0 := hO0.kept (o_ _ (by omega))
  have hO1 := hO1.kept (o_ _ (by omega))
  have hT : zTh E 2 b H11 [.ref p0, .ref p1, .ref (H0.size + 0), .ref (H0.size + 1), .int 0, .int 0, .ref (H0.size + 2)] := hT
  refine lv_iconst (v := 0) hx hb dX1_init_53 (by decide) ?_
  refine lv_istore_n (lv' := [(3, .int 0), (0, .ref b), (1, .ref p0), (2, .ref p1)]) hx hb dX1_init_54 rfl hl (by decide) rfl (fun ls hl => ?_)
  have hk5 : ∀ i, i < 128 → eK E (H0.size + (3 + i)) = 5 := fun i hi => hKi _ _ (((by decide +kernel : ∀ i, i < 128 → zLX1[3 + i]? = some 5)) i hi)
  have loop : ∀ (d i : Nat), i + d = 64 → ∀ (H : Heap) (locs : List Loc) (ls : Array Slot), zCo E b [H0.size + 1, H0.size + 0] H0 H (3 + 2 * i) locs → zTh E 2 b H [.ref p0, .ref p1, .ref (H0.size + 0), .ref (H0.size + 1), .int 0, .int 0, .ref (H0.size + 2)] → zOp E (H0.size + 0) H i → zOp E (H0.size + 1) H i → lv_has ls 4 [(3, .int (nI i)), (0, .ref b), (1, .ref p0), (2, .ref p1)] → W p l e rm_X1_init s m args below meth c H locs (3 + 2 * i) (135 + 14 * i) Q (F0 m 55 ls []) := by
    intro d
    induction d with
    | zero =>
      intro i hi H locs ls hC hT hO0 hO1 hl
      have ti := nI_toInt (n := i) (by omega)
      refine lv_iload_n hx hb dX1_init_55 rfl (lv_at hl 0 rfl) ?_
      refine lv_bipush (v := 64) hx hb dX1_init_56 (by decide) ?_
      refine lv_icmp_ge (tgt := 93) hx hb dX1_init_58 (by decide) (fun c_1 => ?_) (fun c_1 => ?_)
      · have hi : i = 64 := by omega
        subst hi
        have hC := hC.close (hO1.done (hKi 1 25 rfl) rfl rfl (fun _ => rfl))
        have hC := hC.close (hO0.done (hKi 0 25 rfl) rfl rfl (fun _ => rfl))
        exact m_retM B hr hlk hh hQ hC (hT.done kb (fun j hj => match j, hj with
    | 0, _ => ⟨_, rfl, (dn_r kp0)⟩
    | 1, _ => ⟨_, rfl, (dn_r kp1)⟩
    | 2, _ => ⟨_, rfl, (dn_r (hKi 0 25 rfl))⟩
    | 3, _ => ⟨_, rfl, (dn_r (hKi 1 25 rfl))⟩
    | 4, _ => ⟨_, rfl, (dn_i (by decide) (by decide))⟩
    | 5, _ => ⟨_, rfl, (dn_i (by decide) (by decide))⟩
    | 6, _ => ⟨_, rfl, (dn_r (hKi 2 5 rfl))⟩
    | j + 7, h => absurd h (Nat.not_lt.mpr (Nat.le_add_left _ _)))) dX1_init_93
      · have f_1 := z_nle c_1 kl_64 ti
        omega
    | succ d ih =>
      intro i hi H locs ls hC hT hO0 hO1 hl
      have ti := nI_toInt (n := i) (by omega)
      refine lv_iload_n hx hb dX1_init_55 rfl (lv_at hl 0 rfl) ?_
      refine lv_bipush (v := 64) hx hb dX1_init_56 (by decide) ?_
      refine lv_icmp_ge (tgt := 93) hx hb dX1_init_58 (by decide) (fun c_1 => ?_) (fun c_1 => ?_)
      · have f_1 := z_le c_1 kl_64 ti
        omega
      · have f_1 := z_nle c_1 kl_64 ti
        refine lv_aload_n hx hb dX1_init_61 rfl (lv_at hl 1 rfl) ?_
        refine m_get B fl_RX1_11 hT rfl rfl (j := 2) rfl dX1_init_62 ?_
        refine lv_iload_n hx hb dX1_init_65 rfl (lv_at hl 0 rfl) ?_
        have kz : eK E (H0.size + (3 + 2 * i)) = 5 := hk5 (2 * i) (by omega)
        refine m_new (z := 3 + 2 * i) (kn := 5) B hbn hC hT nw_RX1_9 kz rfl rfl rfl (by show _ ≤ 131; omega) (by show _ ≤ 1031; omega) dX1_init_66 (fun H12 hC hT hTn o_ => ?_)
        have hO0 := hO0.kept (o_ _ (by omega))
        have hO1 := hO1.kept (o_ _ (by omega))
        refine lv_dup hx hb dX1_init_69 rfl ?_
        refine zkM (b := b) (zrIN (rest := [.ref (H0.size + (3 + 2 * i)), .int (nI i), .ref (H0.size + 0)]) B hA (m_X4_init l E hV H12 (H0.size + (3 + 2 * i)) kz (by rw [hC.1]; omega) hTn zKi.nil) cn_RX1_27 rfl hl.1 rfl (Nat.le_of_ble_eq_true rfl) dX1_init_70 rfl rfl ⟨rfl, rfl⟩ ⟨by show _ ≤ 131; omega, by show _ ≤ 1031; omega⟩ (hC.zO hh kne)) hbn hC hT (by omega) (by omega) (fun q _ _ => by omega) (fun H13 lc13 hC hT hq o_ => ?_)
        have hO0 := hO0.kept (o_ _ (by omega) (by omega))
        have hO1 := hO1.kept (o_ _ (by omega) (by omega))
        refine m_aast (a := H0.size + 0) (i := i) (N := 64) B hA hbn hC hT hO0 (List.mem_cons_of_mem _ List.mem_cons_self) (by omega) (hKi 0 25 rfl) rfl rfl rfl (by omega) (by omega) kz hq dX1_init_73 (fun H14 lc14 hC hT hO0 o_ => ?_)
        have hO1 := hO1.kept (o_ _ (by omega))
        refine lv_aload_n hx hb dX1_init_74 rfl (lv_at hl 1 rfl) ?_
        refine m_get B fl_RX1_17 hT rfl rfl (j := 3) rfl dX1_init_75 ?_
        refine lv_iload_n hx hb dX1_init_78 rfl (lv_at hl 0 rfl) ?_
        have kz : eK E (H0.size + (3 + 2 * i + 1)) = 5 := hk5 (2 * i + 1) (by omega)
        refine m_new (z := 3 + 2 * i + 1) (kn := 5) B hbn hC hT nw_RX1_9 kz rfl rfl rfl (by show _ ≤ 131; omega) (by show _ ≤ 1031; omega) dX1_init_79 (fun H15 hC hT hTn o_ => ?_)
        have hO0 := hO0.kept (o_ _ (by omega))
        have hO1 := hO1.kept (o_ _ (by omega))
        refine lv_dup hx hb dX1_init_82 rfl ?_
        refine zkM (b := b) (zrIN (rest := [.ref (H0.size + (3 + 2 * i + 1)), .int (nI i), .ref (H0.size + 1)]) B hA (m_X4_init l E hV H15 (H0.size + (3 + 2 * i + 1)) kz (by rw [hC.1]; omega) hTn zKi.nil) cn_RX1_27 rfl hl.1 rfl (Nat.le_of_ble_eq_true rfl) dX1_init_83 rfl rfl ⟨rfl, rfl⟩ ⟨by show _ ≤ 131; omega, by show _ ≤ 1031; omega⟩ (hC.zO hh kne)) hbn hC hT (by omega) (by omega) (fun q _ _ => by omega) (fun H16 lc16 hC hT hq o_ => ?_)
        have hO0 := hO0.kept (o_ _ (by omega) (by omega))
        have hO1 := hO1.kept (o_ _ (by omega) (by omega))
        refine m_aast (a := H0.size + 1) (i := i) (N := 64) B hA hbn hC hT hO1 List.mem_cons_self (by omega) (hKi 1 25 rfl) rfl rfl rfl (by omega) (by omega) kz hq dX1_init_86 (fun H17 lc17 hC hT hO1 o_ => ?_)
        have hO0 := hO0.kept (o_ _ (by omega))
        refine lv_iinc (v := nI (i + 1)) (lv' := [(3, .int (nI (i + 1))), (0, .ref b), (1, .ref p0), (2, .ref p1)]) hx hb dX1_init_87 hl (k := 0) rfl (z_inc i 1) (by decide) rfl (fun ls hl => ?_)
        refine lv_goto (tgt := 55) hx hb dX1_init_90 (by decide) ?_
        refine W.widen (k := 3 + 2 * (i + 1)) (n := 135 + 14 * (i + 1)) (by omega) (by omega) ?_
        exact ih (i + 1) (by omega) _ _ _ (hC.cast (by omega)) hT hO0 hO1 hl
  exact loop 64 0 rfl _ _ _ hC hT hO0 hO1 hl

def zLX0 : List Nat := [20, 21, 22, 23, 24]
theorem dX0_init_0 : decode cX0_init 0 = .ok (.aload_n 0, 1) := by decide +kernel
theorem dX0_init_1 : decode cX0_init 1 = .ok (.invokespecial 3, 3) := by decide +kernel
theorem dX0_init_4 : decode cX0_init 4 = .ok (.aload_n 0, 1) := by decide +kernel
theorem dX0_init_5 : decode cX0_init 5 = .ok (.iconst 0, 1) := by decide +kernel
theorem dX0_init_6 : decode cX0_init 6 = .ok (.putfield 9, 3) := by decide +kernel
theorem dX0_init_9 : decode cX0_init 9 = .ok (.aload_n 0, 1) := by decide +kernel
theorem dX0_init_10 : decode cX0_init 10 = .ok (.iconst 0, 1) := by decide +kernel
theorem dX0_init_11 : decode cX0_init 11 = .ok (.putfield 15, 3) := by decide +kernel
theorem dX0_init_14 : decode cX0_init 14 = .ok (.aload_n 0, 1) := by decide +kernel
theorem dX0_init_15 : decode cX0_init 15 = .ok (.bipush 12, 2) := by decide +kernel
theorem dX0_init_17 : decode cX0_init 17 = .ok (.newarray .int, 2) := by decide +kernel
theorem dX0_init_19 : decode cX0_init 19 = .ok (.putfield 18, 3) := by decide +kernel
theorem dX0_init_22 : decode cX0_init 22 = .ok (.aload_n 0, 1) := by decide +kernel
theorem dX0_init_23 : decode cX0_init 23 = .ok (.bipush 12, 2) := by decide +kernel
theorem dX0_init_25 : decode cX0_init 25 = .ok (.newarray .int, 2) := by decide +kernel
theorem dX0_init_27 : decode cX0_init 27 = .ok (.putfield 22, 3) := by decide +kernel
theorem dX0_init_30 : decode cX0_init 30 = .ok (.aload_n 0, 1) := by decide +kernel
theorem dX0_init_31 : decode cX0_init 31 = .ok (.bipush 12, 2) := by decide +kernel
theorem dX0_init_33 : decode cX0_init 33 = .ok (.newarray .int, 2) := by decide +kernel
theorem dX0_init_35 : decode cX0_init 35 = .ok (.putfield 25, 3) := by decide +kernel
theorem dX0_init_38 : decode cX0_init 38 = .ok (.aload_n 0, 1) := by decide +kernel
theorem dX0_init_39 : decode cX0_init 39 = .ok (.bipush 12, 2) := by decide +kernel
theorem dX0_init_41 : decode cX0_init 41 = .ok (.newarray .int, 2) := by decide +kernel
theorem dX0_init_43 : decode cX0_init 43 = .ok (.putfield 28, 3) := by decide +kernel
theorem dX0_init_46 : decode cX0_init 46 = .ok (.aload_n 0, 1) := by decide +kernel
theorem dX0_init_47 : decode cX0_init 47 = .ok (.bipush 12, 2) := by decide +kernel
theorem dX0_init_49 : decode cX0_init 49 = .ok (.newarray .int, 2) := by decide +kernel
theorem dX0_init_51 : decode cX0_init 51 = .ok (.putfield 31, 3) := by decide +kernel
theorem dX0_init_54 : decode cX0_init 54 = .ok (.return_, 1) := by decide +kernel
def rm_X0_init : Room := { frames := 1, cells := 5, slots := 60, locals := 12 }
set_option maxRecDepth 100000 in
set_option maxHeartbeats 4000000 in
theorem m_X0_init (l : Launch) (E : zE) (hV : zV E) (H0 : Heap) (b : Nat) (kb : eK E b = 1) (hbn : b < H0.size) (hT : zTh E 1 b H0 [.int 0, .int 0, .null, .null, .null, .null, .null]) (hKi : zKi E H0.size zLX0) : Met l yX0_init (zws yX0_init cX0_init 1 none) rm_X0_init (zPm E H0 [.ref b]) (zQm E b 5 H0) 5 60 (zfm b H0.size) := by
  refine zEntM (by decide) rfl (Nat.le_of_ble_eq_true rfl) (fun p e s m args below meth c ls Q B hA hnm hr hlk hh hQ hl => ?_)
  have hx := B.1
  have hb := B.2.1
  have hl : lv_has ls 1 [(0, .ref b)] := hl
  have hC : zCo E b [] H0 H0 0 [] := zCo.rf
  have kne : eK E b ≠ 0 := by omega
  refine lv_aload_n hx hb dX0_init_0 rfl (lv_at hl 0 rfl) ?_
  refine m_obj B (mc_wsL_law_r7 _ (List.mem_of_getElem? (i := 16) rfl)) (mc_wsL_law_r1 _ (List.mem_of_getElem? (i := 10) rfl)) (mc_wsL_law_r1 _ (List.mem_of_getElem? (i := 11) rfl)) hl.1 dX0_init_1 rfl rfl ?_
  refine lv_aload_n hx hb dX0_init_4 rfl (lv_at hl 0 rfl) ?_
  refine lv_iconst (v := 0) hx hb dX0_init_5 (by decide) ?_
  refine m_put B fp_RX0_9 hV hbn hC hT rfl rfl rfl rfl (v := .int 0) rfl rfl dX0_init_6 (fun H1 lc1 hC hT o_ => ?_)
  have hT : zTh E 1 b H1 [.int 0, .int 0, .null, .null, .null, .null, .null] := hT
  refine lv_aload_n hx hb dX0_init_9 rfl (lv_at hl 0 rfl) ?_
  refine lv_iconst (v := 0) hx hb dX0_init_10 (by decide) ?_
  refine m_put B fp_RX0_15 hV hbn hC hT rfl rfl rfl rfl (v := .int 0) rfl rfl dX0_init_11 (fun H2 lc2 hC hT o_ => ?_)
  have hT : zTh E 1 b H2 [.int 0, .int 0, .null, .null, .null, .null, .null] := hT
  refine lv_aload_n hx hb dX0_init_14 rfl (lv_at hl 0 rfl) ?_
  refine lv_bipush (v := 12) hx hb dX0_init_15 (by decide) ?_
  refine m_newa (z := 0) (atype := .int) B hA hbn hC hT rfl (mc_wsL_law_r3 _ (List.mem_of_getElem? (i := 15) rfl)) (hKi 0 20 rfl) rfl rfl rfl rfl (by decide) (by decide) (fun j _ => dn_i (by decide) (by decide)) (Nat.le_of_ble_eq_true rfl) (Nat.le_of_ble_eq_true rfl) (Nat.le_of_ble_eq_true rfl) dX0_init_17 (fun H3 hC hT o_ => ?_)
  refine m_putF B ff_RX0_18 hnm hV hbn hC hT rfl rfl rfl rfl (v := .ref (H0.size + 0)) rfl rfl dX0_init_19 (fun H4 lc4 hC hT o_ => ?_)
  have hT : zTh E 1 b H4 [.int 0, .int 0, .ref (H0.size + 0), .null, .null, .null, .null] := hT
  refine lv_aload_n hx hb dX0_init_22 rfl (lv_at hl 0 rfl) ?_
  refine lv_bipush (v := 12) hx hb dX0_init_23 (by decide) ?_
  refine m_newa (z := 1) (atype := .int) B hA hbn hC hT rfl (mc_wsL_law_r3 _ (List.mem_of_getElem? (i := 15) rfl)) (hKi 1 21 rfl) rfl rfl rfl rfl (by decide) (by decide) (fun j _ => dn_i (by decide) (by decide)) (Nat.le_of_ble_eq_true rfl) (Nat.le_of_ble_eq_true rfl) (Nat.le_of_ble_eq_true rfl) dX0_init_25 (fun H5 hC hT o_ => ?_)
  refine m_putF B ff_RX0_22 hnm hV hbn hC hT rfl rfl rfl rfl (v := .ref (H0.size + 1)) rfl rfl dX0_init_27 (fun H6 lc6 hC hT o_ => ?_)
  have hT : zTh E 1 b H6 [.int 0, .int 0, .ref (H0.size + 0), .ref (H0.size + 1), .null, .null, .null] := hT
  refine lv_aload_n hx hb dX0_init_30 rfl (lv_at hl 0 rfl) ?_
  refine lv_bipush (v := 12) hx hb dX0_init_31 (by decide) ?_
  refine m_newa (z := 2) (atype := .int) B hA hbn hC hT rfl (mc_wsL_law_r3 _ (List.mem_of_getElem? (i := 15) rfl)) (hKi 2 22 rfl) rfl rfl rfl rfl (by decide) (by decide) (fun j _ => dn_i (by decide) (by decide)) (Nat.le_of_ble_eq_true rfl) (Nat.le_of_ble_eq_true rfl) (Nat.le_of_ble_eq_true rfl) dX0_init_33 (fun H7 hC hT o_ => ?_)
  refine m_putF B ff_RX0_25 hnm hV hbn hC hT rfl rfl rfl rfl (v := .ref (H0.size + 2)) rfl rfl dX0_init_35 (fun H8 lc8 hC hT o_ => ?_)
  have hT : zTh E 1 b H8 [.int 0, .int 0, .ref (H0.size + 0), .ref (H0.size + 1), .ref (H0.size + 2), .null, .null] := hT
  refine lv_aload_n hx hb dX0_init_38 rfl (lv_at hl 0 rfl) ?_
  refine lv_bipush (v := 12) hx hb dX0_init_39 (by decide) ?_
  refine m_newa (z := 3) (atype := .int) B hA hbn hC hT rfl (mc_wsL_law_r3 _ (List.mem_of_getElem? (i := 15) rfl)) (hKi 3 23 rfl) rfl rfl rfl rfl (by decide) (by decide) (fun j _ => dn_i (by decide) (by decide)) (Nat.le_of_ble_eq_true rfl) (Nat.le_of_ble_eq_true rfl) (Nat.le_of_ble_eq_true rfl) dX0_init_41 (fun H9 hC hT o_ => ?_)
  refine m_putF B ff_RX0_28 hnm hV hbn hC hT rfl rfl rfl rfl (v := .ref (H0.size + 3)) rfl rfl dX0_init_43 (fun H10 lc10 hC hT o_ => ?_)
  have hT : zTh E 1 b H10 [.int 0, .int 0, .ref (H0.size + 0), .ref (H0.size + 1), .ref (H0.size + 2), .ref (H0.size + 3), .null] := hT
  refine lv_aload_n hx hb dX0_init_46 rfl (lv_at hl 0 rfl) ?_
  refine lv_bipush (v := 12) hx hb dX0_init_47 (by decide) ?_
  refine m_newa (z := 4) (atype := .int) B hA hbn hC hT rfl (mc_wsL_law_r3 _ (List.mem_of_getElem? (i := 15) rfl)) (hKi 4 24 rfl) rfl rfl rfl rfl (by decide) (by decide) (fun j _ => dn_i (by decide) (by decide)) (Nat.le_of_ble_eq_true rfl) (Nat.le_of_ble_eq_true rfl) (Nat.le_of_ble_eq_true rfl) dX0_init_49 (fun H11 hC hT o_ => ?_)
  refine m_putF B ff_RX0_31 hnm hV hbn hC hT rfl rfl rfl rfl (v := .ref (H0.size + 4)) rfl rfl dX0_init_51 (fun H12 lc12 hC hT o_ => ?_)
  have hT : zTh E 1 b H12 [.int 0, .int 0, .ref (H0.size + 0), .ref (H0.size + 1), .ref (H0.size + 2), .ref (H0.size + 3), .ref (H0.size + 4)] := hT
  exact m_retM B hr hlk hh hQ hC (hT.done kb (fun j hj => match j, hj with
    | 0, _ => ⟨_, rfl, (dn_i (by decide) (by decide))⟩
    | 1, _ => ⟨_, rfl, (dn_i (by decide) (by decide))⟩
    | 2, _ => ⟨_, rfl, (dn_r (hKi 0 20 rfl))⟩
    | 3, _ => ⟨_, rfl, (dn_r (hKi 1 21 rfl))⟩
    | 4, _ => ⟨_, rfl, (dn_r (hKi 2 22 rfl))⟩
    | 5, _ => ⟨_, rfl, (dn_r (hKi 3 23 rfl))⟩
    | 6, _ => ⟨_, rfl, (dn_r (hKi 4 24 rfl))⟩
    | j + 7, h => absurd h (Nat.not_lt.mpr (Nat.le_add_left _ _)))) dX0_init_54

def zLX7 : List Nat := [41, 42, 43, 44, 45, 46]
theorem dX7_init_0 : decode cX7_init 0 = .ok (.aload_n 0, 1) := by decide +kernel
theorem dX7_init_1 : decode cX7_init 1 = .ok (.invokespecial 3, 3) := by decide +kernel
theorem dX7_init_4 : decode cX7_init 4 = .ok (.aload_n 0, 1) := by decide +kernel
theorem dX7_init_5 : decode cX7_init 5 = .ok (.iconst 0, 1) := by decide +kernel
theorem dX7_init_6 : decode cX7_init 6 = .ok (.putfield 9, 3) := by decide +kernel
theorem dX7_init_9 : decode cX7_init 9 = .ok (.aload_n 0, 1) := by decide +kernel
theorem dX7_init_10 : decode cX7_init 10 = .ok (.iconst 0, 1) := by decide +kernel
theorem dX7_init_11 : decode cX7_init 11 = .ok (.putfield 15, 3) := by decide +kernel
theorem dX7_init_14 : decode cX7_init 14 = .ok (.aload_n 0, 1) := by decide +kernel
theorem dX7_init_15 : decode cX7_init 15 = .ok (.bipush 30, 2) := by decide +kernel
theorem dX7_init_17 : decode cX7_init 17 = .ok (.newarray .int, 2) := by decide +kernel
theorem dX7_init_19 : decode cX7_init 19 = .ok (.putfield 18, 3) := by decide +kernel
theorem dX7_init_22 : decode cX7_init 22 = .ok (.aload_n 0, 1) := by decide +kernel
theorem dX7_init_23 : decode cX7_init 23 = .ok (.bipush 30, 2) := by decide +kernel
theorem dX7_init_25 : decode cX7_init 25 = .ok (.newarray .int, 2) := by decide +kernel
theorem dX7_init_27 : decode cX7_init 27 = .ok (.putfield 22, 3) := by decide +kernel
theorem dX7_init_30 : decode cX7_init 30 = .ok (.aload_n 0, 1) := by decide +kernel
theorem dX7_init_31 : decode cX7_init 31 = .ok (.bipush 30, 2) := by decide +kernel
theorem dX7_init_33 : decode cX7_init 33 = .ok (.newarray .int, 2) := by decide +kernel
theorem dX7_init_35 : decode cX7_init 35 = .ok (.putfield 25, 3) := by decide +kernel
theorem dX7_init_38 : decode cX7_init 38 = .ok (.aload_n 0, 1) := by decide +kernel
theorem dX7_init_39 : decode cX7_init 39 = .ok (.bipush 30, 2) := by decide +kernel
theorem dX7_init_41 : decode cX7_init 41 = .ok (.newarray .int, 2) := by decide +kernel
theorem dX7_init_43 : decode cX7_init 43 = .ok (.putfield 28, 3) := by decide +kernel
theorem dX7_init_46 : decode cX7_init 46 = .ok (.aload_n 0, 1) := by decide +kernel
theorem dX7_init_47 : decode cX7_init 47 = .ok (.bipush 30, 2) := by decide +kernel
theorem dX7_init_49 : decode cX7_init 49 = .ok (.newarray .int, 2) := by decide +kernel
theorem dX7_init_51 : decode cX7_init 51 = .ok (.putfield 31, 3) := by decide +kernel
theorem dX7_init_54 : decode cX7_init 54 = .ok (.aload_n 0, 1) := by decide +kernel
theorem dX7_init_55 : decode cX7_init 55 = .ok (.bipush 30, 2) := by decide +kernel
theorem dX7_init_57 : decode cX7_init 57 = .ok (.newarray .int, 2) := by decide +kernel
theorem dX7_init_59 : decode cX7_init 59 = .ok (.putfield 34, 3) := by decide +kernel
theorem dX7_init_62 : decode cX7_init 62 = .ok (.return_, 1) := by decide +kernel
def rm_X7_init : Room := { frames := 1, cells := 6, slots := 180, locals := 12 }
set_option maxRecDepth 100000 in
set_option maxHeartbeats 4000000 in
theorem m_X7_init (l : Launch) (E : zE) (hV : zV E) (H0 : Heap) (b : Nat) (kb : eK E b = 8) (hbn : b < H0.size) (hT : zTh E 8 b H0 [.int 0, .int 0, .null, .null, .null, .null, .null, .null]) (heX : eX E = 0) (hKi : zKi E H0.size zLX7) : Met l yX7_init (zws yX7_init cX7_init 1 none) rm_X7_init (zPm E H0 [.ref b]) (zQm E b 6 H0) 6 180 (zfm b H0.size) := by
  refine zEntM (by decide) rfl (Nat.le_of_ble_eq_true rfl) (fun p e s m args below meth c ls Q B hA hnm hr hlk hh hQ hl => ?_)
  have hx := B.1
  have hb := B.2.1
  have hl : lv_has ls 1 [(0, .ref b)] := hl
  have hC : zCo E b [] H0 H0 0 [] := zCo.rf
  have kne : eK E b ≠ 0 := by omega
  refine lv_aload_n hx hb dX7_init_0 rfl (lv_at hl 0 rfl) ?_
  refine m_obj B (mc_wsL_law_r8 _ (List.mem_of_getElem? (i := 2) rfl)) (mc_wsL_law_r1 _ (List.mem_of_getElem? (i := 10) rfl)) (mc_wsL_law_r1 _ (List.mem_of_getElem? (i := 11) rfl)) hl.1 dX7_init_1 rfl rfl ?_
  refine lv_aload_n hx hb dX7_init_4 rfl (lv_at hl 0 rfl) ?_
  refine lv_iconst (v := 0) hx hb dX7_init_5 (by decide) ?_
  refine m_put B fp_RX7_9 hV hbn hC hT rfl rfl rfl rfl (v := .int 0) rfl rfl dX7_init_6 (fun H1 lc1 hC hT o_ => ?_)
  have hT : zTh E 8 b H1 [.int 0, .int 0, .null, .null, .null, .null, .null, .null] := hT
  refine lv_aload_n hx hb dX7_init_9 rfl (lv_at hl 0 rfl) ?_
  refine lv_iconst (v := 0) hx hb dX7_init_10 (by decide) ?_
  refine m_put B fp_RX7_15 hV hbn hC hT rfl rfl rfl rfl (v := .int 0) rfl rfl dX7_init_11 (fun H2 lc2 hC hT o_ => ?_)
  have hT : zTh E 8 b H2 [.int 0, .int 0, .null, .null, .null, .null, .null, .null] := hT
  refine lv_aload_n hx hb dX7_init_14 rfl (lv_at hl 0 rfl) ?_
  refine lv_bipush (v := 30) hx hb dX7_init_15 (by decide) ?_
  refine m_newa (z := 0) (atype := .int) B hA hbn hC hT rfl (mc_wsL_law_r3 _ (List.mem_of_getElem? (i := 15) rfl)) (hKi 0 41 rfl) rfl rfl rfl rfl (by decide) (by decide) (fun j _ => dn_i (by decide) (by decide)) (Nat.le_of_ble_eq_true rfl) (Nat.le_of_ble_eq_true rfl) (Nat.le_of_ble_eq_true rfl) dX7_init_17 (fun H3 hC hT o_ => ?_)
  refine m_putF B ff_RX7_18 hnm hV hbn hC hT rfl rfl rfl rfl (v := .ref (H0.size + 0)) rfl rfl dX7_init_19 (fun H4 lc4 hC hT o_ => ?_)
  have hT : zTh E 8 b H4 [.int 0, .int 0, .ref (H0.size + 0), .null, .null, .null, .null, .null] := hT
  refine lv_aload_n hx hb dX7_init_22 rfl (lv_at hl 0 rfl) ?_
  refine lv_bipush (v := 30) hx hb dX7_init_23 (by decide) ?_
  refine m_newa (z := 1) (atype := .int) B hA hbn hC hT rfl (mc_wsL_law_r3 _ (List.mem_of_getElem? (i := 15) rfl)) (hKi 1 42 rfl) rfl rfl rfl rfl (by decide) (by decide) (fun j _ => dn_i (by decide) (by decide)) (Nat.le_of_ble_eq_true rfl) (Nat.le_of_ble_eq_true rfl) (Nat.le_of_ble_eq_true rfl) dX7_init_25 (fun H5 hC hT o_ => ?_)
  refine m_putF B ff_RX7_22 hnm hV hbn hC hT rfl rfl rfl rfl (v := .ref (H0.size + 1)) rfl rfl dX7_init_27 (fun H6 lc6 hC hT o_ => ?_)
  have hT : zTh E 8 b H6 [.int 0, .int 0, .ref (H0.size + 0), .ref (H0.size + 1), .null, .null, .null, .null] := hT
  refine lv_aload_n hx hb dX7_init_30 rfl (lv_at hl 0 rfl) ?_
  refine lv_bipush (v := 30) hx hb dX7_init_31 (by decide) ?_
  refine m_newa (z := 2) (atype := .int) B hA hbn hC hT rfl (mc_wsL_law_r3 _ (List.mem_of_getElem? (i := 15) rfl)) (hKi 2 43 rfl) rfl rfl rfl rfl (by decide) (by decide) (fun j _ => dn_i (by decide) (by decide)) (Nat.le_of_ble_eq_true rfl) (Nat.le_of_ble_eq_true rfl) (Nat.le_of_ble_eq_true rfl) dX7_init_33 (fun H7 hC hT o_ => ?_)
  refine m_putF B ff_RX7_25 hnm hV hbn hC hT rfl rfl rfl rfl (v := .ref (H0.size + 2)) rfl rfl dX7_init_35 (fun H8 lc8 hC hT o_ => ?_)
  have hT : zTh E 8 b H8 [.int 0, .int 0, .ref (H0.size + 0), .ref (H0.size + 1), .ref (H0.size + 2), .null, .null, .null] := hT
  refine lv_aload_n hx hb dX7_init_38 rfl (lv_at hl 0 rfl) ?_
  refine lv_bipush (v := 30) hx hb dX7_init_39 (by decide) ?_
  refine m_newa (z := 3) (atype := .int) B hA hbn hC hT rfl (mc_wsL_law_r3 _ (List.mem_of_getElem? (i := 15) rfl)) (hKi 3 44 rfl) rfl rfl rfl rfl (by decide) (by decide) (fun j _ => dn_i (by decide) (by decide)) (Nat.le_of_ble_eq_true rfl) (Nat.le_of_ble_eq_true rfl) (Nat.le_of_ble_eq_true rfl) dX7_init_41 (fun H9 hC hT o_ => ?_)
  refine m_putF B ff_RX7_28 hnm hV hbn hC hT rfl rfl rfl rfl (v := .ref (H0.size + 3)) rfl rfl dX7_init_43 (fun H10 lc10 hC hT o_ => ?_)
  have hT : zTh E 8 b H10 [.int 0, .int 0, .ref (H0.size + 0), .ref (H0.size + 1), .ref (H0.size + 2), .ref (H0.size + 3), .null, .null] := hT
  refine lv_aload_n hx hb dX7_init_46 rfl (lv_at hl 0 rfl) ?_
  refine lv_bipush (v := 30) hx hb dX7_init_47 (by decide) ?_
  refine m_newa (z := 4) (atype := .int) B hA hbn hC hT rfl (mc_wsL_law_r3 _ (List.mem_of_getElem? (i := 15) rfl)) (hKi 4 45 rfl) rfl rfl rfl rfl (by decide) (by decide) (fun j _ => dn_i (by decide) (by decide)) (Nat.le_of_ble_eq_true rfl) (Nat.le_of_ble_eq_true rfl) (Nat.le_of_ble_eq_true rfl) dX7_init_49 (fun H11 hC hT o_ => ?_)
  refine m_putF B ff_RX7_31 hnm hV hbn hC hT rfl rfl rfl rfl (v := .ref (H0.size + 4)) rfl rfl dX7_init_51 (fun H12 lc12 hC hT o_ => ?_)
  have hT : zTh E 8 b H12 [.int 0, .int 0, .ref (H0.size + 0), .ref (H0.size + 1), .ref (H0.size + 2), .ref (H0.size + 3), .ref (H0.size + 4), .null] := hT
  refine lv_aload_n hx hb dX7_init_54 rfl (lv_at hl 0 rfl) ?_
  refine lv_bipush (v := 30) hx hb dX7_init_55 (by decide) ?_
  refine m_newa (z := 5) (atype := .int) B hA hbn hC hT rfl (mc_wsL_law_r3 _ (List.mem_of_getElem? (i := 15) rfl)) (hKi 5 46 rfl) rfl rfl rfl rfl (by decide) (by decide) (fun j _ => dn_i (by decide) (by decide)) (Nat.le_of_ble_eq_true rfl) (Nat.le_of_ble_eq_true rfl) (Nat.le_of_ble_eq_true rfl) dX7_init_57 (fun H13 hC hT o_ => ?_)
  refine m_putF B ff_RX7_34 hnm hV hbn hC hT rfl rfl rfl rfl (v := .ref (H0.size + 5)) rfl rfl dX7_init_59 (fun H14 lc14 hC hT o_ => ?_)
  have hT : zTh E 8 b H14 [.int 0, .int 0, .ref (H0.size + 0), .ref (H0.size + 1), .ref (H0.size + 2), .ref (H0.size + 3), .ref (H0.size + 4), .ref (H0.size + 5)] := hT
  exact m_retM B hr hlk hh hQ hC (hT.done kb (fun j hj => match j, hj with
    | 0, _ => ⟨_, rfl, (dn_i (by decide) (by decide))⟩
    | 1, _ => ⟨_, rfl, (dn_t heX)⟩
    | 2, _ => ⟨_, rfl, (dn_r (hKi 0 41 rfl))⟩
    | 3, _ => ⟨_, rfl, (dn_r (hKi 1 42 rfl))⟩
    | 4, _ => ⟨_, rfl, (dn_r (hKi 2 43 rfl))⟩
    | 5, _ => ⟨_, rfl, (dn_r (hKi 3 44 rfl))⟩
    | 6, _ => ⟨_, rfl, (dn_r (hKi 4 45 rfl))⟩
    | 7, _ => ⟨_, rfl, (dn_r (hKi 5 46 rfl))⟩
    | j + 8, h => absurd h (Nat.not_lt.mpr (Nat.le_add_left _ _)))) dX7_init_62

def zLX8 : List Nat := [47, 47, 5, 5, 5, 5, 5, 5, 5, 5, 5, 5, 5, 5, 5, 5, 5, 5, 5, 5, 5, 5, 5, 5]
theorem dX8_init_0 : decode cX8_init 0 = .ok (.aload_n 0, 1) := by decide +kernel
theorem dX8_init_1 : decode cX8_init 1 = .ok (.invokespecial 3, 3) := by decide +kernel
theorem dX8_init_4 : decode cX8_init 4 = .ok (.aload_n 0, 1) := by decide +kernel
theorem dX8_init_5 : decode cX8_init 5 = .ok (.iconst 0, 1) := by decide +kernel
theorem dX8_init_6 : decode cX8_init 6 = .ok (.putfield 9, 3) := by decide +kernel
theorem dX8_init_9 : decode cX8_init 9 = .ok (.aload_n 0, 1) := by decide +kernel
theorem dX8_init_10 : decode cX8_init 10 = .ok (.iconst 0, 1) := by decide +kernel
theorem dX8_init_11 : decode cX8_init 11 = .ok (.putfield 15, 3) := by decide +kernel
theorem dX8_init_14 : decode cX8_init 14 = .ok (.aload_n 0, 1) := by decide +kernel
theorem dX8_init_15 : decode cX8_init 15 = .ok (.iconst 0, 1) := by decide +kernel
theorem dX8_init_16 : decode cX8_init 16 = .ok (.putfield 18, 3) := by decide +kernel
theorem dX8_init_19 : decode cX8_init 19 = .ok (.aload_n 0, 1) := by decide +kernel
theorem dX8_init_20 : decode cX8_init 20 = .ok (.iconst (-1), 1) := by decide +kernel
theorem dX8_init_21 : decode cX8_init 21 = .ok (.putfield 21, 3) := by decide +kernel
theorem dX8_init_24 : decode cX8_init 24 = .ok (.aload_n 0, 1) := by decide +kernel
theorem dX8_init_25 : decode cX8_init 25 = .ok (.bipush 11, 2) := by decide +kernel
theorem dX8_init_27 : decode cX8_init 27 = .ok (.anewarray 24, 3) := by decide +kernel
theorem dX8_init_30 : decode cX8_init 30 = .ok (.putfield 26, 3) := by decide +kernel
theorem dX8_init_33 : decode cX8_init 33 = .ok (.aload_n 0, 1) := by decide +kernel
theorem dX8_init_34 : decode cX8_init 34 = .ok (.bipush 11, 2) := by decide +kernel
theorem dX8_init_36 : decode cX8_init 36 = .ok (.anewarray 24, 3) := by decide +kernel
theorem dX8_init_39 : decode cX8_init 39 = .ok (.putfield 30, 3) := by decide +kernel
theorem dX8_init_42 : decode cX8_init 42 = .ok (.aload_n 0, 1) := by decide +kernel
theorem dX8_init_43 : decode cX8_init 43 = .ok (.iconst 0, 1) := by decide +kernel
theorem dX8_init_44 : decode cX8_init 44 = .ok (.putfield 33, 3) := by decide +kernel
theorem dX8_init_47 : decode cX8_init 47 = .ok (.aload_n 0, 1) := by decide +kernel
theorem dX8_init_48 : decode cX8_init 48 = .ok (.aload_n 1, 1) := by decide +kernel
theorem dX8_init_49 : decode cX8_init 49 = .ok (.putfield 36, 3) := by decide +kernel
theorem dX8_init_52 : decode cX8_init 52 = .ok (.aload_n 0, 1) := by decide +kernel
theorem dX8_init_53 : decode cX8_init 53 = .ok (.aload_n 2, 1) := by decide +kernel
theorem dX8_init_54 : decode cX8_init 54 = .ok (.putfield 40, 3) := by decide +kernel
theorem dX8_init_57 : decode cX8_init 57 = .ok (.aload_n 0, 1) := by decide +kernel
theorem dX8_init_58 : decode cX8_init 58 = .ok (.aload_n 3, 1) := by decide +kernel
theorem dX8_init_59 : decode cX8_init 59 = .ok (.putfield 44, 3) := by decide +kernel
theorem dX8_init_62 : decode cX8_init 62 = .ok (.iconst 0, 1) := by decide +kernel
theorem dX8_init_63 : decode cX8_init 63 = .ok (.istore 4, 2) := by decide +kernel
theorem dX8_init_65 : decode cX8_init 65 = .ok (.iload 4, 2) := by decide +kernel
theorem dX8_init_67 : decode cX8_init 67 = .ok (.bipush 10, 2) := by decide +kernel
theorem dX8_init_69 : decode cX8_init 69 = .ok (.if_icmp .gt 37, 3) := by decide +kernel
theorem dX8_init_72 : decode cX8_init 72 = .ok (.aload_n 0, 1) := by decide +kernel
theorem dX8_init_73 : decode cX8_init 73 = .ok (.getfield 26, 3) := by decide +kernel
theorem dX8_init_76 : decode cX8_init 76 = .ok (.iload 4, 2) := by decide +kernel
theorem dX8_init_78 : decode cX8_init 78 = .ok (.new 24, 3) := by decide +kernel
theorem dX8_init_81 : decode cX8_init 81 = .ok (.dup, 1) := by decide +kernel
theorem dX8_init_82 : decode cX8_init 82 = .ok (.invokespecial 48, 3) := by decide +kernel
theorem dX8_init_85 : decode cX8_init 85 = .ok (.aastore, 1) := by decide +kernel
theorem dX8_init_86 : decode cX8_init 86 = .ok (.aload_n 0, 1) := by decide +kernel
theorem dX8_init_87 : decode cX8_init 87 = .ok (.getfield 30, 3) := by decide +kernel
theorem dX8_init_90 : decode cX8_init 90 = .ok (.iload 4, 2) := by decide +kernel
theorem dX8_init_92 : decode cX8_init 92 = .ok (.new 24, 3) := by decide +kernel
theorem dX8_init_95 : decode cX8_init 95 = .ok (.dup, 1) := by decide +kernel
theorem dX8_init_96 : decode cX8_init 96 = .ok (.invokespecial 48, 3) := by decide +kernel
theorem dX8_init_99 : decode cX8_init 99 = .ok (.aastore, 1) := by decide +kernel
theorem dX8_init_100 : decode cX8_init 100 = .ok (.iinc 4 1, 3) := by decide +kernel
theorem dX8_init_103 : decode cX8_init 103 = .ok (.goto (-38), 3) := by decide +kernel
theorem dX8_init_106 : decode cX8_init 106 = .ok (.return_, 1) := by decide +kernel
def rm_X8_init : Room := { frames := 2, cells := 24, slots := 176, locals := 32 }
set_option maxRecDepth 100000 in
set_option maxHeartbeats 4000000 in
theorem m_X8_init (l : Launch) (E : zE) (hV : zV E) (H0 : Heap) (b : Nat) (kb : eK E b = 9) (hbn : b < H0.size) (hT : zTh E 9 b H0 [.int 0, .int 0, .int 0, .int 0, .null, .null, .null, .null, .null, .int 0]) (p0 : Nat) (kp0 : eK E p0 = 3) (p1 : Nat) (kp1 : eK E p1 = 4) (p2 : Nat) (kp2 : eK E p2 = 8) (hKi : zKi E H0.size zLX8) : Met l yX8_init (zws yX8_init cX8_init 5 none) rm_X8_init (zPm E H0 [.ref b, .ref p0, .ref p1, .ref p2]) (zQm E b 24 H0) 24 176 (zfm b H0.size) := by
  refine zEntM (by decide) rfl (Nat.le_of_ble_eq_true rfl) (fun p e s m args below meth c ls Q B hA hnm hr hlk hh hQ hl => ?_)
  have hx := B.1
  have hb := B.2.1
  have hl : lv_has ls 5 [(0, .ref b), (1, .ref p0), (2, .ref p1), (3, .ref p2)] := hl
  have hC : zCo E b [] H0 H0 0 [] := zCo.rf
  have kne : eK E b ≠ 0 := by omega
  refine lv_aload_n hx hb dX8_init_0 rfl (lv_at hl 0 rfl) ?_
  refine m_obj B (mc_wsL_law_r8 _ (List.mem_of_getElem? (i := 14) rfl)) (mc_wsL_law_r1 _ (List.mem_of_getElem? (i := 10) rfl)) (mc_wsL_law_r1 _ (List.mem_of_getElem? (i := 11) rfl)) hl.1 dX8_init_1 rfl rfl ?_
  refine lv_aload_n hx hb dX8_init_4 rfl (lv_at hl 0 rfl) ?_
  refine lv_iconst (v := 0) hx hb dX8_init_5 (by decide) ?_
  refine m_put B fp_RX8_9 hV hbn hC hT rfl rfl rfl rfl (v := .int 0) rfl rfl dX8_init_6 (fun H1 lc1 hC hT o_ => ?_)
  have hT : zTh E 9 b H1 [.int 0, .int 0, .int 0, .int 0, .null, .null, .null, .null, .null, .int 0] := hT
  refine lv_aload_n hx hb dX8_init_9 rfl (lv_at hl 0 rfl) ?_
  refine lv_iconst (v := 0) hx hb dX8_init_10 (by decide) ?_
  refine m_put B fp_RX8_15 hV hbn hC hT rfl rfl rfl rfl (v := .int 0) rfl rfl dX8_init_11 (fun H2 lc2 hC hT o_ => ?_)
  have hT : zTh E 9 b H2 [.int 0, .int 0, .int 0, .int 0, .null, .null, .null, .null, .null, .int 0] := hT
  refine lv_aload_n hx hb dX8_init_14 rfl (lv_at hl 0 rfl) ?_
  refine lv_iconst (v := 0) hx hb dX8_init_15 (by decide) ?_
  refine m_put B fp_RX8_18 hV hbn hC hT rfl rfl rfl rfl (v := .int 0) rfl rfl dX8_init_16 (fun H3 lc3 hC hT o_ => ?_)
  have hT : zTh E 9 b H3 [.int 0, .int 0, .int 0, .int 0, .null, .null, .null, .null, .null, .int 0] := hT
  refine lv_aload_n hx hb dX8_init_19 rfl (lv_at hl 0 rfl) ?_
  refine lv_iconst (v := (-1)) hx hb dX8_init_20 (by decide) ?_
  refine m_put B fp_RX8_21 hV hbn hC hT rfl rfl rfl rfl (v := .int (-1)) rfl rfl dX8_init_21 (fun H4 lc4 hC hT o_ => ?_)
  have hT : zTh E 9 b H4 [.int 0, .int 0, .int 0, .int (-1), .null, .null, .null, .null, .null, .int 0] := hT
  refine lv_aload_n hx hb dX8_init_24 rfl (lv_at hl 0 rfl) ?_
  refine lv_bipush (v := 11) hx hb dX8_init_25 (by decide) ?_
  refine m_anew (z := 0) B hA hbn hC hT (mc_wsL_law_r8 _ (List.mem_of_getElem? (i := 19) rfl)) (hKi 0 47 rfl) rfl rfl rfl rfl (by decide) (by decide) (Nat.le_of_ble_eq_true rfl) (Nat.le_of_ble_eq_true rfl) (Nat.le_of_ble_eq_true rfl) dX8_init_27 (fun H5 hC hT hO0 o_ => ?_)
  refine m_putF B ff_RX8_26 hnm hV hbn hC hT rfl rfl rfl rfl (v := .ref (H0.size + 0)) rfl rfl dX8_init_30 (fun H6 lc6 hC hT o_ => ?_)
  have hO0 := hO0.kept (o_ _ (by omega))
  have hT : zTh E 9 b H6 [.int 0, .int 0, .int 0, .int (-1), .null, .null, .null, .ref (H0.size + 0), .null, .int 0] := hT
  refine lv_aload_n hx hb dX8_init_33 rfl (lv_at hl 0 rfl) ?_
  refine lv_bipush (v := 11) hx hb dX8_init_34 (by decide) ?_
  refine m_anew (z := 1) B hA hbn hC hT (mc_wsL_law_r8 _ (List.mem_of_getElem? (i := 19) rfl)) (hKi 1 47 rfl) rfl rfl rfl rfl (by decide) (by decide) (Nat.le_of_ble_eq_true rfl) (Nat.le_of_ble_eq_true rfl) (Nat.le_of_ble_eq_true rfl) dX8_init_36 (fun H7 hC hT hO1 o_ => ?_)
  have hO0 := hO0.kept (o_ _ (by omega))
  refine m_putF B ff_RX8_30 hnm hV hbn hC hT rfl rfl rfl rfl (v := .ref (H0.size + 1)) rfl rfl dX8_init_39 (fun H8 lc8 hC hT o_ => ?_)
  have hO0 := hO0.kept (o_ _ (by omega))
  have hO1 := hO1.kept (o_ _ (by omega))
  have hT : zTh E 9 b H8 [.int 0, .int 0, .int 0, .int (-1), .null, .null, .null, .ref (H0.size + 0), .ref (H0.size + 1), .int 0] := hT
  refine lv_aload_n hx hb dX8_init_42 rfl (lv_at hl 0 rfl) ?_
  refine lv_iconst (v := 0) hx hb dX8_init_43 (by decide) ?_
  refine m_put B fp_RX8_33 hV hbn hC hT rfl rfl rfl rfl (v := .int 0) rfl rfl dX8_init_44 (fun H9 lc9 hC hT o_ => ?_)
  have hO0 := hO0.kept (o_ _ (by omega))
  have hO1 := hO1.kept (o_ _ (by omega))
  have hT : zTh E 9 b H9 [.int 0, .int 0, .int 0, .int (-1), .null, .null, .null, .ref (H0.size + 0), .ref (H0.size + 1), .int 0] := hT
  refine lv_aload_n hx hb dX8_init_47 rfl (lv_at hl 0 rfl) ?_
  refine lv_aload_n hx hb dX8_init_48 rfl (lv_at hl 1 rfl) ?_
  refine m_putF B ff_RX8_36 hnm hV hbn hC hT rfl rfl rfl rfl (v := .ref p0) rfl rfl dX8_init_49 (fun H10 lc10 hC hT o_ => ?_)
  have hO0 := hO0.kept (o_ _ (by omega))
  have hO1 := hO1.kept (o_ _ (by omega))
  have hT : zTh E 9 b H10 [.int 0, .int 0, .int 0, .int (-1), .ref p0, .null, .null, .ref (H0.size + 0), .ref (H0.size + 1), .int 0] := hT
  refine lv_aload_n hx hb dX8_init_52 rfl (lv_at hl 0 rfl) ?_
  refine lv_aload_n hx hb dX8_init_53 rfl (lv_at hl 2 rfl) ?_
  refine m_putF B ff_RX8_40 hnm hV hbn hC hT rfl rfl rfl rfl (v := .ref p1) rfl rfl dX8_init_54 (fun H11 lc11 hC hT o_ => ?_)
  have hO0 := hO0.kept (o_ _ (by omega))
  have hO1 := hO1.kept (o_ _ (by omega))
  have hT : zTh E 9 b H11 [.int 0, .int 0, .int 0, .int (-1), .ref p0, .ref p1, .null, .ref (H0.size + 0), .ref (H0.size + 1), .int 0] := hT
  refine lv_aload_n hx hb dX8_init_57 rfl (lv_at hl 0 rfl) ?_
  refine lv_aload_n hx hb dX8_init_58 rfl (lv_at hl 3 rfl) ?_
  refine m_putF B ff_RX8_44 hnm hV hbn hC hT rfl rfl rfl rfl (v := .ref p2) rfl rfl dX8_init_59 (fun H12 lc12 hC hT o_ => ?_)
  have hO0 := hO0.kept (o_ _ (by omega))
  have hO1 := hO1.kept (o_ _ (by omega))
  have hT : zTh E 9 b H12 [.int 0, .int 0, .int 0, .int (-1), .ref p0, .ref p1, .ref p2, .ref (H0.size + 0), .ref (H0.size + 1), .int 0] := hT
  refine lv_iconst (v := 0) hx hb dX8_init_62 (by decide) ?_
  refine lv_istore (lv' := [(4, .int 0), (0, .ref b), (1, .ref p0), (2, .ref p1), (3, .ref p2)]) hx hb dX8_init_63 hl (by decide) rfl (fun ls hl => ?_)
  have hk5 : ∀ i, i < 22 → eK E (H0.size + (2 + i)) = 5 := fun i hi => hKi _ _ (((by decide +kernel : ∀ i, i < 22 → zLX8[2 + i]? = some 5)) i hi)
  have loop : ∀ (d i : Nat), i + d = 11 → ∀ (H : Heap) (locs : List Loc) (ls : Array Slot), zCo E b [H0.size + 1, H0.size + 0] H0 H (2 + 2 * i) locs → zTh E 9 b H [.int 0, .int 0, .int 0, .int (-1), .ref p0, .ref p1, .ref p2, .ref (H0.size + 0), .ref (H0.size + 1), .int 0] → zOp E (H0.size + 0) H i → zOp E (H0.size + 1) H i → lv_has ls 5 [(4, .int (nI i)), (0, .ref b), (1, .ref p0), (2, .ref p1), (3, .ref p2)] → W p l e rm_X8_init s m args below meth c H locs (2 + 2 * i) (22 + 14 * i) Q (F0 m 65 ls []) := by
    intro d
    induction d with
    | zero =>
      intro i hi H locs ls hC hT hO0 hO1 hl
      have ti := nI_toInt (n := i) (by omega)
      refine lv_iload hx hb dX8_init_65 (lv_at hl 0 rfl) ?_
      refine lv_bipush (v := 10) hx hb dX8_init_67 (by decide) ?_
      refine lv_icmp_gt (tgt := 106) hx hb dX8_init_69 (by decide) (fun c_1 => ?_) (fun c_1 => ?_)
      · have hi : i = 11 := by omega
        subst hi
        have hC := hC.close (hO1.done (hKi 1 47 rfl) rfl rfl (fun _ => rfl))
        have hC := hC.close (hO0.done (hKi 0 47 rfl) rfl rfl (fun _ => rfl))
        exact m_retM B hr hlk hh hQ hC (hT.done kb (fun j hj => match j, hj with
    | 0, _ => ⟨_, rfl, (dn_i (by decide) (by decide))⟩
    | 1, _ => ⟨_, rfl, (dn_i (by decide) (by decide))⟩
    | 2, _ => ⟨_, rfl, (dn_i (by decide) (by decide))⟩
    | 3, _ => ⟨_, rfl, (dn_i (by decide) (by decide))⟩
    | 4, _ => ⟨_, rfl, (dn_r kp0)⟩
    | 5, _ => ⟨_, rfl, (dn_r kp1)⟩
    | 6, _ => ⟨_, rfl, (dn_r kp2)⟩
    | 7, _ => ⟨_, rfl, (dn_r (hKi 0 47 rfl))⟩
    | 8, _ => ⟨_, rfl, (dn_r (hKi 1 47 rfl))⟩
    | 9, _ => ⟨_, rfl, (dn_i (by decide) (by decide))⟩
    | j + 10, h => absurd h (Nat.not_lt.mpr (Nat.le_add_left _ _)))) dX8_init_106
      · have f_1 := z_nlt c_1 kl_10 ti
        omega
    | succ d ih =>
      intro i hi H locs ls hC hT hO0 hO1 hl
      have ti := nI_toInt (n := i) (by omega)
      refine lv_iload hx hb dX8_init_65 (lv_at hl 0 rfl) ?_
      refine lv_bipush (v := 10) hx hb dX8_init_67 (by decide) ?_
      refine lv_icmp_gt (tgt := 106) hx hb dX8_init_69 (by decide) (fun c_1 => ?_) (fun c_1 => ?_)
      · have f_1 := z_lt c_1 kl_10 ti
        omega
      · have f_1 := z_nlt c_1 kl_10 ti
        refine lv_aload_n hx hb dX8_init_72 rfl (lv_at hl 1 rfl) ?_
        refine m_get B fl_RX8_26 hT rfl rfl (j := 7) rfl dX8_init_73 ?_
        refine lv_iload hx hb dX8_init_76 (lv_at hl 0 rfl) ?_
        have kz : eK E (H0.size + (2 + 2 * i)) = 5 := hk5 (2 * i) (by omega)
        refine m_new (z := 2 + 2 * i) (kn := 5) B hbn hC hT nw_RX8_24 kz rfl rfl rfl (by show _ ≤ 24; omega) (by show _ ≤ 176; omega) dX8_init_78 (fun H13 hC hT hTn o_ => ?_)
        have hO0 := hO0.kept (o_ _ (by omega))
        have hO1 := hO1.kept (o_ _ (by omega))
        refine lv_dup hx hb dX8_init_81 rfl ?_
        refine zkM (b := b) (zrIN (rest := [.ref (H0.size + (2 + 2 * i)), .int (nI i), .ref (H0.size + 0)]) B hA (m_X4_init l E hV H13 (H0.size + (2 + 2 * i)) kz (by rw [hC.1]; omega) hTn zKi.nil) cn_RX8_48 rfl hl.1 rfl (Nat.le_of_ble_eq_true rfl) dX8_init_82 rfl rfl ⟨rfl, rfl⟩ ⟨by show _ ≤ 24; omega, by show _ ≤ 176; omega⟩ (hC.zO hh kne)) hbn hC hT (by omega) (by omega) (fun q _ _ => by omega) (fun H14 lc14 hC hT hq o_ => ?_)
        have hO0 := hO0.kept (o_ _ (by omega) (by omega))
        have hO1 := hO1.kept (o_ _ (by omega) (by omega))
        refine m_aast (a := H0.size + 0) (i := i) (N := 11) B hA hbn hC hT hO0 (List.mem_cons_of_mem _ List.mem_cons_self) (by omega) (hKi 0 47 rfl) rfl rfl rfl (by omega) (by omega) kz hq dX8_init_85 (fun H15 lc15 hC hT hO0 o_ => ?_)
        have hO1 := hO1.kept (o_ _ (by omega))
        refine lv_aload_n hx hb dX8_init_86 rfl (lv_at hl 1 rfl) ?_
        refine m_get B fl_RX8_30 hT rfl rfl (j := 8) rfl dX8_init_87 ?_
        refine lv_iload hx hb dX8_init_90 (lv_at hl 0 rfl) ?_
        have kz : eK E (H0.size + (2 + 2 * i + 1)) = 5 := hk5 (2 * i + 1) (by omega)
        refine m_new (z := 2 + 2 * i + 1) (kn := 5) B hbn hC hT nw_RX8_24 kz rfl rfl rfl (by show _ ≤ 24; omega) (by show _ ≤ 176; omega) dX8_init_92 (fun H16 hC hT hTn o_ => ?_)
        have hO0 := hO0.kept (o_ _ (by omega))
        have hO1 := hO1.kept (o_ _ (by omega))
        refine lv_dup hx hb dX8_init_95 rfl ?_
        refine zkM (b := b) (zrIN (rest := [.ref (H0.size + (2 + 2 * i + 1)), .int (nI i), .ref (H0.size + 1)]) B hA (m_X4_init l E hV H16 (H0.size + (2 + 2 * i + 1)) kz (by rw [hC.1]; omega) hTn zKi.nil) cn_RX8_48 rfl hl.1 rfl (Nat.le_of_ble_eq_true rfl) dX8_init_96 rfl rfl ⟨rfl, rfl⟩ ⟨by show _ ≤ 24; omega, by show _ ≤ 176; omega⟩ (hC.zO hh kne)) hbn hC hT (by omega) (by omega) (fun q _ _ => by omega) (fun H17 lc17 hC hT hq o_ => ?_)
        have hO0 := hO0.kept (o_ _ (by omega) (by omega))
        have hO1 := hO1.kept (o_ _ (by omega) (by omega))
        refine m_aast (a := H0.size + 1) (i := i) (N := 11) B hA hbn hC hT hO1 List.mem_cons_self (by omega) (hKi 1 47 rfl) rfl rfl rfl (by omega) (by omega) kz hq dX8_init_99 (fun H18 lc18 hC hT hO1 o_ => ?_)
        have hO0 := hO0.kept (o_ _ (by omega))
        refine lv_iinc (v := nI (i + 1)) (lv' := [(4, .int (nI (i + 1))), (0, .ref b), (1, .ref p0), (2, .ref p1), (3, .ref p2)]) hx hb dX8_init_100 hl (k := 0) rfl (z_inc i 1) (by decide) rfl (fun ls hl => ?_)
        refine lv_goto (tgt := 65) hx hb dX8_init_103 (by decide) ?_
        refine W.widen (k := 2 + 2 * (i + 1)) (n := 22 + 14 * (i + 1)) (by omega) (by omega) ?_
        exact ih (i + 1) (by omega) _ _ _ (hC.cast (by omega)) hT hO0 hO1 hl
  exact loop 11 0 rfl _ _ _ hC hT hO0 hO1 hl
