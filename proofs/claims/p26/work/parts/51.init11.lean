def zLX11 : List Nat := [50, 11, 51, 52, 53, 54, 55, 56, 57, 5, 11, 51, 52, 53, 54, 55, 56, 57, 5, 6, 39, 10, 48, 49, 3, 26, 27, 28, 29, 30, 31, 32, 7, 40, 5, 5, 5, 5, 5, 4, 33, 34, 35, 36, 37, 38, 5, 5, 5, 5, 5, 5, 5, 5, 5, 5, 5, 5, 5, 5, 5, 5, 5, 5, 5, 5, 5, 5, 5, 5, 5, 5, 5, 5, 5, 5, 5, 5, 5, 5, 5, 5, 5, 5, 5, 5, 5, 5, 5, 5, 5, 5, 5, 5, 5, 5, 5, 5, 5, 5, 5, 5, 5, 5, 5, 5, 5, 5, 5, 5, 5, 5, 5, 5, 5, 5, 5, 5, 5, 5, 5, 5, 5, 5, 5, 5, 5, 5, 5, 5, 5, 5, 5, 5, 5, 5, 5, 5, 5, 5, 5, 5, 5, 5, 5, 5, 5, 5, 5, 5, 5, 5, 5, 5, 5, 5, 5, 5, 5, 5, 5, 5, 5, 5, 5, 5, 5, 5, 2, 25, 25, 5, 5, 5, 5, 5, 5, 5, 5, 5, 5, 5, 5, 5, 5, 5, 5, 5, 5, 5, 5, 5, 5, 5, 5, 5, 5, 5, 5, 5, 5, 5, 5, 5, 5, 5, 5, 5, 5, 5, 5, 5, 5, 5, 5, 5, 5, 5, 5, 5, 5, 5, 5, 5, 5, 5, 5, 5, 5, 5, 5, 5, 5, 5, 5, 5, 5, 5, 5, 5, 5, 5, 5, 5, 5, 5, 5, 5, 5, 5, 5, 5, 5, 5, 5, 5, 5, 5, 5, 5, 5, 5, 5, 5, 5, 5, 5, 5, 5, 5, 5, 5, 5, 5, 5, 5, 5, 5, 5, 5, 5, 5, 5, 5, 5, 5, 5, 5, 5, 5, 5, 5, 5, 5, 5, 5, 5, 5, 5, 5, 1, 20, 21, 22, 23, 24, 8, 41, 42, 43, 44, 45, 46, 9, 47, 47, 5, 5, 5, 5, 5, 5, 5, 5, 5, 5, 5, 5, 5, 5, 5, 5, 5, 5, 5, 5, 5, 5]
theorem dX11_init_0 : decode cX11_init 0 = .ok (.aload_n 0, 1) := by decide +kernel
theorem dX11_init_1 : decode cX11_init 1 = .ok (.invokespecial 3, 3) := by decide +kernel
theorem dX11_init_4 : decode cX11_init 4 = .ok (.aload_n 0, 1) := by decide +kernel
theorem dX11_init_5 : decode cX11_init 5 = .ok (.sipush 1600, 3) := by decide +kernel
theorem dX11_init_8 : decode cX11_init 8 = .ok (.newarray .byte, 2) := by decide +kernel
theorem dX11_init_10 : decode cX11_init 10 = .ok (.putfield 9, 3) := by decide +kernel
theorem dX11_init_13 : decode cX11_init 13 = .ok (.aload_n 0, 1) := by decide +kernel
theorem dX11_init_14 : decode cX11_init 14 = .ok (.iconst 0, 1) := by decide +kernel
theorem dX11_init_15 : decode cX11_init 15 = .ok (.putfield 13, 3) := by decide +kernel
theorem dX11_init_18 : decode cX11_init 18 = .ok (.aload_n 0, 1) := by decide +kernel
theorem dX11_init_19 : decode cX11_init 19 = .ok (.new 17, 3) := by decide +kernel
theorem dX11_init_22 : decode cX11_init 22 = .ok (.dup, 1) := by decide +kernel
theorem dX11_init_23 : decode cX11_init 23 = .ok (.invokespecial 19, 3) := by decide +kernel
theorem dX11_init_26 : decode cX11_init 26 = .ok (.putfield 20, 3) := by decide +kernel
theorem dX11_init_29 : decode cX11_init 29 = .ok (.aload_n 0, 1) := by decide +kernel
theorem dX11_init_30 : decode cX11_init 30 = .ok (.new 17, 3) := by decide +kernel
theorem dX11_init_33 : decode cX11_init 33 = .ok (.dup, 1) := by decide +kernel
theorem dX11_init_34 : decode cX11_init 34 = .ok (.invokespecial 19, 3) := by decide +kernel
theorem dX11_init_37 : decode cX11_init 37 = .ok (.putfield 24, 3) := by decide +kernel
theorem dX11_init_40 : decode cX11_init 40 = .ok (.aload_n 0, 1) := by decide +kernel
theorem dX11_init_41 : decode cX11_init 41 = .ok (.new 27, 3) := by decide +kernel
theorem dX11_init_44 : decode cX11_init 44 = .ok (.dup, 1) := by decide +kernel
theorem dX11_init_45 : decode cX11_init 45 = .ok (.aload_n 0, 1) := by decide +kernel
theorem dX11_init_46 : decode cX11_init 46 = .ok (.getfield 9, 3) := by decide +kernel
theorem dX11_init_49 : decode cX11_init 49 = .ok (.aload_n 0, 1) := by decide +kernel
theorem dX11_init_50 : decode cX11_init 50 = .ok (.getfield 24, 3) := by decide +kernel
theorem dX11_init_53 : decode cX11_init 53 = .ok (.invokespecial 29, 3) := by decide +kernel
theorem dX11_init_56 : decode cX11_init 56 = .ok (.putfield 32, 3) := by decide +kernel
theorem dX11_init_59 : decode cX11_init 59 = .ok (.aload_n 0, 1) := by decide +kernel
theorem dX11_init_60 : decode cX11_init 60 = .ok (.new 36, 3) := by decide +kernel
theorem dX11_init_63 : decode cX11_init 63 = .ok (.dup, 1) := by decide +kernel
theorem dX11_init_64 : decode cX11_init 64 = .ok (.invokespecial 38, 3) := by decide +kernel
theorem dX11_init_67 : decode cX11_init 67 = .ok (.putfield 39, 3) := by decide +kernel
theorem dX11_init_70 : decode cX11_init 70 = .ok (.aload_n 0, 1) := by decide +kernel
theorem dX11_init_71 : decode cX11_init 71 = .ok (.new 43, 3) := by decide +kernel
theorem dX11_init_74 : decode cX11_init 74 = .ok (.dup, 1) := by decide +kernel
theorem dX11_init_75 : decode cX11_init 75 = .ok (.aload_n 0, 1) := by decide +kernel
theorem dX11_init_76 : decode cX11_init 76 = .ok (.getfield 39, 3) := by decide +kernel
theorem dX11_init_79 : decode cX11_init 79 = .ok (.invokespecial 45, 3) := by decide +kernel
theorem dX11_init_82 : decode cX11_init 82 = .ok (.putfield 48, 3) := by decide +kernel
theorem dX11_init_85 : decode cX11_init 85 = .ok (.aload_n 0, 1) := by decide +kernel
theorem dX11_init_86 : decode cX11_init 86 = .ok (.new 52, 3) := by decide +kernel
theorem dX11_init_89 : decode cX11_init 89 = .ok (.dup, 1) := by decide +kernel
theorem dX11_init_90 : decode cX11_init 90 = .ok (.aload_n 0, 1) := by decide +kernel
theorem dX11_init_91 : decode cX11_init 91 = .ok (.getfield 39, 3) := by decide +kernel
theorem dX11_init_94 : decode cX11_init 94 = .ok (.invokespecial 54, 3) := by decide +kernel
theorem dX11_init_97 : decode cX11_init 97 = .ok (.putfield 55, 3) := by decide +kernel
theorem dX11_init_100 : decode cX11_init 100 = .ok (.aload_n 0, 1) := by decide +kernel
theorem dX11_init_101 : decode cX11_init 101 = .ok (.new 59, 3) := by decide +kernel
theorem dX11_init_104 : decode cX11_init 104 = .ok (.dup, 1) := by decide +kernel
theorem dX11_init_105 : decode cX11_init 105 = .ok (.aload_n 0, 1) := by decide +kernel
theorem dX11_init_106 : decode cX11_init 106 = .ok (.getfield 39, 3) := by decide +kernel
theorem dX11_init_109 : decode cX11_init 109 = .ok (.aload_n 0, 1) := by decide +kernel
theorem dX11_init_110 : decode cX11_init 110 = .ok (.getfield 55, 3) := by decide +kernel
theorem dX11_init_113 : decode cX11_init 113 = .ok (.invokespecial 61, 3) := by decide +kernel
theorem dX11_init_116 : decode cX11_init 116 = .ok (.putfield 64, 3) := by decide +kernel
theorem dX11_init_119 : decode cX11_init 119 = .ok (.aload_n 0, 1) := by decide +kernel
theorem dX11_init_120 : decode cX11_init 120 = .ok (.new 68, 3) := by decide +kernel
theorem dX11_init_123 : decode cX11_init 123 = .ok (.dup, 1) := by decide +kernel
theorem dX11_init_124 : decode cX11_init 124 = .ok (.invokespecial 70, 3) := by decide +kernel
theorem dX11_init_127 : decode cX11_init 127 = .ok (.putfield 71, 3) := by decide +kernel
theorem dX11_init_130 : decode cX11_init 130 = .ok (.aload_n 0, 1) := by decide +kernel
theorem dX11_init_131 : decode cX11_init 131 = .ok (.new 75, 3) := by decide +kernel
theorem dX11_init_134 : decode cX11_init 134 = .ok (.dup, 1) := by decide +kernel
theorem dX11_init_135 : decode cX11_init 135 = .ok (.invokespecial 77, 3) := by decide +kernel
theorem dX11_init_138 : decode cX11_init 138 = .ok (.putfield 78, 3) := by decide +kernel
theorem dX11_init_141 : decode cX11_init 141 = .ok (.aload_n 0, 1) := by decide +kernel
theorem dX11_init_142 : decode cX11_init 142 = .ok (.new 82, 3) := by decide +kernel
theorem dX11_init_145 : decode cX11_init 145 = .ok (.dup, 1) := by decide +kernel
theorem dX11_init_146 : decode cX11_init 146 = .ok (.aload_n 0, 1) := by decide +kernel
theorem dX11_init_147 : decode cX11_init 147 = .ok (.getfield 39, 3) := by decide +kernel
theorem dX11_init_150 : decode cX11_init 150 = .ok (.aload_n 0, 1) := by decide +kernel
theorem dX11_init_151 : decode cX11_init 151 = .ok (.getfield 55, 3) := by decide +kernel
theorem dX11_init_154 : decode cX11_init 154 = .ok (.aload_n 0, 1) := by decide +kernel
theorem dX11_init_155 : decode cX11_init 155 = .ok (.getfield 78, 3) := by decide +kernel
theorem dX11_init_158 : decode cX11_init 158 = .ok (.invokespecial 84, 3) := by decide +kernel
theorem dX11_init_161 : decode cX11_init 161 = .ok (.putfield 87, 3) := by decide +kernel
theorem dX11_init_164 : decode cX11_init 164 = .ok (.aload_n 0, 1) := by decide +kernel
theorem dX11_init_165 : decode cX11_init 165 = .ok (.invokevirtual 91, 3) := by decide +kernel
theorem dX11_init_168 : decode cX11_init 168 = .ok (.return_, 1) := by decide +kernel
def rm_X11_init : Room := { frames := 17, cells := 338, slots := 9329, locals := 429 }
set_option maxRecDepth 100000 in
set_option maxHeartbeats 4000000 in
theorem m_X11_init (l : Launch) (E : zE) (hV : zV E) (H0 : Heap) (b : Nat) (kb : eK E b = 12) (hbn : b < H0.size) (hT : zTh E 12 b H0 [.null, .int 0, .null, .null, .null, .null, .null, .null, .null, .null, .null, .null]) (heX : eX E = 0) (hold : ∀ q : Nat, q < H0.size → q ≠ b → eK E q ≠ 0 → HTq E H0 q) (hend : ∀ q : Nat, H0.size + 338 ≤ q → eK E q = 0) (hKi : zKi E H0.size zLX11) : Met l yX11_init (zws yX11_init cX11_init 1 none) rm_X11_init (zPm E H0 [.ref b]) (zQ0 E 338 H0 (fun _ => True)) 338 9329 (zfb E H0.size) := by
  refine zEntM (by decide) rfl (Nat.le_of_ble_eq_true rfl) (fun p e s m args below meth c ls Q B hA hnm hr hlk hh hQ hl => ?_)
  have hx := B.1
  have hb := B.2.1
  have hl : lv_has ls 1 [(0, .ref b)] := hl
  have hC : zCo E b [] H0 H0 0 [] := zCo.rf
  have kne : eK E b ≠ 0 := by omega
  refine lv_aload_n hx hb dX11_init_0 rfl (lv_at hl 0 rfl) ?_
  refine m_obj B (mc_wsL_law_r1 _ (List.mem_of_getElem? (i := 9) rfl)) (mc_wsL_law_r1 _ (List.mem_of_getElem? (i := 10) rfl)) (mc_wsL_law_r1 _ (List.mem_of_getElem? (i := 11) rfl)) hl.1 dX11_init_1 rfl rfl ?_
  refine lv_aload_n hx hb dX11_init_4 rfl (lv_at hl 0 rfl) ?_
  refine lv_sipush (v := 1600) hx hb dX11_init_5 (by decide) ?_
  refine m_newa (z := 0) (atype := .byte) B hA hbn hC hT rfl (mc_wsL_law_r1 _ (List.mem_of_getElem? (i := 12) rfl)) (hKi 0 50 rfl) rfl rfl rfl rfl (by decide) (by decide) (fun j _ => dn_i (by decide) (by decide)) (Nat.le_of_ble_eq_true rfl) (Nat.le_of_ble_eq_true rfl) (Nat.le_of_ble_eq_true rfl) dX11_init_8 (fun H1 hC hT o_ => ?_)
  refine m_putF B ff_RX11_9 hnm hV hbn hC hT rfl rfl rfl rfl (v := .ref (H0.size + 0)) rfl rfl dX11_init_10 (fun H2 lc2 hC hT o_ => ?_)
  have hT : zTh E 12 b H2 [.ref (H0.size + 0), .int 0, .null, .null, .null, .null, .null, .null, .null, .null, .null, .null] := hT
  refine lv_aload_n hx hb dX11_init_13 rfl (lv_at hl 0 rfl) ?_
  refine lv_iconst (v := 0) hx hb dX11_init_14 (by decide) ?_
  refine m_put B fp_RX11_13 hV hbn hC hT rfl rfl rfl rfl (v := .int 0) rfl rfl dX11_init_15 (fun H3 lc3 hC hT o_ => ?_)
  have hT : zTh E 12 b H3 [.ref (H0.size + 0), .int 0, .null, .null, .null, .null, .null, .null, .null, .null, .null, .null] := hT
  refine lv_aload_n hx hb dX11_init_18 rfl (lv_at hl 0 rfl) ?_
  refine m_new (z := 1) (kn := 11) B hbn hC hT nw_RX11_17 (hKi 1 11 rfl) rfl rfl rfl (Nat.le_of_ble_eq_true rfl) (Nat.le_of_ble_eq_true rfl) dX11_init_19 (fun H4 hC hT hTn o_ => ?_)
  refine lv_dup hx hb dX11_init_22 rfl ?_
  refine zkM (b := b) (zrIN (rest := [.ref (H0.size + 1), .ref b]) B hA (m_X10_init l E hV H4 (H0.size + 1) (hKi 1 11 rfl) (by rw [hC.1]; omega) hTn (by rw [hC.1]; exact hKi.sub 2 zLX10 rfl)) cn_RX11_19 rfl hl.1 rfl (Nat.le_of_ble_eq_true rfl) dX11_init_23 rfl rfl ⟨rfl, rfl⟩ ⟨Nat.le_of_ble_eq_true rfl, Nat.le_of_ble_eq_true rfl⟩ (hC.zO hh kne)) hbn hC hT (by omega) (by omega) (hKi.ne 2 8 rfl rfl) (fun H5 lc5 hC hT hq o_ => ?_)
  refine m_put B fp_RX11_20 hV hbn hC hT rfl rfl rfl rfl (v := .ref (H0.size + 1)) rfl rfl dX11_init_26 (fun H6 lc6 hC hT o_ => ?_)
  have hT : zTh E 12 b H6 [.ref (H0.size + 0), .int 0, .ref (H0.size + 1), .null, .null, .null, .null, .null, .null, .null, .null, .null] := hT
  refine lv_aload_n hx hb dX11_init_29 rfl (lv_at hl 0 rfl) ?_
  refine m_new (z := 10) (kn := 11) B hbn hC hT nw_RX11_17 (hKi 10 11 rfl) rfl rfl rfl (Nat.le_of_ble_eq_true rfl) (Nat.le_of_ble_eq_true rfl) dX11_init_30 (fun H7 hC hT hTn o_ => ?_)
  refine lv_dup hx hb dX11_init_33 rfl ?_
  refine zkM (b := b) (zrIN (rest := [.ref (H0.size + 10), .ref b]) B hA (m_X10_init l E hV H7 (H0.size + 10) (hKi 10 11 rfl) (by rw [hC.1]; omega) hTn (by rw [hC.1]; exact hKi.sub 11 zLX10 rfl)) cn_RX11_19 rfl hl.1 rfl (Nat.le_of_ble_eq_true rfl) dX11_init_34 rfl rfl ⟨rfl, rfl⟩ ⟨Nat.le_of_ble_eq_true rfl, Nat.le_of_ble_eq_true rfl⟩ (hC.zO hh kne)) hbn hC hT (by omega) (by omega) (hKi.ne 11 8 rfl rfl) (fun H8 lc8 hC hT hq o_ => ?_)
  refine m_put B fp_RX11_24 hV hbn hC hT rfl rfl rfl rfl (v := .ref (H0.size + 10)) rfl rfl dX11_init_37 (fun H9 lc9 hC hT o_ => ?_)
  have hT : zTh E 12 b H9 [.ref (H0.size + 0), .int 0, .ref (H0.size + 1), .ref (H0.size + 10), .null, .null, .null, .null, .null, .null, .null, .null] := hT
  refine lv_aload_n hx hb dX11_init_40 rfl (lv_at hl 0 rfl) ?_
  refine m_new (z := 19) (kn := 6) B hbn hC hT nw_RX11_27 (hKi 19 6 rfl) rfl rfl rfl (Nat.le_of_ble_eq_true rfl) (Nat.le_of_ble_eq_true rfl) dX11_init_41 (fun H10 hC hT hTn o_ => ?_)
  refine lv_dup hx hb dX11_init_44 rfl ?_
  refine lv_aload_n hx hb dX11_init_45 rfl (lv_at hl 0 rfl) ?_
  refine m_get B fl_RX11_9 hT rfl rfl (j := 0) rfl dX11_init_46 ?_
  refine lv_aload_n hx hb dX11_init_49 rfl (lv_at hl 0 rfl) ?_
  refine m_get B fl_RX11_24 hT rfl rfl (j := 3) rfl dX11_init_50 ?_
  refine zkM (b := b) (zrI (rest := [.ref (H0.size + 19), .ref b]) B hA (m_X5_init l E hV H10 (H0.size + 19) (hKi 19 6 rfl) (by rw [hC.1]; omega) hTn (H0.size + 0) (hKi 0 50 rfl) (H0.size + 10) (hKi 10 11 rfl) (by rw [hC.1]; exact hKi.sub 20 zLX5 rfl)) ci_RX11_29 rfl hl.1 rfl (Nat.le_of_ble_eq_true rfl) dX11_init_53 rfl rfl ⟨rfl, rfl⟩ ⟨Nat.le_of_ble_eq_true rfl, Nat.le_of_ble_eq_true rfl⟩ (hC.zO hh kne)) hbn hC hT (by omega) (by omega) (hKi.ne 20 4 rfl rfl) (fun H11 lc11 hC hT hq o_ => ?_)
  refine m_putF B ff_RX11_32 hnm hV hbn hC hT rfl rfl rfl rfl (v := .ref (H0.size + 19)) rfl rfl dX11_init_56 (fun H12 lc12 hC hT o_ => ?_)
  have hT : zTh E 12 b H12 [.ref (H0.size + 0), .int 0, .ref (H0.size + 1), .ref (H0.size + 10), .ref (H0.size + 19), .null, .null, .null, .null, .null, .null, .null] := hT
  refine lv_aload_n hx hb dX11_init_59 rfl (lv_at hl 0 rfl) ?_
  refine m_new (z := 24) (kn := 3) B hbn hC hT nw_RX11_36 (hKi 24 3 rfl) rfl rfl rfl (Nat.le_of_ble_eq_true rfl) (Nat.le_of_ble_eq_true rfl) dX11_init_60 (fun H13 hC hT hTn o_ => ?_)
  refine lv_dup hx hb dX11_init_63 rfl ?_
  refine zkM (b := b) (zrIN (rest := [.ref (H0.size + 24), .ref b]) B hA (m_X2_init l E hV H13 (H0.size + 24) (hKi 24 3 rfl) (by rw [hC.1]; omega) hTn (by rw [hC.1]; exact hKi.sub 25 zLX2 rfl)) cn_RX11_38 rfl hl.1 rfl (Nat.le_of_ble_eq_true rfl) dX11_init_64 rfl rfl ⟨rfl, rfl⟩ ⟨Nat.le_of_ble_eq_true rfl, Nat.le_of_ble_eq_true rfl⟩ (hC.zO hh kne)) hbn hC hT (by omega) (by omega) (hKi.ne 25 7 rfl rfl) (fun H14 lc14 hC hT hq o_ => ?_)
  refine m_putF B ff_RX11_39 hnm hV hbn hC hT rfl rfl rfl rfl (v := .ref (H0.size + 24)) rfl rfl dX11_init_67 (fun H15 lc15 hC hT o_ => ?_)
  have hT : zTh E 12 b H15 [.ref (H0.size + 0), .int 0, .ref (H0.size + 1), .ref (H0.size + 10), .ref (H0.size + 19), .ref (H0.size + 24), .null, .null, .null, .null, .null, .null] := hT
  refine lv_aload_n hx hb dX11_init_70 rfl (lv_at hl 0 rfl) ?_
  refine m_new (z := 32) (kn := 7) B hbn hC hT nw_RX11_43 (hKi 32 7 rfl) rfl rfl rfl (Nat.le_of_ble_eq_true rfl) (Nat.le_of_ble_eq_true rfl) dX11_init_71 (fun H16 hC hT hTn o_ => ?_)
  refine lv_dup hx hb dX11_init_74 rfl ?_
  refine lv_aload_n hx hb dX11_init_75 rfl (lv_at hl 0 rfl) ?_
  refine m_get B fl_RX11_39 hT rfl rfl (j := 5) rfl dX11_init_76 ?_
  refine zkM (b := b) (zrI (rest := [.ref (H0.size + 32), .ref b]) B hA (m_X6_init l E hV H16 (H0.size + 32) (hKi 32 7 rfl) (by rw [hC.1]; omega) hTn (H0.size + 24) (hKi 24 3 rfl) (by rw [hC.1]; exact hKi.sub 33 zLX6 rfl)) ci_RX11_45 rfl hl.1 rfl (Nat.le_of_ble_eq_true rfl) dX11_init_79 rfl rfl ⟨rfl, rfl⟩ ⟨Nat.le_of_ble_eq_true rfl, Nat.le_of_ble_eq_true rfl⟩ (hC.zO hh kne)) hbn hC hT (by omega) (by omega) (hKi.ne 33 6 rfl rfl) (fun H17 lc17 hC hT hq o_ => ?_)
  refine m_putF B ff_RX11_48 hnm hV hbn hC hT rfl rfl rfl rfl (v := .ref (H0.size + 32)) rfl rfl dX11_init_82 (fun H18 lc18 hC hT o_ => ?_)
  have hT : zTh E 12 b H18 [.ref (H0.size + 0), .int 0, .ref (H0.size + 1), .ref (H0.size + 10), .ref (H0.size + 19), .ref (H0.size + 24), .ref (H0.size + 32), .null, .null, .null, .null, .null] := hT
  refine lv_aload_n hx hb dX11_init_85 rfl (lv_at hl 0 rfl) ?_
  refine m_new (z := 39) (kn := 4) B hbn hC hT nw_RX11_52 (hKi 39 4 rfl) rfl rfl rfl (Nat.le_of_ble_eq_true rfl) (Nat.le_of_ble_eq_true rfl) dX11_init_86 (fun H19 hC hT hTn o_ => ?_)
  refine lv_dup hx hb dX11_init_89 rfl ?_
  refine lv_aload_n hx hb dX11_init_90 rfl (lv_at hl 0 rfl) ?_
  refine m_get B fl_RX11_39 hT rfl rfl (j := 5) rfl dX11_init_91 ?_
  refine zkM (b := b) (zrI (rest := [.ref (H0.size + 39), .ref b]) B hA (m_X3_init l E hV H19 (H0.size + 39) (hKi 39 4 rfl) (by rw [hC.1]; omega) hTn (H0.size + 24) (hKi 24 3 rfl) (by rw [hC.1]; exact hKi.sub 40 zLX3 rfl)) ci_RX11_54 rfl hl.1 rfl (Nat.le_of_ble_eq_true rfl) dX11_init_94 rfl rfl ⟨rfl, rfl⟩ ⟨Nat.le_of_ble_eq_true rfl, Nat.le_of_ble_eq_true rfl⟩ (hC.zO hh kne)) hbn hC hT (by omega) (by omega) (hKi.ne 40 128 rfl rfl) (fun H20 lc20 hC hT hq o_ => ?_)
  refine m_putF B ff_RX11_55 hnm hV hbn hC hT rfl rfl rfl rfl (v := .ref (H0.size + 39)) rfl rfl dX11_init_97 (fun H21 lc21 hC hT o_ => ?_)
  have hT : zTh E 12 b H21 [.ref (H0.size + 0), .int 0, .ref (H0.size + 1), .ref (H0.size + 10), .ref (H0.size + 19), .ref (H0.size + 24), .ref (H0.size + 32), .ref (H0.size + 39), .null, .null, .null, .null] := hT
  refine lv_aload_n hx hb dX11_init_100 rfl (lv_at hl 0 rfl) ?_
  refine m_new (z := 168) (kn := 2) B hbn hC hT nw_RX11_59 (hKi 168 2 rfl) rfl rfl rfl (Nat.le_of_ble_eq_true rfl) (Nat.le_of_ble_eq_true rfl) dX11_init_101 (fun H22 hC hT hTn o_ => ?_)
  refine lv_dup hx hb dX11_init_104 rfl ?_
  refine lv_aload_n hx hb dX11_init_105 rfl (lv_at hl 0 rfl) ?_
  refine m_get B fl_RX11_39 hT rfl rfl (j := 5) rfl dX11_init_106 ?_
  refine lv_aload_n hx hb dX11_init_109 rfl (lv_at hl 0 rfl) ?_
  refine m_get B fl_RX11_55 hT rfl rfl (j := 7) rfl dX11_init_110 ?_
  refine zkM (b := b) (zrI (rest := [.ref (H0.size + 168), .ref b]) B hA (m_X1_init l E hV H22 (H0.size + 168) (hKi 168 2 rfl) (by rw [hC.1]; omega) hTn (H0.size + 24) (hKi 24 3 rfl) (H0.size + 39) (hKi 39 4 rfl) (by rw [hC.1]; exact hKi.sub 169 zLX1 rfl)) ci_RX11_61 rfl hl.1 rfl (Nat.le_of_ble_eq_true rfl) dX11_init_113 rfl rfl ⟨rfl, rfl⟩ ⟨Nat.le_of_ble_eq_true rfl, Nat.le_of_ble_eq_true rfl⟩ (hC.zO hh kne)) hbn hC hT (by omega) (by omega) (hKi.ne 169 131 rfl rfl) (fun H23 lc23 hC hT hq o_ => ?_)
  refine m_putF B ff_RX11_64 hnm hV hbn hC hT rfl rfl rfl rfl (v := .ref (H0.size + 168)) rfl rfl dX11_init_116 (fun H24 lc24 hC hT o_ => ?_)
  have hT : zTh E 12 b H24 [.ref (H0.size + 0), .int 0, .ref (H0.size + 1), .ref (H0.size + 10), .ref (H0.size + 19), .ref (H0.size + 24), .ref (H0.size + 32), .ref (H0.size + 39), .ref (H0.size + 168), .null, .null, .null] := hT
  refine lv_aload_n hx hb dX11_init_119 rfl (lv_at hl 0 rfl) ?_
  refine m_new (z := 300) (kn := 1) B hbn hC hT nw_RX11_68 (hKi 300 1 rfl) rfl rfl rfl (Nat.le_of_ble_eq_true rfl) (Nat.le_of_ble_eq_true rfl) dX11_init_120 (fun H25 hC hT hTn o_ => ?_)
  refine lv_dup hx hb dX11_init_123 rfl ?_
  refine zkM (b := b) (zrIN (rest := [.ref (H0.size + 300), .ref b]) B hA (m_X0_init l E hV H25 (H0.size + 300) (hKi 300 1 rfl) (by rw [hC.1]; omega) hTn (by rw [hC.1]; exact hKi.sub 301 zLX0 rfl)) cn_RX11_70 rfl hl.1 rfl (Nat.le_of_ble_eq_true rfl) dX11_init_124 rfl rfl ⟨rfl, rfl⟩ ⟨Nat.le_of_ble_eq_true rfl, Nat.le_of_ble_eq_true rfl⟩ (hC.zO hh kne)) hbn hC hT (by omega) (by omega) (hKi.ne 301 5 rfl rfl) (fun H26 lc26 hC hT hq o_ => ?_)
  refine m_putF B ff_RX11_71 hnm hV hbn hC hT rfl rfl rfl rfl (v := .ref (H0.size + 300)) rfl rfl dX11_init_127 (fun H27 lc27 hC hT o_ => ?_)
  have hT : zTh E 12 b H27 [.ref (H0.size + 0), .int 0, .ref (H0.size + 1), .ref (H0.size + 10), .ref (H0.size + 19), .ref (H0.size + 24), .ref (H0.size + 32), .ref (H0.size + 39), .ref (H0.size + 168), .ref (H0.size + 300), .null, .null] := hT
  refine lv_aload_n hx hb dX11_init_130 rfl (lv_at hl 0 rfl) ?_
  refine m_new (z := 306) (kn := 8) B hbn hC hT nw_RX11_75 (hKi 306 8 rfl) rfl rfl rfl (Nat.le_of_ble_eq_true rfl) (Nat.le_of_ble_eq_true rfl) dX11_init_131 (fun H28 hC hT hTn o_ => ?_)
  refine lv_dup hx hb dX11_init_134 rfl ?_
  refine zkM (b := b) (zrIN (rest := [.ref (H0.size + 306), .ref b]) B hA (m_X7_init l E hV H28 (H0.size + 306) (hKi 306 8 rfl) (by rw [hC.1]; omega) hTn heX (by rw [hC.1]; exact hKi.sub 307 zLX7 rfl)) cn_RX11_77 rfl hl.1 rfl (Nat.le_of_ble_eq_true rfl) dX11_init_135 rfl rfl ⟨rfl, rfl⟩ ⟨Nat.le_of_ble_eq_true rfl, Nat.le_of_ble_eq_true rfl⟩ (hC.zO hh kne)) hbn hC hT (by omega) (by omega) (hKi.ne 307 6 rfl rfl) (fun H29 lc29 hC hT hq o_ => ?_)
  refine m_putF B ff_RX11_78 hnm hV hbn hC hT rfl rfl rfl rfl (v := .ref (H0.size + 306)) rfl rfl dX11_init_138 (fun H30 lc30 hC hT o_ => ?_)
  have hT : zTh E 12 b H30 [.ref (H0.size + 0), .int 0, .ref (H0.size + 1), .ref (H0.size + 10), .ref (H0.size + 19), .ref (H0.size + 24), .ref (H0.size + 32), .ref (H0.size + 39), .ref (H0.size + 168), .ref (H0.size + 300), .ref (H0.size + 306), .null] := hT
  refine lv_aload_n hx hb dX11_init_141 rfl (lv_at hl 0 rfl) ?_
  refine m_new (z := 313) (kn := 9) B hbn hC hT nw_RX11_82 (hKi 313 9 rfl) rfl rfl rfl (Nat.le_of_ble_eq_true rfl) (Nat.le_of_ble_eq_true rfl) dX11_init_142 (fun H31 hC hT hTn o_ => ?_)
  refine lv_dup hx hb dX11_init_145 rfl ?_
  refine lv_aload_n hx hb dX11_init_146 rfl (lv_at hl 0 rfl) ?_
  refine m_get B fl_RX11_39 hT rfl rfl (j := 5) rfl dX11_init_147 ?_
  refine lv_aload_n hx hb dX11_init_150 rfl (lv_at hl 0 rfl) ?_
  refine m_get B fl_RX11_55 hT rfl rfl (j := 7) rfl dX11_init_151 ?_
  refine lv_aload_n hx hb dX11_init_154 rfl (lv_at hl 0 rfl) ?_
  refine m_get B fl_RX11_78 hT rfl rfl (j := 10) rfl dX11_init_155 ?_
  refine zkM (b := b) (zrI (rest := [.ref (H0.size + 313), .ref b]) B hA (m_X8_init l E hV H31 (H0.size + 313) (hKi 313 9 rfl) (by rw [hC.1]; omega) hTn (H0.size + 24) (hKi 24 3 rfl) (H0.size + 39) (hKi 39 4 rfl) (H0.size + 306) (hKi 306 8 rfl) (by rw [hC.1]; exact hKi.sub 314 zLX8 rfl)) ci_RX11_84 rfl hl.1 rfl (Nat.le_of_ble_eq_true rfl) dX11_init_158 rfl rfl ⟨rfl, rfl⟩ ⟨Nat.le_of_ble_eq_true rfl, Nat.le_of_ble_eq_true rfl⟩ (hC.zO hh kne)) hbn hC hT (by omega) (by omega) (hKi.ne 314 24 rfl rfl) (fun H32 lc32 hC hT hq o_ => ?_)
  refine m_putF B ff_RX11_87 hnm hV hbn hC hT rfl rfl rfl rfl (v := .ref (H0.size + 313)) rfl rfl dX11_init_161 (fun H33 lc33 hC hT o_ => ?_)
  have hT : zTh E 12 b H33 [.ref (H0.size + 0), .int 0, .ref (H0.size + 1), .ref (H0.size + 10), .ref (H0.size + 19), .ref (H0.size + 24), .ref (H0.size + 32), .ref (H0.size + 39), .ref (H0.size + 168), .ref (H0.size + 300), .ref (H0.size + 306), .ref (H0.size + 313)] := hT
  refine lv_aload_n hx hb dX11_init_164 rfl (lv_at hl 0 rfl) ?_
  have hT0 := hC.ht (hT.done kb (fun j hj => match j, hj with
    | 0, _ => ⟨_, rfl, (dn_r (hKi 0 50 rfl))⟩
    | 1, _ => ⟨_, rfl, (dn_i (by decide) (by decide))⟩
    | 2, _ => ⟨_, rfl, (dn_r (hKi 1 11 rfl))⟩
    | 3, _ => ⟨_, rfl, (dn_r (hKi 10 11 rfl))⟩
    | 4, _ => ⟨_, rfl, (dn_r (hKi 19 6 rfl))⟩
    | 5, _ => ⟨_, rfl, (dn_r (hKi 24 3 rfl))⟩
    | 6, _ => ⟨_, rfl, (dn_r (hKi 32 7 rfl))⟩
    | 7, _ => ⟨_, rfl, (dn_r (hKi 39 4 rfl))⟩
    | 8, _ => ⟨_, rfl, (dn_r (hKi 168 2 rfl))⟩
    | 9, _ => ⟨_, rfl, (dn_r (hKi 300 1 rfl))⟩
    | 10, _ => ⟨_, rfl, (dn_r (hKi 306 8 rfl))⟩
    | 11, _ => ⟨_, rfl, (dn_r (hKi 313 9 rfl))⟩
    | j + 12, h => absurd h (Nat.not_lt.mpr (Nat.le_add_left _ _)))) hold hend
  have hL0 := hC.lo kne
  have hO0 : ∀ a : Nat, eK E a = 0 → H33[a]? = H0[a]? := fun a ha => (hC.zO hh kne a ha).trans (by rw [hh])
  have hz0 := hC.1
  refine zkB (n := H0.size) (zrV (rest := []) B (c_X11_begin l E hV _ hT0 b kb) cl_RX11_91 hT0 kb rfl rfl rfl rfl hl.1 rfl (Nat.le_of_ble_eq_true rfl) dX11_init_165 rfl rfl ⟨rfl, rfl⟩ ⟨Nat.le_of_ble_eq_true rfl, Nat.le_of_ble_eq_true rfl⟩ (fun a ha => (hO0 a ha).trans (by rw [hh]))) hL0 (fun J1 lj1 hp hT1 hf hL1 => ?_)
  have hO1 : ∀ a : Nat, eK E a = 0 → J1[a]? = H0[a]? := fun a ha => (hf.2.1 a ha).trans (hO0 a ha)
  have hz1 := hf.1.trans hz0
  exact m_ret0 B hr hlk hQ hz1 hT1 hO1 trivial hL1 dX11_init_168
