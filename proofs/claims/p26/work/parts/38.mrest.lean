theorem dX12_sight_0 : decode cX12_sight 0 = .ok (.iload_n 1, 1) := by decide +kernel
theorem dX12_sight_1 : decode cX12_sight 1 = .ok (.iconst 0, 1) := by decide +kernel
theorem dX12_sight_2 : decode cX12_sight 2 = .ok (.aload_n 0, 1) := by decide +kernel
theorem dX12_sight_3 : decode cX12_sight 3 = .ok (.getfield 305, 3) := by decide +kernel
theorem dX12_sight_6 : decode cX12_sight 6 = .ok (.iconst 1, 1) := by decide +kernel
theorem dX12_sight_7 : decode cX12_sight 7 = .ok (.isub, 1) := by decide +kernel
theorem dX12_sight_8 : decode cX12_sight 8 = .ok (.invokestatic 260, 3) := by decide +kernel
theorem dX12_sight_11 : decode cX12_sight 11 = .ok (.ifCond .eq 27, 3) := by decide +kernel
theorem dX12_sight_14 : decode cX12_sight 14 = .ok (.iload_n 2, 1) := by decide +kernel
theorem dX12_sight_15 : decode cX12_sight 15 = .ok (.invokestatic 308, 3) := by decide +kernel
theorem dX12_sight_18 : decode cX12_sight 18 = .ok (.ifCond .eq 20, 3) := by decide +kernel
theorem dX12_sight_21 : decode cX12_sight 21 = .ok (.aload_n 0, 1) := by decide +kernel
theorem dX12_sight_22 : decode cX12_sight 22 = .ok (.iload_n 3, 1) := by decide +kernel
theorem dX12_sight_23 : decode cX12_sight 23 = .ok (.invokevirtual 311, 3) := by decide +kernel
theorem dX12_sight_26 : decode cX12_sight 26 = .ok (.ifCond .eq 12, 3) := by decide +kernel
theorem dX12_sight_29 : decode cX12_sight 29 = .ok (.aload_n 0, 1) := by decide +kernel
theorem dX12_sight_30 : decode cX12_sight 30 = .ok (.getfield 223, 3) := by decide +kernel
theorem dX12_sight_33 : decode cX12_sight 33 = .ok (.bipush 30, 2) := by decide +kernel
theorem dX12_sight_35 : decode cX12_sight 35 = .ok (.if_icmp .ne 5, 3) := by decide +kernel
theorem dX12_sight_38 : decode cX12_sight 38 = .ok (.iconst (-1), 1) := by decide +kernel
theorem dX12_sight_39 : decode cX12_sight 39 = .ok (.ireturn, 1) := by decide +kernel
theorem dX12_sight_40 : decode cX12_sight 40 = .ok (.iload 4, 2) := by decide +kernel
theorem dX12_sight_42 : decode cX12_sight 42 = .ok (.iconst (-1), 1) := by decide +kernel
theorem dX12_sight_43 : decode cX12_sight 43 = .ok (.if_icmp .eq 23, 3) := by decide +kernel
theorem dX12_sight_46 : decode cX12_sight 46 = .ok (.iload 4, 2) := by decide +kernel
theorem dX12_sight_48 : decode cX12_sight 48 = .ok (.iconst 0, 1) := by decide +kernel
theorem dX12_sight_49 : decode cX12_sight 49 = .ok (.aload_n 0, 1) := by decide +kernel
theorem dX12_sight_50 : decode cX12_sight 50 = .ok (.getfield 30, 3) := by decide +kernel
theorem dX12_sight_53 : decode cX12_sight 53 = .ok (.aload_n 0, 1) := by decide +kernel
theorem dX12_sight_54 : decode cX12_sight 54 = .ok (.getfield 217, 3) := by decide +kernel
theorem dX12_sight_57 : decode cX12_sight 57 = .ok (.iaload, 1) := by decide +kernel
theorem dX12_sight_58 : decode cX12_sight 58 = .ok (.iconst 1, 1) := by decide +kernel
theorem dX12_sight_59 : decode cX12_sight 59 = .ok (.isub, 1) := by decide +kernel
theorem dX12_sight_60 : decode cX12_sight 60 = .ok (.invokestatic 260, 3) := by decide +kernel
theorem dX12_sight_63 : decode cX12_sight 63 = .ok (.ifCond .eq 13, 3) := by decide +kernel
theorem dX12_sight_66 : decode cX12_sight 66 = .ok (.iload 5, 2) := by decide +kernel
theorem dX12_sight_68 : decode cX12_sight 68 = .ok (.iconst 0, 1) := by decide +kernel
theorem dX12_sight_69 : decode cX12_sight 69 = .ok (.iconst 1, 1) := by decide +kernel
theorem dX12_sight_70 : decode cX12_sight 70 = .ok (.invokestatic 260, 3) := by decide +kernel
theorem dX12_sight_73 : decode cX12_sight 73 = .ok (.ifCond .ne 5, 3) := by decide +kernel
theorem dX12_sight_76 : decode cX12_sight 76 = .ok (.iconst (-1), 1) := by decide +kernel
theorem dX12_sight_77 : decode cX12_sight 77 = .ok (.ireturn, 1) := by decide +kernel
theorem dX12_sight_78 : decode cX12_sight 78 = .ok (.aload_n 0, 1) := by decide +kernel
theorem dX12_sight_79 : decode cX12_sight 79 = .ok (.getfield 89, 3) := by decide +kernel
theorem dX12_sight_82 : decode cX12_sight 82 = .ok (.aload_n 0, 1) := by decide +kernel
theorem dX12_sight_83 : decode cX12_sight 83 = .ok (.getfield 223, 3) := by decide +kernel
theorem dX12_sight_86 : decode cX12_sight 86 = .ok (.iload_n 1, 1) := by decide +kernel
theorem dX12_sight_87 : decode cX12_sight 87 = .ok (.iastore, 1) := by decide +kernel
theorem dX12_sight_88 : decode cX12_sight 88 = .ok (.aload_n 0, 1) := by decide +kernel
theorem dX12_sight_89 : decode cX12_sight 89 = .ok (.getfield 92, 3) := by decide +kernel
theorem dX12_sight_92 : decode cX12_sight 92 = .ok (.aload_n 0, 1) := by decide +kernel
theorem dX12_sight_93 : decode cX12_sight 93 = .ok (.getfield 223, 3) := by decide +kernel
theorem dX12_sight_96 : decode cX12_sight 96 = .ok (.iload_n 2, 1) := by decide +kernel
theorem dX12_sight_97 : decode cX12_sight 97 = .ok (.iastore, 1) := by decide +kernel
theorem dX12_sight_98 : decode cX12_sight 98 = .ok (.aload_n 0, 1) := by decide +kernel
theorem dX12_sight_99 : decode cX12_sight 99 = .ok (.getfield 95, 3) := by decide +kernel
theorem dX12_sight_102 : decode cX12_sight 102 = .ok (.aload_n 0, 1) := by decide +kernel
theorem dX12_sight_103 : decode cX12_sight 103 = .ok (.getfield 223, 3) := by decide +kernel
theorem dX12_sight_106 : decode cX12_sight 106 = .ok (.iload_n 3, 1) := by decide +kernel
theorem dX12_sight_107 : decode cX12_sight 107 = .ok (.iastore, 1) := by decide +kernel
theorem dX12_sight_108 : decode cX12_sight 108 = .ok (.aload_n 0, 1) := by decide +kernel
theorem dX12_sight_109 : decode cX12_sight 109 = .ok (.getfield 98, 3) := by decide +kernel
theorem dX12_sight_112 : decode cX12_sight 112 = .ok (.aload_n 0, 1) := by decide +kernel
theorem dX12_sight_113 : decode cX12_sight 113 = .ok (.getfield 223, 3) := by decide +kernel
theorem dX12_sight_116 : decode cX12_sight 116 = .ok (.iload 4, 2) := by decide +kernel
theorem dX12_sight_118 : decode cX12_sight 118 = .ok (.iconst (-1), 1) := by decide +kernel
theorem dX12_sight_119 : decode cX12_sight 119 = .ok (.if_icmp .ne 7, 3) := by decide +kernel
theorem dX12_sight_122 : decode cX12_sight 122 = .ok (.iconst (-1), 1) := by decide +kernel
theorem dX12_sight_123 : decode cX12_sight 123 = .ok (.goto 10, 3) := by decide +kernel
theorem dX12_sight_126 : decode cX12_sight 126 = .ok (.iconst 2, 1) := by decide +kernel
theorem dX12_sight_127 : decode cX12_sight 127 = .ok (.iload 4, 2) := by decide +kernel
theorem dX12_sight_129 : decode cX12_sight 129 = .ok (.imul, 1) := by decide +kernel
theorem dX12_sight_130 : decode cX12_sight 130 = .ok (.iload 5, 2) := by decide +kernel
theorem dX12_sight_132 : decode cX12_sight 132 = .ok (.iadd, 1) := by decide +kernel
theorem dX12_sight_133 : decode cX12_sight 133 = .ok (.iastore, 1) := by decide +kernel
theorem dX12_sight_134 : decode cX12_sight 134 = .ok (.aload_n 0, 1) := by decide +kernel
theorem dX12_sight_135 : decode cX12_sight 135 = .ok (.getfield 101, 3) := by decide +kernel
theorem dX12_sight_138 : decode cX12_sight 138 = .ok (.aload_n 0, 1) := by decide +kernel
theorem dX12_sight_139 : decode cX12_sight 139 = .ok (.getfield 223, 3) := by decide +kernel
theorem dX12_sight_142 : decode cX12_sight 142 = .ok (.aload_n 0, 1) := by decide +kernel
theorem dX12_sight_143 : decode cX12_sight 143 = .ok (.getfield 369, 3) := by decide +kernel
theorem dX12_sight_146 : decode cX12_sight 146 = .ok (.iastore, 1) := by decide +kernel
theorem dX12_sight_147 : decode cX12_sight 147 = .ok (.aload_n 0, 1) := by decide +kernel
theorem dX12_sight_148 : decode cX12_sight 148 = .ok (.getfield 104, 3) := by decide +kernel
theorem dX12_sight_151 : decode cX12_sight 151 = .ok (.aload_n 0, 1) := by decide +kernel
theorem dX12_sight_152 : decode cX12_sight 152 = .ok (.getfield 223, 3) := by decide +kernel
theorem dX12_sight_155 : decode cX12_sight 155 = .ok (.iconst (-1), 1) := by decide +kernel
theorem dX12_sight_156 : decode cX12_sight 156 = .ok (.iastore, 1) := by decide +kernel
theorem dX12_sight_157 : decode cX12_sight 157 = .ok (.aload_n 0, 1) := by decide +kernel
theorem dX12_sight_158 : decode cX12_sight 158 = .ok (.dup, 1) := by decide +kernel
theorem dX12_sight_159 : decode cX12_sight 159 = .ok (.getfield 223, 3) := by decide +kernel
theorem dX12_sight_162 : decode cX12_sight 162 = .ok (.iconst 1, 1) := by decide +kernel
theorem dX12_sight_163 : decode cX12_sight 163 = .ok (.iadd, 1) := by decide +kernel
theorem dX12_sight_164 : decode cX12_sight 164 = .ok (.putfield 223, 3) := by decide +kernel
theorem dX12_sight_167 : decode cX12_sight 167 = .ok (.aload_n 0, 1) := by decide +kernel
theorem dX12_sight_168 : decode cX12_sight 168 = .ok (.getfield 223, 3) := by decide +kernel
theorem dX12_sight_171 : decode cX12_sight 171 = .ok (.iconst 1, 1) := by decide +kernel
theorem dX12_sight_172 : decode cX12_sight 172 = .ok (.isub, 1) := by decide +kernel
theorem dX12_sight_173 : decode cX12_sight 173 = .ok (.ireturn, 1) := by decide +kernel
def rm_X12_sight : Room := { frames := 2, cells := 0, slots := 0, locals := 43 }
abbrev wS_X12_sight : List (Nat × Nat) := [(13, 47), (82, 99), (83, 99), (84, 99), (85, 99), (86, 99), (87, 99)]
set_option maxRecDepth 100000 in
set_option maxHeartbeats 4000000 in
theorem c_X12_sight (l : Launch) (E : zE) (hV : zV E) (H0 : Heap) (hT0 : HT E H0) (h0 : Nat) (kh0 : eK E h0 = 13) (p0 : Int32) (p1 : Int32) (p2 : Int32) (p3 : Int32) (p4 : Int32) : Met l yX12_sight (zws yX12_sight cX12_sight 6 (some .int)) rm_X12_sight (zP E H0 [.ref h0, .int p0, .int p1, .int p2, .int p3, .int p4]) (zQI E E wS_X12_sight (fun r H1 => (-1) ≤ r.toInt ∧ r.toInt ≤ 29)) 0 0 (zfr E) := by
  refine zEnt (by decide) (Nat.le_of_ble_eq_true rfl) (fun p e s m args below meth c ls Q B hr hlk hh hQ hl => ?_)
  have hx := B.1
  have hb := B.2.1
  have hG0 : zG E wS_X12_sight H0 H0 [] := zG.rf hT0
  have hl : lv_has ls 6 [(0, .ref h0), (1, .int p0), (2, .int p1), (3, .int p2), (4, .int p3), (5, .int p4)] := hl
  have b133 : ∀ (H133 : Heap) (lc133 : List Loc) (ls : Array Slot) (w133_0 : Int32) (w133_1 : Int32) (w133_2 : Nat) (u133_h0_47 : Int32), zG E wS_X12_sight H0 H133 lc133 → lv_has ls 6 [(0, .ref h0)] → eK E w133_2 = 85 → (-1) ≤ w133_0.toInt → w133_0.toInt ≤ 11 → 0 ≤ w133_1.toInt → w133_1.toInt ≤ 29 → 0 ≤ u133_h0_47.toInt → u133_h0_47.toInt ≤ 29 → sl H133 h0 (zix E 13 47) = some (.int u133_h0_47) → W p l e rm_X12_sight s m args below meth c H133 lc133 0 0 Q (F0 m 133 ls [.int w133_0, .int w133_1, .ref w133_2]) := by
    intro H133 lc133 ls w133_0 w133_1 w133_2 u133_h0_47 gH133 hl k_w133_2 f133_1 f133_2 f133_3 f133_4 f133_5 f133_6 s133_u133_h0_47
    refine g_iastI (i := w133_1) (N := 30) B hV gH133 k_w133_2 rfl rfl rfl rfl (by omega) (by omega) rfl (z_rng _).1 (z_rng _).2 rfl dX12_sight_133 (fun H1 lc1 gH1 uH1 => ?_)
    have s_2 := uH1.keep (Or.inl (k_ne kh0 k_w133_2 rfl)) s133_u133_h0_47
    refine lv_aload_n hx hb dX12_sight_134 rfl (lv_at hl 0 rfl) ?_
    refine g_getR B fl_RX12_101 gH1.1 kh0 rfl rfl rfl rfl rfl dX12_sight_135 (fun q_3 s_3 k_q_3 => ?_)
    refine lv_aload_n hx hb dX12_sight_138 rfl (lv_at hl 0 rfl) ?_
    refine g_get B fl_RX12_223 gH1.1 kh0 rfl rfl rfl dX12_sight_139 s_2 ?_
    refine lv_aload_n hx hb dX12_sight_142 rfl (lv_at hl 0 rfl) ?_
    refine g_getI B fl_RX12_369 gH1.1 kh0 rfl rfl rfl rfl rfl dX12_sight_143 (fun x_4 s_4 a_4 b_4 => ?_)
    refine g_iastI (i := u133_h0_47) (N := 30) B hV gH1 k_q_3 rfl rfl rfl rfl (by omega) (by omega) rfl (z_rng _).1 (z_rng _).2 rfl dX12_sight_146 (fun H5 lc5 gH5 uH5 => ?_)
    have s_6 := uH5.keep (Or.inl (k_ne kh0 k_q_3 rfl)) s_2
    refine lv_aload_n hx hb dX12_sight_147 rfl (lv_at hl 0 rfl) ?_
    refine g_getR B fl_RX12_104 gH5.1 kh0 rfl rfl rfl rfl rfl dX12_sight_148 (fun q_7 s_7 k_q_7 => ?_)
    refine lv_aload_n hx hb dX12_sight_151 rfl (lv_at hl 0 rfl) ?_
    refine g_get B fl_RX12_223 gH5.1 kh0 rfl rfl rfl dX12_sight_152 s_6 ?_
    refine lv_iconst (v := (-1)) hx hb dX12_sight_155 (by decide) ?_
    have := kl_m1
    refine g_iastI (i := u133_h0_47) (N := 30) B hV gH5 k_q_7 rfl rfl rfl rfl (by omega) (by omega) rfl (z_rng _).1 (z_rng _).2 rfl dX12_sight_156 (fun H8 lc8 gH8 uH8 => ?_)
    have s_9 := uH8.keep (Or.inl (k_ne kh0 k_q_7 rfl)) s_6
    refine lv_aload_n hx hb dX12_sight_157 rfl (lv_at hl 0 rfl) ?_
    refine lv_dup hx hb dX12_sight_158 rfl ?_
    refine g_get B fl_RX12_223 gH8.1 kh0 rfl rfl rfl dX12_sight_159 s_9 ?_
    refine lv_iconst (v := 1) hx hb dX12_sight_162 (by decide) ?_
    refine lv_iadd hx hb dX12_sight_163 ?_
    refine lv_topi (fun x_10 e_10 => ?_)
    have t_10 := z_add e_10 rfl kl_1 (by omega) (by omega)
    refine g_putI B fp_RX12_223 hV gH8 kh0 rfl rfl rfl rfl rfl (by omega) (by omega) rfl dX12_sight_164 (fun H11 lc11 gH11 uH11 => ?_)
    refine lv_aload_n hx hb dX12_sight_167 rfl (lv_at hl 0 rfl) ?_
    refine g_get B fl_RX12_223 gH11.1 kh0 rfl rfl rfl dX12_sight_168 uH11.2.1 ?_
    refine lv_iconst (v := 1) hx hb dX12_sight_171 (by decide) ?_
    refine lv_isub hx hb dX12_sight_172 ?_
    refine lv_topi (fun x_12 e_12 => ?_)
    have t_12 := z_sub e_12 rfl kl_1 (by omega) (by omega)
    exact rtI (v := x_12) B hr hlk hh hQ gH11 rfl ⟨by omega, by omega⟩ dX12_sight_173
  have b66 : ∀ (ls : Array Slot) (u66_h0_47 : Int32), lv_has ls 6 [(0, .ref h0), (1, .int p0), (2, .int p1), (3, .int p2), (4, .int p3), (5, .int p4)] → 0 ≤ p0.toInt → p0.toInt ≤ 59 → 0 ≤ p1.toInt → p1.toInt ≤ 1 → 0 ≤ p2.toInt → p2.toInt ≤ 29 → (-1) ≤ p3.toInt → p3.toInt ≤ 5 → 0 ≤ u66_h0_47.toInt → u66_h0_47.toInt ≤ 29 → sl H0 h0 (zix E 13 47) = some (.int u66_h0_47) → W p l e rm_X12_sight s m args below meth c H0 [] 0 0 Q (F0 m 66 ls []) := by
    intro ls u66_h0_47 hl f66_1 f66_2 f66_3 f66_4 f66_5 f66_6 f66_7 f66_8 f66_9 f66_10 s66_u66_h0_47
    refine lv_iload hx hb dX12_sight_66 (lv_at hl 5 rfl) ?_
    refine lv_iconst (v := 0) hx hb dX12_sight_68 (by decide) ?_
    refine lv_iconst (v := 1) hx hb dX12_sight_69 (by decide) ?_
    refine zkPI (zrS (rest := []) B (c_X12_isIn l E hV H0 hT0 p4 0 1) cs_RX12_260 rfl hl.1 rfl (Nat.le_of_ble_eq_true rfl) dX12_sight_70 rfl rfl ⟨rfl, rfl⟩ ⟨Nat.zero_le _, Nat.zero_le _⟩ (zO.of hG0 hh)) (fun x_13 hp_13 => ?_)
    obtain ⟨hp_13_1, hp_13_2, hp_13_3⟩ := hp_13
    have := kl_0
    have := kl_1
    refine lv_if_ne (tgt := 78) hx hb dX12_sight_73 (by decide) (fun c_14 => ?_) (fun c_14 => ?_)
    · have f_14 := z_ne c_14 rfl kl_0
      refine lv_aload_n hx hb dX12_sight_78 rfl (lv_at hl 0 rfl) ?_
      refine g_getR B fl_RX12_89 hT0 kh0 rfl rfl rfl rfl rfl dX12_sight_79 (fun q_15 s_15 k_q_15 => ?_)
      refine lv_aload_n hx hb dX12_sight_82 rfl (lv_at hl 0 rfl) ?_
      refine g_get B fl_RX12_223 hT0 kh0 rfl rfl rfl dX12_sight_83 s66_u66_h0_47 ?_
      refine lv_iload_n hx hb dX12_sight_86 rfl (lv_at hl 1 rfl) ?_
      refine g_iastI (i := u66_h0_47) (N := 30) B hV hG0 k_q_15 rfl rfl rfl rfl (by omega) (by omega) rfl (z_rng _).1 (z_rng _).2 rfl dX12_sight_87 (fun H16 lc16 gH16 uH16 => ?_)
      have s_17 := uH16.keep (Or.inl (k_ne kh0 k_q_15 rfl)) s66_u66_h0_47
      refine lv_aload_n hx hb dX12_sight_88 rfl (lv_at hl 0 rfl) ?_
      refine g_getR B fl_RX12_92 gH16.1 kh0 rfl rfl rfl rfl rfl dX12_sight_89 (fun q_18 s_18 k_q_18 => ?_)
      refine lv_aload_n hx hb dX12_sight_92 rfl (lv_at hl 0 rfl) ?_
      refine g_get B fl_RX12_223 gH16.1 kh0 rfl rfl rfl dX12_sight_93 s_17 ?_
      refine lv_iload_n hx hb dX12_sight_96 rfl (lv_at hl 2 rfl) ?_
      refine g_iastI (i := u66_h0_47) (N := 30) B hV gH16 k_q_18 rfl rfl rfl rfl (by omega) (by omega) rfl (by omega) (by omega) rfl dX12_sight_97 (fun H19 lc19 gH19 uH19 => ?_)
      have s_20 := uH19.keep (Or.inl (k_ne kh0 k_q_18 rfl)) s_17
      refine lv_aload_n hx hb dX12_sight_98 rfl (lv_at hl 0 rfl) ?_
      refine g_getR B fl_RX12_95 gH19.1 kh0 rfl rfl rfl rfl rfl dX12_sight_99 (fun q_21 s_21 k_q_21 => ?_)
      refine lv_aload_n hx hb dX12_sight_102 rfl (lv_at hl 0 rfl) ?_
      refine g_get B fl_RX12_223 gH19.1 kh0 rfl rfl rfl dX12_sight_103 s_20 ?_
      refine lv_iload_n hx hb dX12_sight_106 rfl (lv_at hl 3 rfl) ?_
      refine g_iastI (i := u66_h0_47) (N := 30) B hV gH19 k_q_21 rfl rfl rfl rfl (by omega) (by omega) rfl (by omega) (by omega) rfl dX12_sight_107 (fun H22 lc22 gH22 uH22 => ?_)
      have s_23 := uH22.keep (Or.inl (k_ne kh0 k_q_21 rfl)) s_20
      refine lv_aload_n hx hb dX12_sight_108 rfl (lv_at hl 0 rfl) ?_
      refine g_getR B fl_RX12_98 gH22.1 kh0 rfl rfl rfl rfl rfl dX12_sight_109 (fun q_24 s_24 k_q_24 => ?_)
      refine lv_aload_n hx hb dX12_sight_112 rfl (lv_at hl 0 rfl) ?_
      refine g_get B fl_RX12_223 gH22.1 kh0 rfl rfl rfl dX12_sight_113 s_23 ?_
      refine lv_iload hx hb dX12_sight_116 (lv_at hl 4 rfl) ?_
      refine lv_iconst (v := (-1)) hx hb dX12_sight_118 (by decide) ?_
      refine lv_icmp_ne (tgt := 126) hx hb dX12_sight_119 (by decide) (fun c_25 => ?_) (fun c_25 => ?_)
      · have f_25 := z_ne c_25 rfl kl_m1
        refine lv_iconst (v := 2) hx hb dX12_sight_126 (by decide) ?_
        refine lv_iload hx hb dX12_sight_127 (lv_at hl 4 rfl) ?_
        refine lv_imul hx hb dX12_sight_129 ?_
        refine lv_topi (fun x_26 e_26 => ?_)
        have t_26 := z_mul e_26 kl_2 rfl (by omega) (by omega)
        refine lv_iload hx hb dX12_sight_130 (lv_at hl 5 rfl) ?_
        refine lv_iadd hx hb dX12_sight_132 ?_
        refine lv_topi (fun x_27 e_27 => ?_)
        have t_27 := z_add e_27 rfl rfl (by omega) (by omega)
        exact b133 H22 lc22 ls x_27 u66_h0_47 q_24 u66_h0_47 gH22 (lv_sub hl [0] rfl) k_q_24 (by omega) (by omega) (by omega) (by omega) (by omega) (by omega) s_23
      · have f_25 := z_eq c_25 rfl kl_m1
        refine lv_iconst (v := (-1)) hx hb dX12_sight_122 (by decide) ?_
        refine lv_goto (tgt := 133) hx hb dX12_sight_123 (by decide) ?_
        have := kl_m1
        exact b133 H22 lc22 ls (-1) u66_h0_47 q_24 u66_h0_47 gH22 (lv_sub hl [0] rfl) k_q_24 (by omega) (by omega) (by omega) (by omega) (by omega) (by omega) s_23
    · have f_14 := z_eq c_14 rfl kl_0
      refine lv_iconst (v := (-1)) hx hb dX12_sight_76 (by decide) ?_
      have := kl_m1
      have := kl_m1
      exact rtI (v := (-1)) B hr hlk hh hQ hG0 rfl ⟨by omega, by omega⟩ dX12_sight_77
  refine lv_iload_n hx hb dX12_sight_0 rfl (lv_at hl 1 rfl) ?_
  refine lv_iconst (v := 0) hx hb dX12_sight_1 (by decide) ?_
  refine lv_aload_n hx hb dX12_sight_2 rfl (lv_at hl 0 rfl) ?_
  refine g_getI B fl_RX12_305 hT0 kh0 rfl rfl rfl rfl rfl dX12_sight_3 (fun x_28 s_28 a_28 b_28 => ?_)
  refine lv_iconst (v := 1) hx hb dX12_sight_6 (by decide) ?_
  refine lv_isub hx hb dX12_sight_7 ?_
  refine lv_topi (fun x_29 e_29 => ?_)
  have t_29 := z_sub e_29 rfl kl_1 (by omega) (by omega)
  refine zkPI (zrS (rest := []) B (c_X12_isIn l E hV H0 hT0 p0 0 x_29) cs_RX12_260 rfl hl.1 rfl (Nat.le_of_ble_eq_true rfl) dX12_sight_8 rfl rfl ⟨rfl, rfl⟩ ⟨Nat.zero_le _, Nat.zero_le _⟩ (zO.of hG0 hh)) (fun x_30 hp_30 => ?_)
  obtain ⟨hp_30_1, hp_30_2, hp_30_3⟩ := hp_30
  have := kl_0
  refine lv_if_eq (tgt := 38) hx hb dX12_sight_11 (by decide) (fun c_31 => ?_) (fun c_31 => ?_)
  · have f_31 := z_eq c_31 rfl kl_0
    refine lv_iconst (v := (-1)) hx hb dX12_sight_38 (by decide) ?_
    have := kl_m1
    have := kl_m1
    exact rtI (v := (-1)) B hr hlk hh hQ hG0 rfl ⟨by omega, by omega⟩ dX12_sight_39
  · have f_31 := z_ne c_31 rfl kl_0
    refine lv_iload_n hx hb dX12_sight_14 rfl (lv_at hl 2 rfl) ?_
    refine zkPI (zrS (rest := []) B (c_X12_isKeeper l E hV H0 hT0 p1) cs_RX12_308 rfl hl.1 rfl (Nat.le_of_ble_eq_true rfl) dX12_sight_15 rfl rfl ⟨rfl, rfl⟩ ⟨Nat.zero_le _, Nat.zero_le _⟩ (zO.of hG0 hh)) (fun x_32 hp_32 => ?_)
    obtain ⟨hp_32_1, hp_32_2, hp_32_3⟩ := hp_32
    refine lv_if_eq (tgt := 38) hx hb dX12_sight_18 (by decide) (fun c_33 => ?_) (fun c_33 => ?_)
    · have f_33 := z_eq c_33 rfl kl_0
      refine lv_iconst (v := (-1)) hx hb dX12_sight_38 (by decide) ?_
      have := kl_m1
      have := kl_m1
      exact rtI (v := (-1)) B hr hlk hh hQ hG0 rfl ⟨by omega, by omega⟩ dX12_sight_39
    · have f_33 := z_ne c_33 rfl kl_0
      refine lv_aload_n hx hb dX12_sight_21 rfl (lv_at hl 0 rfl) ?_
      refine lv_iload_n hx hb dX12_sight_22 rfl (lv_at hl 3 rfl) ?_
      refine zkPI (zrV (rest := []) B (c_X12_isSquare l E hV H0 hT0 h0 kh0 p2) cl_RX12_311 hT0 kh0 rfl rfl rfl rfl hl.1 rfl (Nat.le_of_ble_eq_true rfl) dX12_sight_23 rfl rfl ⟨rfl, rfl⟩ ⟨Nat.zero_le _, Nat.zero_le _⟩ (zO.of hG0 hh)) (fun x_34 hp_34 => ?_)
      obtain ⟨hp_34_1, hp_34_2, hp_34_3⟩ := hp_34
      refine lv_if_eq (tgt := 38) hx hb dX12_sight_26 (by decide) (fun c_35 => ?_) (fun c_35 => ?_)
      · have f_35 := z_eq c_35 rfl kl_0
        refine lv_iconst (v := (-1)) hx hb dX12_sight_38 (by decide) ?_
        have := kl_m1
        have := kl_m1
        exact rtI (v := (-1)) B hr hlk hh hQ hG0 rfl ⟨by omega, by omega⟩ dX12_sight_39
      · have f_35 := z_ne c_35 rfl kl_0
        refine lv_aload_n hx hb dX12_sight_29 rfl (lv_at hl 0 rfl) ?_
        refine g_getI B fl_RX12_223 hT0 kh0 rfl rfl rfl rfl rfl dX12_sight_30 (fun x_36 s_36 a_36 b_36 => ?_)
        refine lv_bipush (v := 30) hx hb dX12_sight_33 (by decide) ?_
        refine lv_icmp_ne (tgt := 40) hx hb dX12_sight_35 (by decide) (fun c_37 => ?_) (fun c_37 => ?_)
        · have f_37 := z_ne c_37 rfl kl_30
          refine lv_iload hx hb dX12_sight_40 (lv_at hl 4 rfl) ?_
          refine lv_iconst (v := (-1)) hx hb dX12_sight_42 (by decide) ?_
          refine lv_icmp_eq (tgt := 66) hx hb dX12_sight_43 (by decide) (fun c_38 => ?_) (fun c_38 => ?_)
          · have f_38 := z_eq c_38 rfl kl_m1
            exact b66 ls x_36 (lv_sub hl [0, 1, 2, 3, 4, 5] rfl) (by omega) (by omega) (by omega) (by omega) (by omega) (by omega) (by omega) (by omega) (by omega) (by omega) s_36
          · have f_38 := z_ne c_38 rfl kl_m1
            refine lv_iload hx hb dX12_sight_46 (lv_at hl 4 rfl) ?_
            refine lv_iconst (v := 0) hx hb dX12_sight_48 (by decide) ?_
            refine lv_aload_n hx hb dX12_sight_49 rfl (lv_at hl 0 rfl) ?_
            refine g_getR B fl_RX12_30 hT0 kh0 rfl rfl rfl rfl rfl dX12_sight_50 (fun q_39 s_39 k_q_39 => ?_)
            refine lv_aload_n hx hb dX12_sight_53 rfl (lv_at hl 0 rfl) ?_
            refine g_getI B fl_RX12_217 hT0 kh0 rfl rfl rfl rfl rfl dX12_sight_54 (fun x_40 s_40 a_40 b_40 => ?_)
            refine g_ialdI (i := x_40) (N := 2) B hT0 k_q_39 rfl rfl rfl rfl (by omega) (by omega) rfl dX12_sight_57 (fun x_41 s_41 a_41 b_41 => ?_)
            refine lv_iconst (v := 1) hx hb dX12_sight_58 (by decide) ?_
            refine lv_isub hx hb dX12_sight_59 ?_
            refine lv_topi (fun x_42 e_42 => ?_)
            have t_42 := z_sub e_42 rfl kl_1 (by omega) (by omega)
            refine zkPI (zrS (rest := []) B (c_X12_isIn l E hV H0 hT0 p3 0 x_42) cs_RX12_260 rfl hl.1 rfl (Nat.le_of_ble_eq_true rfl) dX12_sight_60 rfl rfl ⟨rfl, rfl⟩ ⟨Nat.zero_le _, Nat.zero_le _⟩ (zO.of hG0 hh)) (fun x_43 hp_43 => ?_)
            obtain ⟨hp_43_1, hp_43_2, hp_43_3⟩ := hp_43
            have := kl_0
            refine lv_if_eq (tgt := 76) hx hb dX12_sight_63 (by decide) (fun c_44 => ?_) (fun c_44 => ?_)
            · have f_44 := z_eq c_44 rfl kl_0
              refine lv_iconst (v := (-1)) hx hb dX12_sight_76 (by decide) ?_
              have := kl_m1
              have := kl_m1
              exact rtI (v := (-1)) B hr hlk hh hQ hG0 rfl ⟨by omega, by omega⟩ dX12_sight_77
            · have f_44 := z_ne c_44 rfl kl_0
              exact b66 ls x_36 (lv_sub hl [0, 1, 2, 3, 4, 5] rfl) (by omega) (by omega) (by omega) (by omega) (by omega) (by omega) (by omega) (by omega) (by omega) (by omega) s_36
        · have f_37 := z_eq c_37 rfl kl_30
          refine lv_iconst (v := (-1)) hx hb dX12_sight_38 (by decide) ?_
          have := kl_m1
          have := kl_m1
          exact rtI (v := (-1)) B hr hlk hh hQ hG0 rfl ⟨by omega, by omega⟩ dX12_sight_39

theorem dX12_untell_0 : decode cX12_untell 0 = .ok (.iload_n 1, 1) := by decide +kernel
theorem dX12_untell_1 : decode cX12_untell 1 = .ok (.iconst 0, 1) := by decide +kernel
theorem dX12_untell_2 : decode cX12_untell 2 = .ok (.aload_n 0, 1) := by decide +kernel
theorem dX12_untell_3 : decode cX12_untell 3 = .ok (.getfield 223, 3) := by decide +kernel
theorem dX12_untell_6 : decode cX12_untell 6 = .ok (.iconst 1, 1) := by decide +kernel
theorem dX12_untell_7 : decode cX12_untell 7 = .ok (.isub, 1) := by decide +kernel
theorem dX12_untell_8 : decode cX12_untell 8 = .ok (.invokestatic 260, 3) := by decide +kernel
theorem dX12_untell_11 : decode cX12_untell 11 = .ok (.ifCond .eq 12, 3) := by decide +kernel
theorem dX12_untell_14 : decode cX12_untell 14 = .ok (.aload_n 0, 1) := by decide +kernel
theorem dX12_untell_15 : decode cX12_untell 15 = .ok (.getfield 104, 3) := by decide +kernel
theorem dX12_untell_18 : decode cX12_untell 18 = .ok (.iload_n 1, 1) := by decide +kernel
theorem dX12_untell_19 : decode cX12_untell 19 = .ok (.iaload, 1) := by decide +kernel
theorem dX12_untell_20 : decode cX12_untell 20 = .ok (.ifCond .lt 5, 3) := by decide +kernel
theorem dX12_untell_23 : decode cX12_untell 23 = .ok (.iconst 0, 1) := by decide +kernel
theorem dX12_untell_24 : decode cX12_untell 24 = .ok (.ireturn, 1) := by decide +kernel
theorem dX12_untell_25 : decode cX12_untell 25 = .ok (.aload_n 0, 1) := by decide +kernel
theorem dX12_untell_26 : decode cX12_untell 26 = .ok (.getfield 104, 3) := by decide +kernel
theorem dX12_untell_29 : decode cX12_untell 29 = .ok (.iload_n 1, 1) := by decide +kernel
theorem dX12_untell_30 : decode cX12_untell 30 = .ok (.aload_n 0, 1) := by decide +kernel
theorem dX12_untell_31 : decode cX12_untell 31 = .ok (.getfield 369, 3) := by decide +kernel
theorem dX12_untell_34 : decode cX12_untell 34 = .ok (.iastore, 1) := by decide +kernel
theorem dX12_untell_35 : decode cX12_untell 35 = .ok (.iconst 1, 1) := by decide +kernel
theorem dX12_untell_36 : decode cX12_untell 36 = .ok (.ireturn, 1) := by decide +kernel
def rm_X12_untell : Room := { frames := 1, cells := 0, slots := 0, locals := 22 }
abbrev wS_X12_untell : List (Nat × Nat) := [(87, 99)]
set_option maxRecDepth 100000 in
set_option maxHeartbeats 4000000 in
theorem c_X12_untell (l : Launch) (E : zE) (hV : zV E) (H0 : Heap) (hT0 : HT E H0) (h0 : Nat) (kh0 : eK E h0 = 13) (p0 : Int32) : Met l yX12_untell (zws yX12_untell cX12_untell 2 (some .boolean)) rm_X12_untell (zP E H0 [.ref h0, .int p0]) (zQI E E wS_X12_untell (fun r H1 => 0 ≤ r.toInt ∧ r.toInt ≤ 1)) 0 0 (zfr E) := by
  refine zEnt (by decide) (Nat.le_of_ble_eq_true rfl) (fun p e s m args below meth c ls Q B hr hlk hh hQ hl => ?_)
  have hx := B.1
  have hb := B.2.1
  have hG0 : zG E wS_X12_untell H0 H0 [] := zG.rf hT0
  have hl : lv_has ls 2 [(0, .ref h0), (1, .int p0)] := hl
  refine lv_iload_n hx hb dX12_untell_0 rfl (lv_at hl 1 rfl) ?_
  refine lv_iconst (v := 0) hx hb dX12_untell_1 (by decide) ?_
  refine lv_aload_n hx hb dX12_untell_2 rfl (lv_at hl 0 rfl) ?_
  refine g_getI B fl_RX12_223 hT0 kh0 rfl rfl rfl rfl rfl dX12_untell_3 (fun x_1 s_1 a_1 b_1 => ?_)
  refine lv_iconst (v := 1) hx hb dX12_untell_6 (by decide) ?_
  refine lv_isub hx hb dX12_untell_7 ?_
  refine lv_topi (fun x_2 e_2 => ?_)
  have t_2 := z_sub e_2 rfl kl_1 (by omega) (by omega)
  refine zkPI (zrS (rest := []) B (c_X12_isIn l E hV H0 hT0 p0 0 x_2) cs_RX12_260 rfl hl.1 rfl (Nat.le_of_ble_eq_true rfl) dX12_untell_8 rfl rfl ⟨rfl, rfl⟩ ⟨Nat.zero_le _, Nat.zero_le _⟩ (zO.of hG0 hh)) (fun x_3 hp_3 => ?_)
  obtain ⟨hp_3_1, hp_3_2, hp_3_3⟩ := hp_3
  have := kl_0
  refine lv_if_eq (tgt := 23) hx hb dX12_untell_11 (by decide) (fun c_4 => ?_) (fun c_4 => ?_)
  · have f_4 := z_eq c_4 rfl kl_0
    refine lv_iconst (v := 0) hx hb dX12_untell_23 (by decide) ?_
    have := kl_0
    have := kl_0
    exact rtI (v := 0) B hr hlk hh hQ hG0 rfl ⟨by omega, by omega⟩ dX12_untell_24
  · have f_4 := z_ne c_4 rfl kl_0
    refine lv_aload_n hx hb dX12_untell_14 rfl (lv_at hl 0 rfl) ?_
    refine g_getR B fl_RX12_104 hT0 kh0 rfl rfl rfl rfl rfl dX12_untell_15 (fun q_5 s_5 k_q_5 => ?_)
    refine lv_iload_n hx hb dX12_untell_18 rfl (lv_at hl 1 rfl) ?_
    refine g_ialdI (i := p0) (N := 30) B hT0 k_q_5 rfl rfl rfl rfl (by omega) (by omega) rfl dX12_untell_19 (fun x_6 s_6 a_6 b_6 => ?_)
    refine lv_if_lt (tgt := 25) hx hb dX12_untell_20 (by decide) (fun c_7 => ?_) (fun c_7 => ?_)
    · have f_7 := z_lt c_7 rfl kl_0
      refine lv_aload_n hx hb dX12_untell_25 rfl (lv_at hl 0 rfl) ?_
      refine g_get B fl_RX12_104 hT0 kh0 rfl rfl rfl dX12_untell_26 s_5 ?_
      refine lv_iload_n hx hb dX12_untell_29 rfl (lv_at hl 1 rfl) ?_
      refine lv_aload_n hx hb dX12_untell_30 rfl (lv_at hl 0 rfl) ?_
      refine g_getI B fl_RX12_369 hT0 kh0 rfl rfl rfl rfl rfl dX12_untell_31 (fun x_8 s_8 a_8 b_8 => ?_)
      refine g_iastI (i := p0) (N := 30) B hV hG0 k_q_5 rfl rfl rfl rfl (by omega) (by omega) rfl (z_rng _).1 (z_rng _).2 rfl dX12_untell_34 (fun H9 lc9 gH9 uH9 => ?_)
      refine lv_iconst (v := 1) hx hb dX12_untell_35 (by decide) ?_
      have := kl_1
      have := kl_1
      exact rtI (v := 1) B hr hlk hh hQ gH9 rfl ⟨by omega, by omega⟩ dX12_untell_36
    · have f_7 := z_nlt c_7 rfl kl_0
      refine lv_iconst (v := 0) hx hb dX12_untell_23 (by decide) ?_
      have := kl_0
      have := kl_0
      exact rtI (v := 0) B hr hlk hh hQ hG0 rfl ⟨by omega, by omega⟩ dX12_untell_24

theorem dX12_areSo_0 : decode cX12_areSo 0 = .ok (.iconst 0, 1) := by decide +kernel
theorem dX12_areSo_1 : decode cX12_areSo 1 = .ok (.istore_n 3, 1) := by decide +kernel
theorem dX12_areSo_2 : decode cX12_areSo 2 = .ok (.iload_n 3, 1) := by decide +kernel
theorem dX12_areSo_3 : decode cX12_areSo 3 = .ok (.aload_n 0, 1) := by decide +kernel
theorem dX12_areSo_4 : decode cX12_areSo 4 = .ok (.getfield 223, 3) := by decide +kernel
theorem dX12_areSo_7 : decode cX12_areSo 7 = .ok (.if_icmp .ge 79, 3) := by decide +kernel
theorem dX12_areSo_10 : decode cX12_areSo 10 = .ok (.aload_n 0, 1) := by decide +kernel
theorem dX12_areSo_11 : decode cX12_areSo 11 = .ok (.getfield 89, 3) := by decide +kernel
theorem dX12_areSo_14 : decode cX12_areSo 14 = .ok (.iload_n 3, 1) := by decide +kernel
theorem dX12_areSo_15 : decode cX12_areSo 15 = .ok (.iaload, 1) := by decide +kernel
theorem dX12_areSo_16 : decode cX12_areSo 16 = .ok (.iload_n 1, 1) := by decide +kernel
theorem dX12_areSo_17 : decode cX12_areSo 17 = .ok (.if_icmp .ne 63, 3) := by decide +kernel
theorem dX12_areSo_20 : decode cX12_areSo 20 = .ok (.aload_n 0, 1) := by decide +kernel
theorem dX12_areSo_21 : decode cX12_areSo 21 = .ok (.getfield 101, 3) := by decide +kernel
theorem dX12_areSo_24 : decode cX12_areSo 24 = .ok (.iload_n 3, 1) := by decide +kernel
theorem dX12_areSo_25 : decode cX12_areSo 25 = .ok (.iaload, 1) := by decide +kernel
theorem dX12_areSo_26 : decode cX12_areSo 26 = .ok (.iload_n 2, 1) := by decide +kernel
theorem dX12_areSo_27 : decode cX12_areSo 27 = .ok (.if_icmp .gt 53, 3) := by decide +kernel
theorem dX12_areSo_30 : decode cX12_areSo 30 = .ok (.aload_n 0, 1) := by decide +kernel
theorem dX12_areSo_31 : decode cX12_areSo 31 = .ok (.getfield 104, 3) := by decide +kernel
theorem dX12_areSo_34 : decode cX12_areSo 34 = .ok (.iload_n 3, 1) := by decide +kernel
theorem dX12_areSo_35 : decode cX12_areSo 35 = .ok (.iaload, 1) := by decide +kernel
theorem dX12_areSo_36 : decode cX12_areSo 36 = .ok (.ifCond .lt 13, 3) := by decide +kernel
theorem dX12_areSo_39 : decode cX12_areSo 39 = .ok (.aload_n 0, 1) := by decide +kernel
theorem dX12_areSo_40 : decode cX12_areSo 40 = .ok (.getfield 104, 3) := by decide +kernel
theorem dX12_areSo_43 : decode cX12_areSo 43 = .ok (.iload_n 3, 1) := by decide +kernel
theorem dX12_areSo_44 : decode cX12_areSo 44 = .ok (.iaload, 1) := by decide +kernel
theorem dX12_areSo_45 : decode cX12_areSo 45 = .ok (.iload_n 2, 1) := by decide +kernel
theorem dX12_areSo_46 : decode cX12_areSo 46 = .ok (.if_icmp .le 34, 3) := by decide +kernel
theorem dX12_areSo_49 : decode cX12_areSo 49 = .ok (.aload_n 0, 1) := by decide +kernel
theorem dX12_areSo_50 : decode cX12_areSo 50 = .ok (.sipush 192, 3) := by decide +kernel
theorem dX12_areSo_53 : decode cX12_areSo 53 = .ok (.aload_n 0, 1) := by decide +kernel
theorem dX12_areSo_54 : decode cX12_areSo 54 = .ok (.getfield 92, 3) := by decide +kernel
theorem dX12_areSo_57 : decode cX12_areSo 57 = .ok (.iload_n 3, 1) := by decide +kernel
theorem dX12_areSo_58 : decode cX12_areSo 58 = .ok (.iaload, 1) := by decide +kernel
theorem dX12_areSo_59 : decode cX12_areSo 59 = .ok (.iadd, 1) := by decide +kernel
theorem dX12_areSo_60 : decode cX12_areSo 60 = .ok (.aload_n 0, 1) := by decide +kernel
theorem dX12_areSo_61 : decode cX12_areSo 61 = .ok (.getfield 95, 3) := by decide +kernel
theorem dX12_areSo_64 : decode cX12_areSo 64 = .ok (.iload_n 3, 1) := by decide +kernel
theorem dX12_areSo_65 : decode cX12_areSo 65 = .ok (.iaload, 1) := by decide +kernel
theorem dX12_areSo_66 : decode cX12_areSo 66 = .ok (.invokevirtual 257, 3) := by decide +kernel
theorem dX12_areSo_69 : decode cX12_areSo 69 = .ok (.aload_n 0, 1) := by decide +kernel
theorem dX12_areSo_70 : decode cX12_areSo 70 = .ok (.getfield 98, 3) := by decide +kernel
theorem dX12_areSo_73 : decode cX12_areSo 73 = .ok (.iload_n 3, 1) := by decide +kernel
theorem dX12_areSo_74 : decode cX12_areSo 74 = .ok (.iaload, 1) := by decide +kernel
theorem dX12_areSo_75 : decode cX12_areSo 75 = .ok (.if_icmp .eq 5, 3) := by decide +kernel
theorem dX12_areSo_78 : decode cX12_areSo 78 = .ok (.iconst 0, 1) := by decide +kernel
theorem dX12_areSo_79 : decode cX12_areSo 79 = .ok (.ireturn, 1) := by decide +kernel
theorem dX12_areSo_80 : decode cX12_areSo 80 = .ok (.iinc 3 1, 3) := by decide +kernel
theorem dX12_areSo_83 : decode cX12_areSo 83 = .ok (.goto (-81), 3) := by decide +kernel
theorem dX12_areSo_86 : decode cX12_areSo 86 = .ok (.iconst 1, 1) := by decide +kernel
theorem dX12_areSo_87 : decode cX12_areSo 87 = .ok (.ireturn, 1) := by decide +kernel
def rm_X12_areSo : Room := { frames := 1, cells := 0, slots := 0, locals := 22 }
set_option maxRecDepth 100000 in
set_option maxHeartbeats 4000000 in
theorem c_X12_areSo (l : Launch) (E : zE) (hV : zV E) (H0 : Heap) (hT0 : HT E H0) (h0 : Nat) (kh0 : eK E h0 = 13) (p0 : Int32) (p1 : Int32) : Met l yX12_areSo (zws yX12_areSo cX12_areSo 4 (some .boolean)) rm_X12_areSo (zP E H0 [.ref h0, .int p0, .int p1]) (zPI (fun r => 0 ≤ r.toInt ∧ r.toInt ≤ 1)) 0 0 (fun _ => False) := by
  refine zEnt (by decide) (Nat.le_of_ble_eq_true rfl) (fun p e s m args below meth c ls Q B hr hlk hh hQ hl => ?_)
  have hx := B.1
  have hb := B.2.1
  have hl : lv_has ls 4 [(0, .ref h0), (1, .int p0), (2, .int p1)] := hl
  have b2 : ∀ (n2 : Nat) (ls : Array Slot) (v2_3 : Int32), 30 - v2_3.toInt < (n2 : Int) → lv_has ls 4 [(0, .ref h0), (1, .int p0), (2, .int p1), (3, .int v2_3)] → 0 ≤ v2_3.toInt → v2_3.toInt ≤ 30 → W p l e rm_X12_areSo s m args below meth c H0 [] 0 0 Q (F0 m 2 ls []) := by
    intro n2
    induction n2 with
    | zero =>
      intro ls v2_3 hm2 hl f2_1 f2_2
      exact absurd hm2 (by omega)
    | succ n2 ih2 =>
      intro ls v2_3 hm2 hl f2_1 f2_2
      have b80 : ∀ (ls : Array Slot) (u80_h0_47 : Int32) (u80_h0_41 : Nat), lv_has ls 4 [(0, .ref h0), (1, .int p0), (2, .int p1), (3, .int v2_3)] → eK E u80_h0_41 = 82 → v2_3.toInt ≤ 29 → 1 ≤ u80_h0_47.toInt → u80_h0_47.toInt ≤ 30 → sl H0 h0 (zix E 13 47) = some (.int u80_h0_47) → sl H0 h0 (zix E 13 41) = some (.ref u80_h0_41) → W p l e rm_X12_areSo s m args below meth c H0 [] 0 0 Q (F0 m 80 ls []) := by
        intro ls u80_h0_47 u80_h0_41 hl k_u80_h0_41 f80_1 f80_2 f80_3 s80_u80_h0_47 s80_u80_h0_41
        obtain ⟨x_1, e_1⟩ : ∃ y : Int32, (v2_3 : Int32) + Int32.ofInt 1 = y := ⟨_, rfl⟩
        refine lv_iinc (v := x_1) (lv' := [(3, .int x_1), (0, .ref h0), (1, .int p0), (2, .int p1)]) hx hb dX12_areSo_80 hl (k := 3) rfl e_1 (by decide) rfl (fun ls hl => ?_)
        have t_1 := z_inc2 e_1 rfl (by decide) (by omega) (by omega)
        refine lv_goto (tgt := 2) hx hb dX12_areSo_83 (by decide) ?_
        exact ih2 ls x_1 (by omega) (lv_sub hl [1, 2, 3, 0] rfl) (by omega) (by omega)
      have b49 : ∀ (ls : Array Slot) (u49_h0_47 : Int32) (u49_h0_41 : Nat) (u49_h0_45 : Nat) (u49_h0_46 : Nat), lv_has ls 4 [(0, .ref h0), (1, .int p0), (2, .int p1), (3, .int v2_3)] → eK E u49_h0_41 = 82 → eK E u49_h0_45 = 86 → eK E u49_h0_46 = 87 → v2_3.toInt ≤ 29 → 1 ≤ u49_h0_47.toInt → u49_h0_47.toInt ≤ 30 → sl H0 h0 (zix E 13 47) = some (.int u49_h0_47) → sl H0 h0 (zix E 13 41) = some (.ref u49_h0_41) → sl H0 h0 (zix E 13 45) = some (.ref u49_h0_45) → sl H0 h0 (zix E 13 46) = some (.ref u49_h0_46) → W p l e rm_X12_areSo s m args below meth c H0 [] 0 0 Q (F0 m 49 ls []) := by
        intro ls u49_h0_47 u49_h0_41 u49_h0_45 u49_h0_46 hl k_u49_h0_41 k_u49_h0_45 k_u49_h0_46 f49_1 f49_2 f49_3 s49_u49_h0_47 s49_u49_h0_41 s49_u49_h0_45 s49_u49_h0_46
        refine lv_aload_n hx hb dX12_areSo_49 rfl (lv_at hl 0 rfl) ?_
        refine lv_sipush (v := 192) hx hb dX12_areSo_50 (by decide) ?_
        refine lv_aload_n hx hb dX12_areSo_53 rfl (lv_at hl 0 rfl) ?_
        refine g_getR B fl_RX12_92 hT0 kh0 rfl rfl rfl rfl rfl dX12_areSo_54 (fun q_2 s_2 k_q_2 => ?_)
        refine lv_iload_n hx hb dX12_areSo_57 rfl (lv_at hl 3 rfl) ?_
        refine g_ialdI (i := v2_3) (N := 30) B hT0 k_q_2 rfl rfl rfl rfl (by omega) (by omega) rfl dX12_areSo_58 (fun x_3 s_3 a_3 b_3 => ?_)
        refine lv_iadd hx hb dX12_areSo_59 ?_
        refine lv_topi (fun x_4 e_4 => ?_)
        have t_4 := z_add e_4 kl_192 rfl (by omega) (by omega)
        refine lv_aload_n hx hb dX12_areSo_60 rfl (lv_at hl 0 rfl) ?_
        refine g_getR B fl_RX12_95 hT0 kh0 rfl rfl rfl rfl rfl dX12_areSo_61 (fun q_5 s_5 k_q_5 => ?_)
        refine lv_iload_n hx hb dX12_areSo_64 rfl (lv_at hl 3 rfl) ?_
        refine g_ialdI (i := v2_3) (N := 30) B hT0 k_q_5 rfl rfl rfl rfl (by omega) (by omega) rfl dX12_areSo_65 (fun x_6 s_6 a_6 b_6 => ?_)
        obtain ⟨q_7, s_7, k_q_7⟩ := HT.atR hT0 kh0 rfl (j := 2) (by decide) rfl
        refine zkPI (zrV (rest := []) B (c_X12_of l E hV H0 hT0 h0 kh0 x_4 (by omega) (by omega) x_6 (by omega) (by omega) q_7 k_q_7 s_7) cl_RX12_257 hT0 kh0 rfl rfl rfl rfl hl.1 rfl (Nat.le_of_ble_eq_true rfl) dX12_areSo_66 rfl rfl ⟨rfl, rfl⟩ ⟨Nat.zero_le _, Nat.zero_le _⟩ (zO.rf hh)) (fun x_8 hp_8 => ?_)
        obtain ⟨hp_8_1, hp_8_2⟩ := hp_8
        refine lv_aload_n hx hb dX12_areSo_69 rfl (lv_at hl 0 rfl) ?_
        refine g_getR B fl_RX12_98 hT0 kh0 rfl rfl rfl rfl rfl dX12_areSo_70 (fun q_9 s_9 k_q_9 => ?_)
        refine lv_iload_n hx hb dX12_areSo_73 rfl (lv_at hl 3 rfl) ?_
        refine g_ialdI (i := v2_3) (N := 30) B hT0 k_q_9 rfl rfl rfl rfl (by omega) (by omega) rfl dX12_areSo_74 (fun x_10 s_10 a_10 b_10 => ?_)
        refine lv_icmp_eq (tgt := 80) hx hb dX12_areSo_75 (by decide) (fun c_11 => ?_) (fun c_11 => ?_)
        · have f_11 := z_eq c_11 rfl rfl
          exact b80 ls u49_h0_47 u49_h0_41 (lv_sub hl [0, 1, 2, 3] rfl) k_u49_h0_41 (by omega) (by omega) (by omega) s49_u49_h0_47 s49_u49_h0_41
        · have f_11 := z_ne c_11 rfl rfl
          refine lv_iconst (v := 0) hx hb dX12_areSo_78 (by decide) ?_
          have := kl_0
          have := kl_0
          exact rtPI (v := 0) B hr hlk hh hQ rfl ⟨by omega, by omega⟩ dX12_areSo_79
      refine lv_iload_n hx hb dX12_areSo_2 rfl (lv_at hl 3 rfl) ?_
      refine lv_aload_n hx hb dX12_areSo_3 rfl (lv_at hl 0 rfl) ?_
      refine g_getI B fl_RX12_223 hT0 kh0 rfl rfl rfl rfl rfl dX12_areSo_4 (fun x_12 s_12 a_12 b_12 => ?_)
      refine lv_icmp_ge (tgt := 86) hx hb dX12_areSo_7 (by decide) (fun c_13 => ?_) (fun c_13 => ?_)
      · have f_13 := z_le c_13 rfl rfl
        refine lv_iconst (v := 1) hx hb dX12_areSo_86 (by decide) ?_
        have := kl_1
        have := kl_1
        exact rtPI (v := 1) B hr hlk hh hQ rfl ⟨by omega, by omega⟩ dX12_areSo_87
      · have f_13 := z_nle c_13 rfl rfl
        refine lv_aload_n hx hb dX12_areSo_10 rfl (lv_at hl 0 rfl) ?_
        refine g_getR B fl_RX12_89 hT0 kh0 rfl rfl rfl rfl rfl dX12_areSo_11 (fun q_14 s_14 k_q_14 => ?_)
        refine lv_iload_n hx hb dX12_areSo_14 rfl (lv_at hl 3 rfl) ?_
        refine g_ialdI (i := v2_3) (N := 30) B hT0 k_q_14 rfl rfl rfl rfl (by omega) (by omega) rfl dX12_areSo_15 (fun x_15 s_15 a_15 b_15 => ?_)
        refine lv_iload_n hx hb dX12_areSo_16 rfl (lv_at hl 1 rfl) ?_
        refine lv_icmp_ne (tgt := 80) hx hb dX12_areSo_17 (by decide) (fun c_16 => ?_) (fun c_16 => ?_)
        · have f_16 := z_ne c_16 rfl rfl
          exact b80 ls x_12 q_14 (lv_sub hl [0, 1, 2, 3] rfl) k_q_14 (by omega) (by omega) (by omega) s_12 s_14
        · have f_16 := z_eq c_16 rfl rfl
          refine lv_aload_n hx hb dX12_areSo_20 rfl (lv_at hl 0 rfl) ?_
          refine g_getR B fl_RX12_101 hT0 kh0 rfl rfl rfl rfl rfl dX12_areSo_21 (fun q_17 s_17 k_q_17 => ?_)
          refine lv_iload_n hx hb dX12_areSo_24 rfl (lv_at hl 3 rfl) ?_
          refine g_ialdI (i := v2_3) (N := 30) B hT0 k_q_17 rfl rfl rfl rfl (by omega) (by omega) rfl dX12_areSo_25 (fun x_18 s_18 a_18 b_18 => ?_)
          refine lv_iload_n hx hb dX12_areSo_26 rfl (lv_at hl 2 rfl) ?_
          refine lv_icmp_gt (tgt := 80) hx hb dX12_areSo_27 (by decide) (fun c_19 => ?_) (fun c_19 => ?_)
          · have f_19 := z_lt c_19 rfl rfl
            exact b80 ls x_12 q_14 (lv_sub hl [0, 1, 2, 3] rfl) k_q_14 (by omega) (by omega) (by omega) s_12 s_14
          · have f_19 := z_nlt c_19 rfl rfl
            refine lv_aload_n hx hb dX12_areSo_30 rfl (lv_at hl 0 rfl) ?_
            refine g_getR B fl_RX12_104 hT0 kh0 rfl rfl rfl rfl rfl dX12_areSo_31 (fun q_20 s_20 k_q_20 => ?_)
            refine lv_iload_n hx hb dX12_areSo_34 rfl (lv_at hl 3 rfl) ?_
            refine g_ialdI (i := v2_3) (N := 30) B hT0 k_q_20 rfl rfl rfl rfl (by omega) (by omega) rfl dX12_areSo_35 (fun x_21 s_21 a_21 b_21 => ?_)
            refine lv_if_lt (tgt := 49) hx hb dX12_areSo_36 (by decide) (fun c_22 => ?_) (fun c_22 => ?_)
            · have f_22 := z_lt c_22 rfl kl_0
              exact b49 ls x_12 q_14 q_17 q_20 (lv_sub hl [0, 1, 2, 3] rfl) k_q_14 k_q_17 k_q_20 (by omega) (by omega) (by omega) s_12 s_14 s_17 s_20
            · have f_22 := z_nlt c_22 rfl kl_0
              refine lv_aload_n hx hb dX12_areSo_39 rfl (lv_at hl 0 rfl) ?_
              refine g_get B fl_RX12_104 hT0 kh0 rfl rfl rfl dX12_areSo_40 s_20 ?_
              refine lv_iload_n hx hb dX12_areSo_43 rfl (lv_at hl 3 rfl) ?_
              refine g_iald (i := v2_3) (N := 30) B hT0 k_q_20 rfl rfl rfl rfl (by omega) (by omega) s_21 dX12_areSo_44 ?_
              refine lv_iload_n hx hb dX12_areSo_45 rfl (lv_at hl 2 rfl) ?_
              refine lv_icmp_le (tgt := 80) hx hb dX12_areSo_46 (by decide) (fun c_23 => ?_) (fun c_23 => ?_)
              · have f_23 := z_le c_23 rfl rfl
                exact b80 ls x_12 q_14 (lv_sub hl [0, 1, 2, 3] rfl) k_q_14 (by omega) (by omega) (by omega) s_12 s_14
              · have f_23 := z_nle c_23 rfl rfl
                exact b49 ls x_12 q_14 q_17 q_20 (lv_sub hl [0, 1, 2, 3] rfl) k_q_14 k_q_17 k_q_20 (by omega) (by omega) (by omega) s_12 s_14 s_17 s_20
  refine lv_iconst (v := 0) hx hb dX12_areSo_0 (by decide) ?_
  refine lv_istore_n (lv' := [(3, .int 0), (0, .ref h0), (1, .int p0), (2, .int p1)]) hx hb dX12_areSo_1 rfl hl (by decide) rfl (fun ls hl => ?_)
  have := kl_0
  exact b2 31 ls 0 (by omega) (lv_sub hl [1, 2, 3, 0] rfl) (by omega) (by omega)

theorem dX12_canStorm_0 : decode cX12_canStorm 0 = .ok (.aload_n 0, 1) := by decide +kernel
theorem dX12_canStorm_1 : decode cX12_canStorm 1 = .ok (.aload_n 0, 1) := by decide +kernel
theorem dX12_canStorm_2 : decode cX12_canStorm 2 = .ok (.aload_n 0, 1) := by decide +kernel
theorem dX12_canStorm_3 : decode cX12_canStorm 3 = .ok (.getfield 217, 3) := by decide +kernel
theorem dX12_canStorm_6 : decode cX12_canStorm 6 = .ok (.invokevirtual 207, 3) := by decide +kernel
theorem dX12_canStorm_9 : decode cX12_canStorm 9 = .ok (.sipush 192, 3) := by decide +kernel
theorem dX12_canStorm_12 : decode cX12_canStorm 12 = .ok (.invokevirtual 326, 3) := by decide +kernel
theorem dX12_canStorm_15 : decode cX12_canStorm 15 = .ok (.aload_n 0, 1) := by decide +kernel
theorem dX12_canStorm_16 : decode cX12_canStorm 16 = .ok (.aload_n 0, 1) := by decide +kernel
theorem dX12_canStorm_17 : decode cX12_canStorm 17 = .ok (.aload_n 0, 1) := by decide +kernel
theorem dX12_canStorm_18 : decode cX12_canStorm 18 = .ok (.getfield 217, 3) := by decide +kernel
theorem dX12_canStorm_21 : decode cX12_canStorm 21 = .ok (.invokevirtual 207, 3) := by decide +kernel
theorem dX12_canStorm_24 : decode cX12_canStorm 24 = .ok (.sipush 193, 3) := by decide +kernel
theorem dX12_canStorm_27 : decode cX12_canStorm 27 = .ok (.invokevirtual 326, 3) := by decide +kernel
theorem dX12_canStorm_30 : decode cX12_canStorm 30 = .ok (.iconst 0, 1) := by decide +kernel
theorem dX12_canStorm_31 : decode cX12_canStorm 31 = .ok (.istore_n 3, 1) := by decide +kernel
theorem dX12_canStorm_32 : decode cX12_canStorm 32 = .ok (.iconst 0, 1) := by decide +kernel
theorem dX12_canStorm_33 : decode cX12_canStorm 33 = .ok (.istore 4, 2) := by decide +kernel
theorem dX12_canStorm_35 : decode cX12_canStorm 35 = .ok (.iload 4, 2) := by decide +kernel
theorem dX12_canStorm_37 : decode cX12_canStorm 37 = .ok (.aload_n 0, 1) := by decide +kernel
theorem dX12_canStorm_38 : decode cX12_canStorm 38 = .ok (.getfield 305, 3) := by decide +kernel
theorem dX12_canStorm_41 : decode cX12_canStorm 41 = .ok (.if_icmp .ge 166, 3) := by decide +kernel
theorem dX12_canStorm_44 : decode cX12_canStorm 44 = .ok (.aload_n 0, 1) := by decide +kernel
theorem dX12_canStorm_45 : decode cX12_canStorm 45 = .ok (.getfield 74, 3) := by decide +kernel
theorem dX12_canStorm_48 : decode cX12_canStorm 48 = .ok (.iload 4, 2) := by decide +kernel
theorem dX12_canStorm_50 : decode cX12_canStorm 50 = .ok (.iaload, 1) := by decide +kernel
theorem dX12_canStorm_51 : decode cX12_canStorm 51 = .ok (.istore 5, 2) := by decide +kernel
theorem dX12_canStorm_53 : decode cX12_canStorm 53 = .ok (.iload 5, 2) := by decide +kernel
theorem dX12_canStorm_55 : decode cX12_canStorm 55 = .ok (.ifCond .lt 134, 3) := by decide +kernel
theorem dX12_canStorm_58 : decode cX12_canStorm 58 = .ok (.iload_n 3, 1) := by decide +kernel
theorem dX12_canStorm_59 : decode cX12_canStorm 59 = .ok (.bipush 10, 2) := by decide +kernel
theorem dX12_canStorm_61 : decode cX12_canStorm 61 = .ok (.if_icmp .ge 19, 3) := by decide +kernel
theorem dX12_canStorm_64 : decode cX12_canStorm 64 = .ok (.iload_n 1, 1) := by decide +kernel
theorem dX12_canStorm_65 : decode cX12_canStorm 65 = .ok (.iload_n 3, 1) := by decide +kernel
theorem dX12_canStorm_66 : decode cX12_canStorm 66 = .ok (.ishr, 1) := by decide +kernel
theorem dX12_canStorm_67 : decode cX12_canStorm 67 = .ok (.iconst 1, 1) := by decide +kernel
theorem dX12_canStorm_68 : decode cX12_canStorm 68 = .ok (.iand, 1) := by decide +kernel
theorem dX12_canStorm_69 : decode cX12_canStorm 69 = .ok (.ifCond .ne 7, 3) := by decide +kernel
theorem dX12_canStorm_72 : decode cX12_canStorm 72 = .ok (.iconst 1, 1) := by decide +kernel
theorem dX12_canStorm_73 : decode cX12_canStorm 73 = .ok (.goto 14, 3) := by decide +kernel
theorem dX12_canStorm_76 : decode cX12_canStorm 76 = .ok (.iconst 0, 1) := by decide +kernel
theorem dX12_canStorm_77 : decode cX12_canStorm 77 = .ok (.goto 10, 3) := by decide +kernel
theorem dX12_canStorm_80 : decode cX12_canStorm 80 = .ok (.aload_n 0, 1) := by decide +kernel
theorem dX12_canStorm_81 : decode cX12_canStorm 81 = .ok (.getfield 80, 3) := by decide +kernel
theorem dX12_canStorm_84 : decode cX12_canStorm 84 = .ok (.iload 4, 2) := by decide +kernel
theorem dX12_canStorm_86 : decode cX12_canStorm 86 = .ok (.baload, 1) := by decide +kernel
theorem dX12_canStorm_87 : decode cX12_canStorm 87 = .ok (.istore 6, 2) := by decide +kernel
theorem dX12_canStorm_89 : decode cX12_canStorm 89 = .ok (.iinc 3 1, 3) := by decide +kernel
theorem dX12_canStorm_92 : decode cX12_canStorm 92 = .ok (.aload_n 0, 1) := by decide +kernel
theorem dX12_canStorm_93 : decode cX12_canStorm 93 = .ok (.sipush 192, 3) := by decide +kernel
theorem dX12_canStorm_96 : decode cX12_canStorm 96 = .ok (.iload 5, 2) := by decide +kernel
theorem dX12_canStorm_98 : decode cX12_canStorm 98 = .ok (.iadd, 1) := by decide +kernel
theorem dX12_canStorm_99 : decode cX12_canStorm 99 = .ok (.invokevirtual 281, 3) := by decide +kernel
theorem dX12_canStorm_102 : decode cX12_canStorm 102 = .ok (.iload 5, 2) := by decide +kernel
theorem dX12_canStorm_104 : decode cX12_canStorm 104 = .ok (.if_icmp .ne 23, 3) := by decide +kernel
theorem dX12_canStorm_107 : decode cX12_canStorm 107 = .ok (.aload_n 0, 1) := by decide +kernel
theorem dX12_canStorm_108 : decode cX12_canStorm 108 = .ok (.sipush 192, 3) := by decide +kernel
theorem dX12_canStorm_111 : decode cX12_canStorm 111 = .ok (.iload 5, 2) := by decide +kernel
theorem dX12_canStorm_113 : decode cX12_canStorm 113 = .ok (.iadd, 1) := by decide +kernel
theorem dX12_canStorm_114 : decode cX12_canStorm 114 = .ok (.aload_n 0, 1) := by decide +kernel
theorem dX12_canStorm_115 : decode cX12_canStorm 115 = .ok (.getfield 77, 3) := by decide +kernel
theorem dX12_canStorm_118 : decode cX12_canStorm 118 = .ok (.iload 4, 2) := by decide +kernel
theorem dX12_canStorm_120 : decode cX12_canStorm 120 = .ok (.iaload, 1) := by decide +kernel
theorem dX12_canStorm_121 : decode cX12_canStorm 121 = .ok (.invokevirtual 317, 3) := by decide +kernel
theorem dX12_canStorm_124 : decode cX12_canStorm 124 = .ok (.ifCond .ne 5, 3) := by decide +kernel
theorem dX12_canStorm_127 : decode cX12_canStorm 127 = .ok (.iconst 0, 1) := by decide +kernel
theorem dX12_canStorm_128 : decode cX12_canStorm 128 = .ok (.ireturn, 1) := by decide +kernel
theorem dX12_canStorm_129 : decode cX12_canStorm 129 = .ok (.aload_n 0, 1) := by decide +kernel
theorem dX12_canStorm_130 : decode cX12_canStorm 130 = .ok (.sipush 192, 3) := by decide +kernel
theorem dX12_canStorm_133 : decode cX12_canStorm 133 = .ok (.iload 5, 2) := by decide +kernel
theorem dX12_canStorm_135 : decode cX12_canStorm 135 = .ok (.iadd, 1) := by decide +kernel
theorem dX12_canStorm_136 : decode cX12_canStorm 136 = .ok (.invokevirtual 332, 3) := by decide +kernel
theorem dX12_canStorm_139 : decode cX12_canStorm 139 = .ok (.iload 6, 2) := by decide +kernel
theorem dX12_canStorm_141 : decode cX12_canStorm 141 = .ok (.ifCond .eq 48, 3) := by decide +kernel
theorem dX12_canStorm_144 : decode cX12_canStorm 144 = .ok (.aload_n 0, 1) := by decide +kernel
theorem dX12_canStorm_145 : decode cX12_canStorm 145 = .ok (.sipush 193, 3) := by decide +kernel
theorem dX12_canStorm_148 : decode cX12_canStorm 148 = .ok (.iload 5, 2) := by decide +kernel
theorem dX12_canStorm_150 : decode cX12_canStorm 150 = .ok (.isub, 1) := by decide +kernel
theorem dX12_canStorm_151 : decode cX12_canStorm 151 = .ok (.invokevirtual 281, 3) := by decide +kernel
theorem dX12_canStorm_154 : decode cX12_canStorm 154 = .ok (.iload 5, 2) := by decide +kernel
theorem dX12_canStorm_156 : decode cX12_canStorm 156 = .ok (.if_icmp .ne 33, 3) := by decide +kernel
theorem dX12_canStorm_159 : decode cX12_canStorm 159 = .ok (.aload_n 0, 1) := by decide +kernel
theorem dX12_canStorm_160 : decode cX12_canStorm 160 = .ok (.sipush 193, 3) := by decide +kernel
theorem dX12_canStorm_163 : decode cX12_canStorm 163 = .ok (.iload 5, 2) := by decide +kernel
theorem dX12_canStorm_165 : decode cX12_canStorm 165 = .ok (.isub, 1) := by decide +kernel
theorem dX12_canStorm_166 : decode cX12_canStorm 166 = .ok (.aload_n 0, 1) := by decide +kernel
theorem dX12_canStorm_167 : decode cX12_canStorm 167 = .ok (.getfield 77, 3) := by decide +kernel
theorem dX12_canStorm_170 : decode cX12_canStorm 170 = .ok (.iload 4, 2) := by decide +kernel
theorem dX12_canStorm_172 : decode cX12_canStorm 172 = .ok (.iaload, 1) := by decide +kernel
theorem dX12_canStorm_173 : decode cX12_canStorm 173 = .ok (.invokevirtual 317, 3) := by decide +kernel
theorem dX12_canStorm_176 : decode cX12_canStorm 176 = .ok (.ifCond .eq 13, 3) := by decide +kernel
theorem dX12_canStorm_179 : decode cX12_canStorm 179 = .ok (.aload_n 0, 1) := by decide +kernel
theorem dX12_canStorm_180 : decode cX12_canStorm 180 = .ok (.sipush 193, 3) := by decide +kernel
theorem dX12_canStorm_183 : decode cX12_canStorm 183 = .ok (.iload 5, 2) := by decide +kernel
theorem dX12_canStorm_185 : decode cX12_canStorm 185 = .ok (.isub, 1) := by decide +kernel
theorem dX12_canStorm_186 : decode cX12_canStorm 186 = .ok (.invokevirtual 332, 3) := by decide +kernel
theorem dX12_canStorm_189 : decode cX12_canStorm 189 = .ok (.aload_n 0, 1) := by decide +kernel
theorem dX12_canStorm_190 : decode cX12_canStorm 190 = .ok (.iload 4, 2) := by decide +kernel
theorem dX12_canStorm_192 : decode cX12_canStorm 192 = .ok (.iload_n 2, 1) := by decide +kernel
theorem dX12_canStorm_193 : decode cX12_canStorm 193 = .ok (.invokevirtual 373, 3) := by decide +kernel
theorem dX12_canStorm_196 : decode cX12_canStorm 196 = .ok (.ifCond .ne 5, 3) := by decide +kernel
theorem dX12_canStorm_199 : decode cX12_canStorm 199 = .ok (.iconst 0, 1) := by decide +kernel
theorem dX12_canStorm_200 : decode cX12_canStorm 200 = .ok (.ireturn, 1) := by decide +kernel
theorem dX12_canStorm_201 : decode cX12_canStorm 201 = .ok (.iinc 4 1, 3) := by decide +kernel
theorem dX12_canStorm_204 : decode cX12_canStorm 204 = .ok (.goto (-169), 3) := by decide +kernel
theorem dX12_canStorm_207 : decode cX12_canStorm 207 = .ok (.iconst 1, 1) := by decide +kernel
theorem dX12_canStorm_208 : decode cX12_canStorm 208 = .ok (.ireturn, 1) := by decide +kernel
def rm_X12_canStorm : Room := { frames := 5, cells := 0, slots := 0, locals := 128 }
abbrev wS_X12_canStorm : List (Nat × Nat) := [(13, 28), (13, 29), (60, 99)]
set_option maxRecDepth 100000 in
set_option maxHeartbeats 4000000 in
theorem c_X12_canStorm (l : Launch) (E : zE) (hV : zV E) (H0 : Heap) (hT0 : HT E H0) (h0 : Nat) (kh0 : eK E h0 = 13) (p0 : Int32) (p1 : Int32) : Met l yX12_canStorm (zws yX12_canStorm cX12_canStorm 7 (some .boolean)) rm_X12_canStorm (zP E H0 [.ref h0, .int p0, .int p1]) (zQI E E wS_X12_canStorm (fun r H1 => 0 ≤ r.toInt ∧ r.toInt ≤ 1)) 0 0 (zfr E) := by
  refine zEnt (by decide) (Nat.le_of_ble_eq_true rfl) (fun p e s m args below meth c ls Q B hr hlk hh hQ hl => ?_)
  have hx := B.1
  have hb := B.2.1
  have hG0 : zG E wS_X12_canStorm H0 H0 [] := zG.rf hT0
  have hl : lv_has ls 7 [(0, .ref h0), (1, .int p0), (2, .int p1)] := hl
  have b35 : ∀ (n35 : Nat) (H35 : Heap) (lc35 : List Loc) (ls : Array Slot) (v35_3 : Int32) (v35_4 : Int32), 60 - v35_4.toInt < (n35 : Int) → zG E wS_X12_canStorm H0 H35 lc35 → lv_has ls 7 [(0, .ref h0), (1, .int p0), (2, .int p1), (3, .int v35_3), (4, .int v35_4)] → 0 ≤ v35_4.toInt → v35_4.toInt ≤ 60 → W p l e rm_X12_canStorm s m args below meth c H35 lc35 0 0 Q (F0 m 35 ls []) := by
    intro n35
    induction n35 with
    | zero =>
      intro H35 lc35 ls v35_3 v35_4 hm35 gH35 hl f35_1 f35_2
      exact absurd hm35 (by omega)
    | succ n35 ih35 =>
      intro H35 lc35 ls v35_3 v35_4 hm35 gH35 hl f35_1 f35_2
      have b189 : ∀ (H189 : Heap) (lc189 : List Loc) (ls : Array Slot) (v189_3 : Int32) (u189_h0_37 : Int32) (u189_h0_33 : Nat), zG E wS_X12_canStorm H0 H189 lc189 → lv_has ls 7 [(0, .ref h0), (1, .int p0), (2, .int p1), (3, .int v189_3), (4, .int v35_4)] → eK E u189_h0_33 = 77 → v35_4.toInt ≤ 59 → 1 ≤ u189_h0_37.toInt → u189_h0_37.toInt ≤ 60 → sl H189 h0 (zix E 13 37) = some (.int u189_h0_37) → sl H189 h0 (zix E 13 33) = some (.ref u189_h0_33) → W p l e rm_X12_canStorm s m args below meth c H189 lc189 0 0 Q (F0 m 189 ls []) := by
        intro H189 lc189 ls v189_3 u189_h0_37 u189_h0_33 gH189 hl k_u189_h0_33 f189_1 f189_2 f189_3 s189_u189_h0_37 s189_u189_h0_33
        refine lv_aload_n hx hb dX12_canStorm_189 rfl (lv_at hl 0 rfl) ?_
        refine lv_iload hx hb dX12_canStorm_190 (lv_at hl 4 rfl) ?_
        refine lv_iload_n hx hb dX12_canStorm_192 rfl (lv_at hl 2 rfl) ?_
        refine zkPI (zrV (rest := []) B (c_X12_areSo l E hV H189 gH189.1 h0 kh0 v35_4 p1) cl_RX12_373 gH189.1 kh0 rfl rfl rfl rfl hl.1 rfl (Nat.le_of_ble_eq_true rfl) dX12_canStorm_193 rfl rfl ⟨rfl, rfl⟩ ⟨Nat.zero_le _, Nat.zero_le _⟩ (zO.of gH189 hh)) (fun x_1 hp_1 => ?_)
        obtain ⟨hp_1_1, hp_1_2⟩ := hp_1
        refine lv_if_ne (tgt := 201) hx hb dX12_canStorm_196 (by decide) (fun c_2 => ?_) (fun c_2 => ?_)
        · have f_2 := z_ne c_2 rfl kl_0
          obtain ⟨x_3, e_3⟩ : ∃ y : Int32, (v35_4 : Int32) + Int32.ofInt 1 = y := ⟨_, rfl⟩
          refine lv_iinc (v := x_3) (lv' := [(4, .int x_3), (0, .ref h0), (1, .int p0), (2, .int p1), (3, .int v189_3)]) hx hb dX12_canStorm_201 hl (k := 4) rfl e_3 (by decide) rfl (fun ls hl => ?_)
          have t_3 := z_inc2 e_3 rfl (by decide) (by omega) (by omega)
          refine lv_goto (tgt := 35) hx hb dX12_canStorm_204 (by decide) ?_
          exact ih35 H189 lc189 ls v189_3 x_3 (by omega) gH189 (lv_sub hl [1, 2, 3, 4, 0] rfl) (by omega) (by omega)
        · have f_2 := z_eq c_2 rfl kl_0
          refine lv_iconst (v := 0) hx hb dX12_canStorm_199 (by decide) ?_
          have := kl_0
          have := kl_0
          exact rtI (v := 0) B hr hlk hh hQ gH189 rfl ⟨by omega, by omega⟩ dX12_canStorm_200
      have b87 : ∀ (ls : Array Slot) (v87_5 : Int32) (w87_0 : Int32) (u87_h0_37 : Int32) (u87_h0_33 : Nat), lv_has ls 7 [(0, .ref h0), (1, .int p0), (2, .int p1), (3, .int v35_3), (4, .int v35_4), (5, .int v87_5)] → eK E u87_h0_33 = 77 → v35_4.toInt ≤ 59 → 0 ≤ v87_5.toInt → v87_5.toInt ≤ 1 → 0 ≤ w87_0.toInt → w87_0.toInt ≤ 1 → 1 ≤ u87_h0_37.toInt → u87_h0_37.toInt ≤ 60 → sl H35 h0 (zix E 13 37) = some (.int u87_h0_37) → sl H35 h0 (zix E 13 33) = some (.ref u87_h0_33) → W p l e rm_X12_canStorm s m args below meth c H35 lc35 0 0 Q (F0 m 87 ls [.int w87_0]) := by
        intro ls v87_5 w87_0 u87_h0_37 u87_h0_33 hl k_u87_h0_33 f87_1 f87_2 f87_3 f87_4 f87_5 f87_6 f87_7 s87_u87_h0_37 s87_u87_h0_33
        refine lv_istore (lv' := [(6, .int w87_0), (0, .ref h0), (1, .int p0), (2, .int p1), (3, .int v35_3), (4, .int v35_4), (5, .int v87_5)]) hx hb dX12_canStorm_87 hl (by decide) rfl (fun ls hl => ?_)
        obtain ⟨x_4, e_4⟩ : ∃ y : Int32, (v35_3 : Int32) + Int32.ofInt 1 = y := ⟨_, rfl⟩
        refine lv_iinc (v := x_4) (lv' := [(3, .int x_4), (6, .int w87_0), (0, .ref h0), (1, .int p0), (2, .int p1), (4, .int v35_4), (5, .int v87_5)]) hx hb dX12_canStorm_89 hl (k := 4) rfl e_4 (by decide) rfl (fun ls hl => ?_)
        refine lv_aload_n hx hb dX12_canStorm_92 rfl (lv_at hl 2 rfl) ?_
        refine lv_sipush (v := 192) hx hb dX12_canStorm_93 (by decide) ?_
        refine lv_iload hx hb dX12_canStorm_96 (lv_at hl 6 rfl) ?_
        refine lv_iadd hx hb dX12_canStorm_98 ?_
        refine lv_topi (fun x_5 e_5 => ?_)
        have t_5 := z_add e_5 kl_192 rfl (by omega) (by omega)
        refine zkPI (zrV (rest := []) B (c_X12_turnOf l E hV H35 gH35.1 h0 kh0 x_5 (by omega) (by omega)) cl_RX12_281 gH35.1 kh0 rfl rfl rfl rfl hl.1 rfl (Nat.le_of_ble_eq_true rfl) dX12_canStorm_99 rfl rfl ⟨rfl, rfl⟩ ⟨Nat.zero_le _, Nat.zero_le _⟩ (zO.of gH35 hh)) (fun x_6 hp_6 => ?_)
        refine lv_iload hx hb dX12_canStorm_102 (lv_at hl 6 rfl) ?_
        refine lv_icmp_ne (tgt := 127) hx hb dX12_canStorm_104 (by decide) (fun c_7 => ?_) (fun c_7 => ?_)
        · have f_7 := z_ne c_7 rfl rfl
          refine lv_iconst (v := 0) hx hb dX12_canStorm_127 (by decide) ?_
          have := kl_0
          have := kl_0
          exact rtI (v := 0) B hr hlk hh hQ gH35 rfl ⟨by omega, by omega⟩ dX12_canStorm_128
        · have f_7 := z_eq c_7 rfl rfl
          refine lv_aload_n hx hb dX12_canStorm_107 rfl (lv_at hl 2 rfl) ?_
          refine lv_sipush (v := 192) hx hb dX12_canStorm_108 (by decide) ?_
          refine lv_iload hx hb dX12_canStorm_111 (lv_at hl 6 rfl) ?_
          refine lv_iadd hx hb dX12_canStorm_113 ?_
          refine lv_topi (fun x_8 e_8 => ?_)
          have t_8 := z_add e_8 kl_192 rfl (by omega) (by omega)
          refine lv_aload_n hx hb dX12_canStorm_114 rfl (lv_at hl 2 rfl) ?_
          refine g_getR B fl_RX12_77 gH35.1 kh0 rfl rfl rfl rfl rfl dX12_canStorm_115 (fun q_9 s_9 k_q_9 => ?_)
          refine lv_iload hx hb dX12_canStorm_118 (lv_at hl 5 rfl) ?_
          refine g_ialdI (i := v35_4) (N := 60) B gH35.1 k_q_9 rfl rfl rfl rfl (by omega) (by omega) rfl dX12_canStorm_120 (fun x_10 s_10 a_10 b_10 => ?_)
          obtain ⟨q_11, s_11, k_q_11⟩ := HT.atR gH35.1 kh0 rfl (j := 12) (by decide) rfl
          obtain ⟨x_12, s_12, a_12, b_12⟩ := HT.atI gH35.1 kh0 rfl (j := 26) (by decide) rfl
          obtain ⟨x_13, s_13, a_13, b_13⟩ := HT.elI (i := x_12) (N := 2) gH35.1 k_q_11 rfl rfl rfl (by omega) (by omega) rfl
          refine zkI (zrV (rest := []) B (c_X12_findMove l E hV H35 gH35.1 h0 kh0 x_8 (by omega) (by omega) x_10 q_11 k_q_11 s_11 x_12 s_12 x_13 s_13) cl_RX12_317 gH35.1 kh0 rfl rfl rfl rfl hl.1 rfl (Nat.le_of_ble_eq_true rfl) dX12_canStorm_121 rfl rfl ⟨rfl, rfl⟩ ⟨Nat.zero_le _, Nat.zero_le _⟩ (zO.of gH35 hh)) gH35 rfl (fun x_14 H14 lc14 hp_14 gH14 rH14 => ?_)
          have s_15 := rH14.keep hV kh0 rfl s87_u87_h0_37
          have s_16 := rH14.keep hV kh0 rfl s87_u87_h0_33
          have s_17 := rH14.keep hV kh0 rfl s_9
          have s_18 := rH14.keepA k_q_9 rfl s_10
          have s_19 := rH14.keepA k_q_11 rfl s_13
          obtain ⟨hp_14_1, hp_14_2, hp_14_3⟩ := hp_14
          refine lv_if_ne (tgt := 129) hx hb dX12_canStorm_124 (by decide) (fun c_20 => ?_) (fun c_20 => ?_)
          · have f_20 := z_ne c_20 rfl kl_0
            refine lv_aload_n hx hb dX12_canStorm_129 rfl (lv_at hl 2 rfl) ?_
            refine lv_sipush (v := 192) hx hb dX12_canStorm_130 (by decide) ?_
            refine lv_iload hx hb dX12_canStorm_133 (lv_at hl 6 rfl) ?_
            refine lv_iadd hx hb dX12_canStorm_135 ?_
            refine lv_topi (fun x_21 e_21 => ?_)
            have t_21 := z_add e_21 kl_192 rfl (by omega) (by omega)
            refine zkV (zrV (rest := []) B (c_X12_makes l E hV H14 gH14.1 h0 kh0 x_21 (by omega) (by omega)) cl_RX12_332 gH14.1 kh0 rfl rfl rfl rfl hl.1 rfl (Nat.le_of_ble_eq_true rfl) dX12_canStorm_136 rfl rfl ⟨rfl, rfl⟩ ⟨Nat.zero_le _, Nat.zero_le _⟩ (zO.of gH14 hh)) gH14 rfl (fun H22 lc22 hp_22 gH22 rH22 => ?_)
            have s_23 := rH22.keep hV kh0 rfl s_15
            have s_24 := rH22.keep hV kh0 rfl s_16
            have s_25 := rH22.keep hV kh0 rfl s_17
            have s_26 := rH22.keepA k_q_9 rfl s_18
            have s_27 := rH22.keepA k_q_11 rfl s_19
            refine lv_iload hx hb dX12_canStorm_139 (lv_at hl 1 rfl) ?_
            refine lv_if_eq (tgt := 189) hx hb dX12_canStorm_141 (by decide) (fun c_28 => ?_) (fun c_28 => ?_)
            · have f_28 := z_eq c_28 rfl kl_0
              exact b189 H22 lc22 ls x_4 u87_h0_37 u87_h0_33 gH22 (lv_sub hl [2, 3, 4, 0, 5] rfl) k_u87_h0_33 (by omega) (by omega) (by omega) s_23 s_24
            · have f_28 := z_ne c_28 rfl kl_0
              refine lv_aload_n hx hb dX12_canStorm_144 rfl (lv_at hl 2 rfl) ?_
              refine lv_sipush (v := 193) hx hb dX12_canStorm_145 (by decide) ?_
              refine lv_iload hx hb dX12_canStorm_148 (lv_at hl 6 rfl) ?_
              refine lv_isub hx hb dX12_canStorm_150 ?_
              refine lv_topi (fun x_29 e_29 => ?_)
              have t_29 := z_sub e_29 kl_193 rfl (by omega) (by omega)
              refine zkPI (zrV (rest := []) B (c_X12_turnOf l E hV H22 gH22.1 h0 kh0 x_29 (by omega) (by omega)) cl_RX12_281 gH22.1 kh0 rfl rfl rfl rfl hl.1 rfl (Nat.le_of_ble_eq_true rfl) dX12_canStorm_151 rfl rfl ⟨rfl, rfl⟩ ⟨Nat.zero_le _, Nat.zero_le _⟩ (zO.of gH22 hh)) (fun x_30 hp_30 => ?_)
              refine lv_iload hx hb dX12_canStorm_154 (lv_at hl 6 rfl) ?_
              refine lv_icmp_ne (tgt := 189) hx hb dX12_canStorm_156 (by decide) (fun c_31 => ?_) (fun c_31 => ?_)
              · have f_31 := z_ne c_31 rfl rfl
                exact b189 H22 lc22 ls x_4 u87_h0_37 u87_h0_33 gH22 (lv_sub hl [2, 3, 4, 0, 5] rfl) k_u87_h0_33 (by omega) (by omega) (by omega) s_23 s_24
              · have f_31 := z_eq c_31 rfl rfl
                refine lv_aload_n hx hb dX12_canStorm_159 rfl (lv_at hl 2 rfl) ?_
                refine lv_sipush (v := 193) hx hb dX12_canStorm_160 (by decide) ?_
                refine lv_iload hx hb dX12_canStorm_163 (lv_at hl 6 rfl) ?_
                refine lv_isub hx hb dX12_canStorm_165 ?_
                refine lv_topi (fun x_32 e_32 => ?_)
                have t_32 := z_sub e_32 kl_193 rfl (by omega) (by omega)
                refine lv_aload_n hx hb dX12_canStorm_166 rfl (lv_at hl 2 rfl) ?_
                refine g_get B fl_RX12_77 gH22.1 kh0 rfl rfl rfl dX12_canStorm_167 s_25 ?_
                refine lv_iload hx hb dX12_canStorm_170 (lv_at hl 5 rfl) ?_
                refine g_iald (i := v35_4) (N := 60) B gH22.1 k_q_9 rfl rfl rfl rfl (by omega) (by omega) s_26 dX12_canStorm_172 ?_
                obtain ⟨q_33, s_33, k_q_33⟩ := HT.atR gH22.1 kh0 rfl (j := 12) (by decide) rfl
                obtain ⟨x_34, s_34, a_34, b_34⟩ := HT.atI gH22.1 kh0 rfl (j := 26) (by decide) rfl
                obtain ⟨x_35, s_35, a_35, b_35⟩ := HT.elI (i := x_34) (N := 2) gH22.1 k_q_33 rfl rfl rfl (by omega) (by omega) rfl
                refine zkI (zrV (rest := []) B (c_X12_findMove l E hV H22 gH22.1 h0 kh0 x_32 (by omega) (by omega) x_10 q_33 k_q_33 s_33 x_34 s_34 x_35 s_35) cl_RX12_317 gH22.1 kh0 rfl rfl rfl rfl hl.1 rfl (Nat.le_of_ble_eq_true rfl) dX12_canStorm_173 rfl rfl ⟨rfl, rfl⟩ ⟨Nat.zero_le _, Nat.zero_le _⟩ (zO.of gH22 hh)) gH22 rfl (fun x_36 H36 lc36 hp_36 gH36 rH36 => ?_)
                have s_37 := rH36.keep hV kh0 rfl s_23
                have s_38 := rH36.keep hV kh0 rfl s_24
                have s_39 := rH36.keep hV kh0 rfl s_25
                have s_40 := rH36.keepA k_q_9 rfl s_26
                have s_41 := rH36.keepA k_q_11 rfl s_27
                have s_42 := rH36.keepA k_q_33 rfl s_35
                obtain ⟨hp_36_1, hp_36_2, hp_36_3⟩ := hp_36
                refine lv_if_eq (tgt := 189) hx hb dX12_canStorm_176 (by decide) (fun c_43 => ?_) (fun c_43 => ?_)
                · have f_43 := z_eq c_43 rfl kl_0
                  exact b189 H36 lc36 ls x_4 u87_h0_37 u87_h0_33 gH36 (lv_sub hl [2, 3, 4, 0, 5] rfl) k_u87_h0_33 (by omega) (by omega) (by omega) s_37 s_38
                · have f_43 := z_ne c_43 rfl kl_0
                  refine lv_aload_n hx hb dX12_canStorm_179 rfl (lv_at hl 2 rfl) ?_
                  refine lv_sipush (v := 193) hx hb dX12_canStorm_180 (by decide) ?_
                  refine lv_iload hx hb dX12_canStorm_183 (lv_at hl 6 rfl) ?_
                  refine lv_isub hx hb dX12_canStorm_185 ?_
                  refine lv_topi (fun x_44 e_44 => ?_)
                  have t_44 := z_sub e_44 kl_193 rfl (by omega) (by omega)
                  refine zkV (zrV (rest := []) B (c_X12_makes l E hV H36 gH36.1 h0 kh0 x_44 (by omega) (by omega)) cl_RX12_332 gH36.1 kh0 rfl rfl rfl rfl hl.1 rfl (Nat.le_of_ble_eq_true rfl) dX12_canStorm_186 rfl rfl ⟨rfl, rfl⟩ ⟨Nat.zero_le _, Nat.zero_le _⟩ (zO.of gH36 hh)) gH36 rfl (fun H45 lc45 hp_45 gH45 rH45 => ?_)
                  have s_46 := rH45.keep hV kh0 rfl s_37
                  have s_47 := rH45.keep hV kh0 rfl s_38
                  have s_48 := rH45.keep hV kh0 rfl s_39
                  have s_49 := rH45.keepA k_q_9 rfl s_40
                  have s_50 := rH45.keepA k_q_11 rfl s_41
                  have s_51 := rH45.keepA k_q_33 rfl s_42
                  exact b189 H45 lc45 ls x_4 u87_h0_37 u87_h0_33 gH45 (lv_sub hl [2, 3, 4, 0, 5] rfl) k_u87_h0_33 (by omega) (by omega) (by omega) s_46 s_47
          · have f_20 := z_eq c_20 rfl kl_0
            refine lv_iconst (v := 0) hx hb dX12_canStorm_127 (by decide) ?_
            have := kl_0
            have := kl_0
            exact rtI (v := 0) B hr hlk hh hQ gH14 rfl ⟨by omega, by omega⟩ dX12_canStorm_128
      refine lv_iload hx hb dX12_canStorm_35 (lv_at hl 4 rfl) ?_
      refine lv_aload_n hx hb dX12_canStorm_37 rfl (lv_at hl 0 rfl) ?_
      refine g_getI B fl_RX12_305 gH35.1 kh0 rfl rfl rfl rfl rfl dX12_canStorm_38 (fun x_52 s_52 a_52 b_52 => ?_)
      refine lv_icmp_ge (tgt := 207) hx hb dX12_canStorm_41 (by decide) (fun c_53 => ?_) (fun c_53 => ?_)
      · have f_53 := z_le c_53 rfl rfl
        refine lv_iconst (v := 1) hx hb dX12_canStorm_207 (by decide) ?_
        have := kl_1
        have := kl_1
        exact rtI (v := 1) B hr hlk hh hQ gH35 rfl ⟨by omega, by omega⟩ dX12_canStorm_208
      · have f_53 := z_nle c_53 rfl rfl
        refine lv_aload_n hx hb dX12_canStorm_44 rfl (lv_at hl 0 rfl) ?_
        refine g_getR B fl_RX12_74 gH35.1 kh0 rfl rfl rfl rfl rfl dX12_canStorm_45 (fun q_54 s_54 k_q_54 => ?_)
        refine lv_iload hx hb dX12_canStorm_48 (lv_at hl 4 rfl) ?_
        refine g_ialdI (i := v35_4) (N := 60) B gH35.1 k_q_54 rfl rfl rfl rfl (by omega) (by omega) rfl dX12_canStorm_50 (fun x_55 s_55 a_55 b_55 => ?_)
        refine lv_istore (lv' := [(5, .int x_55), (0, .ref h0), (1, .int p0), (2, .int p1), (3, .int v35_3), (4, .int v35_4)]) hx hb dX12_canStorm_51 hl (by decide) rfl (fun ls hl => ?_)
        refine lv_iload hx hb dX12_canStorm_53 (lv_at hl 0 rfl) ?_
        refine lv_if_lt (tgt := 189) hx hb dX12_canStorm_55 (by decide) (fun c_56 => ?_) (fun c_56 => ?_)
        · have f_56 := z_lt c_56 rfl kl_0
          exact b189 H35 lc35 ls v35_3 x_52 q_54 gH35 (lv_sub hl [1, 2, 3, 4, 5] rfl) k_q_54 (by omega) (by omega) (by omega) s_52 s_54
        · have f_56 := z_nlt c_56 rfl kl_0
          refine lv_iload_n hx hb dX12_canStorm_58 rfl (lv_at hl 4 rfl) ?_
          refine lv_bipush (v := 10) hx hb dX12_canStorm_59 (by decide) ?_
          refine lv_icmp_ge (tgt := 80) hx hb dX12_canStorm_61 (by decide) (fun c_57 => ?_) (fun c_57 => ?_)
          · have f_57 := z_le c_57 kl_10 rfl
            refine lv_aload_n hx hb dX12_canStorm_80 rfl (lv_at hl 1 rfl) ?_
            refine g_getR B fl_RX12_80 gH35.1 kh0 rfl rfl rfl rfl rfl dX12_canStorm_81 (fun q_58 s_58 k_q_58 => ?_)
            refine lv_iload hx hb dX12_canStorm_84 (lv_at hl 5 rfl) ?_
            refine g_zaldI (i := v35_4) (N := 60) B gH35.1 k_q_58 rfl rfl rfl rfl (by omega) (by omega) rfl dX12_canStorm_86 (fun x_59 s_59 a_59 b_59 => ?_)
            exact b87 ls x_55 x_59 x_52 q_54 (lv_sub hl [1, 2, 3, 4, 5, 0] rfl) k_q_54 (by omega) (by omega) (by omega) (by omega) (by omega) (by omega) (by omega) s_52 s_54
          · have f_57 := z_nle c_57 kl_10 rfl
            refine lv_iload_n hx hb dX12_canStorm_64 rfl (lv_at hl 2 rfl) ?_
            refine lv_iload_n hx hb dX12_canStorm_65 rfl (lv_at hl 4 rfl) ?_
            refine lv_ishr hx hb dX12_canStorm_66 ?_
            refine lv_topi (fun x_60 e_60 => ?_)
            refine lv_iconst (v := 1) hx hb dX12_canStorm_67 (by decide) ?_
            refine lv_iand hx hb dX12_canStorm_68 ?_
            refine lv_topi (fun x_61 e_61 => ?_)
            have t_61 := z_andR e_61 kl_1 (by omega)
            refine lv_if_ne (tgt := 76) hx hb dX12_canStorm_69 (by decide) (fun c_62 => ?_) (fun c_62 => ?_)
            · have f_62 := z_ne c_62 rfl kl_0
              refine lv_iconst (v := 0) hx hb dX12_canStorm_76 (by decide) ?_
              refine lv_goto (tgt := 87) hx hb dX12_canStorm_77 (by decide) ?_
              have := kl_0
              exact b87 ls x_55 0 x_52 q_54 (lv_sub hl [1, 2, 3, 4, 5, 0] rfl) k_q_54 (by omega) (by omega) (by omega) (by omega) (by omega) (by omega) (by omega) s_52 s_54
            · have f_62 := z_eq c_62 rfl kl_0
              refine lv_iconst (v := 1) hx hb dX12_canStorm_72 (by decide) ?_
              refine lv_goto (tgt := 87) hx hb dX12_canStorm_73 (by decide) ?_
              have := kl_1
              exact b87 ls x_55 1 x_52 q_54 (lv_sub hl [1, 2, 3, 4, 5, 0] rfl) k_q_54 (by omega) (by omega) (by omega) (by omega) (by omega) (by omega) (by omega) s_52 s_54
  refine lv_aload_n hx hb dX12_canStorm_0 rfl (lv_at hl 0 rfl) ?_
  refine lv_aload_n hx hb dX12_canStorm_1 rfl (lv_at hl 0 rfl) ?_
  refine lv_aload_n hx hb dX12_canStorm_2 rfl (lv_at hl 0 rfl) ?_
  refine g_getI B fl_RX12_217 hT0 kh0 rfl rfl rfl rfl rfl dX12_canStorm_3 (fun x_63 s_63 a_63 b_63 => ?_)
  refine zkPI (zrV (rest := [.ref h0]) B (c_X12_firstOf l E hV H0 hT0 h0 kh0 x_63 (by omega) (by omega)) cl_RX12_207 hT0 kh0 rfl rfl rfl rfl hl.1 rfl (Nat.le_of_ble_eq_true rfl) dX12_canStorm_6 rfl rfl ⟨rfl, rfl⟩ ⟨Nat.zero_le _, Nat.zero_le _⟩ (zO.of hG0 hh)) (fun x_64 hp_64 => ?_)
  obtain ⟨hp_64_1, hp_64_2⟩ := hp_64
  refine lv_sipush (v := 192) hx hb dX12_canStorm_9 (by decide) ?_
  have := kl_192
  refine zkV (zrV (rest := []) B (c_X12_copy l E hV H0 hT0 h0 kh0 x_64 (by omega) (by omega) 192 (by omega) (by omega)) cl_RX12_326 hT0 kh0 rfl rfl rfl rfl hl.1 rfl (Nat.le_of_ble_eq_true rfl) dX12_canStorm_12 rfl rfl ⟨rfl, rfl⟩ ⟨Nat.zero_le _, Nat.zero_le _⟩ (zO.of hG0 hh)) hG0 rfl (fun H65 lc65 hp_65 gH65 rH65 => ?_)
  have s_66 := rH65.keep hV kh0 rfl s_63
  refine lv_aload_n hx hb dX12_canStorm_15 rfl (lv_at hl 0 rfl) ?_
  refine lv_aload_n hx hb dX12_canStorm_16 rfl (lv_at hl 0 rfl) ?_
  refine lv_aload_n hx hb dX12_canStorm_17 rfl (lv_at hl 0 rfl) ?_
  refine g_get B fl_RX12_217 gH65.1 kh0 rfl rfl rfl dX12_canStorm_18 s_66 ?_
  refine zkPI (zrV (rest := [.ref h0]) B (c_X12_firstOf l E hV H65 gH65.1 h0 kh0 x_63 (by omega) (by omega)) cl_RX12_207 gH65.1 kh0 rfl rfl rfl rfl hl.1 rfl (Nat.le_of_ble_eq_true rfl) dX12_canStorm_21 rfl rfl ⟨rfl, rfl⟩ ⟨Nat.zero_le _, Nat.zero_le _⟩ (zO.of gH65 hh)) (fun x_67 hp_67 => ?_)
  obtain ⟨hp_67_1, hp_67_2⟩ := hp_67
  refine lv_sipush (v := 193) hx hb dX12_canStorm_24 (by decide) ?_
  have := kl_193
  refine zkV (zrV (rest := []) B (c_X12_copy l E hV H65 gH65.1 h0 kh0 x_67 (by omega) (by omega) 193 (by omega) (by omega)) cl_RX12_326 gH65.1 kh0 rfl rfl rfl rfl hl.1 rfl (Nat.le_of_ble_eq_true rfl) dX12_canStorm_27 rfl rfl ⟨rfl, rfl⟩ ⟨Nat.zero_le _, Nat.zero_le _⟩ (zO.of gH65 hh)) gH65 rfl (fun H68 lc68 hp_68 gH68 rH68 => ?_)
  refine lv_iconst (v := 0) hx hb dX12_canStorm_30 (by decide) ?_
  refine lv_istore_n (lv' := [(3, .int 0), (0, .ref h0), (1, .int p0), (2, .int p1)]) hx hb dX12_canStorm_31 rfl hl (by decide) rfl (fun ls hl => ?_)
  refine lv_iconst (v := 0) hx hb dX12_canStorm_32 (by decide) ?_
  refine lv_istore (lv' := [(4, .int 0), (3, .int 0), (0, .ref h0), (1, .int p0), (2, .int p1)]) hx hb dX12_canStorm_33 hl (by decide) rfl (fun ls hl => ?_)
  have := kl_0
  have := kl_0
  exact b35 61 H68 lc68 ls 0 0 (by omega) gH68 (lv_sub hl [2, 3, 4, 1, 0] rfl) (by omega) (by omega)

theorem dX12_stormFlashes_0 : decode cX12_stormFlashes 0 = .ok (.iconst 0, 1) := by decide +kernel
theorem dX12_stormFlashes_1 : decode cX12_stormFlashes 1 = .ok (.istore_n 1, 1) := by decide +kernel
theorem dX12_stormFlashes_2 : decode cX12_stormFlashes 2 = .ok (.iconst 0, 1) := by decide +kernel
theorem dX12_stormFlashes_3 : decode cX12_stormFlashes 3 = .ok (.istore_n 2, 1) := by decide +kernel
theorem dX12_stormFlashes_4 : decode cX12_stormFlashes 4 = .ok (.iload_n 2, 1) := by decide +kernel
theorem dX12_stormFlashes_5 : decode cX12_stormFlashes 5 = .ok (.aload_n 0, 1) := by decide +kernel
theorem dX12_stormFlashes_6 : decode cX12_stormFlashes 6 = .ok (.getfield 305, 3) := by decide +kernel
theorem dX12_stormFlashes_9 : decode cX12_stormFlashes 9 = .ok (.if_icmp .ge 26, 3) := by decide +kernel
theorem dX12_stormFlashes_12 : decode cX12_stormFlashes 12 = .ok (.iload_n 1, 1) := by decide +kernel
theorem dX12_stormFlashes_13 : decode cX12_stormFlashes 13 = .ok (.aload_n 0, 1) := by decide +kernel
theorem dX12_stormFlashes_14 : decode cX12_stormFlashes 14 = .ok (.getfield 74, 3) := by decide +kernel
theorem dX12_stormFlashes_17 : decode cX12_stormFlashes 17 = .ok (.iload_n 2, 1) := by decide +kernel
theorem dX12_stormFlashes_18 : decode cX12_stormFlashes 18 = .ok (.iaload, 1) := by decide +kernel
theorem dX12_stormFlashes_19 : decode cX12_stormFlashes 19 = .ok (.ifCond .lt 7, 3) := by decide +kernel
theorem dX12_stormFlashes_22 : decode cX12_stormFlashes 22 = .ok (.iconst 1, 1) := by decide +kernel
theorem dX12_stormFlashes_23 : decode cX12_stormFlashes 23 = .ok (.goto 4, 3) := by decide +kernel
theorem dX12_stormFlashes_26 : decode cX12_stormFlashes 26 = .ok (.iconst 0, 1) := by decide +kernel
theorem dX12_stormFlashes_27 : decode cX12_stormFlashes 27 = .ok (.iadd, 1) := by decide +kernel
theorem dX12_stormFlashes_28 : decode cX12_stormFlashes 28 = .ok (.istore_n 1, 1) := by decide +kernel
theorem dX12_stormFlashes_29 : decode cX12_stormFlashes 29 = .ok (.iinc 2 1, 3) := by decide +kernel
theorem dX12_stormFlashes_32 : decode cX12_stormFlashes 32 = .ok (.goto (-28), 3) := by decide +kernel
theorem dX12_stormFlashes_35 : decode cX12_stormFlashes 35 = .ok (.iload_n 1, 1) := by decide +kernel
theorem dX12_stormFlashes_36 : decode cX12_stormFlashes 36 = .ok (.bipush 10, 2) := by decide +kernel
theorem dX12_stormFlashes_38 : decode cX12_stormFlashes 38 = .ok (.if_icmp .ge 7, 3) := by decide +kernel
theorem dX12_stormFlashes_41 : decode cX12_stormFlashes 41 = .ok (.iload_n 1, 1) := by decide +kernel
theorem dX12_stormFlashes_42 : decode cX12_stormFlashes 42 = .ok (.goto 5, 3) := by decide +kernel
theorem dX12_stormFlashes_45 : decode cX12_stormFlashes 45 = .ok (.bipush 10, 2) := by decide +kernel
theorem dX12_stormFlashes_47 : decode cX12_stormFlashes 47 = .ok (.ireturn, 1) := by decide +kernel
def rm_X12_stormFlashes : Room := { frames := 0, cells := 0, slots := 0, locals := 0 }
set_option maxRecDepth 100000 in
set_option maxHeartbeats 4000000 in
theorem c_X12_stormFlashes (l : Launch) (E : zE) (hV : zV E) (H0 : Heap) (hT0 : HT E H0) (h0 : Nat) (kh0 : eK E h0 = 13) : Met l yX12_stormFlashes (zws yX12_stormFlashes cX12_stormFlashes 3 (some .int)) rm_X12_stormFlashes (zP E H0 [.ref h0]) (zPI (fun r => 0 ≤ r.toInt ∧ r.toInt ≤ 10)) 0 0 (fun _ => False) := by
  refine zEnt (by decide) (Nat.le_of_ble_eq_true rfl) (fun p e s m args below meth c ls Q B hr hlk hh hQ hl => ?_)
  have hx := B.1
  have hb := B.2.1
  have hl : lv_has ls 3 [(0, .ref h0)] := hl
  have b4 : ∀ (n4 : Nat) (ls : Array Slot) (v4_1 : Int32) (v4_2 : Int32), 60 - v4_2.toInt < (n4 : Int) → lv_has ls 3 [(0, .ref h0), (1, .int v4_1), (2, .int v4_2)] → 0 ≤ v4_1.toInt → v4_1.toInt ≤ 60 → 0 ≤ v4_2.toInt → v4_2.toInt ≤ 60 → v4_1.toInt ≤ v4_2.toInt → W p l e rm_X12_stormFlashes s m args below meth c H0 [] 0 0 Q (F0 m 4 ls []) := by
    intro n4
    induction n4 with
    | zero =>
      intro ls v4_1 v4_2 hm4 hl f4_1 f4_2 f4_3 f4_4 f4_5
      exact absurd hm4 (by omega)
    | succ n4 ih4 =>
      intro ls v4_1 v4_2 hm4 hl f4_1 f4_2 f4_3 f4_4 f4_5
      have b27 : ∀ (ls : Array Slot) (w27_0 : Int32) (u27_h0_37 : Int32) (u27_h0_33 : Nat), lv_has ls 3 [(0, .ref h0), (2, .int v4_2)] → eK E u27_h0_33 = 77 → v4_2.toInt ≤ 59 → 0 ≤ w27_0.toInt → w27_0.toInt ≤ 1 → 1 ≤ u27_h0_37.toInt → u27_h0_37.toInt ≤ 60 → sl H0 h0 (zix E 13 37) = some (.int u27_h0_37) → sl H0 h0 (zix E 13 33) = some (.ref u27_h0_33) → W p l e rm_X12_stormFlashes s m args below meth c H0 [] 0 0 Q (F0 m 27 ls [.int w27_0, .int v4_1]) := by
        intro ls w27_0 u27_h0_37 u27_h0_33 hl k_u27_h0_33 f27_1 f27_2 f27_3 f27_4 f27_5 s27_u27_h0_37 s27_u27_h0_33
        refine lv_iadd hx hb dX12_stormFlashes_27 ?_
        refine lv_topi (fun x_1 e_1 => ?_)
        have t_1 := z_add e_1 rfl rfl (by omega) (by omega)
        refine lv_istore_n (lv' := [(1, .int x_1), (0, .ref h0), (2, .int v4_2)]) hx hb dX12_stormFlashes_28 rfl hl (by decide) rfl (fun ls hl => ?_)
        obtain ⟨x_2, e_2⟩ : ∃ y : Int32, (v4_2 : Int32) + Int32.ofInt 1 = y := ⟨_, rfl⟩
        refine lv_iinc (v := x_2) (lv' := [(2, .int x_2), (1, .int x_1), (0, .ref h0)]) hx hb dX12_stormFlashes_29 hl (k := 2) rfl e_2 (by decide) rfl (fun ls hl => ?_)
        have t_2 := z_inc2 e_2 rfl (by decide) (by omega) (by omega)
        refine lv_goto (tgt := 4) hx hb dX12_stormFlashes_32 (by decide) ?_
        exact ih4 ls x_1 x_2 (by omega) (lv_sub hl [2, 1, 0] rfl) (by omega) (by omega) (by omega) (by omega) (by omega)
      refine lv_iload_n hx hb dX12_stormFlashes_4 rfl (lv_at hl 2 rfl) ?_
      refine lv_aload_n hx hb dX12_stormFlashes_5 rfl (lv_at hl 0 rfl) ?_
      refine g_getI B fl_RX12_305 hT0 kh0 rfl rfl rfl rfl rfl dX12_stormFlashes_6 (fun x_3 s_3 a_3 b_3 => ?_)
      refine lv_icmp_ge (tgt := 35) hx hb dX12_stormFlashes_9 (by decide) (fun c_4 => ?_) (fun c_4 => ?_)
      · have f_4 := z_le c_4 rfl rfl
        refine lv_iload_n hx hb dX12_stormFlashes_35 rfl (lv_at hl 1 rfl) ?_
        refine lv_bipush (v := 10) hx hb dX12_stormFlashes_36 (by decide) ?_
        refine lv_icmp_ge (tgt := 45) hx hb dX12_stormFlashes_38 (by decide) (fun c_5 => ?_) (fun c_5 => ?_)
        · have f_5 := z_le c_5 kl_10 rfl
          refine lv_bipush (v := 10) hx hb dX12_stormFlashes_45 (by decide) ?_
          have := kl_10
          have := kl_10
          exact rtPI (v := 10) B hr hlk hh hQ rfl ⟨by omega, by omega⟩ dX12_stormFlashes_47
        · have f_5 := z_nle c_5 kl_10 rfl
          refine lv_iload_n hx hb dX12_stormFlashes_41 rfl (lv_at hl 1 rfl) ?_
          refine lv_goto (tgt := 47) hx hb dX12_stormFlashes_42 (by decide) ?_
          exact rtPI (v := v4_1) B hr hlk hh hQ rfl ⟨by omega, by omega⟩ dX12_stormFlashes_47
      · have f_4 := z_nle c_4 rfl rfl
        refine lv_iload_n hx hb dX12_stormFlashes_12 rfl (lv_at hl 1 rfl) ?_
        refine lv_aload_n hx hb dX12_stormFlashes_13 rfl (lv_at hl 0 rfl) ?_
        refine g_getR B fl_RX12_74 hT0 kh0 rfl rfl rfl rfl rfl dX12_stormFlashes_14 (fun q_6 s_6 k_q_6 => ?_)
        refine lv_iload_n hx hb dX12_stormFlashes_17 rfl (lv_at hl 2 rfl) ?_
        refine g_ialdI (i := v4_2) (N := 60) B hT0 k_q_6 rfl rfl rfl rfl (by omega) (by omega) rfl dX12_stormFlashes_18 (fun x_7 s_7 a_7 b_7 => ?_)
        refine lv_if_lt (tgt := 26) hx hb dX12_stormFlashes_19 (by decide) (fun c_8 => ?_) (fun c_8 => ?_)
        · have f_8 := z_lt c_8 rfl kl_0
          refine lv_iconst (v := 0) hx hb dX12_stormFlashes_26 (by decide) ?_
          have := kl_0
          exact b27 ls 0 x_3 q_6 (lv_sub hl [0, 2] rfl) k_q_6 (by omega) (by omega) (by omega) (by omega) (by omega) s_3 s_6
        · have f_8 := z_nlt c_8 rfl kl_0
          refine lv_iconst (v := 1) hx hb dX12_stormFlashes_22 (by decide) ?_
          refine lv_goto (tgt := 27) hx hb dX12_stormFlashes_23 (by decide) ?_
          have := kl_1
          exact b27 ls 1 x_3 q_6 (lv_sub hl [0, 2] rfl) k_q_6 (by omega) (by omega) (by omega) (by omega) (by omega) s_3 s_6
  refine lv_iconst (v := 0) hx hb dX12_stormFlashes_0 (by decide) ?_
  refine lv_istore_n (lv' := [(1, .int 0), (0, .ref h0)]) hx hb dX12_stormFlashes_1 rfl hl (by decide) rfl (fun ls hl => ?_)
  refine lv_iconst (v := 0) hx hb dX12_stormFlashes_2 (by decide) ?_
  refine lv_istore_n (lv' := [(2, .int 0), (1, .int 0), (0, .ref h0)]) hx hb dX12_stormFlashes_3 rfl hl (by decide) rfl (fun ls hl => ?_)
  have := kl_0
  have := kl_0
  exact b4 61 ls 0 0 (by omega) (lv_sub hl [2, 1, 0] rfl) (by omega) (by omega) (by omega) (by omega) (by omega)

theorem dX12_storms_0 : decode cX12_storms 0 = .ok (.iload_n 1, 1) := by decide +kernel
theorem dX12_storms_1 : decode cX12_storms 1 = .ok (.iconst 0, 1) := by decide +kernel
theorem dX12_storms_2 : decode cX12_storms 2 = .ok (.iconst 3, 1) := by decide +kernel
theorem dX12_storms_3 : decode cX12_storms 3 = .ok (.invokestatic 260, 3) := by decide +kernel
theorem dX12_storms_6 : decode cX12_storms 6 = .ok (.ifCond .ne 6, 3) := by decide +kernel
theorem dX12_storms_9 : decode cX12_storms 9 = .ok (.bipush (-2), 2) := by decide +kernel
theorem dX12_storms_11 : decode cX12_storms 11 = .ok (.ireturn, 1) := by decide +kernel
theorem dX12_storms_12 : decode cX12_storms 12 = .ok (.iconst 1, 1) := by decide +kernel
theorem dX12_storms_13 : decode cX12_storms 13 = .ok (.aload_n 0, 1) := by decide +kernel
theorem dX12_storms_14 : decode cX12_storms 14 = .ok (.invokevirtual 376, 3) := by decide +kernel
theorem dX12_storms_17 : decode cX12_storms 17 = .ok (.ishl, 1) := by decide +kernel
theorem dX12_storms_18 : decode cX12_storms 18 = .ok (.iconst 1, 1) := by decide +kernel
theorem dX12_storms_19 : decode cX12_storms 19 = .ok (.isub, 1) := by decide +kernel
theorem dX12_storms_20 : decode cX12_storms 20 = .ok (.istore_n 3, 1) := by decide +kernel
theorem dX12_storms_21 : decode cX12_storms 21 = .ok (.iconst 0, 1) := by decide +kernel
theorem dX12_storms_22 : decode cX12_storms 22 = .ok (.istore 4, 2) := by decide +kernel
theorem dX12_storms_24 : decode cX12_storms 24 = .ok (.iload_n 3, 1) := by decide +kernel
theorem dX12_storms_25 : decode cX12_storms 25 = .ok (.istore 5, 2) := by decide +kernel
theorem dX12_storms_27 : decode cX12_storms 27 = .ok (.iconst 0, 1) := by decide +kernel
theorem dX12_storms_28 : decode cX12_storms 28 = .ok (.istore 6, 2) := by decide +kernel
theorem dX12_storms_30 : decode cX12_storms 30 = .ok (.iconst (-1), 1) := by decide +kernel
theorem dX12_storms_31 : decode cX12_storms 31 = .ok (.istore 7, 2) := by decide +kernel
theorem dX12_storms_33 : decode cX12_storms 33 = .ok (.iconst 0, 1) := by decide +kernel
theorem dX12_storms_34 : decode cX12_storms 34 = .ok (.istore 8, 2) := by decide +kernel
theorem dX12_storms_36 : decode cX12_storms 36 = .ok (.iload 8, 2) := by decide +kernel
theorem dX12_storms_38 : decode cX12_storms 38 = .ok (.iload_n 3, 1) := by decide +kernel
theorem dX12_storms_39 : decode cX12_storms 39 = .ok (.if_icmp .gt 61, 3) := by decide +kernel
theorem dX12_storms_42 : decode cX12_storms 42 = .ok (.aload_n 0, 1) := by decide +kernel
theorem dX12_storms_43 : decode cX12_storms 43 = .ok (.iload 8, 2) := by decide +kernel
theorem dX12_storms_45 : decode cX12_storms 45 = .ok (.iload_n 2, 1) := by decide +kernel
theorem dX12_storms_46 : decode cX12_storms 46 = .ok (.invokevirtual 379, 3) := by decide +kernel
theorem dX12_storms_49 : decode cX12_storms 49 = .ok (.ifCond .ne 6, 3) := by decide +kernel
theorem dX12_storms_52 : decode cX12_storms 52 = .ok (.goto 42, 3) := by decide +kernel
theorem dX12_storms_55 : decode cX12_storms 55 = .ok (.iinc 4 1, 3) := by decide +kernel
theorem dX12_storms_58 : decode cX12_storms 58 = .ok (.iload 5, 2) := by decide +kernel
theorem dX12_storms_60 : decode cX12_storms 60 = .ok (.iload 8, 2) := by decide +kernel
theorem dX12_storms_62 : decode cX12_storms 62 = .ok (.iand, 1) := by decide +kernel
theorem dX12_storms_63 : decode cX12_storms 63 = .ok (.istore 5, 2) := by decide +kernel
theorem dX12_storms_65 : decode cX12_storms 65 = .ok (.iload 6, 2) := by decide +kernel
theorem dX12_storms_67 : decode cX12_storms 67 = .ok (.iload 8, 2) := by decide +kernel
theorem dX12_storms_69 : decode cX12_storms 69 = .ok (.ior, 1) := by decide +kernel
theorem dX12_storms_70 : decode cX12_storms 70 = .ok (.istore 6, 2) := by decide +kernel
theorem dX12_storms_72 : decode cX12_storms 72 = .ok (.iload 7, 2) := by decide +kernel
theorem dX12_storms_74 : decode cX12_storms 74 = .ok (.ifCond .lt 13, 3) := by decide +kernel
theorem dX12_storms_77 : decode cX12_storms 77 = .ok (.iload 8, 2) := by decide +kernel
theorem dX12_storms_79 : decode cX12_storms 79 = .ok (.invokestatic 293, 3) := by decide +kernel
theorem dX12_storms_82 : decode cX12_storms 82 = .ok (.iload 7, 2) := by decide +kernel
theorem dX12_storms_84 : decode cX12_storms 84 = .ok (.if_icmp .ge 10, 3) := by decide +kernel
theorem dX12_storms_87 : decode cX12_storms 87 = .ok (.iload 8, 2) := by decide +kernel
theorem dX12_storms_89 : decode cX12_storms 89 = .ok (.invokestatic 293, 3) := by decide +kernel
theorem dX12_storms_92 : decode cX12_storms 92 = .ok (.istore 7, 2) := by decide +kernel
theorem dX12_storms_94 : decode cX12_storms 94 = .ok (.iinc 8 1, 3) := by decide +kernel
theorem dX12_storms_97 : decode cX12_storms 97 = .ok (.goto (-61), 3) := by decide +kernel
theorem dX12_storms_100 : decode cX12_storms 100 = .ok (.iload_n 1, 1) := by decide +kernel
theorem dX12_storms_101 : decode cX12_storms 101 = .ok (.ifCond .ne 6, 3) := by decide +kernel
theorem dX12_storms_104 : decode cX12_storms 104 = .ok (.iload 4, 2) := by decide +kernel
theorem dX12_storms_106 : decode cX12_storms 106 = .ok (.ireturn, 1) := by decide +kernel
theorem dX12_storms_107 : decode cX12_storms 107 = .ok (.iload_n 1, 1) := by decide +kernel
theorem dX12_storms_108 : decode cX12_storms 108 = .ok (.iconst 3, 1) := by decide +kernel
theorem dX12_storms_109 : decode cX12_storms 109 = .ok (.if_icmp .ne 6, 3) := by decide +kernel
theorem dX12_storms_112 : decode cX12_storms 112 = .ok (.iload 7, 2) := by decide +kernel
theorem dX12_storms_114 : decode cX12_storms 114 = .ok (.ireturn, 1) := by decide +kernel
theorem dX12_storms_115 : decode cX12_storms 115 = .ok (.iload 4, 2) := by decide +kernel
theorem dX12_storms_117 : decode cX12_storms 117 = .ok (.ifCond .ne 7, 3) := by decide +kernel
theorem dX12_storms_120 : decode cX12_storms 120 = .ok (.iconst 0, 1) := by decide +kernel
theorem dX12_storms_121 : decode cX12_storms 121 = .ok (.goto 19, 3) := by decide +kernel
theorem dX12_storms_124 : decode cX12_storms 124 = .ok (.iload_n 1, 1) := by decide +kernel
theorem dX12_storms_125 : decode cX12_storms 125 = .ok (.iconst 1, 1) := by decide +kernel
theorem dX12_storms_126 : decode cX12_storms 126 = .ok (.if_icmp .ne 8, 3) := by decide +kernel
theorem dX12_storms_129 : decode cX12_storms 129 = .ok (.iload 5, 2) := by decide +kernel
theorem dX12_storms_131 : decode cX12_storms 131 = .ok (.goto 9, 3) := by decide +kernel
theorem dX12_storms_134 : decode cX12_storms 134 = .ok (.iload_n 3, 1) := by decide +kernel
theorem dX12_storms_135 : decode cX12_storms 135 = .ok (.iload 6, 2) := by decide +kernel
theorem dX12_storms_137 : decode cX12_storms 137 = .ok (.iconst (-1), 1) := by decide +kernel
theorem dX12_storms_138 : decode cX12_storms 138 = .ok (.ixor, 1) := by decide +kernel
theorem dX12_storms_139 : decode cX12_storms 139 = .ok (.iand, 1) := by decide +kernel
theorem dX12_storms_140 : decode cX12_storms 140 = .ok (.ireturn, 1) := by decide +kernel
def rm_X12_storms : Room := { frames := 6, cells := 0, slots := 0, locals := 154 }
abbrev wS_X12_storms : List (Nat × Nat) := [(13, 28), (13, 29), (60, 99)]
set_option maxRecDepth 100000 in
set_option maxHeartbeats 4000000 in
theorem c_X12_storms (l : Launch) (E : zE) (hV : zV E) (H0 : Heap) (hT0 : HT E H0) (h0 : Nat) (kh0 : eK E h0 = 13) (p0 : Int32) (p1 : Int32) : Met l yX12_storms (zws yX12_storms cX12_storms 9 (some .int)) rm_X12_storms (zP E H0 [.ref h0, .int p0, .int p1]) (zQI E E wS_X12_storms (fun r H1 => True)) 0 0 (zfr E) := by
  refine zEnt (by decide) (Nat.le_of_ble_eq_true rfl) (fun p e s m args below meth c ls Q B hr hlk hh hQ hl => ?_)
  have hx := B.1
  have hb := B.2.1
  have hG0 : zG E wS_X12_storms H0 H0 [] := zG.rf hT0
  have hl : lv_has ls 9 [(0, .ref h0), (1, .int p0), (2, .int p1)] := hl
  have b36 : ∀ (n36 : Nat) (H36 : Heap) (lc36 : List Loc) (ls : Array Slot) (v36_3 : Int32) (v36_4 : Int32) (v36_5 : Int32) (v36_6 : Int32) (v36_7 : Int32) (v36_8 : Int32), 1024 - v36_8.toInt < (n36 : Int) → zG E wS_X12_storms H0 H36 lc36 → lv_has ls 9 [(0, .ref h0), (1, .int p0), (2, .int p1), (3, .int v36_3), (4, .int v36_4), (5, .int v36_5), (6, .int v36_6), (7, .int v36_7), (8, .int v36_8)] → 0 ≤ p0.toInt → p0.toInt ≤ 3 → 0 ≤ v36_3.toInt → v36_3.toInt ≤ 1023 → 0 ≤ v36_5.toInt → v36_5.toInt ≤ 1023 → 0 ≤ v36_6.toInt → v36_6.toInt ≤ 1023 → 0 ≤ v36_8.toInt → v36_8.toInt ≤ 1024 → W p l e rm_X12_storms s m args below meth c H36 lc36 0 0 Q (F0 m 36 ls []) := by
    intro n36
    induction n36 with
    | zero =>
      intro H36 lc36 ls v36_3 v36_4 v36_5 v36_6 v36_7 v36_8 hm36 gH36 hl f36_1 f36_2 f36_3 f36_4 f36_5 f36_6 f36_7 f36_8 f36_9 f36_10
      exact absurd hm36 (by omega)
    | succ n36 ih36 =>
      intro H36 lc36 ls v36_3 v36_4 v36_5 v36_6 v36_7 v36_8 hm36 gH36 hl f36_1 f36_2 f36_3 f36_4 f36_5 f36_6 f36_7 f36_8 f36_9 f36_10
      have b94 : ∀ (H94 : Heap) (lc94 : List Loc) (ls : Array Slot) (v94_4 : Int32) (v94_5 : Int32) (v94_6 : Int32) (v94_7 : Int32), zG E wS_X12_storms H0 H94 lc94 → lv_has ls 9 [(0, .ref h0), (1, .int p0), (2, .int p1), (3, .int v36_3), (4, .int v94_4), (5, .int v94_5), (6, .int v94_6), (7, .int v94_7), (8, .int v36_8)] → 0 ≤ v94_5.toInt → v94_5.toInt ≤ 1023 → 0 ≤ v94_6.toInt → v94_6.toInt ≤ 1023 → v36_8.toInt ≤ 1023 → W p l e rm_X12_storms s m args below meth c H94 lc94 0 0 Q (F0 m 94 ls []) := by
        intro H94 lc94 ls v94_4 v94_5 v94_6 v94_7 gH94 hl f94_1 f94_2 f94_3 f94_4 f94_5
        obtain ⟨x_1, e_1⟩ : ∃ y : Int32, (v36_8 : Int32) + Int32.ofInt 1 = y := ⟨_, rfl⟩
        refine lv_iinc (v := x_1) (lv' := [(8, .int x_1), (0, .ref h0), (1, .int p0), (2, .int p1), (3, .int v36_3), (4, .int v94_4), (5, .int v94_5), (6, .int v94_6), (7, .int v94_7)]) hx hb dX12_storms_94 hl (k := 8) rfl e_1 (by decide) rfl (fun ls hl => ?_)
        have t_1 := z_inc2 e_1 rfl (by decide) (by omega) (by omega)
        refine lv_goto (tgt := 36) hx hb dX12_storms_97 (by decide) ?_
        exact ih36 H94 lc94 ls v36_3 v94_4 v94_5 v94_6 v94_7 x_1 (by omega) gH94 (lv_sub hl [1, 2, 3, 4, 5, 6, 7, 8, 0] rfl) (by omega) (by omega) (by omega) (by omega) (by omega) (by omega) (by omega) (by omega) (by omega) (by omega)
      have b87 : ∀ (H87 : Heap) (lc87 : List Loc) (ls : Array Slot) (v87_4 : Int32) (v87_5 : Int32) (v87_6 : Int32), zG E wS_X12_storms H0 H87 lc87 → lv_has ls 9 [(0, .ref h0), (1, .int p0), (2, .int p1), (3, .int v36_3), (4, .int v87_4), (5, .int v87_5), (6, .int v87_6), (8, .int v36_8)] → 0 ≤ v87_5.toInt → v87_5.toInt ≤ 1023 → 0 ≤ v87_6.toInt → v87_6.toInt ≤ 1023 → v36_8.toInt ≤ 1023 → W p l e rm_X12_storms s m args below meth c H87 lc87 0 0 Q (F0 m 87 ls []) := by
        intro H87 lc87 ls v87_4 v87_5 v87_6 gH87 hl f87_1 f87_2 f87_3 f87_4 f87_5
        refine lv_iload hx hb dX12_storms_87 (lv_at hl 7 rfl) ?_
        refine zkPI (zrS (rest := []) B (c_X12_bitsOf l E hV H87 gH87.1 v36_8) cs_RX12_293 rfl hl.1 rfl (Nat.le_of_ble_eq_true rfl) dX12_storms_89 rfl rfl ⟨rfl, rfl⟩ ⟨Nat.zero_le _, Nat.zero_le _⟩ (zO.of gH87 hh)) (fun x_2 hp_2 => ?_)
        refine lv_istore (lv' := [(7, .int x_2), (0, .ref h0), (1, .int p0), (2, .int p1), (3, .int v36_3), (4, .int v87_4), (5, .int v87_5), (6, .int v87_6), (8, .int v36_8)]) hx hb dX12_storms_92 hl (by decide) rfl (fun ls hl => ?_)
        exact b94 H87 lc87 ls v87_4 v87_5 v87_6 x_2 gH87 (lv_sub hl [1, 2, 3, 4, 5, 6, 7, 0, 8] rfl) (by omega) (by omega) (by omega) (by omega) (by omega)
      refine lv_iload hx hb dX12_storms_36 (lv_at hl 8 rfl) ?_
      refine lv_iload_n hx hb dX12_storms_38 rfl (lv_at hl 3 rfl) ?_
      refine lv_icmp_gt (tgt := 100) hx hb dX12_storms_39 (by decide) (fun c_3 => ?_) (fun c_3 => ?_)
      · have f_3 := z_lt c_3 rfl rfl
        refine lv_iload_n hx hb dX12_storms_100 rfl (lv_at hl 1 rfl) ?_
        refine lv_if_ne (tgt := 107) hx hb dX12_storms_101 (by decide) (fun c_4 => ?_) (fun c_4 => ?_)
        · have f_4 := z_ne c_4 rfl kl_0
          refine lv_iload_n hx hb dX12_storms_107 rfl (lv_at hl 1 rfl) ?_
          refine lv_iconst (v := 3) hx hb dX12_storms_108 (by decide) ?_
          refine lv_icmp_ne (tgt := 115) hx hb dX12_storms_109 (by decide) (fun c_5 => ?_) (fun c_5 => ?_)
          · have f_5 := z_ne c_5 rfl kl_3
            refine lv_iload hx hb dX12_storms_115 (lv_at hl 4 rfl) ?_
            refine lv_if_ne (tgt := 124) hx hb dX12_storms_117 (by decide) (fun c_6 => ?_) (fun c_6 => ?_)
            · have f_6 := z_ne c_6 rfl kl_0
              refine lv_iload_n hx hb dX12_storms_124 rfl (lv_at hl 1 rfl) ?_
              refine lv_iconst (v := 1) hx hb dX12_storms_125 (by decide) ?_
              refine lv_icmp_ne (tgt := 134) hx hb dX12_storms_126 (by decide) (fun c_7 => ?_) (fun c_7 => ?_)
              · have f_7 := z_ne c_7 rfl kl_1
                refine lv_iload_n hx hb dX12_storms_134 rfl (lv_at hl 3 rfl) ?_
                refine lv_iload hx hb dX12_storms_135 (lv_at hl 6 rfl) ?_
                refine lv_iconst (v := (-1)) hx hb dX12_storms_137 (by decide) ?_
                refine lv_ixor hx hb dX12_storms_138 ?_
                refine lv_topi (fun x_8 e_8 => ?_)
                refine lv_iand hx hb dX12_storms_139 ?_
                refine lv_topi (fun x_9 e_9 => ?_)
                have t_9 := z_andL e_9 rfl (by omega)
                exact rtI (v := x_9) B hr hlk hh hQ gH36 rfl trivial dX12_storms_140
              · have f_7 := z_eq c_7 rfl kl_1
                refine lv_iload hx hb dX12_storms_129 (lv_at hl 5 rfl) ?_
                refine lv_goto (tgt := 140) hx hb dX12_storms_131 (by decide) ?_
                exact rtI (v := v36_5) B hr hlk hh hQ gH36 rfl trivial dX12_storms_140
            · have f_6 := z_eq c_6 rfl kl_0
              refine lv_iconst (v := 0) hx hb dX12_storms_120 (by decide) ?_
              refine lv_goto (tgt := 140) hx hb dX12_storms_121 (by decide) ?_
              have := kl_0
              have := kl_0
              exact rtI (v := 0) B hr hlk hh hQ gH36 rfl trivial dX12_storms_140
          · have f_5 := z_eq c_5 rfl kl_3
            refine lv_iload hx hb dX12_storms_112 (lv_at hl 7 rfl) ?_
            exact rtI (v := v36_7) B hr hlk hh hQ gH36 rfl trivial dX12_storms_114
        · have f_4 := z_eq c_4 rfl kl_0
          refine lv_iload hx hb dX12_storms_104 (lv_at hl 4 rfl) ?_
          exact rtI (v := v36_4) B hr hlk hh hQ gH36 rfl trivial dX12_storms_106
      · have f_3 := z_nlt c_3 rfl rfl
        refine lv_aload_n hx hb dX12_storms_42 rfl (lv_at hl 0 rfl) ?_
        refine lv_iload hx hb dX12_storms_43 (lv_at hl 8 rfl) ?_
        refine lv_iload_n hx hb dX12_storms_45 rfl (lv_at hl 2 rfl) ?_
        refine zkI (zrV (rest := []) B (c_X12_canStorm l E hV H36 gH36.1 h0 kh0 v36_8 p1) cl_RX12_379 gH36.1 kh0 rfl rfl rfl rfl hl.1 rfl (Nat.le_of_ble_eq_true rfl) dX12_storms_46 rfl rfl ⟨rfl, rfl⟩ ⟨Nat.zero_le _, Nat.zero_le _⟩ (zO.of gH36 hh)) gH36 rfl (fun x_10 H10 lc10 hp_10 gH10 rH10 => ?_)
        obtain ⟨hp_10_1, hp_10_2⟩ := hp_10
        refine lv_if_ne (tgt := 55) hx hb dX12_storms_49 (by decide) (fun c_11 => ?_) (fun c_11 => ?_)
        · have f_11 := z_ne c_11 rfl kl_0
          obtain ⟨x_12, e_12⟩ : ∃ y : Int32, (v36_4 : Int32) + Int32.ofInt 1 = y := ⟨_, rfl⟩
          refine lv_iinc (v := x_12) (lv' := [(4, .int x_12), (0, .ref h0), (1, .int p0), (2, .int p1), (3, .int v36_3), (5, .int v36_5), (6, .int v36_6), (7, .int v36_7), (8, .int v36_8)]) hx hb dX12_storms_55 hl (k := 4) rfl e_12 (by decide) rfl (fun ls hl => ?_)
          refine lv_iload hx hb dX12_storms_58 (lv_at hl 5 rfl) ?_
          refine lv_iload hx hb dX12_storms_60 (lv_at hl 8 rfl) ?_
          refine lv_iand hx hb dX12_storms_62 ?_
          refine lv_topi (fun x_13 e_13 => ?_)
          have t_13 := z_andR e_13 rfl (by omega)
          refine lv_istore (lv' := [(5, .int x_13), (4, .int x_12), (0, .ref h0), (1, .int p0), (2, .int p1), (3, .int v36_3), (6, .int v36_6), (7, .int v36_7), (8, .int v36_8)]) hx hb dX12_storms_63 hl (by decide) rfl (fun ls hl => ?_)
          refine lv_iload hx hb dX12_storms_65 (lv_at hl 6 rfl) ?_
          refine lv_iload hx hb dX12_storms_67 (lv_at hl 8 rfl) ?_
          refine lv_ior hx hb dX12_storms_69 ?_
          refine lv_topi (fun x_14 e_14 => ?_)
          have t_14 := z_or 10 e_14 rfl rfl rfl (by omega) (by omega) (by omega) (by omega)
          refine lv_istore (lv' := [(6, .int x_14), (5, .int x_13), (4, .int x_12), (0, .ref h0), (1, .int p0), (2, .int p1), (3, .int v36_3), (7, .int v36_7), (8, .int v36_8)]) hx hb dX12_storms_70 hl (by decide) rfl (fun ls hl => ?_)
          refine lv_iload hx hb dX12_storms_72 (lv_at hl 7 rfl) ?_
          refine lv_if_lt (tgt := 87) hx hb dX12_storms_74 (by decide) (fun c_15 => ?_) (fun c_15 => ?_)
          · have f_15 := z_lt c_15 rfl kl_0
            exact b87 H10 lc10 ls x_12 x_13 x_14 gH10 (lv_sub hl [3, 4, 5, 6, 2, 1, 0, 8] rfl) (by omega) (by omega) (by omega) (by omega) (by omega)
          · have f_15 := z_nlt c_15 rfl kl_0
            refine lv_iload hx hb dX12_storms_77 (lv_at hl 8 rfl) ?_
            refine zkPI (zrS (rest := []) B (c_X12_bitsOf l E hV H10 gH10.1 v36_8) cs_RX12_293 rfl hl.1 rfl (Nat.le_of_ble_eq_true rfl) dX12_storms_79 rfl rfl ⟨rfl, rfl⟩ ⟨Nat.zero_le _, Nat.zero_le _⟩ (zO.of gH10 hh)) (fun x_16 hp_16 => ?_)
            refine lv_iload hx hb dX12_storms_82 (lv_at hl 7 rfl) ?_
            refine lv_icmp_ge (tgt := 94) hx hb dX12_storms_84 (by decide) (fun c_17 => ?_) (fun c_17 => ?_)
            · have f_17 := z_le c_17 rfl rfl
              exact b94 H10 lc10 ls x_12 x_13 x_14 v36_7 gH10 (lv_sub hl [3, 4, 5, 6, 2, 1, 0, 7, 8] rfl) (by omega) (by omega) (by omega) (by omega) (by omega)
            · have f_17 := z_nle c_17 rfl rfl
              exact b87 H10 lc10 ls x_12 x_13 x_14 gH10 (lv_sub hl [3, 4, 5, 6, 2, 1, 0, 8] rfl) (by omega) (by omega) (by omega) (by omega) (by omega)
        · have f_11 := z_eq c_11 rfl kl_0
          refine lv_goto (tgt := 94) hx hb dX12_storms_52 (by decide) ?_
          exact b94 H10 lc10 ls v36_4 v36_5 v36_6 v36_7 gH10 (lv_sub hl [0, 1, 2, 3, 4, 5, 6, 7, 8] rfl) (by omega) (by omega) (by omega) (by omega) (by omega)
  refine lv_iload_n hx hb dX12_storms_0 rfl (lv_at hl 1 rfl) ?_
  refine lv_iconst (v := 0) hx hb dX12_storms_1 (by decide) ?_
  refine lv_iconst (v := 3) hx hb dX12_storms_2 (by decide) ?_
  refine zkPI (zrS (rest := []) B (c_X12_isIn l E hV H0 hT0 p0 0 3) cs_RX12_260 rfl hl.1 rfl (Nat.le_of_ble_eq_true rfl) dX12_storms_3 rfl rfl ⟨rfl, rfl⟩ ⟨Nat.zero_le _, Nat.zero_le _⟩ (zO.of hG0 hh)) (fun x_18 hp_18 => ?_)
  obtain ⟨hp_18_1, hp_18_2, hp_18_3⟩ := hp_18
  have := kl_0
  have := kl_3
  refine lv_if_ne (tgt := 12) hx hb dX12_storms_6 (by decide) (fun c_19 => ?_) (fun c_19 => ?_)
  · have f_19 := z_ne c_19 rfl kl_0
    refine lv_iconst (v := 1) hx hb dX12_storms_12 (by decide) ?_
    refine lv_aload_n hx hb dX12_storms_13 rfl (lv_at hl 0 rfl) ?_
    refine zkPI (zrV (rest := [.int 1]) B (c_X12_stormFlashes l E hV H0 hT0 h0 kh0) cl_RX12_376 hT0 kh0 rfl rfl rfl rfl hl.1 rfl (Nat.le_of_ble_eq_true rfl) dX12_storms_14 rfl rfl ⟨rfl, rfl⟩ ⟨Nat.zero_le _, Nat.zero_le _⟩ (zO.of hG0 hh)) (fun x_20 hp_20 => ?_)
    obtain ⟨hp_20_1, hp_20_2⟩ := hp_20
    refine lv_ishl hx hb dX12_storms_17 ?_
    refine lv_topi (fun x_21 e_21 => ?_)
    have t_21 := z_shlV (A := 1) 10 e_21 kl_1 rfl (by omega) (by omega) rfl (by omega) (by omega) (by decide)
    refine lv_iconst (v := 1) hx hb dX12_storms_18 (by decide) ?_
    refine lv_isub hx hb dX12_storms_19 ?_
    refine lv_topi (fun x_22 e_22 => ?_)
    have t_22 := z_sub e_22 rfl kl_1 (by omega) (by omega)
    refine lv_istore_n (lv' := [(3, .int x_22), (0, .ref h0), (1, .int p0), (2, .int p1)]) hx hb dX12_storms_20 rfl hl (by decide) rfl (fun ls hl => ?_)
    refine lv_iconst (v := 0) hx hb dX12_storms_21 (by decide) ?_
    refine lv_istore (lv' := [(4, .int 0), (3, .int x_22), (0, .ref h0), (1, .int p0), (2, .int p1)]) hx hb dX12_storms_22 hl (by decide) rfl (fun ls hl => ?_)
    refine lv_iload_n hx hb dX12_storms_24 rfl (lv_at hl 1 rfl) ?_
    refine lv_istore (lv' := [(5, .int x_22), (4, .int 0), (3, .int x_22), (0, .ref h0), (1, .int p0), (2, .int p1)]) hx hb dX12_storms_25 hl (by decide) rfl (fun ls hl => ?_)
    refine lv_iconst (v := 0) hx hb dX12_storms_27 (by decide) ?_
    refine lv_istore (lv' := [(6, .int 0), (5, .int x_22), (4, .int 0), (3, .int x_22), (0, .ref h0), (1, .int p0), (2, .int p1)]) hx hb dX12_storms_28 hl (by decide) rfl (fun ls hl => ?_)
    refine lv_iconst (v := (-1)) hx hb dX12_storms_30 (by decide) ?_
    refine lv_istore (lv' := [(7, .int (-1)), (6, .int 0), (5, .int x_22), (4, .int 0), (3, .int x_22), (0, .ref h0), (1, .int p0), (2, .int p1)]) hx hb dX12_storms_31 hl (by decide) rfl (fun ls hl => ?_)
    refine lv_iconst (v := 0) hx hb dX12_storms_33 (by decide) ?_
    refine lv_istore (lv' := [(8, .int 0), (7, .int (-1)), (6, .int 0), (5, .int x_22), (4, .int 0), (3, .int x_22), (0, .ref h0), (1, .int p0), (2, .int p1)]) hx hb dX12_storms_34 hl (by decide) rfl (fun ls hl => ?_)
    have := kl_0
    have := kl_0
    have := kl_m1
    have := kl_0
    exact b36 1025 H0 [] ls x_22 0 x_22 0 (-1) 0 (by omega) hG0 (lv_sub hl [6, 7, 8, 5, 4, 3, 2, 1, 0] rfl) (by omega) (by omega) (by omega) (by omega) (by omega) (by omega) (by omega) (by omega) (by omega) (by omega)
  · have f_19 := z_eq c_19 rfl kl_0
    refine lv_bipush (v := (-2)) hx hb dX12_storms_9 (by decide) ?_
    have := kl_m2
    have := kl_m2
    exact rtI (v := (-2)) B hr hlk hh hQ hG0 rfl trivial dX12_storms_11

theorem dX12_image_0 : decode cX12_image 0 = .ok (.iload_n 1, 1) := by decide +kernel
theorem dX12_image_1 : decode cX12_image 1 = .ok (.iconst 0, 1) := by decide +kernel
theorem dX12_image_2 : decode cX12_image 2 = .ok (.iconst 2, 1) := by decide +kernel
theorem dX12_image_3 : decode cX12_image 3 = .ok (.invokestatic 260, 3) := by decide +kernel
theorem dX12_image_6 : decode cX12_image 6 = .ok (.ifCond .ne 5, 3) := by decide +kernel
theorem dX12_image_9 : decode cX12_image 9 = .ok (.iconst (-1), 1) := by decide +kernel
theorem dX12_image_10 : decode cX12_image 10 = .ok (.ireturn, 1) := by decide +kernel
theorem dX12_image_11 : decode cX12_image 11 = .ok (.aload_n 0, 1) := by decide +kernel
theorem dX12_image_12 : decode cX12_image 12 = .ok (.getfield 107, 3) := by decide +kernel
theorem dX12_image_15 : decode cX12_image 15 = .ok (.iload_n 1, 1) := by decide +kernel
theorem dX12_image_16 : decode cX12_image 16 = .ok (.aload_n 0, 1) := by decide +kernel
theorem dX12_image_17 : decode cX12_image 17 = .ok (.getfield 305, 3) := by decide +kernel
theorem dX12_image_20 : decode cX12_image 20 = .ok (.iastore, 1) := by decide +kernel
theorem dX12_image_21 : decode cX12_image 21 = .ok (.iconst 0, 1) := by decide +kernel
theorem dX12_image_22 : decode cX12_image 22 = .ok (.istore_n 2, 1) := by decide +kernel
theorem dX12_image_23 : decode cX12_image 23 = .ok (.iload_n 2, 1) := by decide +kernel
theorem dX12_image_24 : decode cX12_image 24 = .ok (.bipush 62, 2) := by decide +kernel
theorem dX12_image_26 : decode cX12_image 26 = .ok (.aload_n 0, 1) := by decide +kernel
theorem dX12_image_27 : decode cX12_image 27 = .ok (.getfield 305, 3) := by decide +kernel
theorem dX12_image_30 : decode cX12_image 30 = .ok (.iconst 1, 1) := by decide +kernel
theorem dX12_image_31 : decode cX12_image 31 = .ok (.iadd, 1) := by decide +kernel
theorem dX12_image_32 : decode cX12_image 32 = .ok (.imul, 1) := by decide +kernel
theorem dX12_image_33 : decode cX12_image 33 = .ok (.if_icmp .ge 27, 3) := by decide +kernel
theorem dX12_image_36 : decode cX12_image 36 = .ok (.aload_n 0, 1) := by decide +kernel
theorem dX12_image_37 : decode cX12_image 37 = .ok (.getfield 110, 3) := by decide +kernel
theorem dX12_image_40 : decode cX12_image 40 = .ok (.sipush 3782, 3) := by decide +kernel
theorem dX12_image_43 : decode cX12_image 43 = .ok (.iload_n 1, 1) := by decide +kernel
theorem dX12_image_44 : decode cX12_image 44 = .ok (.imul, 1) := by decide +kernel
theorem dX12_image_45 : decode cX12_image 45 = .ok (.iload_n 2, 1) := by decide +kernel
theorem dX12_image_46 : decode cX12_image 46 = .ok (.iadd, 1) := by decide +kernel
theorem dX12_image_47 : decode cX12_image 47 = .ok (.aload_n 0, 1) := by decide +kernel
theorem dX12_image_48 : decode cX12_image 48 = .ok (.getfield 16, 3) := by decide +kernel
theorem dX12_image_51 : decode cX12_image 51 = .ok (.iload_n 2, 1) := by decide +kernel
theorem dX12_image_52 : decode cX12_image 52 = .ok (.iaload, 1) := by decide +kernel
theorem dX12_image_53 : decode cX12_image 53 = .ok (.iastore, 1) := by decide +kernel
theorem dX12_image_54 : decode cX12_image 54 = .ok (.iinc 2 1, 3) := by decide +kernel
theorem dX12_image_57 : decode cX12_image 57 = .ok (.goto (-34), 3) := by decide +kernel
theorem dX12_image_60 : decode cX12_image 60 = .ok (.iconst 0, 1) := by decide +kernel
theorem dX12_image_61 : decode cX12_image 61 = .ok (.istore_n 2, 1) := by decide +kernel
theorem dX12_image_62 : decode cX12_image 62 = .ok (.iload_n 2, 1) := by decide +kernel
theorem dX12_image_63 : decode cX12_image 63 = .ok (.aload_n 0, 1) := by decide +kernel
theorem dX12_image_64 : decode cX12_image 64 = .ok (.getfield 305, 3) := by decide +kernel
theorem dX12_image_67 : decode cX12_image 67 = .ok (.if_icmp .ge 77, 3) := by decide +kernel
theorem dX12_image_70 : decode cX12_image 70 = .ok (.aload_n 0, 1) := by decide +kernel
theorem dX12_image_71 : decode cX12_image 71 = .ok (.getfield 113, 3) := by decide +kernel
theorem dX12_image_74 : decode cX12_image 74 = .ok (.bipush 60, 2) := by decide +kernel
theorem dX12_image_76 : decode cX12_image 76 = .ok (.iload_n 1, 1) := by decide +kernel
theorem dX12_image_77 : decode cX12_image 77 = .ok (.imul, 1) := by decide +kernel
theorem dX12_image_78 : decode cX12_image 78 = .ok (.iload_n 2, 1) := by decide +kernel
theorem dX12_image_79 : decode cX12_image 79 = .ok (.iadd, 1) := by decide +kernel
theorem dX12_image_80 : decode cX12_image 80 = .ok (.aload_n 0, 1) := by decide +kernel
theorem dX12_image_81 : decode cX12_image 81 = .ok (.getfield 74, 3) := by decide +kernel
theorem dX12_image_84 : decode cX12_image 84 = .ok (.iload_n 2, 1) := by decide +kernel
theorem dX12_image_85 : decode cX12_image 85 = .ok (.iaload, 1) := by decide +kernel
theorem dX12_image_86 : decode cX12_image 86 = .ok (.iastore, 1) := by decide +kernel
theorem dX12_image_87 : decode cX12_image 87 = .ok (.aload_n 0, 1) := by decide +kernel
theorem dX12_image_88 : decode cX12_image 88 = .ok (.getfield 116, 3) := by decide +kernel
theorem dX12_image_91 : decode cX12_image 91 = .ok (.bipush 60, 2) := by decide +kernel
theorem dX12_image_93 : decode cX12_image 93 = .ok (.iload_n 1, 1) := by decide +kernel
theorem dX12_image_94 : decode cX12_image 94 = .ok (.imul, 1) := by decide +kernel
theorem dX12_image_95 : decode cX12_image 95 = .ok (.iload_n 2, 1) := by decide +kernel
theorem dX12_image_96 : decode cX12_image 96 = .ok (.iadd, 1) := by decide +kernel
theorem dX12_image_97 : decode cX12_image 97 = .ok (.aload_n 0, 1) := by decide +kernel
theorem dX12_image_98 : decode cX12_image 98 = .ok (.getfield 77, 3) := by decide +kernel
theorem dX12_image_101 : decode cX12_image 101 = .ok (.iload_n 2, 1) := by decide +kernel
theorem dX12_image_102 : decode cX12_image 102 = .ok (.iaload, 1) := by decide +kernel
theorem dX12_image_103 : decode cX12_image 103 = .ok (.iastore, 1) := by decide +kernel
theorem dX12_image_104 : decode cX12_image 104 = .ok (.aload_n 0, 1) := by decide +kernel
theorem dX12_image_105 : decode cX12_image 105 = .ok (.getfield 119, 3) := by decide +kernel
theorem dX12_image_108 : decode cX12_image 108 = .ok (.bipush 60, 2) := by decide +kernel
theorem dX12_image_110 : decode cX12_image 110 = .ok (.iload_n 1, 1) := by decide +kernel
theorem dX12_image_111 : decode cX12_image 111 = .ok (.imul, 1) := by decide +kernel
theorem dX12_image_112 : decode cX12_image 112 = .ok (.iload_n 2, 1) := by decide +kernel
theorem dX12_image_113 : decode cX12_image 113 = .ok (.iadd, 1) := by decide +kernel
theorem dX12_image_114 : decode cX12_image 114 = .ok (.aload_n 0, 1) := by decide +kernel
theorem dX12_image_115 : decode cX12_image 115 = .ok (.getfield 80, 3) := by decide +kernel
theorem dX12_image_118 : decode cX12_image 118 = .ok (.iload_n 2, 1) := by decide +kernel
theorem dX12_image_119 : decode cX12_image 119 = .ok (.baload, 1) := by decide +kernel
theorem dX12_image_120 : decode cX12_image 120 = .ok (.bastore, 1) := by decide +kernel
theorem dX12_image_121 : decode cX12_image 121 = .ok (.aload_n 0, 1) := by decide +kernel
theorem dX12_image_122 : decode cX12_image 122 = .ok (.getfield 122, 3) := by decide +kernel
theorem dX12_image_125 : decode cX12_image 125 = .ok (.bipush 60, 2) := by decide +kernel
theorem dX12_image_127 : decode cX12_image 127 = .ok (.iload_n 1, 1) := by decide +kernel
theorem dX12_image_128 : decode cX12_image 128 = .ok (.imul, 1) := by decide +kernel
theorem dX12_image_129 : decode cX12_image 129 = .ok (.iload_n 2, 1) := by decide +kernel
theorem dX12_image_130 : decode cX12_image 130 = .ok (.iadd, 1) := by decide +kernel
theorem dX12_image_131 : decode cX12_image 131 = .ok (.aload_n 0, 1) := by decide +kernel
theorem dX12_image_132 : decode cX12_image 132 = .ok (.getfield 83, 3) := by decide +kernel
theorem dX12_image_135 : decode cX12_image 135 = .ok (.iload_n 2, 1) := by decide +kernel
theorem dX12_image_136 : decode cX12_image 136 = .ok (.baload, 1) := by decide +kernel
theorem dX12_image_137 : decode cX12_image 137 = .ok (.bastore, 1) := by decide +kernel
theorem dX12_image_138 : decode cX12_image 138 = .ok (.iinc 2 1, 3) := by decide +kernel
theorem dX12_image_141 : decode cX12_image 141 = .ok (.goto (-79), 3) := by decide +kernel
theorem dX12_image_144 : decode cX12_image 144 = .ok (.aload_n 0, 1) := by decide +kernel
theorem dX12_image_145 : decode cX12_image 145 = .ok (.getfield 305, 3) := by decide +kernel
theorem dX12_image_148 : decode cX12_image 148 = .ok (.ireturn, 1) := by decide +kernel
def rm_X12_image : Room := { frames := 1, cells := 0, slots := 0, locals := 22 }
abbrev wS_X12_image : List (Nat × Nat) := [(88, 99), (89, 99), (90, 99), (91, 99), (92, 99), (93, 99)]
set_option maxRecDepth 100000 in
set_option maxHeartbeats 4000000 in
theorem c_X12_image (l : Launch) (E : zE) (hV : zV E) (H0 : Heap) (hT0 : HT E H0) (h0 : Nat) (kh0 : eK E h0 = 13) (p0 : Int32) : Met l yX12_image (zws yX12_image cX12_image 3 (some .int)) rm_X12_image (zP E H0 [.ref h0, .int p0]) (zQI E E wS_X12_image (fun r H1 => (-1) ≤ r.toInt ∧ r.toInt ≤ 60)) 0 0 (zfr E) := by
  refine zEnt (by decide) (Nat.le_of_ble_eq_true rfl) (fun p e s m args below meth c ls Q B hr hlk hh hQ hl => ?_)
  have hx := B.1
  have hb := B.2.1
  have hG0 : zG E wS_X12_image H0 H0 [] := zG.rf hT0
  have hl : lv_has ls 3 [(0, .ref h0), (1, .int p0)] := hl
  have b62 : ∀ (n62 : Nat) (H62 : Heap) (lc62 : List Loc) (ls : Array Slot) (v62_2 : Int32) (u62_h0_37 : Int32), 60 - v62_2.toInt < (n62 : Int) → zG E wS_X12_image H0 H62 lc62 → lv_has ls 3 [(0, .ref h0), (1, .int p0), (2, .int v62_2)] → 0 ≤ p0.toInt → p0.toInt ≤ 2 → 0 ≤ v62_2.toInt → v62_2.toInt ≤ 60 → 0 ≤ u62_h0_37.toInt → u62_h0_37.toInt ≤ 60 → sl H62 h0 (zix E 13 37) = some (.int u62_h0_37) → W p l e rm_X12_image s m args below meth c H62 lc62 0 0 Q (F0 m 62 ls []) := by
    intro n62
    induction n62 with
    | zero =>
      intro H62 lc62 ls v62_2 u62_h0_37 hm62 gH62 hl f62_1 f62_2 f62_3 f62_4 f62_5 f62_6 s62_u62_h0_37
      exact absurd hm62 (by omega)
    | succ n62 ih62 =>
      intro H62 lc62 ls v62_2 u62_h0_37 hm62 gH62 hl f62_1 f62_2 f62_3 f62_4 f62_5 f62_6 s62_u62_h0_37
      refine lv_iload_n hx hb dX12_image_62 rfl (lv_at hl 2 rfl) ?_
      refine lv_aload_n hx hb dX12_image_63 rfl (lv_at hl 0 rfl) ?_
      refine g_get B fl_RX12_305 gH62.1 kh0 rfl rfl rfl dX12_image_64 s62_u62_h0_37 ?_
      refine lv_icmp_ge (tgt := 144) hx hb dX12_image_67 (by decide) (fun c_1 => ?_) (fun c_1 => ?_)
      · have f_1 := z_le c_1 rfl rfl
        refine lv_aload_n hx hb dX12_image_144 rfl (lv_at hl 0 rfl) ?_
        refine g_get B fl_RX12_305 gH62.1 kh0 rfl rfl rfl dX12_image_145 s62_u62_h0_37 ?_
        exact rtI (v := u62_h0_37) B hr hlk hh hQ gH62 rfl ⟨by omega, by omega⟩ dX12_image_148
      · have f_1 := z_nle c_1 rfl rfl
        refine lv_aload_n hx hb dX12_image_70 rfl (lv_at hl 0 rfl) ?_
        refine g_getR B fl_RX12_113 gH62.1 kh0 rfl rfl rfl rfl rfl dX12_image_71 (fun q_2 s_2 k_q_2 => ?_)
        refine lv_bipush (v := 60) hx hb dX12_image_74 (by decide) ?_
        refine lv_iload_n hx hb dX12_image_76 rfl (lv_at hl 1 rfl) ?_
        refine lv_imul hx hb dX12_image_77 ?_
        refine lv_topi (fun x_3 e_3 => ?_)
        have t_3 := z_mul e_3 kl_60 rfl (by omega) (by omega)
        refine lv_iload_n hx hb dX12_image_78 rfl (lv_at hl 2 rfl) ?_
        refine lv_iadd hx hb dX12_image_79 ?_
        refine lv_topi (fun x_4 e_4 => ?_)
        have t_4 := z_add e_4 rfl rfl (by omega) (by omega)
        refine lv_aload_n hx hb dX12_image_80 rfl (lv_at hl 0 rfl) ?_
        refine g_getR B fl_RX12_74 gH62.1 kh0 rfl rfl rfl rfl rfl dX12_image_81 (fun q_5 s_5 k_q_5 => ?_)
        refine lv_iload_n hx hb dX12_image_84 rfl (lv_at hl 2 rfl) ?_
        refine g_ialdI (i := v62_2) (N := 60) B gH62.1 k_q_5 rfl rfl rfl rfl (by omega) (by omega) rfl dX12_image_85 (fun x_6 s_6 a_6 b_6 => ?_)
        refine g_iastI (i := x_4) (N := 180) B hV gH62 k_q_2 rfl rfl rfl rfl (by omega) (by omega) rfl (by omega) (by omega) rfl dX12_image_86 (fun H7 lc7 gH7 uH7 => ?_)
        have s_8 := uH7.keep (Or.inl (k_ne kh0 k_q_2 rfl)) s62_u62_h0_37
        have s_9 := uH7.keep (Or.inl (k_ne kh0 k_q_2 rfl)) s_2
        have s_10 := uH7.keep (Or.inl (k_ne kh0 k_q_2 rfl)) s_5
        have s_11 := uH7.keep (Or.inl (k_ne k_q_5 k_q_2 rfl)) s_6
        refine lv_aload_n hx hb dX12_image_87 rfl (lv_at hl 0 rfl) ?_
        refine g_getR B fl_RX12_116 gH7.1 kh0 rfl rfl rfl rfl rfl dX12_image_88 (fun q_12 s_12 k_q_12 => ?_)
        refine lv_bipush (v := 60) hx hb dX12_image_91 (by decide) ?_
        refine lv_iload_n hx hb dX12_image_93 rfl (lv_at hl 1 rfl) ?_
        refine lv_imul hx hb dX12_image_94 ?_
        refine lv_topi (fun x_13 e_13 => ?_)
        have t_13 := z_mul e_13 kl_60 rfl (by omega) (by omega)
        refine lv_iload_n hx hb dX12_image_95 rfl (lv_at hl 2 rfl) ?_
        refine lv_iadd hx hb dX12_image_96 ?_
        refine lv_topi (fun x_14 e_14 => ?_)
        have t_14 := z_add e_14 rfl rfl (by omega) (by omega)
        refine lv_aload_n hx hb dX12_image_97 rfl (lv_at hl 0 rfl) ?_
        refine g_getR B fl_RX12_77 gH7.1 kh0 rfl rfl rfl rfl rfl dX12_image_98 (fun q_15 s_15 k_q_15 => ?_)
        refine lv_iload_n hx hb dX12_image_101 rfl (lv_at hl 2 rfl) ?_
        refine g_ialdI (i := v62_2) (N := 60) B gH7.1 k_q_15 rfl rfl rfl rfl (by omega) (by omega) rfl dX12_image_102 (fun x_16 s_16 a_16 b_16 => ?_)
        refine g_iastI (i := x_14) (N := 180) B hV gH7 k_q_12 rfl rfl rfl rfl (by omega) (by omega) rfl (z_rng _).1 (z_rng _).2 rfl dX12_image_103 (fun H17 lc17 gH17 uH17 => ?_)
        have s_18 := uH17.keep (Or.inl (k_ne kh0 k_q_12 rfl)) s_8
        have s_19 := uH17.keep (Or.inl (k_ne kh0 k_q_12 rfl)) s_9
        have s_20 := uH17.keep (Or.inl (k_ne kh0 k_q_12 rfl)) s_10
        have s_21 := uH17.keep (Or.inl (k_ne k_q_5 k_q_12 rfl)) s_11
        have s_22 := uH17.keep (Or.inl (k_ne k_q_2 k_q_12 rfl)) uH7.2.1
        have s_23 := uH17.keep (Or.inl (k_ne kh0 k_q_12 rfl)) s_12
        have s_24 := uH17.keep (Or.inl (k_ne kh0 k_q_12 rfl)) s_15
        have s_25 := uH17.keep (Or.inl (k_ne k_q_15 k_q_12 rfl)) s_16
        refine lv_aload_n hx hb dX12_image_104 rfl (lv_at hl 0 rfl) ?_
        refine g_getR B fl_RX12_119 gH17.1 kh0 rfl rfl rfl rfl rfl dX12_image_105 (fun q_26 s_26 k_q_26 => ?_)
        refine lv_bipush (v := 60) hx hb dX12_image_108 (by decide) ?_
        refine lv_iload_n hx hb dX12_image_110 rfl (lv_at hl 1 rfl) ?_
        refine lv_imul hx hb dX12_image_111 ?_
        refine lv_topi (fun x_27 e_27 => ?_)
        have t_27 := z_mul e_27 kl_60 rfl (by omega) (by omega)
        refine lv_iload_n hx hb dX12_image_112 rfl (lv_at hl 2 rfl) ?_
        refine lv_iadd hx hb dX12_image_113 ?_
        refine lv_topi (fun x_28 e_28 => ?_)
        have t_28 := z_add e_28 rfl rfl (by omega) (by omega)
        refine lv_aload_n hx hb dX12_image_114 rfl (lv_at hl 0 rfl) ?_
        refine g_getR B fl_RX12_80 gH17.1 kh0 rfl rfl rfl rfl rfl dX12_image_115 (fun q_29 s_29 k_q_29 => ?_)
        refine lv_iload_n hx hb dX12_image_118 rfl (lv_at hl 2 rfl) ?_
        refine g_zaldI (i := v62_2) (N := 60) B gH17.1 k_q_29 rfl rfl rfl rfl (by omega) (by omega) rfl dX12_image_119 (fun x_30 s_30 a_30 b_30 => ?_)
        refine g_zastI (i := x_28) (N := 180) B hV gH17 k_q_26 rfl rfl rfl rfl (by omega) (by omega) rfl (by omega) (by omega) rfl dX12_image_120 (fun H31 lc31 gH31 uH31 => ?_)
        have s_32 := uH31.keep (Or.inl (k_ne kh0 k_q_26 rfl)) s_18
        have s_33 := uH31.keep (Or.inl (k_ne kh0 k_q_26 rfl)) s_19
        have s_34 := uH31.keep (Or.inl (k_ne kh0 k_q_26 rfl)) s_20
        have s_35 := uH31.keep (Or.inl (k_ne k_q_5 k_q_26 rfl)) s_21
        have s_36 := uH31.keep (Or.inl (k_ne k_q_2 k_q_26 rfl)) s_22
        have s_37 := uH31.keep (Or.inl (k_ne kh0 k_q_26 rfl)) s_23
        have s_38 := uH31.keep (Or.inl (k_ne kh0 k_q_26 rfl)) s_24
        have s_39 := uH31.keep (Or.inl (k_ne k_q_15 k_q_26 rfl)) s_25
        have s_40 := uH31.keep (Or.inl (k_ne k_q_12 k_q_26 rfl)) uH17.2.1
        have s_41 := uH31.keep (Or.inl (k_ne kh0 k_q_26 rfl)) s_26
        have s_42 := uH31.keep (Or.inl (k_ne kh0 k_q_26 rfl)) s_29
        have s_43 := uH31.keep (Or.inl (k_ne k_q_29 k_q_26 rfl)) s_30
        refine lv_aload_n hx hb dX12_image_121 rfl (lv_at hl 0 rfl) ?_
        refine g_getR B fl_RX12_122 gH31.1 kh0 rfl rfl rfl rfl rfl dX12_image_122 (fun q_44 s_44 k_q_44 => ?_)
        refine lv_bipush (v := 60) hx hb dX12_image_125 (by decide) ?_
        refine lv_iload_n hx hb dX12_image_127 rfl (lv_at hl 1 rfl) ?_
        refine lv_imul hx hb dX12_image_128 ?_
        refine lv_topi (fun x_45 e_45 => ?_)
        have t_45 := z_mul e_45 kl_60 rfl (by omega) (by omega)
        refine lv_iload_n hx hb dX12_image_129 rfl (lv_at hl 2 rfl) ?_
        refine lv_iadd hx hb dX12_image_130 ?_
        refine lv_topi (fun x_46 e_46 => ?_)
        have t_46 := z_add e_46 rfl rfl (by omega) (by omega)
        refine lv_aload_n hx hb dX12_image_131 rfl (lv_at hl 0 rfl) ?_
        refine g_getR B fl_RX12_83 gH31.1 kh0 rfl rfl rfl rfl rfl dX12_image_132 (fun q_47 s_47 k_q_47 => ?_)
        refine lv_iload_n hx hb dX12_image_135 rfl (lv_at hl 2 rfl) ?_
        refine g_zaldI (i := v62_2) (N := 60) B gH31.1 k_q_47 rfl rfl rfl rfl (by omega) (by omega) rfl dX12_image_136 (fun x_48 s_48 a_48 b_48 => ?_)
        refine g_zastI (i := x_46) (N := 180) B hV gH31 k_q_44 rfl rfl rfl rfl (by omega) (by omega) rfl (by omega) (by omega) rfl dX12_image_137 (fun H49 lc49 gH49 uH49 => ?_)
        have s_50 := uH49.keep (Or.inl (k_ne kh0 k_q_44 rfl)) s_32
        have s_51 := uH49.keep (Or.inl (k_ne kh0 k_q_44 rfl)) s_33
        have s_52 := uH49.keep (Or.inl (k_ne kh0 k_q_44 rfl)) s_34
        have s_53 := uH49.keep (Or.inl (k_ne k_q_5 k_q_44 rfl)) s_35
        have s_54 := uH49.keep (Or.inl (k_ne k_q_2 k_q_44 rfl)) s_36
        have s_55 := uH49.keep (Or.inl (k_ne kh0 k_q_44 rfl)) s_37
        have s_56 := uH49.keep (Or.inl (k_ne kh0 k_q_44 rfl)) s_38
        have s_57 := uH49.keep (Or.inl (k_ne k_q_15 k_q_44 rfl)) s_39
        have s_58 := uH49.keep (Or.inl (k_ne k_q_12 k_q_44 rfl)) s_40
        have s_59 := uH49.keep (Or.inl (k_ne kh0 k_q_44 rfl)) s_41
        have s_60 := uH49.keep (Or.inl (k_ne kh0 k_q_44 rfl)) s_42
        have s_61 := uH49.keep (Or.inl (k_ne k_q_29 k_q_44 rfl)) s_43
        have s_62 := uH49.keep (Or.inl (k_ne k_q_26 k_q_44 rfl)) uH31.2.1
        have s_63 := uH49.keep (Or.inl (k_ne kh0 k_q_44 rfl)) s_44
        have s_64 := uH49.keep (Or.inl (k_ne kh0 k_q_44 rfl)) s_47
        have s_65 := uH49.keep (Or.inl (k_ne k_q_47 k_q_44 rfl)) s_48
        obtain ⟨x_66, e_66⟩ : ∃ y : Int32, (v62_2 : Int32) + Int32.ofInt 1 = y := ⟨_, rfl⟩
        refine lv_iinc (v := x_66) (lv' := [(2, .int x_66), (0, .ref h0), (1, .int p0)]) hx hb dX12_image_138 hl (k := 2) rfl e_66 (by decide) rfl (fun ls hl => ?_)
        have t_66 := z_inc2 e_66 rfl (by decide) (by omega) (by omega)
        refine lv_goto (tgt := 62) hx hb dX12_image_141 (by decide) ?_
        exact ih62 H49 lc49 ls x_66 u62_h0_37 (by omega) gH49 (lv_sub hl [1, 2, 0] rfl) (by omega) (by omega) (by omega) (by omega) (by omega) (by omega) s_50
  have b23 : ∀ (n23 : Nat) (H23 : Heap) (lc23 : List Loc) (ls : Array Slot) (v23_2 : Int32) (u23_h0_37 : Int32), 3782 - v23_2.toInt < (n23 : Int) → zG E wS_X12_image H0 H23 lc23 → lv_has ls 3 [(0, .ref h0), (1, .int p0), (2, .int v23_2)] → 0 ≤ p0.toInt → p0.toInt ≤ 2 → 0 ≤ v23_2.toInt → v23_2.toInt ≤ 3782 → 0 ≤ u23_h0_37.toInt → u23_h0_37.toInt ≤ 60 → sl H23 h0 (zix E 13 37) = some (.int u23_h0_37) → W p l e rm_X12_image s m args below meth c H23 lc23 0 0 Q (F0 m 23 ls []) := by
    intro n23
    induction n23 with
    | zero =>
      intro H23 lc23 ls v23_2 u23_h0_37 hm23 gH23 hl f23_1 f23_2 f23_3 f23_4 f23_5 f23_6 s23_u23_h0_37
      exact absurd hm23 (by omega)
    | succ n23 ih23 =>
      intro H23 lc23 ls v23_2 u23_h0_37 hm23 gH23 hl f23_1 f23_2 f23_3 f23_4 f23_5 f23_6 s23_u23_h0_37
      refine lv_iload_n hx hb dX12_image_23 rfl (lv_at hl 2 rfl) ?_
      refine lv_bipush (v := 62) hx hb dX12_image_24 (by decide) ?_
      refine lv_aload_n hx hb dX12_image_26 rfl (lv_at hl 0 rfl) ?_
      refine g_get B fl_RX12_305 gH23.1 kh0 rfl rfl rfl dX12_image_27 s23_u23_h0_37 ?_
      refine lv_iconst (v := 1) hx hb dX12_image_30 (by decide) ?_
      refine lv_iadd hx hb dX12_image_31 ?_
      refine lv_topi (fun x_67 e_67 => ?_)
      have t_67 := z_add e_67 rfl kl_1 (by omega) (by omega)
      refine lv_imul hx hb dX12_image_32 ?_
      refine lv_topi (fun x_68 e_68 => ?_)
      have t_68 := z_mul e_68 kl_62 rfl (by omega) (by omega)
      refine lv_icmp_ge (tgt := 60) hx hb dX12_image_33 (by decide) (fun c_69 => ?_) (fun c_69 => ?_)
      · have f_69 := z_le c_69 rfl rfl
        refine lv_iconst (v := 0) hx hb dX12_image_60 (by decide) ?_
        refine lv_istore_n (lv' := [(2, .int 0), (0, .ref h0), (1, .int p0)]) hx hb dX12_image_61 rfl hl (by decide) rfl (fun ls hl => ?_)
        have := kl_0
        exact b62 61 H23 lc23 ls 0 u23_h0_37 (by omega) gH23 (lv_sub hl [1, 2, 0] rfl) (by omega) (by omega) (by omega) (by omega) (by omega) (by omega) s23_u23_h0_37
      · have f_69 := z_nle c_69 rfl rfl
        refine lv_aload_n hx hb dX12_image_36 rfl (lv_at hl 0 rfl) ?_
        refine g_getR B fl_RX12_110 gH23.1 kh0 rfl rfl rfl rfl rfl dX12_image_37 (fun q_70 s_70 k_q_70 => ?_)
        refine lv_sipush (v := 3782) hx hb dX12_image_40 (by decide) ?_
        refine lv_iload_n hx hb dX12_image_43 rfl (lv_at hl 1 rfl) ?_
        refine lv_imul hx hb dX12_image_44 ?_
        refine lv_topi (fun x_71 e_71 => ?_)
        have t_71 := z_mul e_71 kl_3782 rfl (by omega) (by omega)
        refine lv_iload_n hx hb dX12_image_45 rfl (lv_at hl 2 rfl) ?_
        refine lv_iadd hx hb dX12_image_46 ?_
        refine lv_topi (fun x_72 e_72 => ?_)
        have t_72 := z_add e_72 rfl rfl (by omega) (by omega)
        refine lv_aload_n hx hb dX12_image_47 rfl (lv_at hl 0 rfl) ?_
        refine g_getR B fl_RX12_16 gH23.1 kh0 rfl rfl rfl rfl rfl dX12_image_48 (fun q_73 s_73 k_q_73 => ?_)
        refine lv_iload_n hx hb dX12_image_51 rfl (lv_at hl 2 rfl) ?_
        refine g_ialdP (i := v23_2) (N := 6076) B gH23.1 k_q_73 rfl rfl rfl rfl (fun _ => rfl) (by omega) (by omega) dX12_image_52 (fun x_74 s_74 a_74 => ?_)
        have := z_cl (x := v23_2) (by omega)
        have := z_cl (x := x_72) (by omega)
        refine g_iastP (i := x_72) (N := 11346) B hV gH23 k_q_70 rfl rfl rfl rfl (fun _ => rfl) (by omega) (by omega) (by omega) rfl dX12_image_53 (fun H75 lc75 gH75 uH75 => ?_)
        have s_76 := uH75.keep (Or.inl (k_ne kh0 k_q_70 rfl)) s23_u23_h0_37
        have s_77 := uH75.keep (Or.inl (k_ne kh0 k_q_70 rfl)) s_70
        have s_78 := uH75.keep (Or.inl (k_ne kh0 k_q_70 rfl)) s_73
        have s_79 := uH75.keep (Or.inl (k_ne k_q_73 k_q_70 rfl)) s_74
        obtain ⟨x_80, e_80⟩ : ∃ y : Int32, (v23_2 : Int32) + Int32.ofInt 1 = y := ⟨_, rfl⟩
        refine lv_iinc (v := x_80) (lv' := [(2, .int x_80), (0, .ref h0), (1, .int p0)]) hx hb dX12_image_54 hl (k := 2) rfl e_80 (by decide) rfl (fun ls hl => ?_)
        have t_80 := z_inc2 e_80 rfl (by decide) (by omega) (by omega)
        refine lv_goto (tgt := 23) hx hb dX12_image_57 (by decide) ?_
        exact ih23 H75 lc75 ls x_80 u23_h0_37 (by omega) gH75 (lv_sub hl [1, 2, 0] rfl) (by omega) (by omega) (by omega) (by omega) (by omega) (by omega) s_76
  refine lv_iload_n hx hb dX12_image_0 rfl (lv_at hl 1 rfl) ?_
  refine lv_iconst (v := 0) hx hb dX12_image_1 (by decide) ?_
  refine lv_iconst (v := 2) hx hb dX12_image_2 (by decide) ?_
  refine zkPI (zrS (rest := []) B (c_X12_isIn l E hV H0 hT0 p0 0 2) cs_RX12_260 rfl hl.1 rfl (Nat.le_of_ble_eq_true rfl) dX12_image_3 rfl rfl ⟨rfl, rfl⟩ ⟨Nat.zero_le _, Nat.zero_le _⟩ (zO.of hG0 hh)) (fun x_81 hp_81 => ?_)
  obtain ⟨hp_81_1, hp_81_2, hp_81_3⟩ := hp_81
  have := kl_0
  have := kl_2
  refine lv_if_ne (tgt := 11) hx hb dX12_image_6 (by decide) (fun c_82 => ?_) (fun c_82 => ?_)
  · have f_82 := z_ne c_82 rfl kl_0
    refine lv_aload_n hx hb dX12_image_11 rfl (lv_at hl 0 rfl) ?_
    refine g_getR B fl_RX12_107 hT0 kh0 rfl rfl rfl rfl rfl dX12_image_12 (fun q_83 s_83 k_q_83 => ?_)
    refine lv_iload_n hx hb dX12_image_15 rfl (lv_at hl 1 rfl) ?_
    refine lv_aload_n hx hb dX12_image_16 rfl (lv_at hl 0 rfl) ?_
    refine g_getI B fl_RX12_305 hT0 kh0 rfl rfl rfl rfl rfl dX12_image_17 (fun x_84 s_84 a_84 b_84 => ?_)
    refine g_iastI (i := p0) (N := 3) B hV hG0 k_q_83 rfl rfl rfl rfl (by omega) (by omega) rfl (by omega) (by omega) rfl dX12_image_20 (fun H85 lc85 gH85 uH85 => ?_)
    have s_86 := uH85.keep (Or.inl (k_ne kh0 k_q_83 rfl)) s_84
    refine lv_iconst (v := 0) hx hb dX12_image_21 (by decide) ?_
    refine lv_istore_n (lv' := [(2, .int 0), (0, .ref h0), (1, .int p0)]) hx hb dX12_image_22 rfl hl (by decide) rfl (fun ls hl => ?_)
    have := kl_0
    exact b23 3783 H85 lc85 ls 0 x_84 (by omega) gH85 (lv_sub hl [1, 2, 0] rfl) (by omega) (by omega) (by omega) (by omega) (by omega) (by omega) s_86
  · have f_82 := z_eq c_82 rfl kl_0
    refine lv_iconst (v := (-1)) hx hb dX12_image_9 (by decide) ?_
    have := kl_m1
    have := kl_m1
    exact rtI (v := (-1)) B hr hlk hh hQ hG0 rfl ⟨by omega, by omega⟩ dX12_image_10

theorem dX12_back_0 : decode cX12_back 0 = .ok (.iload_n 1, 1) := by decide +kernel
theorem dX12_back_1 : decode cX12_back 1 = .ok (.iconst 0, 1) := by decide +kernel
theorem dX12_back_2 : decode cX12_back 2 = .ok (.iconst 2, 1) := by decide +kernel
theorem dX12_back_3 : decode cX12_back 3 = .ok (.invokestatic 260, 3) := by decide +kernel
theorem dX12_back_6 : decode cX12_back 6 = .ok (.ifCond .eq 12, 3) := by decide +kernel
theorem dX12_back_9 : decode cX12_back 9 = .ok (.aload_n 0, 1) := by decide +kernel
theorem dX12_back_10 : decode cX12_back 10 = .ok (.getfield 107, 3) := by decide +kernel
theorem dX12_back_13 : decode cX12_back 13 = .ok (.iload_n 1, 1) := by decide +kernel
theorem dX12_back_14 : decode cX12_back 14 = .ok (.iaload, 1) := by decide +kernel
theorem dX12_back_15 : decode cX12_back 15 = .ok (.ifCond .ge 5, 3) := by decide +kernel
theorem dX12_back_18 : decode cX12_back 18 = .ok (.iconst (-1), 1) := by decide +kernel
theorem dX12_back_19 : decode cX12_back 19 = .ok (.ireturn, 1) := by decide +kernel
theorem dX12_back_20 : decode cX12_back 20 = .ok (.aload_n 0, 1) := by decide +kernel
theorem dX12_back_21 : decode cX12_back 21 = .ok (.aload_n 0, 1) := by decide +kernel
theorem dX12_back_22 : decode cX12_back 22 = .ok (.getfield 107, 3) := by decide +kernel
theorem dX12_back_25 : decode cX12_back 25 = .ok (.iload_n 1, 1) := by decide +kernel
theorem dX12_back_26 : decode cX12_back 26 = .ok (.iaload, 1) := by decide +kernel
theorem dX12_back_27 : decode cX12_back 27 = .ok (.putfield 305, 3) := by decide +kernel
theorem dX12_back_30 : decode cX12_back 30 = .ok (.aload_n 0, 1) := by decide +kernel
theorem dX12_back_31 : decode cX12_back 31 = .ok (.iconst 0, 1) := by decide +kernel
theorem dX12_back_32 : decode cX12_back 32 = .ok (.putfield 335, 3) := by decide +kernel
theorem dX12_back_35 : decode cX12_back 35 = .ok (.iconst 0, 1) := by decide +kernel
theorem dX12_back_36 : decode cX12_back 36 = .ok (.istore_n 2, 1) := by decide +kernel
theorem dX12_back_37 : decode cX12_back 37 = .ok (.iload_n 2, 1) := by decide +kernel
theorem dX12_back_38 : decode cX12_back 38 = .ok (.bipush 62, 2) := by decide +kernel
theorem dX12_back_40 : decode cX12_back 40 = .ok (.aload_n 0, 1) := by decide +kernel
theorem dX12_back_41 : decode cX12_back 41 = .ok (.getfield 305, 3) := by decide +kernel
theorem dX12_back_44 : decode cX12_back 44 = .ok (.iconst 1, 1) := by decide +kernel
theorem dX12_back_45 : decode cX12_back 45 = .ok (.iadd, 1) := by decide +kernel
theorem dX12_back_46 : decode cX12_back 46 = .ok (.imul, 1) := by decide +kernel
theorem dX12_back_47 : decode cX12_back 47 = .ok (.if_icmp .ge 27, 3) := by decide +kernel
theorem dX12_back_50 : decode cX12_back 50 = .ok (.aload_n 0, 1) := by decide +kernel
theorem dX12_back_51 : decode cX12_back 51 = .ok (.getfield 16, 3) := by decide +kernel
theorem dX12_back_54 : decode cX12_back 54 = .ok (.iload_n 2, 1) := by decide +kernel
theorem dX12_back_55 : decode cX12_back 55 = .ok (.aload_n 0, 1) := by decide +kernel
theorem dX12_back_56 : decode cX12_back 56 = .ok (.getfield 110, 3) := by decide +kernel
theorem dX12_back_59 : decode cX12_back 59 = .ok (.sipush 3782, 3) := by decide +kernel
theorem dX12_back_62 : decode cX12_back 62 = .ok (.iload_n 1, 1) := by decide +kernel
theorem dX12_back_63 : decode cX12_back 63 = .ok (.imul, 1) := by decide +kernel
theorem dX12_back_64 : decode cX12_back 64 = .ok (.iload_n 2, 1) := by decide +kernel
theorem dX12_back_65 : decode cX12_back 65 = .ok (.iadd, 1) := by decide +kernel
theorem dX12_back_66 : decode cX12_back 66 = .ok (.iaload, 1) := by decide +kernel
theorem dX12_back_67 : decode cX12_back 67 = .ok (.iastore, 1) := by decide +kernel
theorem dX12_back_68 : decode cX12_back 68 = .ok (.iinc 2 1, 3) := by decide +kernel
theorem dX12_back_71 : decode cX12_back 71 = .ok (.goto (-34), 3) := by decide +kernel
theorem dX12_back_74 : decode cX12_back 74 = .ok (.iconst 0, 1) := by decide +kernel
theorem dX12_back_75 : decode cX12_back 75 = .ok (.istore_n 2, 1) := by decide +kernel
theorem dX12_back_76 : decode cX12_back 76 = .ok (.iload_n 2, 1) := by decide +kernel
theorem dX12_back_77 : decode cX12_back 77 = .ok (.aload_n 0, 1) := by decide +kernel
theorem dX12_back_78 : decode cX12_back 78 = .ok (.getfield 305, 3) := by decide +kernel
theorem dX12_back_81 : decode cX12_back 81 = .ok (.if_icmp .ge 77, 3) := by decide +kernel
theorem dX12_back_84 : decode cX12_back 84 = .ok (.aload_n 0, 1) := by decide +kernel
theorem dX12_back_85 : decode cX12_back 85 = .ok (.getfield 74, 3) := by decide +kernel
theorem dX12_back_88 : decode cX12_back 88 = .ok (.iload_n 2, 1) := by decide +kernel
theorem dX12_back_89 : decode cX12_back 89 = .ok (.aload_n 0, 1) := by decide +kernel
theorem dX12_back_90 : decode cX12_back 90 = .ok (.getfield 113, 3) := by decide +kernel
theorem dX12_back_93 : decode cX12_back 93 = .ok (.bipush 60, 2) := by decide +kernel
theorem dX12_back_95 : decode cX12_back 95 = .ok (.iload_n 1, 1) := by decide +kernel
theorem dX12_back_96 : decode cX12_back 96 = .ok (.imul, 1) := by decide +kernel
theorem dX12_back_97 : decode cX12_back 97 = .ok (.iload_n 2, 1) := by decide +kernel
theorem dX12_back_98 : decode cX12_back 98 = .ok (.iadd, 1) := by decide +kernel
theorem dX12_back_99 : decode cX12_back 99 = .ok (.iaload, 1) := by decide +kernel
theorem dX12_back_100 : decode cX12_back 100 = .ok (.iastore, 1) := by decide +kernel
theorem dX12_back_101 : decode cX12_back 101 = .ok (.aload_n 0, 1) := by decide +kernel
theorem dX12_back_102 : decode cX12_back 102 = .ok (.getfield 77, 3) := by decide +kernel
theorem dX12_back_105 : decode cX12_back 105 = .ok (.iload_n 2, 1) := by decide +kernel
theorem dX12_back_106 : decode cX12_back 106 = .ok (.aload_n 0, 1) := by decide +kernel
theorem dX12_back_107 : decode cX12_back 107 = .ok (.getfield 116, 3) := by decide +kernel
theorem dX12_back_110 : decode cX12_back 110 = .ok (.bipush 60, 2) := by decide +kernel
theorem dX12_back_112 : decode cX12_back 112 = .ok (.iload_n 1, 1) := by decide +kernel
theorem dX12_back_113 : decode cX12_back 113 = .ok (.imul, 1) := by decide +kernel
theorem dX12_back_114 : decode cX12_back 114 = .ok (.iload_n 2, 1) := by decide +kernel
theorem dX12_back_115 : decode cX12_back 115 = .ok (.iadd, 1) := by decide +kernel
theorem dX12_back_116 : decode cX12_back 116 = .ok (.iaload, 1) := by decide +kernel
theorem dX12_back_117 : decode cX12_back 117 = .ok (.iastore, 1) := by decide +kernel
theorem dX12_back_118 : decode cX12_back 118 = .ok (.aload_n 0, 1) := by decide +kernel
theorem dX12_back_119 : decode cX12_back 119 = .ok (.getfield 80, 3) := by decide +kernel
theorem dX12_back_122 : decode cX12_back 122 = .ok (.iload_n 2, 1) := by decide +kernel
theorem dX12_back_123 : decode cX12_back 123 = .ok (.aload_n 0, 1) := by decide +kernel
theorem dX12_back_124 : decode cX12_back 124 = .ok (.getfield 119, 3) := by decide +kernel
theorem dX12_back_127 : decode cX12_back 127 = .ok (.bipush 60, 2) := by decide +kernel
theorem dX12_back_129 : decode cX12_back 129 = .ok (.iload_n 1, 1) := by decide +kernel
theorem dX12_back_130 : decode cX12_back 130 = .ok (.imul, 1) := by decide +kernel
theorem dX12_back_131 : decode cX12_back 131 = .ok (.iload_n 2, 1) := by decide +kernel
theorem dX12_back_132 : decode cX12_back 132 = .ok (.iadd, 1) := by decide +kernel
theorem dX12_back_133 : decode cX12_back 133 = .ok (.baload, 1) := by decide +kernel
theorem dX12_back_134 : decode cX12_back 134 = .ok (.bastore, 1) := by decide +kernel
theorem dX12_back_135 : decode cX12_back 135 = .ok (.aload_n 0, 1) := by decide +kernel
theorem dX12_back_136 : decode cX12_back 136 = .ok (.getfield 83, 3) := by decide +kernel
theorem dX12_back_139 : decode cX12_back 139 = .ok (.iload_n 2, 1) := by decide +kernel
theorem dX12_back_140 : decode cX12_back 140 = .ok (.aload_n 0, 1) := by decide +kernel
theorem dX12_back_141 : decode cX12_back 141 = .ok (.getfield 122, 3) := by decide +kernel
theorem dX12_back_144 : decode cX12_back 144 = .ok (.bipush 60, 2) := by decide +kernel
theorem dX12_back_146 : decode cX12_back 146 = .ok (.iload_n 1, 1) := by decide +kernel
theorem dX12_back_147 : decode cX12_back 147 = .ok (.imul, 1) := by decide +kernel
theorem dX12_back_148 : decode cX12_back 148 = .ok (.iload_n 2, 1) := by decide +kernel
theorem dX12_back_149 : decode cX12_back 149 = .ok (.iadd, 1) := by decide +kernel
theorem dX12_back_150 : decode cX12_back 150 = .ok (.baload, 1) := by decide +kernel
theorem dX12_back_151 : decode cX12_back 151 = .ok (.bastore, 1) := by decide +kernel
theorem dX12_back_152 : decode cX12_back 152 = .ok (.iinc 2 1, 3) := by decide +kernel
theorem dX12_back_155 : decode cX12_back 155 = .ok (.goto (-79), 3) := by decide +kernel
theorem dX12_back_158 : decode cX12_back 158 = .ok (.aload_n 0, 1) := by decide +kernel
theorem dX12_back_159 : decode cX12_back 159 = .ok (.getfield 305, 3) := by decide +kernel
theorem dX12_back_162 : decode cX12_back 162 = .ok (.ireturn, 1) := by decide +kernel
def rm_X12_back : Room := { frames := 1, cells := 0, slots := 0, locals := 22 }
abbrev wS_X12_back : List (Nat × Nat) := [(13, 37), (13, 38), (60, 99), (77, 99), (78, 99), (79, 99), (80, 99)]
set_option maxRecDepth 100000 in
set_option maxHeartbeats 4000000 in
theorem c_X12_back (l : Launch) (E : zE) (hV : zV E) (H0 : Heap) (hT0 : HT E H0) (h0 : Nat) (kh0 : eK E h0 = 13) (p0 : Int32) (n0 : Int32) (s_n0 : sl H0 h0 (zix E 13 37) = some (.int n0)) (u0 : Int32) (s_u0 : sl H0 h0 (zix E 13 38) = some (.int u0)) (pr_0 : n0.toInt + u0.toInt ≤ 60) : Met l yX12_back (zws yX12_back cX12_back 3 (some .int)) rm_X12_back (zP E H0 [.ref h0, .int p0]) (zQI E E wS_X12_back (fun r H1 => (-1) ≤ r.toInt ∧ r.toInt ≤ 60 ∧ ∃ n1 : Int32, sl H1 h0 (zix E 13 37) = some (.int n1) ∧ 0 ≤ n1.toInt ∧ n1.toInt ≤ 60 ∧ ∃ u1 : Int32, sl H1 h0 (zix E 13 38) = some (.int u1) ∧ 0 ≤ u1.toInt ∧ u1.toInt ≤ 60 ∧ (n1.toInt + u1.toInt ≤ 60))) 0 0 (zfr E) := by
  refine zEnt (by decide) (Nat.le_of_ble_eq_true rfl) (fun p e s m args below meth c ls Q B hr hlk hh hQ hl => ?_)
  have hx := B.1
  have hb := B.2.1
  have hG0 : zG E wS_X12_back H0 H0 [] := zG.rf hT0
  have hl : lv_has ls 3 [(0, .ref h0), (1, .int p0)] := hl
  have bd_n0 := HT.bdI hT0 kh0 rfl (j := 37) (by decide) rfl s_n0
  have bd_u0 := HT.bdI hT0 kh0 rfl (j := 38) (by decide) rfl s_u0
  have b76 : ∀ (n76 : Nat) (H76 : Heap) (lc76 : List Loc) (ls : Array Slot) (v76_2 : Int32) (u76_h0_37 : Int32), 60 - v76_2.toInt < (n76 : Int) → zG E wS_X12_back H0 H76 lc76 → lv_has ls 3 [(0, .ref h0), (1, .int p0), (2, .int v76_2)] → 0 ≤ p0.toInt → p0.toInt ≤ 2 → 0 ≤ v76_2.toInt → v76_2.toInt ≤ 60 → 0 ≤ u76_h0_37.toInt → u76_h0_37.toInt ≤ 60 → sl H76 h0 (zix E 13 37) = some (.int u76_h0_37) → sl H76 h0 (zix E 13 38) = some (.int 0) → W p l e rm_X12_back s m args below meth c H76 lc76 0 0 Q (F0 m 76 ls []) := by
    intro n76
    induction n76 with
    | zero =>
      intro H76 lc76 ls v76_2 u76_h0_37 hm76 gH76 hl f76_1 f76_2 f76_3 f76_4 f76_5 f76_6 s76_u76_h0_37 s76_u76_h0_38
      exact absurd hm76 (by omega)
    | succ n76 ih76 =>
      intro H76 lc76 ls v76_2 u76_h0_37 hm76 gH76 hl f76_1 f76_2 f76_3 f76_4 f76_5 f76_6 s76_u76_h0_37 s76_u76_h0_38
      refine lv_iload_n hx hb dX12_back_76 rfl (lv_at hl 2 rfl) ?_
      refine lv_aload_n hx hb dX12_back_77 rfl (lv_at hl 0 rfl) ?_
      refine g_get B fl_RX12_305 gH76.1 kh0 rfl rfl rfl dX12_back_78 s76_u76_h0_37 ?_
      refine lv_icmp_ge (tgt := 158) hx hb dX12_back_81 (by decide) (fun c_1 => ?_) (fun c_1 => ?_)
      · have f_1 := z_le c_1 rfl rfl
        refine lv_aload_n hx hb dX12_back_158 rfl (lv_at hl 0 rfl) ?_
        refine g_get B fl_RX12_305 gH76.1 kh0 rfl rfl rfl dX12_back_159 s76_u76_h0_37 ?_
        have := kl_0
        exact rtI (v := u76_h0_37) B hr hlk hh hQ gH76 rfl ⟨by omega, by omega, u76_h0_37, s76_u76_h0_37, by omega, by omega, 0, s76_u76_h0_38, by omega, by omega, by omega⟩ dX12_back_162
      · have f_1 := z_nle c_1 rfl rfl
        refine lv_aload_n hx hb dX12_back_84 rfl (lv_at hl 0 rfl) ?_
        refine g_getR B fl_RX12_74 gH76.1 kh0 rfl rfl rfl rfl rfl dX12_back_85 (fun q_2 s_2 k_q_2 => ?_)
        refine lv_iload_n hx hb dX12_back_88 rfl (lv_at hl 2 rfl) ?_
        refine lv_aload_n hx hb dX12_back_89 rfl (lv_at hl 0 rfl) ?_
        refine g_getR B fl_RX12_113 gH76.1 kh0 rfl rfl rfl rfl rfl dX12_back_90 (fun q_3 s_3 k_q_3 => ?_)
        refine lv_bipush (v := 60) hx hb dX12_back_93 (by decide) ?_
        refine lv_iload_n hx hb dX12_back_95 rfl (lv_at hl 1 rfl) ?_
        refine lv_imul hx hb dX12_back_96 ?_
        refine lv_topi (fun x_4 e_4 => ?_)
        have t_4 := z_mul e_4 kl_60 rfl (by omega) (by omega)
        refine lv_iload_n hx hb dX12_back_97 rfl (lv_at hl 2 rfl) ?_
        refine lv_iadd hx hb dX12_back_98 ?_
        refine lv_topi (fun x_5 e_5 => ?_)
        have t_5 := z_add e_5 rfl rfl (by omega) (by omega)
        refine g_ialdI (i := x_5) (N := 180) B gH76.1 k_q_3 rfl rfl rfl rfl (by omega) (by omega) rfl dX12_back_99 (fun x_6 s_6 a_6 b_6 => ?_)
        refine g_iastI (i := v76_2) (N := 60) B hV gH76 k_q_2 rfl rfl rfl rfl (by omega) (by omega) rfl (by omega) (by omega) rfl dX12_back_100 (fun H7 lc7 gH7 uH7 => ?_)
        have s_8 := uH7.keep (Or.inl (k_ne kh0 k_q_2 rfl)) s76_u76_h0_37
        have s_9 := uH7.keep (Or.inl (k_ne kh0 k_q_2 rfl)) s76_u76_h0_38
        have s_10 := uH7.keep (Or.inl (k_ne kh0 k_q_2 rfl)) s_2
        have s_11 := uH7.keep (Or.inl (k_ne kh0 k_q_2 rfl)) s_3
        have s_12 := uH7.keep (Or.inl (k_ne k_q_3 k_q_2 rfl)) s_6
        refine lv_aload_n hx hb dX12_back_101 rfl (lv_at hl 0 rfl) ?_
        refine g_getR B fl_RX12_77 gH7.1 kh0 rfl rfl rfl rfl rfl dX12_back_102 (fun q_13 s_13 k_q_13 => ?_)
        refine lv_iload_n hx hb dX12_back_105 rfl (lv_at hl 2 rfl) ?_
        refine lv_aload_n hx hb dX12_back_106 rfl (lv_at hl 0 rfl) ?_
        refine g_getR B fl_RX12_116 gH7.1 kh0 rfl rfl rfl rfl rfl dX12_back_107 (fun q_14 s_14 k_q_14 => ?_)
        refine lv_bipush (v := 60) hx hb dX12_back_110 (by decide) ?_
        refine lv_iload_n hx hb dX12_back_112 rfl (lv_at hl 1 rfl) ?_
        refine lv_imul hx hb dX12_back_113 ?_
        refine lv_topi (fun x_15 e_15 => ?_)
        have t_15 := z_mul e_15 kl_60 rfl (by omega) (by omega)
        refine lv_iload_n hx hb dX12_back_114 rfl (lv_at hl 2 rfl) ?_
        refine lv_iadd hx hb dX12_back_115 ?_
        refine lv_topi (fun x_16 e_16 => ?_)
        have t_16 := z_add e_16 rfl rfl (by omega) (by omega)
        refine g_ialdI (i := x_16) (N := 180) B gH7.1 k_q_14 rfl rfl rfl rfl (by omega) (by omega) rfl dX12_back_116 (fun x_17 s_17 a_17 b_17 => ?_)
        refine g_iastI (i := v76_2) (N := 60) B hV gH7 k_q_13 rfl rfl rfl rfl (by omega) (by omega) rfl (z_rng _).1 (z_rng _).2 rfl dX12_back_117 (fun H18 lc18 gH18 uH18 => ?_)
        have s_19 := uH18.keep (Or.inl (k_ne kh0 k_q_13 rfl)) s_8
        have s_20 := uH18.keep (Or.inl (k_ne kh0 k_q_13 rfl)) s_9
        have s_21 := uH18.keep (Or.inl (k_ne kh0 k_q_13 rfl)) s_10
        have s_22 := uH18.keep (Or.inl (k_ne kh0 k_q_13 rfl)) s_11
        have s_23 := uH18.keep (Or.inl (k_ne k_q_3 k_q_13 rfl)) s_12
        have s_24 := uH18.keep (Or.inl (k_ne k_q_2 k_q_13 rfl)) uH7.2.1
        have s_25 := uH18.keep (Or.inl (k_ne kh0 k_q_13 rfl)) s_13
        have s_26 := uH18.keep (Or.inl (k_ne kh0 k_q_13 rfl)) s_14
        have s_27 := uH18.keep (Or.inl (k_ne k_q_14 k_q_13 rfl)) s_17
        refine lv_aload_n hx hb dX12_back_118 rfl (lv_at hl 0 rfl) ?_
        refine g_getR B fl_RX12_80 gH18.1 kh0 rfl rfl rfl rfl rfl dX12_back_119 (fun q_28 s_28 k_q_28 => ?_)
        refine lv_iload_n hx hb dX12_back_122 rfl (lv_at hl 2 rfl) ?_
        refine lv_aload_n hx hb dX12_back_123 rfl (lv_at hl 0 rfl) ?_
        refine g_getR B fl_RX12_119 gH18.1 kh0 rfl rfl rfl rfl rfl dX12_back_124 (fun q_29 s_29 k_q_29 => ?_)
        refine lv_bipush (v := 60) hx hb dX12_back_127 (by decide) ?_
        refine lv_iload_n hx hb dX12_back_129 rfl (lv_at hl 1 rfl) ?_
        refine lv_imul hx hb dX12_back_130 ?_
        refine lv_topi (fun x_30 e_30 => ?_)
        have t_30 := z_mul e_30 kl_60 rfl (by omega) (by omega)
        refine lv_iload_n hx hb dX12_back_131 rfl (lv_at hl 2 rfl) ?_
        refine lv_iadd hx hb dX12_back_132 ?_
        refine lv_topi (fun x_31 e_31 => ?_)
        have t_31 := z_add e_31 rfl rfl (by omega) (by omega)
        refine g_zaldI (i := x_31) (N := 180) B gH18.1 k_q_29 rfl rfl rfl rfl (by omega) (by omega) rfl dX12_back_133 (fun x_32 s_32 a_32 b_32 => ?_)
        refine g_zastI (i := v76_2) (N := 60) B hV gH18 k_q_28 rfl rfl rfl rfl (by omega) (by omega) rfl (by omega) (by omega) rfl dX12_back_134 (fun H33 lc33 gH33 uH33 => ?_)
        have s_34 := uH33.keep (Or.inl (k_ne kh0 k_q_28 rfl)) s_19
        have s_35 := uH33.keep (Or.inl (k_ne kh0 k_q_28 rfl)) s_20
        have s_36 := uH33.keep (Or.inl (k_ne kh0 k_q_28 rfl)) s_21
        have s_37 := uH33.keep (Or.inl (k_ne kh0 k_q_28 rfl)) s_22
        have s_38 := uH33.keep (Or.inl (k_ne k_q_3 k_q_28 rfl)) s_23
        have s_39 := uH33.keep (Or.inl (k_ne k_q_2 k_q_28 rfl)) s_24
        have s_40 := uH33.keep (Or.inl (k_ne kh0 k_q_28 rfl)) s_25
        have s_41 := uH33.keep (Or.inl (k_ne kh0 k_q_28 rfl)) s_26
        have s_42 := uH33.keep (Or.inl (k_ne k_q_14 k_q_28 rfl)) s_27
        have s_43 := uH33.keep (Or.inl (k_ne k_q_13 k_q_28 rfl)) uH18.2.1
        have s_44 := uH33.keep (Or.inl (k_ne kh0 k_q_28 rfl)) s_28
        have s_45 := uH33.keep (Or.inl (k_ne kh0 k_q_28 rfl)) s_29
        have s_46 := uH33.keep (Or.inl (k_ne k_q_29 k_q_28 rfl)) s_32
        refine lv_aload_n hx hb dX12_back_135 rfl (lv_at hl 0 rfl) ?_
        refine g_getR B fl_RX12_83 gH33.1 kh0 rfl rfl rfl rfl rfl dX12_back_136 (fun q_47 s_47 k_q_47 => ?_)
        refine lv_iload_n hx hb dX12_back_139 rfl (lv_at hl 2 rfl) ?_
        refine lv_aload_n hx hb dX12_back_140 rfl (lv_at hl 0 rfl) ?_
        refine g_getR B fl_RX12_122 gH33.1 kh0 rfl rfl rfl rfl rfl dX12_back_141 (fun q_48 s_48 k_q_48 => ?_)
        refine lv_bipush (v := 60) hx hb dX12_back_144 (by decide) ?_
        refine lv_iload_n hx hb dX12_back_146 rfl (lv_at hl 1 rfl) ?_
        refine lv_imul hx hb dX12_back_147 ?_
        refine lv_topi (fun x_49 e_49 => ?_)
        have t_49 := z_mul e_49 kl_60 rfl (by omega) (by omega)
        refine lv_iload_n hx hb dX12_back_148 rfl (lv_at hl 2 rfl) ?_
        refine lv_iadd hx hb dX12_back_149 ?_
        refine lv_topi (fun x_50 e_50 => ?_)
        have t_50 := z_add e_50 rfl rfl (by omega) (by omega)
        refine g_zaldI (i := x_50) (N := 180) B gH33.1 k_q_48 rfl rfl rfl rfl (by omega) (by omega) rfl dX12_back_150 (fun x_51 s_51 a_51 b_51 => ?_)
        refine g_zastI (i := v76_2) (N := 60) B hV gH33 k_q_47 rfl rfl rfl rfl (by omega) (by omega) rfl (by omega) (by omega) rfl dX12_back_151 (fun H52 lc52 gH52 uH52 => ?_)
        have s_53 := uH52.keep (Or.inl (k_ne kh0 k_q_47 rfl)) s_34
        have s_54 := uH52.keep (Or.inl (k_ne kh0 k_q_47 rfl)) s_35
        have s_55 := uH52.keep (Or.inl (k_ne kh0 k_q_47 rfl)) s_36
        have s_56 := uH52.keep (Or.inl (k_ne kh0 k_q_47 rfl)) s_37
        have s_57 := uH52.keep (Or.inl (k_ne k_q_3 k_q_47 rfl)) s_38
        have s_58 := uH52.keep (Or.inl (k_ne k_q_2 k_q_47 rfl)) s_39
        have s_59 := uH52.keep (Or.inl (k_ne kh0 k_q_47 rfl)) s_40
        have s_60 := uH52.keep (Or.inl (k_ne kh0 k_q_47 rfl)) s_41
        have s_61 := uH52.keep (Or.inl (k_ne k_q_14 k_q_47 rfl)) s_42
        have s_62 := uH52.keep (Or.inl (k_ne k_q_13 k_q_47 rfl)) s_43
        have s_63 := uH52.keep (Or.inl (k_ne kh0 k_q_47 rfl)) s_44
        have s_64 := uH52.keep (Or.inl (k_ne kh0 k_q_47 rfl)) s_45
        have s_65 := uH52.keep (Or.inl (k_ne k_q_29 k_q_47 rfl)) s_46
        have s_66 := uH52.keep (Or.inl (k_ne k_q_28 k_q_47 rfl)) uH33.2.1
        have s_67 := uH52.keep (Or.inl (k_ne kh0 k_q_47 rfl)) s_47
        have s_68 := uH52.keep (Or.inl (k_ne kh0 k_q_47 rfl)) s_48
        have s_69 := uH52.keep (Or.inl (k_ne k_q_48 k_q_47 rfl)) s_51
        obtain ⟨x_70, e_70⟩ : ∃ y : Int32, (v76_2 : Int32) + Int32.ofInt 1 = y := ⟨_, rfl⟩
        refine lv_iinc (v := x_70) (lv' := [(2, .int x_70), (0, .ref h0), (1, .int p0)]) hx hb dX12_back_152 hl (k := 2) rfl e_70 (by decide) rfl (fun ls hl => ?_)
        have t_70 := z_inc2 e_70 rfl (by decide) (by omega) (by omega)
        refine lv_goto (tgt := 76) hx hb dX12_back_155 (by decide) ?_
        have := kl_0
        exact ih76 H52 lc52 ls x_70 u76_h0_37 (by omega) gH52 (lv_sub hl [1, 2, 0] rfl) (by omega) (by omega) (by omega) (by omega) (by omega) (by omega) s_53 s_54
  have b37 : ∀ (n37 : Nat) (H37 : Heap) (lc37 : List Loc) (ls : Array Slot) (v37_2 : Int32) (u37_h0_37 : Int32), 3782 - v37_2.toInt < (n37 : Int) → zG E wS_X12_back H0 H37 lc37 → lv_has ls 3 [(0, .ref h0), (1, .int p0), (2, .int v37_2)] → 0 ≤ p0.toInt → p0.toInt ≤ 2 → 0 ≤ v37_2.toInt → v37_2.toInt ≤ 3782 → 0 ≤ u37_h0_37.toInt → u37_h0_37.toInt ≤ 60 → sl H37 h0 (zix E 13 37) = some (.int u37_h0_37) → sl H37 h0 (zix E 13 38) = some (.int 0) → W p l e rm_X12_back s m args below meth c H37 lc37 0 0 Q (F0 m 37 ls []) := by
    intro n37
    induction n37 with
    | zero =>
      intro H37 lc37 ls v37_2 u37_h0_37 hm37 gH37 hl f37_1 f37_2 f37_3 f37_4 f37_5 f37_6 s37_u37_h0_37 s37_u37_h0_38
      exact absurd hm37 (by omega)
    | succ n37 ih37 =>
      intro H37 lc37 ls v37_2 u37_h0_37 hm37 gH37 hl f37_1 f37_2 f37_3 f37_4 f37_5 f37_6 s37_u37_h0_37 s37_u37_h0_38
      refine lv_iload_n hx hb dX12_back_37 rfl (lv_at hl 2 rfl) ?_
      refine lv_bipush (v := 62) hx hb dX12_back_38 (by decide) ?_
      refine lv_aload_n hx hb dX12_back_40 rfl (lv_at hl 0 rfl) ?_
      refine g_get B fl_RX12_305 gH37.1 kh0 rfl rfl rfl dX12_back_41 s37_u37_h0_37 ?_
      refine lv_iconst (v := 1) hx hb dX12_back_44 (by decide) ?_
      refine lv_iadd hx hb dX12_back_45 ?_
      refine lv_topi (fun x_71 e_71 => ?_)
      have t_71 := z_add e_71 rfl kl_1 (by omega) (by omega)
      refine lv_imul hx hb dX12_back_46 ?_
      refine lv_topi (fun x_72 e_72 => ?_)
      have t_72 := z_mul e_72 kl_62 rfl (by omega) (by omega)
      refine lv_icmp_ge (tgt := 74) hx hb dX12_back_47 (by decide) (fun c_73 => ?_) (fun c_73 => ?_)
      · have f_73 := z_le c_73 rfl rfl
        refine lv_iconst (v := 0) hx hb dX12_back_74 (by decide) ?_
        refine lv_istore_n (lv' := [(2, .int 0), (0, .ref h0), (1, .int p0)]) hx hb dX12_back_75 rfl hl (by decide) rfl (fun ls hl => ?_)
        have := kl_0
        have := kl_0
        exact b76 61 H37 lc37 ls 0 u37_h0_37 (by omega) gH37 (lv_sub hl [1, 2, 0] rfl) (by omega) (by omega) (by omega) (by omega) (by omega) (by omega) s37_u37_h0_37 s37_u37_h0_38
      · have f_73 := z_nle c_73 rfl rfl
        refine lv_aload_n hx hb dX12_back_50 rfl (lv_at hl 0 rfl) ?_
        refine g_getR B fl_RX12_16 gH37.1 kh0 rfl rfl rfl rfl rfl dX12_back_51 (fun q_74 s_74 k_q_74 => ?_)
        refine lv_iload_n hx hb dX12_back_54 rfl (lv_at hl 2 rfl) ?_
        refine lv_aload_n hx hb dX12_back_55 rfl (lv_at hl 0 rfl) ?_
        refine g_getR B fl_RX12_110 gH37.1 kh0 rfl rfl rfl rfl rfl dX12_back_56 (fun q_75 s_75 k_q_75 => ?_)
        refine lv_sipush (v := 3782) hx hb dX12_back_59 (by decide) ?_
        refine lv_iload_n hx hb dX12_back_62 rfl (lv_at hl 1 rfl) ?_
        refine lv_imul hx hb dX12_back_63 ?_
        refine lv_topi (fun x_76 e_76 => ?_)
        have t_76 := z_mul e_76 kl_3782 rfl (by omega) (by omega)
        refine lv_iload_n hx hb dX12_back_64 rfl (lv_at hl 2 rfl) ?_
        refine lv_iadd hx hb dX12_back_65 ?_
        refine lv_topi (fun x_77 e_77 => ?_)
        have t_77 := z_add e_77 rfl rfl (by omega) (by omega)
        refine g_ialdP (i := x_77) (N := 11346) B gH37.1 k_q_75 rfl rfl rfl rfl (fun _ => rfl) (by omega) (by omega) dX12_back_66 (fun x_78 s_78 a_78 => ?_)
        have := z_cl (x := x_77) (by omega)
        have := z_cl (x := v37_2) (by omega)
        refine g_iastP (i := v37_2) (N := 6076) B hV gH37 k_q_74 rfl rfl rfl rfl (fun _ => rfl) (by omega) (by omega) (by omega) rfl dX12_back_67 (fun H79 lc79 gH79 uH79 => ?_)
        have s_80 := uH79.keep (Or.inl (k_ne kh0 k_q_74 rfl)) s37_u37_h0_37
        have s_81 := uH79.keep (Or.inl (k_ne kh0 k_q_74 rfl)) s37_u37_h0_38
        have s_82 := uH79.keep (Or.inl (k_ne kh0 k_q_74 rfl)) s_74
        have s_83 := uH79.keep (Or.inl (k_ne kh0 k_q_74 rfl)) s_75
        have s_84 := uH79.keep (Or.inl (k_ne k_q_75 k_q_74 rfl)) s_78
        obtain ⟨x_85, e_85⟩ : ∃ y : Int32, (v37_2 : Int32) + Int32.ofInt 1 = y := ⟨_, rfl⟩
        refine lv_iinc (v := x_85) (lv' := [(2, .int x_85), (0, .ref h0), (1, .int p0)]) hx hb dX12_back_68 hl (k := 2) rfl e_85 (by decide) rfl (fun ls hl => ?_)
        have t_85 := z_inc2 e_85 rfl (by decide) (by omega) (by omega)
        refine lv_goto (tgt := 37) hx hb dX12_back_71 (by decide) ?_
        have := kl_0
        exact ih37 H79 lc79 ls x_85 u37_h0_37 (by omega) gH79 (lv_sub hl [1, 2, 0] rfl) (by omega) (by omega) (by omega) (by omega) (by omega) (by omega) s_80 s_81
  refine lv_iload_n hx hb dX12_back_0 rfl (lv_at hl 1 rfl) ?_
  refine lv_iconst (v := 0) hx hb dX12_back_1 (by decide) ?_
  refine lv_iconst (v := 2) hx hb dX12_back_2 (by decide) ?_
  refine zkPI (zrS (rest := []) B (c_X12_isIn l E hV H0 hT0 p0 0 2) cs_RX12_260 rfl hl.1 rfl (Nat.le_of_ble_eq_true rfl) dX12_back_3 rfl rfl ⟨rfl, rfl⟩ ⟨Nat.zero_le _, Nat.zero_le _⟩ (zO.of hG0 hh)) (fun x_86 hp_86 => ?_)
  obtain ⟨hp_86_1, hp_86_2, hp_86_3⟩ := hp_86
  have := kl_0
  have := kl_2
  refine lv_if_eq (tgt := 18) hx hb dX12_back_6 (by decide) (fun c_87 => ?_) (fun c_87 => ?_)
  · have f_87 := z_eq c_87 rfl kl_0
    refine lv_iconst (v := (-1)) hx hb dX12_back_18 (by decide) ?_
    have := kl_m1
    have := kl_m1
    exact rtI (v := (-1)) B hr hlk hh hQ hG0 rfl ⟨by omega, by omega, n0, s_n0, by omega, by omega, u0, s_u0, by omega, by omega, by omega⟩ dX12_back_19
  · have f_87 := z_ne c_87 rfl kl_0
    refine lv_aload_n hx hb dX12_back_9 rfl (lv_at hl 0 rfl) ?_
    refine g_getR B fl_RX12_107 hT0 kh0 rfl rfl rfl rfl rfl dX12_back_10 (fun q_88 s_88 k_q_88 => ?_)
    refine lv_iload_n hx hb dX12_back_13 rfl (lv_at hl 1 rfl) ?_
    refine g_ialdI (i := p0) (N := 3) B hT0 k_q_88 rfl rfl rfl rfl (by omega) (by omega) rfl dX12_back_14 (fun x_89 s_89 a_89 b_89 => ?_)
    refine lv_if_ge (tgt := 20) hx hb dX12_back_15 (by decide) (fun c_90 => ?_) (fun c_90 => ?_)
    · have f_90 := z_le c_90 kl_0 rfl
      refine lv_aload_n hx hb dX12_back_20 rfl (lv_at hl 0 rfl) ?_
      refine lv_aload_n hx hb dX12_back_21 rfl (lv_at hl 0 rfl) ?_
      refine g_get B fl_RX12_107 hT0 kh0 rfl rfl rfl dX12_back_22 s_88 ?_
      refine lv_iload_n hx hb dX12_back_25 rfl (lv_at hl 1 rfl) ?_
      refine g_iald (i := p0) (N := 3) B hT0 k_q_88 rfl rfl rfl rfl (by omega) (by omega) s_89 dX12_back_26 ?_
      refine g_putI B fp_RX12_305 hV hG0 kh0 rfl rfl rfl rfl rfl (by omega) (by omega) rfl dX12_back_27 (fun H91 lc91 gH91 uH91 => ?_)
      have s_92 := uH91.keep (Or.inr (j_ne hV rfl rfl rfl rfl)) s_u0
      have s_93 := uH91.keep (Or.inl (k_ne k_q_88 kh0 rfl)) s_89
      refine lv_aload_n hx hb dX12_back_30 rfl (lv_at hl 0 rfl) ?_
      refine lv_iconst (v := 0) hx hb dX12_back_31 (by decide) ?_
      have := kl_0
      refine g_putI B fp_RX12_335 hV gH91 kh0 rfl rfl rfl rfl rfl (by omega) (by omega) rfl dX12_back_32 (fun H94 lc94 gH94 uH94 => ?_)
      have s_95 := uH94.keep (Or.inl (k_ne k_q_88 kh0 rfl)) s_93
      have s_96 := uH94.keep (Or.inr (j_ne hV rfl rfl rfl rfl)) uH91.2.1
      refine lv_iconst (v := 0) hx hb dX12_back_35 (by decide) ?_
      refine lv_istore_n (lv' := [(2, .int 0), (0, .ref h0), (1, .int p0)]) hx hb dX12_back_36 rfl hl (by decide) rfl (fun ls hl => ?_)
      have := kl_0
      have := kl_0
      exact b37 3783 H94 lc94 ls 0 x_89 (by omega) gH94 (lv_sub hl [1, 2, 0] rfl) (by omega) (by omega) (by omega) (by omega) (by omega) (by omega) s_96 uH94.2.1
    · have f_90 := z_nle c_90 kl_0 rfl
      refine lv_iconst (v := (-1)) hx hb dX12_back_18 (by decide) ?_
      have := kl_m1
      have := kl_m1
      exact rtI (v := (-1)) B hr hlk hh hQ hG0 rfl ⟨by omega, by omega, n0, s_n0, by omega, by omega, u0, s_u0, by omega, by omega, by omega⟩ dX12_back_19

theorem dX12_noticed_0 : decode cX12_noticed 0 = .ok (.iconst 0, 1) := by decide +kernel
theorem dX12_noticed_1 : decode cX12_noticed 1 = .ok (.istore_n 1, 1) := by decide +kernel
theorem dX12_noticed_2 : decode cX12_noticed 2 = .ok (.iconst 0, 1) := by decide +kernel
theorem dX12_noticed_3 : decode cX12_noticed 3 = .ok (.istore_n 2, 1) := by decide +kernel
theorem dX12_noticed_4 : decode cX12_noticed 4 = .ok (.iload_n 2, 1) := by decide +kernel
theorem dX12_noticed_5 : decode cX12_noticed 5 = .ok (.aload_n 0, 1) := by decide +kernel
theorem dX12_noticed_6 : decode cX12_noticed 6 = .ok (.getfield 305, 3) := by decide +kernel
theorem dX12_noticed_9 : decode cX12_noticed 9 = .ok (.if_icmp .ge 26, 3) := by decide +kernel
theorem dX12_noticed_12 : decode cX12_noticed 12 = .ok (.iload_n 1, 1) := by decide +kernel
theorem dX12_noticed_13 : decode cX12_noticed 13 = .ok (.aload_n 0, 1) := by decide +kernel
theorem dX12_noticed_14 : decode cX12_noticed 14 = .ok (.getfield 83, 3) := by decide +kernel
theorem dX12_noticed_17 : decode cX12_noticed 17 = .ok (.iload_n 2, 1) := by decide +kernel
theorem dX12_noticed_18 : decode cX12_noticed 18 = .ok (.baload, 1) := by decide +kernel
theorem dX12_noticed_19 : decode cX12_noticed 19 = .ok (.ifCond .eq 7, 3) := by decide +kernel
theorem dX12_noticed_22 : decode cX12_noticed 22 = .ok (.iconst 1, 1) := by decide +kernel
theorem dX12_noticed_23 : decode cX12_noticed 23 = .ok (.goto 4, 3) := by decide +kernel
theorem dX12_noticed_26 : decode cX12_noticed 26 = .ok (.iconst 0, 1) := by decide +kernel
theorem dX12_noticed_27 : decode cX12_noticed 27 = .ok (.iadd, 1) := by decide +kernel
theorem dX12_noticed_28 : decode cX12_noticed 28 = .ok (.istore_n 1, 1) := by decide +kernel
theorem dX12_noticed_29 : decode cX12_noticed 29 = .ok (.iinc 2 1, 3) := by decide +kernel
theorem dX12_noticed_32 : decode cX12_noticed 32 = .ok (.goto (-28), 3) := by decide +kernel
theorem dX12_noticed_35 : decode cX12_noticed 35 = .ok (.iload_n 1, 1) := by decide +kernel
theorem dX12_noticed_36 : decode cX12_noticed 36 = .ok (.ireturn, 1) := by decide +kernel
def rm_X12_noticed : Room := { frames := 0, cells := 0, slots := 0, locals := 0 }
set_option maxRecDepth 100000 in
set_option maxHeartbeats 4000000 in
theorem c_X12_noticed (l : Launch) (E : zE) (hV : zV E) (H0 : Heap) (hT0 : HT E H0) (h0 : Nat) (kh0 : eK E h0 = 13) : Met l yX12_noticed (zws yX12_noticed cX12_noticed 3 (some .int)) rm_X12_noticed (zP E H0 [.ref h0]) (zPI (fun r => True)) 0 0 (fun _ => False) := by
  refine zEnt (by decide) (Nat.le_of_ble_eq_true rfl) (fun p e s m args below meth c ls Q B hr hlk hh hQ hl => ?_)
  have hx := B.1
  have hb := B.2.1
  have hl : lv_has ls 3 [(0, .ref h0)] := hl
  have b4 : ∀ (n4 : Nat) (ls : Array Slot) (v4_1 : Int32) (v4_2 : Int32), 60 - v4_2.toInt < (n4 : Int) → lv_has ls 3 [(0, .ref h0), (1, .int v4_1), (2, .int v4_2)] → 0 ≤ v4_2.toInt → v4_2.toInt ≤ 60 → W p l e rm_X12_noticed s m args below meth c H0 [] 0 0 Q (F0 m 4 ls []) := by
    intro n4
    induction n4 with
    | zero =>
      intro ls v4_1 v4_2 hm4 hl f4_1 f4_2
      exact absurd hm4 (by omega)
    | succ n4 ih4 =>
      intro ls v4_1 v4_2 hm4 hl f4_1 f4_2
      have b27 : ∀ (ls : Array Slot) (w27_0 : Int32) (u27_h0_37 : Int32) (u27_h0_36 : Nat), lv_has ls 3 [(0, .ref h0), (2, .int v4_2)] → eK E u27_h0_36 = 80 → v4_2.toInt ≤ 59 → 0 ≤ w27_0.toInt → w27_0.toInt ≤ 1 → 1 ≤ u27_h0_37.toInt → u27_h0_37.toInt ≤ 60 → sl H0 h0 (zix E 13 37) = some (.int u27_h0_37) → sl H0 h0 (zix E 13 36) = some (.ref u27_h0_36) → W p l e rm_X12_noticed s m args below meth c H0 [] 0 0 Q (F0 m 27 ls [.int w27_0, .int v4_1]) := by
        intro ls w27_0 u27_h0_37 u27_h0_36 hl k_u27_h0_36 f27_1 f27_2 f27_3 f27_4 f27_5 s27_u27_h0_37 s27_u27_h0_36
        refine lv_iadd hx hb dX12_noticed_27 ?_
        refine lv_topi (fun x_1 e_1 => ?_)
        refine lv_istore_n (lv' := [(1, .int x_1), (0, .ref h0), (2, .int v4_2)]) hx hb dX12_noticed_28 rfl hl (by decide) rfl (fun ls hl => ?_)
        obtain ⟨x_2, e_2⟩ : ∃ y : Int32, (v4_2 : Int32) + Int32.ofInt 1 = y := ⟨_, rfl⟩
        refine lv_iinc (v := x_2) (lv' := [(2, .int x_2), (1, .int x_1), (0, .ref h0)]) hx hb dX12_noticed_29 hl (k := 2) rfl e_2 (by decide) rfl (fun ls hl => ?_)
        have t_2 := z_inc2 e_2 rfl (by decide) (by omega) (by omega)
        refine lv_goto (tgt := 4) hx hb dX12_noticed_32 (by decide) ?_
        exact ih4 ls x_1 x_2 (by omega) (lv_sub hl [2, 1, 0] rfl) (by omega) (by omega)
      refine lv_iload_n hx hb dX12_noticed_4 rfl (lv_at hl 2 rfl) ?_
      refine lv_aload_n hx hb dX12_noticed_5 rfl (lv_at hl 0 rfl) ?_
      refine g_getI B fl_RX12_305 hT0 kh0 rfl rfl rfl rfl rfl dX12_noticed_6 (fun x_3 s_3 a_3 b_3 => ?_)
      refine lv_icmp_ge (tgt := 35) hx hb dX12_noticed_9 (by decide) (fun c_4 => ?_) (fun c_4 => ?_)
      · have f_4 := z_le c_4 rfl rfl
        refine lv_iload_n hx hb dX12_noticed_35 rfl (lv_at hl 1 rfl) ?_
        exact rtPI (v := v4_1) B hr hlk hh hQ rfl trivial dX12_noticed_36
      · have f_4 := z_nle c_4 rfl rfl
        refine lv_iload_n hx hb dX12_noticed_12 rfl (lv_at hl 1 rfl) ?_
        refine lv_aload_n hx hb dX12_noticed_13 rfl (lv_at hl 0 rfl) ?_
        refine g_getR B fl_RX12_83 hT0 kh0 rfl rfl rfl rfl rfl dX12_noticed_14 (fun q_5 s_5 k_q_5 => ?_)
        refine lv_iload_n hx hb dX12_noticed_17 rfl (lv_at hl 2 rfl) ?_
        refine g_zaldI (i := v4_2) (N := 60) B hT0 k_q_5 rfl rfl rfl rfl (by omega) (by omega) rfl dX12_noticed_18 (fun x_6 s_6 a_6 b_6 => ?_)
        refine lv_if_eq (tgt := 26) hx hb dX12_noticed_19 (by decide) (fun c_7 => ?_) (fun c_7 => ?_)
        · have f_7 := z_eq c_7 rfl kl_0
          refine lv_iconst (v := 0) hx hb dX12_noticed_26 (by decide) ?_
          have := kl_0
          exact b27 ls 0 x_3 q_5 (lv_sub hl [0, 2] rfl) k_q_5 (by omega) (by omega) (by omega) (by omega) (by omega) s_3 s_5
        · have f_7 := z_ne c_7 rfl kl_0
          refine lv_iconst (v := 1) hx hb dX12_noticed_22 (by decide) ?_
          refine lv_goto (tgt := 27) hx hb dX12_noticed_23 (by decide) ?_
          have := kl_1
          exact b27 ls 1 x_3 q_5 (lv_sub hl [0, 2] rfl) k_q_5 (by omega) (by omega) (by omega) (by omega) (by omega) s_3 s_5
  refine lv_iconst (v := 0) hx hb dX12_noticed_0 (by decide) ?_
  refine lv_istore_n (lv' := [(1, .int 0), (0, .ref h0)]) hx hb dX12_noticed_1 rfl hl (by decide) rfl (fun ls hl => ?_)
  refine lv_iconst (v := 0) hx hb dX12_noticed_2 (by decide) ?_
  refine lv_istore_n (lv' := [(2, .int 0), (1, .int 0), (0, .ref h0)]) hx hb dX12_noticed_3 rfl hl (by decide) rfl (fun ls hl => ?_)
  have := kl_0
  have := kl_0
  exact b4 61 ls 0 0 (by omega) (lv_sub hl [2, 1, 0] rfl) (by omega) (by omega)

theorem dX12_about_0 : decode cX12_about 0 = .ok (.iload_n 1, 1) := by decide +kernel
theorem dX12_about_1 : decode cX12_about 1 = .ok (.tableswitch 120 0 9 #[55, 60, 70, 80, 85, 90, 95, 100, 105, 115], 55) := by decide +kernel
theorem dX12_about_56 : decode cX12_about 56 = .ok (.aload_n 0, 1) := by decide +kernel
theorem dX12_about_57 : decode cX12_about 57 = .ok (.invokevirtual 275, 3) := by decide +kernel
theorem dX12_about_60 : decode cX12_about 60 = .ok (.ireturn, 1) := by decide +kernel
theorem dX12_about_61 : decode cX12_about 61 = .ok (.aload_n 0, 1) := by decide +kernel
theorem dX12_about_62 : decode cX12_about 62 = .ok (.getfield 30, 3) := by decide +kernel
theorem dX12_about_65 : decode cX12_about 65 = .ok (.aload_n 0, 1) := by decide +kernel
theorem dX12_about_66 : decode cX12_about 66 = .ok (.getfield 217, 3) := by decide +kernel
theorem dX12_about_69 : decode cX12_about 69 = .ok (.iaload, 1) := by decide +kernel
theorem dX12_about_70 : decode cX12_about 70 = .ok (.ireturn, 1) := by decide +kernel
theorem dX12_about_71 : decode cX12_about 71 = .ok (.aload_n 0, 1) := by decide +kernel
theorem dX12_about_72 : decode cX12_about 72 = .ok (.getfield 33, 3) := by decide +kernel
theorem dX12_about_75 : decode cX12_about 75 = .ok (.aload_n 0, 1) := by decide +kernel
theorem dX12_about_76 : decode cX12_about 76 = .ok (.getfield 217, 3) := by decide +kernel
theorem dX12_about_79 : decode cX12_about 79 = .ok (.iaload, 1) := by decide +kernel
theorem dX12_about_80 : decode cX12_about 80 = .ok (.ireturn, 1) := by decide +kernel
theorem dX12_about_81 : decode cX12_about 81 = .ok (.aload_n 0, 1) := by decide +kernel
theorem dX12_about_82 : decode cX12_about 82 = .ok (.getfield 305, 3) := by decide +kernel
theorem dX12_about_85 : decode cX12_about 85 = .ok (.ireturn, 1) := by decide +kernel
theorem dX12_about_86 : decode cX12_about 86 = .ok (.aload_n 0, 1) := by decide +kernel
theorem dX12_about_87 : decode cX12_about 87 = .ok (.getfield 335, 3) := by decide +kernel
theorem dX12_about_90 : decode cX12_about 90 = .ok (.ireturn, 1) := by decide +kernel
theorem dX12_about_91 : decode cX12_about 91 = .ok (.aload_n 0, 1) := by decide +kernel
theorem dX12_about_92 : decode cX12_about 92 = .ok (.getfield 223, 3) := by decide +kernel
theorem dX12_about_95 : decode cX12_about 95 = .ok (.ireturn, 1) := by decide +kernel
theorem dX12_about_96 : decode cX12_about 96 = .ok (.aload_n 0, 1) := by decide +kernel
theorem dX12_about_97 : decode cX12_about 97 = .ok (.getfield 369, 3) := by decide +kernel
theorem dX12_about_100 : decode cX12_about 100 = .ok (.ireturn, 1) := by decide +kernel
theorem dX12_about_101 : decode cX12_about 101 = .ok (.aload_n 0, 1) := by decide +kernel
theorem dX12_about_102 : decode cX12_about 102 = .ok (.getfield 214, 3) := by decide +kernel
theorem dX12_about_105 : decode cX12_about 105 = .ok (.ireturn, 1) := by decide +kernel
theorem dX12_about_106 : decode cX12_about 106 = .ok (.aload_n 0, 1) := by decide +kernel
theorem dX12_about_107 : decode cX12_about 107 = .ok (.getfield 36, 3) := by decide +kernel
theorem dX12_about_110 : decode cX12_about 110 = .ok (.aload_n 0, 1) := by decide +kernel
theorem dX12_about_111 : decode cX12_about 111 = .ok (.getfield 217, 3) := by decide +kernel
theorem dX12_about_114 : decode cX12_about 114 = .ok (.iaload, 1) := by decide +kernel
theorem dX12_about_115 : decode cX12_about 115 = .ok (.ireturn, 1) := by decide +kernel
theorem dX12_about_116 : decode cX12_about 116 = .ok (.aload_n 0, 1) := by decide +kernel
theorem dX12_about_117 : decode cX12_about 117 = .ok (.invokevirtual 382, 3) := by decide +kernel
theorem dX12_about_120 : decode cX12_about 120 = .ok (.ireturn, 1) := by decide +kernel
theorem dX12_about_121 : decode cX12_about 121 = .ok (.iconst (-1), 1) := by decide +kernel
theorem dX12_about_122 : decode cX12_about 122 = .ok (.ireturn, 1) := by decide +kernel
def rm_X12_about : Room := { frames := 1, cells := 0, slots := 0, locals := 22 }
set_option maxRecDepth 100000 in
set_option maxHeartbeats 4000000 in
theorem c_X12_about (l : Launch) (E : zE) (hV : zV E) (H0 : Heap) (hT0 : HT E H0) (h0 : Nat) (kh0 : eK E h0 = 13) (p0 : Int32) : Met l yX12_about (zws yX12_about cX12_about 2 (some .int)) rm_X12_about (zP E H0 [.ref h0, .int p0]) (zPI (fun r => True)) 0 0 (fun _ => False) := by
  refine zEnt (by decide) (Nat.le_of_ble_eq_true rfl) (fun p e s m args below meth c ls Q B hr hlk hh hQ hl => ?_)
  have hx := B.1
  have hb := B.2.1
  have hl : lv_has ls 2 [(0, .ref h0), (1, .int p0)] := hl
  refine lv_iload_n hx hb dX12_about_0 rfl (lv_at hl 1 rfl) ?_
  by_cases c_1 : 0 ≤ p0.toInt ∧ p0.toInt ≤ 9
  · have : p0.toInt = 0 ∨ p0.toInt = 1 ∨ p0.toInt = 2 ∨ p0.toInt = 3 ∨ p0.toInt = 4 ∨ p0.toInt = 5 ∨ p0.toInt = 6 ∨ p0.toInt = 7 ∨ p0.toInt = 8 ∨ p0.toInt = 9 := by omega
    rcases this with h_1 | h_1 | h_1 | h_1 | h_1 | h_1 | h_1 | h_1 | h_1 | h_1
    · refine lv_tableIn (off := 55) (tgt := 56) hx hb dX12_about_1 (by omega) (by omega) (by rw [h_1]; rfl) (by decide) ?_
      refine lv_aload_n hx hb dX12_about_56 rfl (lv_at hl 0 rfl) ?_
      obtain ⟨q_2, s_2, k_q_2⟩ := HT.atR hT0 kh0 rfl (j := 12) (by decide) rfl
      obtain ⟨x_3, s_3, a_3, b_3⟩ := HT.atI hT0 kh0 rfl (j := 26) (by decide) rfl
      obtain ⟨x_4, s_4, a_4, b_4⟩ := HT.elI (i := x_3) (N := 2) hT0 k_q_2 rfl rfl rfl (by omega) (by omega) rfl
      refine zkPI (zrV (rest := []) B (c_X12_squares l E hV H0 hT0 h0 kh0 q_2 k_q_2 s_2 x_3 s_3 x_4 s_4) cl_RX12_275 hT0 kh0 rfl rfl rfl rfl hl.1 rfl (Nat.le_of_ble_eq_true rfl) dX12_about_57 rfl rfl ⟨rfl, rfl⟩ ⟨Nat.zero_le _, Nat.zero_le _⟩ (zO.rf hh)) (fun x_5 hp_5 => ?_)
      obtain ⟨hp_5_1, hp_5_2, hp_5_3⟩ := hp_5
      exact rtPI (v := x_5) B hr hlk hh hQ rfl trivial dX12_about_60
    · refine lv_tableIn (off := 60) (tgt := 61) hx hb dX12_about_1 (by omega) (by omega) (by rw [h_1]; rfl) (by decide) ?_
      refine lv_aload_n hx hb dX12_about_61 rfl (lv_at hl 0 rfl) ?_
      refine g_getR B fl_RX12_30 hT0 kh0 rfl rfl rfl rfl rfl dX12_about_62 (fun q_6 s_6 k_q_6 => ?_)
      refine lv_aload_n hx hb dX12_about_65 rfl (lv_at hl 0 rfl) ?_
      refine g_getI B fl_RX12_217 hT0 kh0 rfl rfl rfl rfl rfl dX12_about_66 (fun x_7 s_7 a_7 b_7 => ?_)
      refine g_ialdI (i := x_7) (N := 2) B hT0 k_q_6 rfl rfl rfl rfl (by omega) (by omega) rfl dX12_about_69 (fun x_8 s_8 a_8 b_8 => ?_)
      exact rtPI (v := x_8) B hr hlk hh hQ rfl trivial dX12_about_70
    · refine lv_tableIn (off := 70) (tgt := 71) hx hb dX12_about_1 (by omega) (by omega) (by rw [h_1]; rfl) (by decide) ?_
      refine lv_aload_n hx hb dX12_about_71 rfl (lv_at hl 0 rfl) ?_
      refine g_getR B fl_RX12_33 hT0 kh0 rfl rfl rfl rfl rfl dX12_about_72 (fun q_9 s_9 k_q_9 => ?_)
      refine lv_aload_n hx hb dX12_about_75 rfl (lv_at hl 0 rfl) ?_
      refine g_getI B fl_RX12_217 hT0 kh0 rfl rfl rfl rfl rfl dX12_about_76 (fun x_10 s_10 a_10 b_10 => ?_)
      refine g_ialdI (i := x_10) (N := 2) B hT0 k_q_9 rfl rfl rfl rfl (by omega) (by omega) rfl dX12_about_79 (fun x_11 s_11 a_11 b_11 => ?_)
      exact rtPI (v := x_11) B hr hlk hh hQ rfl trivial dX12_about_80
    · refine lv_tableIn (off := 80) (tgt := 81) hx hb dX12_about_1 (by omega) (by omega) (by rw [h_1]; rfl) (by decide) ?_
      refine lv_aload_n hx hb dX12_about_81 rfl (lv_at hl 0 rfl) ?_
      refine g_getI B fl_RX12_305 hT0 kh0 rfl rfl rfl rfl rfl dX12_about_82 (fun x_12 s_12 a_12 b_12 => ?_)
      exact rtPI (v := x_12) B hr hlk hh hQ rfl trivial dX12_about_85
    · refine lv_tableIn (off := 85) (tgt := 86) hx hb dX12_about_1 (by omega) (by omega) (by rw [h_1]; rfl) (by decide) ?_
      refine lv_aload_n hx hb dX12_about_86 rfl (lv_at hl 0 rfl) ?_
      refine g_getI B fl_RX12_335 hT0 kh0 rfl rfl rfl rfl rfl dX12_about_87 (fun x_13 s_13 a_13 b_13 => ?_)
      exact rtPI (v := x_13) B hr hlk hh hQ rfl trivial dX12_about_90
    · refine lv_tableIn (off := 90) (tgt := 91) hx hb dX12_about_1 (by omega) (by omega) (by rw [h_1]; rfl) (by decide) ?_
      refine lv_aload_n hx hb dX12_about_91 rfl (lv_at hl 0 rfl) ?_
      refine g_getI B fl_RX12_223 hT0 kh0 rfl rfl rfl rfl rfl dX12_about_92 (fun x_14 s_14 a_14 b_14 => ?_)
      exact rtPI (v := x_14) B hr hlk hh hQ rfl trivial dX12_about_95
    · refine lv_tableIn (off := 95) (tgt := 96) hx hb dX12_about_1 (by omega) (by omega) (by rw [h_1]; rfl) (by decide) ?_
      refine lv_aload_n hx hb dX12_about_96 rfl (lv_at hl 0 rfl) ?_
      refine g_getI B fl_RX12_369 hT0 kh0 rfl rfl rfl rfl rfl dX12_about_97 (fun x_15 s_15 a_15 b_15 => ?_)
      exact rtPI (v := x_15) B hr hlk hh hQ rfl trivial dX12_about_100
    · refine lv_tableIn (off := 100) (tgt := 101) hx hb dX12_about_1 (by omega) (by omega) (by rw [h_1]; rfl) (by decide) ?_
      refine lv_aload_n hx hb dX12_about_101 rfl (lv_at hl 0 rfl) ?_
      refine g_getI B fl_RX12_214 hT0 kh0 rfl rfl rfl rfl rfl dX12_about_102 (fun x_16 s_16 a_16 b_16 => ?_)
      exact rtPI (v := x_16) B hr hlk hh hQ rfl trivial dX12_about_105
    · refine lv_tableIn (off := 105) (tgt := 106) hx hb dX12_about_1 (by omega) (by omega) (by rw [h_1]; rfl) (by decide) ?_
      refine lv_aload_n hx hb dX12_about_106 rfl (lv_at hl 0 rfl) ?_
      refine g_getR B fl_RX12_36 hT0 kh0 rfl rfl rfl rfl rfl dX12_about_107 (fun q_17 s_17 k_q_17 => ?_)
      refine lv_aload_n hx hb dX12_about_110 rfl (lv_at hl 0 rfl) ?_
      refine g_getI B fl_RX12_217 hT0 kh0 rfl rfl rfl rfl rfl dX12_about_111 (fun x_18 s_18 a_18 b_18 => ?_)
      refine g_ialdI (i := x_18) (N := 2) B hT0 k_q_17 rfl rfl rfl rfl (by omega) (by omega) rfl dX12_about_114 (fun x_19 s_19 a_19 b_19 => ?_)
      exact rtPI (v := x_19) B hr hlk hh hQ rfl trivial dX12_about_115
    · refine lv_tableIn (off := 115) (tgt := 116) hx hb dX12_about_1 (by omega) (by omega) (by rw [h_1]; rfl) (by decide) ?_
      refine lv_aload_n hx hb dX12_about_116 rfl (lv_at hl 0 rfl) ?_
      refine zkPI (zrV (rest := []) B (c_X12_noticed l E hV H0 hT0 h0 kh0) cl_RX12_382 hT0 kh0 rfl rfl rfl rfl hl.1 rfl (Nat.le_of_ble_eq_true rfl) dX12_about_117 rfl rfl ⟨rfl, rfl⟩ ⟨Nat.zero_le _, Nat.zero_le _⟩ (zO.rf hh)) (fun x_20 hp_20 => ?_)
      exact rtPI (v := x_20) B hr hlk hh hQ rfl trivial dX12_about_120
  · refine lv_tableOut (tgt := 121) hx hb dX12_about_1 (by omega) (by decide) ?_
    refine lv_iconst (v := (-1)) hx hb dX12_about_121 (by decide) ?_
    have := kl_m1
    have := kl_m1
    exact rtPI (v := (-1)) B hr hlk hh hQ rfl trivial dX12_about_122

theorem dX12_feed_0 : decode cX12_feed 0 = .ok (.aload_n 0, 1) := by decide +kernel
theorem dX12_feed_1 : decode cX12_feed 1 = .ok (.getfield 214, 3) := by decide +kernel
theorem dX12_feed_4 : decode cX12_feed 4 = .ok (.bipush 20, 2) := by decide +kernel
theorem dX12_feed_6 : decode cX12_feed 6 = .ok (.iadd, 1) := by decide +kernel
theorem dX12_feed_7 : decode cX12_feed 7 = .ok (.sipush 1600, 3) := by decide +kernel
theorem dX12_feed_10 : decode cX12_feed 10 = .ok (.if_icmp .le 5, 3) := by decide +kernel
theorem dX12_feed_13 : decode cX12_feed 13 = .ok (.iconst (-1), 1) := by decide +kernel
theorem dX12_feed_14 : decode cX12_feed 14 = .ok (.ireturn, 1) := by decide +kernel
theorem dX12_feed_15 : decode cX12_feed 15 = .ok (.iconst 0, 1) := by decide +kernel
theorem dX12_feed_16 : decode cX12_feed 16 = .ok (.istore 6, 2) := by decide +kernel
theorem dX12_feed_18 : decode cX12_feed 18 = .ok (.iload 6, 2) := by decide +kernel
theorem dX12_feed_20 : decode cX12_feed 20 = .ok (.bipush 20, 2) := by decide +kernel
theorem dX12_feed_22 : decode cX12_feed 22 = .ok (.if_icmp .ge 83, 3) := by decide +kernel
theorem dX12_feed_25 : decode cX12_feed 25 = .ok (.iload 6, 2) := by decide +kernel
theorem dX12_feed_27 : decode cX12_feed 27 = .ok (.iconst 4, 1) := by decide +kernel
theorem dX12_feed_28 : decode cX12_feed 28 = .ok (.if_icmp .ge 7, 3) := by decide +kernel
theorem dX12_feed_31 : decode cX12_feed 31 = .ok (.iload_n 1, 1) := by decide +kernel
theorem dX12_feed_32 : decode cX12_feed 32 = .ok (.goto 39, 3) := by decide +kernel
theorem dX12_feed_35 : decode cX12_feed 35 = .ok (.iload 6, 2) := by decide +kernel
theorem dX12_feed_37 : decode cX12_feed 37 = .ok (.bipush 8, 2) := by decide +kernel
theorem dX12_feed_39 : decode cX12_feed 39 = .ok (.if_icmp .ge 7, 3) := by decide +kernel
theorem dX12_feed_42 : decode cX12_feed 42 = .ok (.iload_n 2, 1) := by decide +kernel
theorem dX12_feed_43 : decode cX12_feed 43 = .ok (.goto 28, 3) := by decide +kernel
theorem dX12_feed_46 : decode cX12_feed 46 = .ok (.iload 6, 2) := by decide +kernel
theorem dX12_feed_48 : decode cX12_feed 48 = .ok (.bipush 12, 2) := by decide +kernel
theorem dX12_feed_50 : decode cX12_feed 50 = .ok (.if_icmp .ge 7, 3) := by decide +kernel
theorem dX12_feed_53 : decode cX12_feed 53 = .ok (.iload_n 3, 1) := by decide +kernel
theorem dX12_feed_54 : decode cX12_feed 54 = .ok (.goto 17, 3) := by decide +kernel
theorem dX12_feed_57 : decode cX12_feed 57 = .ok (.iload 6, 2) := by decide +kernel
theorem dX12_feed_59 : decode cX12_feed 59 = .ok (.bipush 16, 2) := by decide +kernel
theorem dX12_feed_61 : decode cX12_feed 61 = .ok (.if_icmp .ge 8, 3) := by decide +kernel
theorem dX12_feed_64 : decode cX12_feed 64 = .ok (.iload 4, 2) := by decide +kernel
theorem dX12_feed_66 : decode cX12_feed 66 = .ok (.goto 5, 3) := by decide +kernel
theorem dX12_feed_69 : decode cX12_feed 69 = .ok (.iload 5, 2) := by decide +kernel
theorem dX12_feed_71 : decode cX12_feed 71 = .ok (.istore 7, 2) := by decide +kernel
theorem dX12_feed_73 : decode cX12_feed 73 = .ok (.aload_n 0, 1) := by decide +kernel
theorem dX12_feed_74 : decode cX12_feed 74 = .ok (.getfield 7, 3) := by decide +kernel
theorem dX12_feed_77 : decode cX12_feed 77 = .ok (.aload_n 0, 1) := by decide +kernel
theorem dX12_feed_78 : decode cX12_feed 78 = .ok (.getfield 214, 3) := by decide +kernel
theorem dX12_feed_81 : decode cX12_feed 81 = .ok (.iload 6, 2) := by decide +kernel
theorem dX12_feed_83 : decode cX12_feed 83 = .ok (.iadd, 1) := by decide +kernel
theorem dX12_feed_84 : decode cX12_feed 84 = .ok (.iload 7, 2) := by decide +kernel
theorem dX12_feed_86 : decode cX12_feed 86 = .ok (.bipush 24, 2) := by decide +kernel
theorem dX12_feed_88 : decode cX12_feed 88 = .ok (.bipush 8, 2) := by decide +kernel
theorem dX12_feed_90 : decode cX12_feed 90 = .ok (.iload 6, 2) := by decide +kernel
theorem dX12_feed_92 : decode cX12_feed 92 = .ok (.iconst 3, 1) := by decide +kernel
theorem dX12_feed_93 : decode cX12_feed 93 = .ok (.iand, 1) := by decide +kernel
theorem dX12_feed_94 : decode cX12_feed 94 = .ok (.imul, 1) := by decide +kernel
theorem dX12_feed_95 : decode cX12_feed 95 = .ok (.isub, 1) := by decide +kernel
theorem dX12_feed_96 : decode cX12_feed 96 = .ok (.ishr, 1) := by decide +kernel
theorem dX12_feed_97 : decode cX12_feed 97 = .ok (.i2b, 1) := by decide +kernel
theorem dX12_feed_98 : decode cX12_feed 98 = .ok (.bastore, 1) := by decide +kernel
theorem dX12_feed_99 : decode cX12_feed 99 = .ok (.iinc 6 1, 3) := by decide +kernel
theorem dX12_feed_102 : decode cX12_feed 102 = .ok (.goto (-84), 3) := by decide +kernel
theorem dX12_feed_105 : decode cX12_feed 105 = .ok (.aload_n 0, 1) := by decide +kernel
theorem dX12_feed_106 : decode cX12_feed 106 = .ok (.dup, 1) := by decide +kernel
theorem dX12_feed_107 : decode cX12_feed 107 = .ok (.getfield 214, 3) := by decide +kernel
theorem dX12_feed_110 : decode cX12_feed 110 = .ok (.bipush 20, 2) := by decide +kernel
theorem dX12_feed_112 : decode cX12_feed 112 = .ok (.iadd, 1) := by decide +kernel
theorem dX12_feed_113 : decode cX12_feed 113 = .ok (.putfield 214, 3) := by decide +kernel
theorem dX12_feed_116 : decode cX12_feed 116 = .ok (.aload_n 0, 1) := by decide +kernel
theorem dX12_feed_117 : decode cX12_feed 117 = .ok (.getfield 214, 3) := by decide +kernel
theorem dX12_feed_120 : decode cX12_feed 120 = .ok (.ireturn, 1) := by decide +kernel
def rm_X12_feed : Room := { frames := 0, cells := 0, slots := 0, locals := 0 }
abbrev wS_X12_feed : List (Nat × Nat) := [(13, 3), (58, 99)]
set_option maxRecDepth 100000 in
set_option maxHeartbeats 4000000 in
theorem c_X12_feed (l : Launch) (E : zE) (hV : zV E) (H0 : Heap) (hT0 : HT E H0) (h0 : Nat) (kh0 : eK E h0 = 13) (p0 : Int32) (p1 : Int32) (p2 : Int32) (p3 : Int32) (p4 : Int32) (tp : Int32) (s_tp : sl H0 h0 (zix E 13 3) = some (.int tp)) : Met l yX12_feed (zws yX12_feed cX12_feed 8 (some .int)) rm_X12_feed (zP E H0 [.ref h0, .int p0, .int p1, .int p2, .int p3, .int p4]) (zQI E E wS_X12_feed (fun r H1 => (-1) ≤ r.toInt ∧ r.toInt ≤ 1620)) 0 0 (zfr E) := by
  refine zEnt (by decide) (Nat.le_of_ble_eq_true rfl) (fun p e s m args below meth c ls Q B hr hlk hh hQ hl => ?_)
  have hx := B.1
  have hb := B.2.1
  have hG0 : zG E wS_X12_feed H0 H0 [] := zG.rf hT0
  have hl : lv_has ls 8 [(0, .ref h0), (1, .int p0), (2, .int p1), (3, .int p2), (4, .int p3), (5, .int p4)] := hl
  have bd_tp := HT.bdI hT0 kh0 rfl (j := 3) (by decide) rfl s_tp
  have b18 : ∀ (n18 : Nat) (H18 : Heap) (lc18 : List Loc) (ls : Array Slot) (v18_6 : Int32), 20 - v18_6.toInt < (n18 : Int) → zG E wS_X12_feed H0 H18 lc18 → lv_has ls 8 [(0, .ref h0), (1, .int p0), (2, .int p1), (3, .int p2), (4, .int p3), (5, .int p4), (6, .int v18_6)] → 0 ≤ v18_6.toInt → v18_6.toInt ≤ 20 → sl H18 h0 (zix E 13 3) = some (.int tp) → tp.toInt ≤ 1580 → W p l e rm_X12_feed s m args below meth c H18 lc18 0 0 Q (F0 m 18 ls []) := by
    intro n18
    induction n18 with
    | zero =>
      intro H18 lc18 ls v18_6 hm18 gH18 hl f18_1 f18_2 s18_u18_h0_3 f18_3
      exact absurd hm18 (by omega)
    | succ n18 ih18 =>
      intro H18 lc18 ls v18_6 hm18 gH18 hl f18_1 f18_2 s18_u18_h0_3 f18_3
      have b71 : ∀ (ls : Array Slot) (w71_0 : Int32), lv_has ls 8 [(0, .ref h0), (1, .int p0), (2, .int p1), (3, .int p2), (4, .int p3), (5, .int p4), (6, .int v18_6)] → v18_6.toInt ≤ 19 → sl H18 h0 (zix E 13 3) = some (.int tp) → tp.toInt ≤ 1580 → W p l e rm_X12_feed s m args below meth c H18 lc18 0 0 Q (F0 m 71 ls [.int w71_0]) := by
        intro ls w71_0 hl f71_1 s71_u71_h0_3 f71_2
        refine lv_istore (lv' := [(7, .int w71_0), (0, .ref h0), (1, .int p0), (2, .int p1), (3, .int p2), (4, .int p3), (5, .int p4), (6, .int v18_6)]) hx hb dX12_feed_71 hl (by decide) rfl (fun ls hl => ?_)
        refine lv_aload_n hx hb dX12_feed_73 rfl (lv_at hl 1 rfl) ?_
        refine g_getR B fl_RX12_7 gH18.1 kh0 rfl rfl rfl rfl rfl dX12_feed_74 (fun q_1 s_1 k_q_1 => ?_)
        refine lv_aload_n hx hb dX12_feed_77 rfl (lv_at hl 1 rfl) ?_
        refine g_get B fl_RX12_214 gH18.1 kh0 rfl rfl rfl dX12_feed_78 s71_u71_h0_3 ?_
        refine lv_iload hx hb dX12_feed_81 (lv_at hl 7 rfl) ?_
        refine lv_iadd hx hb dX12_feed_83 ?_
        refine lv_topi (fun x_2 e_2 => ?_)
        have t_2 := z_add e_2 rfl rfl (by omega) (by omega)
        refine lv_iload hx hb dX12_feed_84 (lv_at hl 0 rfl) ?_
        refine lv_bipush (v := 24) hx hb dX12_feed_86 (by decide) ?_
        refine lv_bipush (v := 8) hx hb dX12_feed_88 (by decide) ?_
        refine lv_iload hx hb dX12_feed_90 (lv_at hl 7 rfl) ?_
        refine lv_iconst (v := 3) hx hb dX12_feed_92 (by decide) ?_
        refine lv_iand hx hb dX12_feed_93 ?_
        refine lv_topi (fun x_3 e_3 => ?_)
        have t_3 := z_andR e_3 kl_3 (by omega)
        refine lv_imul hx hb dX12_feed_94 ?_
        refine lv_topi (fun x_4 e_4 => ?_)
        have t_4 := z_mul e_4 kl_8 rfl (by omega) (by omega)
        refine lv_isub hx hb dX12_feed_95 ?_
        refine lv_topi (fun x_5 e_5 => ?_)
        have t_5 := z_sub e_5 kl_24 rfl (by omega) (by omega)
        refine lv_ishr hx hb dX12_feed_96 ?_
        refine lv_topi (fun x_6 e_6 => ?_)
        refine lv_i2b hx hb dX12_feed_97 rfl ?_
        refine lv_topi (fun x_7 e_7 => ?_)
        refine g_bastI (i := x_2) (N := 1620) B hV gH18 k_q_1 rfl rfl rfl rfl (by omega) (by omega) rfl rfl dX12_feed_98 (fun H8 lc8 gH8 uH8 => ?_)
        have s_9 := uH8.keep (Or.inl (k_ne kh0 k_q_1 rfl)) s71_u71_h0_3
        have s_10 := uH8.keep (Or.inl (k_ne kh0 k_q_1 rfl)) s_1
        obtain ⟨x_11, e_11⟩ : ∃ y : Int32, (v18_6 : Int32) + Int32.ofInt 1 = y := ⟨_, rfl⟩
        refine lv_iinc (v := x_11) (lv' := [(6, .int x_11), (7, .int w71_0), (0, .ref h0), (1, .int p0), (2, .int p1), (3, .int p2), (4, .int p3), (5, .int p4)]) hx hb dX12_feed_99 hl (k := 7) rfl e_11 (by decide) rfl (fun ls hl => ?_)
        have t_11 := z_inc2 e_11 rfl (by decide) (by omega) (by omega)
        refine lv_goto (tgt := 18) hx hb dX12_feed_102 (by decide) ?_
        exact ih18 H8 lc8 ls x_11 (by omega) gH8 (lv_sub hl [2, 3, 4, 5, 6, 7, 0] rfl) (by omega) (by omega) s_9 (by omega)
      refine lv_iload hx hb dX12_feed_18 (lv_at hl 6 rfl) ?_
      refine lv_bipush (v := 20) hx hb dX12_feed_20 (by decide) ?_
      refine lv_icmp_ge (tgt := 105) hx hb dX12_feed_22 (by decide) (fun c_12 => ?_) (fun c_12 => ?_)
      · have f_12 := z_le c_12 kl_20 rfl
        refine lv_aload_n hx hb dX12_feed_105 rfl (lv_at hl 0 rfl) ?_
        refine lv_dup hx hb dX12_feed_106 rfl ?_
        refine g_get B fl_RX12_214 gH18.1 kh0 rfl rfl rfl dX12_feed_107 s18_u18_h0_3 ?_
        refine lv_bipush (v := 20) hx hb dX12_feed_110 (by decide) ?_
        refine lv_iadd hx hb dX12_feed_112 ?_
        refine lv_topi (fun x_13 e_13 => ?_)
        have t_13 := z_add e_13 rfl kl_20 (by omega) (by omega)
        refine g_putI B fp_RX12_214 hV gH18 kh0 rfl rfl rfl rfl rfl (by omega) (by omega) rfl dX12_feed_113 (fun H14 lc14 gH14 uH14 => ?_)
        refine lv_aload_n hx hb dX12_feed_116 rfl (lv_at hl 0 rfl) ?_
        refine g_get B fl_RX12_214 gH14.1 kh0 rfl rfl rfl dX12_feed_117 uH14.2.1 ?_
        exact rtI (v := x_13) B hr hlk hh hQ gH14 rfl ⟨by omega, by omega⟩ dX12_feed_120
      · have f_12 := z_nle c_12 kl_20 rfl
        refine lv_iload hx hb dX12_feed_25 (lv_at hl 6 rfl) ?_
        refine lv_iconst (v := 4) hx hb dX12_feed_27 (by decide) ?_
        refine lv_icmp_ge (tgt := 35) hx hb dX12_feed_28 (by decide) (fun c_15 => ?_) (fun c_15 => ?_)
        · have f_15 := z_le c_15 kl_4 rfl
          refine lv_iload hx hb dX12_feed_35 (lv_at hl 6 rfl) ?_
          refine lv_bipush (v := 8) hx hb dX12_feed_37 (by decide) ?_
          refine lv_icmp_ge (tgt := 46) hx hb dX12_feed_39 (by decide) (fun c_16 => ?_) (fun c_16 => ?_)
          · have f_16 := z_le c_16 kl_8 rfl
            refine lv_iload hx hb dX12_feed_46 (lv_at hl 6 rfl) ?_
            refine lv_bipush (v := 12) hx hb dX12_feed_48 (by decide) ?_
            refine lv_icmp_ge (tgt := 57) hx hb dX12_feed_50 (by decide) (fun c_17 => ?_) (fun c_17 => ?_)
            · have f_17 := z_le c_17 kl_12 rfl
              refine lv_iload hx hb dX12_feed_57 (lv_at hl 6 rfl) ?_
              refine lv_bipush (v := 16) hx hb dX12_feed_59 (by decide) ?_
              refine lv_icmp_ge (tgt := 69) hx hb dX12_feed_61 (by decide) (fun c_18 => ?_) (fun c_18 => ?_)
              · have f_18 := z_le c_18 kl_16 rfl
                refine lv_iload hx hb dX12_feed_69 (lv_at hl 5 rfl) ?_
                exact b71 ls p4 (lv_sub hl [0, 1, 2, 3, 4, 5, 6] rfl) (by omega) s18_u18_h0_3 (by omega)
              · have f_18 := z_nle c_18 kl_16 rfl
                refine lv_iload hx hb dX12_feed_64 (lv_at hl 4 rfl) ?_
                refine lv_goto (tgt := 71) hx hb dX12_feed_66 (by decide) ?_
                exact b71 ls p3 (lv_sub hl [0, 1, 2, 3, 4, 5, 6] rfl) (by omega) s18_u18_h0_3 (by omega)
            · have f_17 := z_nle c_17 kl_12 rfl
              refine lv_iload_n hx hb dX12_feed_53 rfl (lv_at hl 3 rfl) ?_
              refine lv_goto (tgt := 71) hx hb dX12_feed_54 (by decide) ?_
              exact b71 ls p2 (lv_sub hl [0, 1, 2, 3, 4, 5, 6] rfl) (by omega) s18_u18_h0_3 (by omega)
          · have f_16 := z_nle c_16 kl_8 rfl
            refine lv_iload_n hx hb dX12_feed_42 rfl (lv_at hl 2 rfl) ?_
            refine lv_goto (tgt := 71) hx hb dX12_feed_43 (by decide) ?_
            exact b71 ls p1 (lv_sub hl [0, 1, 2, 3, 4, 5, 6] rfl) (by omega) s18_u18_h0_3 (by omega)
        · have f_15 := z_nle c_15 kl_4 rfl
          refine lv_iload_n hx hb dX12_feed_31 rfl (lv_at hl 1 rfl) ?_
          refine lv_goto (tgt := 71) hx hb dX12_feed_32 (by decide) ?_
          exact b71 ls p0 (lv_sub hl [0, 1, 2, 3, 4, 5, 6] rfl) (by omega) s18_u18_h0_3 (by omega)
  refine lv_aload_n hx hb dX12_feed_0 rfl (lv_at hl 0 rfl) ?_
  refine g_get B fl_RX12_214 hT0 kh0 rfl rfl rfl dX12_feed_1 s_tp ?_
  refine lv_bipush (v := 20) hx hb dX12_feed_4 (by decide) ?_
  refine lv_iadd hx hb dX12_feed_6 ?_
  refine lv_topi (fun x_19 e_19 => ?_)
  have t_19 := z_add e_19 rfl kl_20 (by omega) (by omega)
  refine lv_sipush (v := 1600) hx hb dX12_feed_7 (by decide) ?_
  refine lv_icmp_le (tgt := 15) hx hb dX12_feed_10 (by decide) (fun c_20 => ?_) (fun c_20 => ?_)
  · have f_20 := z_le c_20 rfl kl_1600
    refine lv_iconst (v := 0) hx hb dX12_feed_15 (by decide) ?_
    refine lv_istore (lv' := [(6, .int 0), (0, .ref h0), (1, .int p0), (2, .int p1), (3, .int p2), (4, .int p3), (5, .int p4)]) hx hb dX12_feed_16 hl (by decide) rfl (fun ls hl => ?_)
    have := kl_0
    exact b18 21 H0 [] ls 0 (by omega) hG0 (lv_sub hl [1, 2, 3, 4, 5, 6, 0] rfl) (by omega) (by omega) s_tp (by omega)
  · have f_20 := z_nle c_20 rfl kl_1600
    refine lv_iconst (v := (-1)) hx hb dX12_feed_13 (by decide) ?_
    have := kl_m1
    have := kl_m1
    exact rtI (v := (-1)) B hr hlk hh hQ hG0 rfl ⟨by omega, by omega⟩ dX12_feed_14

theorem dX12_end_0 : decode cX12_end 0 = .ok (.iload_n 1, 1) := by decide +kernel
theorem dX12_end_1 : decode cX12_end 1 = .ok (.ifCond .lt 11, 3) := by decide +kernel
theorem dX12_end_4 : decode cX12_end 4 = .ok (.iload_n 1, 1) := by decide +kernel
theorem dX12_end_5 : decode cX12_end 5 = .ok (.aload_n 0, 1) := by decide +kernel
theorem dX12_end_6 : decode cX12_end 6 = .ok (.getfield 214, 3) := by decide +kernel
theorem dX12_end_9 : decode cX12_end 9 = .ok (.if_icmp .le 5, 3) := by decide +kernel
theorem dX12_end_12 : decode cX12_end 12 = .ok (.iconst (-1), 1) := by decide +kernel
theorem dX12_end_13 : decode cX12_end 13 = .ok (.ireturn, 1) := by decide +kernel
theorem dX12_end_14 : decode cX12_end 14 = .ok (.aload_n 0, 1) := by decide +kernel
theorem dX12_end_15 : decode cX12_end 15 = .ok (.iload_n 1, 1) := by decide +kernel
theorem dX12_end_16 : decode cX12_end 16 = .ok (.putfield 214, 3) := by decide +kernel
theorem dX12_end_19 : decode cX12_end 19 = .ok (.iload_n 1, 1) := by decide +kernel
theorem dX12_end_20 : decode cX12_end 20 = .ok (.ireturn, 1) := by decide +kernel
def rm_X12_end : Room := { frames := 0, cells := 0, slots := 0, locals := 0 }
abbrev wS_X12_end : List (Nat × Nat) := [(13, 3)]
set_option maxRecDepth 100000 in
set_option maxHeartbeats 4000000 in
theorem c_X12_end (l : Launch) (E : zE) (hV : zV E) (H0 : Heap) (hT0 : HT E H0) (h0 : Nat) (kh0 : eK E h0 = 13) (p0 : Int32) : Met l yX12_end (zws yX12_end cX12_end 2 (some .int)) rm_X12_end (zP E H0 [.ref h0, .int p0]) (zQI E E wS_X12_end (fun r H1 => (-1) ≤ r.toInt ∧ r.toInt ≤ 1600)) 0 0 (zfr E) := by
  refine zEnt (by decide) (Nat.le_of_ble_eq_true rfl) (fun p e s m args below meth c ls Q B hr hlk hh hQ hl => ?_)
  have hx := B.1
  have hb := B.2.1
  have hG0 : zG E wS_X12_end H0 H0 [] := zG.rf hT0
  have hl : lv_has ls 2 [(0, .ref h0), (1, .int p0)] := hl
  refine lv_iload_n hx hb dX12_end_0 rfl (lv_at hl 1 rfl) ?_
  refine lv_if_lt (tgt := 12) hx hb dX12_end_1 (by decide) (fun c_1 => ?_) (fun c_1 => ?_)
  · have f_1 := z_lt c_1 rfl kl_0
    refine lv_iconst (v := (-1)) hx hb dX12_end_12 (by decide) ?_
    have := kl_m1
    have := kl_m1
    exact rtI (v := (-1)) B hr hlk hh hQ hG0 rfl ⟨by omega, by omega⟩ dX12_end_13
  · have f_1 := z_nlt c_1 rfl kl_0
    refine lv_iload_n hx hb dX12_end_4 rfl (lv_at hl 1 rfl) ?_
    refine lv_aload_n hx hb dX12_end_5 rfl (lv_at hl 0 rfl) ?_
    refine g_getI B fl_RX12_214 hT0 kh0 rfl rfl rfl rfl rfl dX12_end_6 (fun x_2 s_2 a_2 b_2 => ?_)
    refine lv_icmp_le (tgt := 14) hx hb dX12_end_9 (by decide) (fun c_3 => ?_) (fun c_3 => ?_)
    · have f_3 := z_le c_3 rfl rfl
      refine lv_aload_n hx hb dX12_end_14 rfl (lv_at hl 0 rfl) ?_
      refine lv_iload_n hx hb dX12_end_15 rfl (lv_at hl 1 rfl) ?_
      refine g_putI B fp_RX12_214 hV hG0 kh0 rfl rfl rfl rfl rfl (by omega) (by omega) rfl dX12_end_16 (fun H4 lc4 gH4 uH4 => ?_)
      refine lv_iload_n hx hb dX12_end_19 rfl (lv_at hl 1 rfl) ?_
      exact rtI (v := p0) B hr hlk hh hQ gH4 rfl ⟨by omega, by omega⟩ dX12_end_20
    · have f_3 := z_nle c_3 rfl rfl
      refine lv_iconst (v := (-1)) hx hb dX12_end_12 (by decide) ?_
      have := kl_m1
      have := kl_m1
      exact rtI (v := (-1)) B hr hlk hh hQ hG0 rfl ⟨by omega, by omega⟩ dX12_end_13
