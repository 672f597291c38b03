theorem dX12_atOnce_0 : decode cX12_atOnce 0 = .ok (.aload_n 0, 1) := by decide +kernel
theorem dX12_atOnce_1 : decode cX12_atOnce 1 = .ok (.dup, 1) := by decide +kernel
theorem dX12_atOnce_2 : decode cX12_atOnce 2 = .ok (.getfield 323, 3) := by decide +kernel
theorem dX12_atOnce_5 : decode cX12_atOnce 5 = .ok (.iconst 1, 1) := by decide +kernel
theorem dX12_atOnce_6 : decode cX12_atOnce 6 = .ok (.iadd, 1) := by decide +kernel
theorem dX12_atOnce_7 : decode cX12_atOnce 7 = .ok (.putfield 323, 3) := by decide +kernel
theorem dX12_atOnce_10 : decode cX12_atOnce 10 = .ok (.aload_n 0, 1) := by decide +kernel
theorem dX12_atOnce_11 : decode cX12_atOnce 11 = .ok (.iload_n 1, 1) := by decide +kernel
theorem dX12_atOnce_12 : decode cX12_atOnce 12 = .ok (.invokevirtual 320, 3) := by decide +kernel
theorem dX12_atOnce_15 : decode cX12_atOnce 15 = .ok (.istore_n 3, 1) := by decide +kernel
theorem dX12_atOnce_16 : decode cX12_atOnce 16 = .ok (.iload_n 3, 1) := by decide +kernel
theorem dX12_atOnce_17 : decode cX12_atOnce 17 = .ok (.ifCond .lt 18, 3) := by decide +kernel
theorem dX12_atOnce_20 : decode cX12_atOnce 20 = .ok (.iload_n 3, 1) := by decide +kernel
theorem dX12_atOnce_21 : decode cX12_atOnce 21 = .ok (.aload_n 0, 1) := by decide +kernel
theorem dX12_atOnce_22 : decode cX12_atOnce 22 = .ok (.iload_n 1, 1) := by decide +kernel
theorem dX12_atOnce_23 : decode cX12_atOnce 23 = .ok (.invokevirtual 281, 3) := by decide +kernel
theorem dX12_atOnce_26 : decode cX12_atOnce 26 = .ok (.if_icmp .ne 7, 3) := by decide +kernel
theorem dX12_atOnce_29 : decode cX12_atOnce 29 = .ok (.iconst (-1), 1) := by decide +kernel
theorem dX12_atOnce_30 : decode cX12_atOnce 30 = .ok (.goto 4, 3) := by decide +kernel
theorem dX12_atOnce_33 : decode cX12_atOnce 33 = .ok (.iconst 1, 1) := by decide +kernel
theorem dX12_atOnce_34 : decode cX12_atOnce 34 = .ok (.ireturn, 1) := by decide +kernel
theorem dX12_atOnce_35 : decode cX12_atOnce 35 = .ok (.iload_n 2, 1) := by decide +kernel
theorem dX12_atOnce_36 : decode cX12_atOnce 36 = .ok (.ifCond .ne 7, 3) := by decide +kernel
theorem dX12_atOnce_39 : decode cX12_atOnce 39 = .ok (.iconst 0, 1) := by decide +kernel
theorem dX12_atOnce_40 : decode cX12_atOnce 40 = .ok (.goto 4, 3) := by decide +kernel
theorem dX12_atOnce_43 : decode cX12_atOnce 43 = .ok (.iconst 2, 1) := by decide +kernel
theorem dX12_atOnce_44 : decode cX12_atOnce 44 = .ok (.ireturn, 1) := by decide +kernel
def rm_X12_atOnce : Room := { frames := 6, cells := 0, slots := 0, locals := 147 }
abbrev wS_X12_atOnce : List (Nat × Nat) := [(13, 32)]
set_option maxRecDepth 100000 in
set_option maxHeartbeats 4000000 in
theorem c_X12_atOnce (l : Launch) (E : zE) (hV : zV E) (H0 : Heap) (hT0 : HT E H0) (h0 : Nat) (kh0 : eK E h0 = 13) (p0 : Int32) (p0_lo : 0 ≤ p0.toInt) (p0_hi : p0.toInt ≤ 195) (p1 : Int32) (c0 : Int32) (s_c0 : sl H0 h0 (zix E 13 32) = some (.int c0)) (c0_lo : 0 ≤ c0.toInt) (c0_hi : c0.toInt ≤ 100000) : Met l yX12_atOnce (zws yX12_atOnce cX12_atOnce 4 (some .int)) rm_X12_atOnce (zP E H0 [.ref h0, .int p0, .int p1]) (zQI E E wS_X12_atOnce (fun r H1 => (-1) ≤ r.toInt ∧ r.toInt ≤ 2 ∧ (r.toInt ≠ 2 ∨ p1.toInt ≠ 0) ∧ (∃ c1 : Int32, sl H1 h0 (zix E 13 32) = some (.int c1) ∧ 0 ≤ c1.toInt ∧ c1.toInt ≤ 100001 ∧ (c1.toInt = c0.toInt + 1)))) 0 0 (zfr E) := by
  refine zEnt (by decide) (Nat.le_of_ble_eq_true rfl) (fun p e s m args below meth c ls Q B hr hlk hh hQ hl => ?_)
  have hx := B.1
  have hb := B.2.1
  have hG0 : zG E wS_X12_atOnce H0 H0 [] := zG.rf hT0
  have hl : lv_has ls 4 [(0, .ref h0), (1, .int p0), (2, .int p1)] := hl
  refine lv_aload_n hx hb dX12_atOnce_0 rfl (lv_at hl 0 rfl) ?_
  refine lv_dup hx hb dX12_atOnce_1 rfl ?_
  refine g_get B fl_RX12_323 hT0 kh0 rfl rfl rfl dX12_atOnce_2 s_c0 ?_
  refine lv_iconst (v := 1) hx hb dX12_atOnce_5 (by decide) ?_
  refine lv_iadd hx hb dX12_atOnce_6 ?_
  refine lv_topi (fun x_1 e_1 => ?_)
  have t_1 := z_add e_1 rfl kl_1 (by omega) (by omega)
  refine g_putI B fp_RX12_323 hV hG0 kh0 rfl rfl rfl rfl rfl (z_rng _).1 (z_rng _).2 rfl dX12_atOnce_7 (fun H2 lc2 gH2 uH2 => ?_)
  refine lv_aload_n hx hb dX12_atOnce_10 rfl (lv_at hl 0 rfl) ?_
  refine lv_iload_n hx hb dX12_atOnce_11 rfl (lv_at hl 1 rfl) ?_
  refine zkPI (zrV (rest := []) B (c_X12_loserOf l E hV H2 gH2.1 h0 kh0 p0 (by omega) (by omega)) cl_RX12_320 gH2.1 kh0 rfl rfl rfl rfl hl.1 rfl (Nat.le_of_ble_eq_true rfl) dX12_atOnce_12 rfl rfl ⟨rfl, rfl⟩ ⟨Nat.zero_le _, Nat.zero_le _⟩ (zO.of gH2 hh)) (fun x_3 hp_3 => ?_)
  refine lv_istore_n (lv' := [(3, .int x_3), (0, .ref h0), (1, .int p0), (2, .int p1)]) hx hb dX12_atOnce_15 rfl hl (by decide) rfl (fun ls hl => ?_)
  refine lv_iload_n hx hb dX12_atOnce_16 rfl (lv_at hl 0 rfl) ?_
  refine lv_if_lt (tgt := 35) hx hb dX12_atOnce_17 (by decide) (fun c_4 => ?_) (fun c_4 => ?_)
  · have f_4 := z_lt c_4 rfl kl_0
    refine lv_iload_n hx hb dX12_atOnce_35 rfl (lv_at hl 3 rfl) ?_
    refine lv_if_ne (tgt := 43) hx hb dX12_atOnce_36 (by decide) (fun c_5 => ?_) (fun c_5 => ?_)
    · have f_5 := z_ne c_5 rfl kl_0
      refine lv_iconst (v := 2) hx hb dX12_atOnce_43 (by decide) ?_
      have := kl_2
      have := kl_2
      exact rtI (v := 2) B hr hlk hh hQ gH2 rfl ⟨by omega, by omega, by omega, ⟨x_1, uH2.2.1, by omega, by omega, by omega⟩⟩ dX12_atOnce_44
    · have f_5 := z_eq c_5 rfl kl_0
      refine lv_iconst (v := 0) hx hb dX12_atOnce_39 (by decide) ?_
      refine lv_goto (tgt := 44) hx hb dX12_atOnce_40 (by decide) ?_
      have := kl_0
      have := kl_0
      exact rtI (v := 0) B hr hlk hh hQ gH2 rfl ⟨by omega, by omega, by omega, ⟨x_1, uH2.2.1, by omega, by omega, by omega⟩⟩ dX12_atOnce_44
  · have f_4 := z_nlt c_4 rfl kl_0
    refine lv_iload_n hx hb dX12_atOnce_20 rfl (lv_at hl 0 rfl) ?_
    refine lv_aload_n hx hb dX12_atOnce_21 rfl (lv_at hl 1 rfl) ?_
    refine lv_iload_n hx hb dX12_atOnce_22 rfl (lv_at hl 2 rfl) ?_
    refine zkPI (zrV (rest := [.int x_3]) B (c_X12_turnOf l E hV H2 gH2.1 h0 kh0 p0 (by omega) (by omega)) cl_RX12_281 gH2.1 kh0 rfl rfl rfl rfl hl.1 rfl (Nat.le_of_ble_eq_true rfl) dX12_atOnce_23 rfl rfl ⟨rfl, rfl⟩ ⟨Nat.zero_le _, Nat.zero_le _⟩ (zO.of gH2 hh)) (fun x_6 hp_6 => ?_)
    refine lv_icmp_ne (tgt := 33) hx hb dX12_atOnce_26 (by decide) (fun c_7 => ?_) (fun c_7 => ?_)
    · have f_7 := z_ne c_7 rfl rfl
      refine lv_iconst (v := 1) hx hb dX12_atOnce_33 (by decide) ?_
      have := kl_1
      have := kl_1
      exact rtI (v := 1) B hr hlk hh hQ gH2 rfl ⟨by omega, by omega, by omega, ⟨x_1, uH2.2.1, by omega, by omega, by omega⟩⟩ dX12_atOnce_34
    · have f_7 := z_eq c_7 rfl rfl
      refine lv_iconst (v := (-1)) hx hb dX12_atOnce_29 (by decide) ?_
      refine lv_goto (tgt := 34) hx hb dX12_atOnce_30 (by decide) ?_
      have := kl_m1
      have := kl_m1
      exact rtI (v := (-1)) B hr hlk hh hQ gH2 rfl ⟨by omega, by omega, by omega, ⟨x_1, uH2.2.1, by omega, by omega, by omega⟩⟩ dX12_atOnce_34

theorem dX12_value_0 : decode cX12_value 0 = .ok (.iload_n 1, 1) := by decide +kernel
theorem dX12_value_1 : decode cX12_value 1 = .ok (.invokestatic 308, 3) := by decide +kernel
theorem dX12_value_4 : decode cX12_value 4 = .ok (.ifCond .eq 12, 3) := by decide +kernel
theorem dX12_value_7 : decode cX12_value 7 = .ok (.iload_n 2, 1) := by decide +kernel
theorem dX12_value_8 : decode cX12_value 8 = .ok (.iconst 0, 1) := by decide +kernel
theorem dX12_value_9 : decode cX12_value 9 = .ok (.iconst 4, 1) := by decide +kernel
theorem dX12_value_10 : decode cX12_value 10 = .ok (.invokestatic 260, 3) := by decide +kernel
theorem dX12_value_13 : decode cX12_value 13 = .ok (.ifCond .ne 6, 3) := by decide +kernel
theorem dX12_value_16 : decode cX12_value 16 = .ok (.bipush (-3), 2) := by decide +kernel
theorem dX12_value_18 : decode cX12_value 18 = .ok (.ireturn, 1) := by decide +kernel
theorem dX12_value_19 : decode cX12_value 19 = .ok (.aload_n 0, 1) := by decide +kernel
theorem dX12_value_20 : decode cX12_value 20 = .ok (.iconst 0, 1) := by decide +kernel
theorem dX12_value_21 : decode cX12_value 21 = .ok (.putfield 323, 3) := by decide +kernel
theorem dX12_value_24 : decode cX12_value 24 = .ok (.aload_n 0, 1) := by decide +kernel
theorem dX12_value_25 : decode cX12_value 25 = .ok (.aload_n 0, 1) := by decide +kernel
theorem dX12_value_26 : decode cX12_value 26 = .ok (.iload_n 1, 1) := by decide +kernel
theorem dX12_value_27 : decode cX12_value 27 = .ok (.invokevirtual 314, 3) := by decide +kernel
theorem dX12_value_30 : decode cX12_value 30 = .ok (.bipush 122, 2) := by decide +kernel
theorem dX12_value_32 : decode cX12_value 32 = .ok (.invokevirtual 326, 3) := by decide +kernel
theorem dX12_value_35 : decode cX12_value 35 = .ok (.aload_n 0, 1) := by decide +kernel
theorem dX12_value_36 : decode cX12_value 36 = .ok (.bipush 122, 2) := by decide +kernel
theorem dX12_value_38 : decode cX12_value 38 = .ok (.iload_n 2, 1) := by decide +kernel
theorem dX12_value_39 : decode cX12_value 39 = .ok (.invokevirtual 329, 3) := by decide +kernel
theorem dX12_value_42 : decode cX12_value 42 = .ok (.istore_n 3, 1) := by decide +kernel
theorem dX12_value_43 : decode cX12_value 43 = .ok (.iload_n 3, 1) := by decide +kernel
theorem dX12_value_44 : decode cX12_value 44 = .ok (.iconst 2, 1) := by decide +kernel
theorem dX12_value_45 : decode cX12_value 45 = .ok (.if_icmp .ge 5, 3) := by decide +kernel
theorem dX12_value_48 : decode cX12_value 48 = .ok (.iload_n 3, 1) := by decide +kernel
theorem dX12_value_49 : decode cX12_value 49 = .ok (.ireturn, 1) := by decide +kernel
theorem dX12_value_50 : decode cX12_value 50 = .ok (.iconst 0, 1) := by decide +kernel
theorem dX12_value_51 : decode cX12_value 51 = .ok (.istore 4, 2) := by decide +kernel
theorem dX12_value_53 : decode cX12_value 53 = .ok (.aload_n 0, 1) := by decide +kernel
theorem dX12_value_54 : decode cX12_value 54 = .ok (.getfield 68, 3) := by decide +kernel
theorem dX12_value_57 : decode cX12_value 57 = .ok (.iconst 0, 1) := by decide +kernel
theorem dX12_value_58 : decode cX12_value 58 = .ok (.iconst 0, 1) := by decide +kernel
theorem dX12_value_59 : decode cX12_value 59 = .ok (.iastore, 1) := by decide +kernel
theorem dX12_value_60 : decode cX12_value 60 = .ok (.aload_n 0, 1) := by decide +kernel
theorem dX12_value_61 : decode cX12_value 61 = .ok (.getfield 71, 3) := by decide +kernel
theorem dX12_value_64 : decode cX12_value 64 = .ok (.iconst 0, 1) := by decide +kernel
theorem dX12_value_65 : decode cX12_value 65 = .ok (.iconst (-1), 1) := by decide +kernel
theorem dX12_value_66 : decode cX12_value 66 = .ok (.iastore, 1) := by decide +kernel
theorem dX12_value_67 : decode cX12_value 67 = .ok (.iload 4, 2) := by decide +kernel
theorem dX12_value_69 : decode cX12_value 69 = .ok (.ifCond .lt 189, 3) := by decide +kernel
theorem dX12_value_72 : decode cX12_value 72 = .ok (.aload_n 0, 1) := by decide +kernel
theorem dX12_value_73 : decode cX12_value 73 = .ok (.getfield 323, 3) := by decide +kernel
theorem dX12_value_76 : decode cX12_value 76 = .ok (.sipush 30000, 3) := by decide +kernel
theorem dX12_value_79 : decode cX12_value 79 = .ok (.if_icmp .le 6, 3) := by decide +kernel
theorem dX12_value_82 : decode cX12_value 82 = .ok (.bipush (-2), 2) := by decide +kernel
theorem dX12_value_84 : decode cX12_value 84 = .ok (.ireturn, 1) := by decide +kernel
theorem dX12_value_85 : decode cX12_value 85 = .ok (.aload_n 0, 1) := by decide +kernel
theorem dX12_value_86 : decode cX12_value 86 = .ok (.getfield 71, 3) := by decide +kernel
theorem dX12_value_89 : decode cX12_value 89 = .ok (.iload 4, 2) := by decide +kernel
theorem dX12_value_91 : decode cX12_value 91 = .ok (.iaload, 1) := by decide +kernel
theorem dX12_value_92 : decode cX12_value 92 = .ok (.iconst 1, 1) := by decide +kernel
theorem dX12_value_93 : decode cX12_value 93 = .ok (.if_icmp .ge 26, 3) := by decide +kernel
theorem dX12_value_96 : decode cX12_value 96 = .ok (.aload_n 0, 1) := by decide +kernel
theorem dX12_value_97 : decode cX12_value 97 = .ok (.bipush 122, 2) := by decide +kernel
theorem dX12_value_99 : decode cX12_value 99 = .ok (.iload 4, 2) := by decide +kernel
theorem dX12_value_101 : decode cX12_value 101 = .ok (.iadd, 1) := by decide +kernel
theorem dX12_value_102 : decode cX12_value 102 = .ok (.aload_n 0, 1) := by decide +kernel
theorem dX12_value_103 : decode cX12_value 103 = .ok (.getfield 68, 3) := by decide +kernel
theorem dX12_value_106 : decode cX12_value 106 = .ok (.iload 4, 2) := by decide +kernel
theorem dX12_value_108 : decode cX12_value 108 = .ok (.iaload, 1) := by decide +kernel
theorem dX12_value_109 : decode cX12_value 109 = .ok (.invokevirtual 317, 3) := by decide +kernel
theorem dX12_value_112 : decode cX12_value 112 = .ok (.ifCond .eq 7, 3) := by decide +kernel
theorem dX12_value_115 : decode cX12_value 115 = .ok (.iconst 1, 1) := by decide +kernel
theorem dX12_value_116 : decode cX12_value 116 = .ok (.goto 4, 3) := by decide +kernel
theorem dX12_value_119 : decode cX12_value 119 = .ok (.iconst 0, 1) := by decide +kernel
theorem dX12_value_120 : decode cX12_value 120 = .ok (.istore 5, 2) := by decide +kernel
theorem dX12_value_122 : decode cX12_value 122 = .ok (.iload 5, 2) := by decide +kernel
theorem dX12_value_124 : decode cX12_value 124 = .ok (.ifCond .ne 18, 3) := by decide +kernel
theorem dX12_value_127 : decode cX12_value 127 = .ok (.aload_n 0, 1) := by decide +kernel
theorem dX12_value_128 : decode cX12_value 128 = .ok (.getfield 71, 3) := by decide +kernel
theorem dX12_value_131 : decode cX12_value 131 = .ok (.iload 4, 2) := by decide +kernel
theorem dX12_value_133 : decode cX12_value 133 = .ok (.iaload, 1) := by decide +kernel
theorem dX12_value_134 : decode cX12_value 134 = .ok (.ineg, 1) := by decide +kernel
theorem dX12_value_135 : decode cX12_value 135 = .ok (.istore_n 3, 1) := by decide +kernel
theorem dX12_value_136 : decode cX12_value 136 = .ok (.iinc 4 (-1), 3) := by decide +kernel
theorem dX12_value_139 : decode cX12_value 139 = .ok (.goto 92, 3) := by decide +kernel
theorem dX12_value_142 : decode cX12_value 142 = .ok (.aload_n 0, 1) := by decide +kernel
theorem dX12_value_143 : decode cX12_value 143 = .ok (.getfield 68, 3) := by decide +kernel
theorem dX12_value_146 : decode cX12_value 146 = .ok (.iload 4, 2) := by decide +kernel
theorem dX12_value_148 : decode cX12_value 148 = .ok (.dup2, 1) := by decide +kernel
theorem dX12_value_149 : decode cX12_value 149 = .ok (.iaload, 1) := by decide +kernel
theorem dX12_value_150 : decode cX12_value 150 = .ok (.iconst 1, 1) := by decide +kernel
theorem dX12_value_151 : decode cX12_value 151 = .ok (.iadd, 1) := by decide +kernel
theorem dX12_value_152 : decode cX12_value 152 = .ok (.iastore, 1) := by decide +kernel
theorem dX12_value_153 : decode cX12_value 153 = .ok (.aload_n 0, 1) := by decide +kernel
theorem dX12_value_154 : decode cX12_value 154 = .ok (.bipush 122, 2) := by decide +kernel
theorem dX12_value_156 : decode cX12_value 156 = .ok (.iload 4, 2) := by decide +kernel
theorem dX12_value_158 : decode cX12_value 158 = .ok (.iadd, 1) := by decide +kernel
theorem dX12_value_159 : decode cX12_value 159 = .ok (.bipush 122, 2) := by decide +kernel
theorem dX12_value_161 : decode cX12_value 161 = .ok (.iload 4, 2) := by decide +kernel
theorem dX12_value_163 : decode cX12_value 163 = .ok (.iadd, 1) := by decide +kernel
theorem dX12_value_164 : decode cX12_value 164 = .ok (.iconst 1, 1) := by decide +kernel
theorem dX12_value_165 : decode cX12_value 165 = .ok (.iadd, 1) := by decide +kernel
theorem dX12_value_166 : decode cX12_value 166 = .ok (.invokevirtual 326, 3) := by decide +kernel
theorem dX12_value_169 : decode cX12_value 169 = .ok (.aload_n 0, 1) := by decide +kernel
theorem dX12_value_170 : decode cX12_value 170 = .ok (.bipush 122, 2) := by decide +kernel
theorem dX12_value_172 : decode cX12_value 172 = .ok (.iload 4, 2) := by decide +kernel
theorem dX12_value_174 : decode cX12_value 174 = .ok (.iadd, 1) := by decide +kernel
theorem dX12_value_175 : decode cX12_value 175 = .ok (.iconst 1, 1) := by decide +kernel
theorem dX12_value_176 : decode cX12_value 176 = .ok (.iadd, 1) := by decide +kernel
theorem dX12_value_177 : decode cX12_value 177 = .ok (.invokevirtual 332, 3) := by decide +kernel
theorem dX12_value_180 : decode cX12_value 180 = .ok (.aload_n 0, 1) := by decide +kernel
theorem dX12_value_181 : decode cX12_value 181 = .ok (.bipush 122, 2) := by decide +kernel
theorem dX12_value_183 : decode cX12_value 183 = .ok (.iload 4, 2) := by decide +kernel
theorem dX12_value_185 : decode cX12_value 185 = .ok (.iadd, 1) := by decide +kernel
theorem dX12_value_186 : decode cX12_value 186 = .ok (.iconst 1, 1) := by decide +kernel
theorem dX12_value_187 : decode cX12_value 187 = .ok (.iadd, 1) := by decide +kernel
theorem dX12_value_188 : decode cX12_value 188 = .ok (.iload_n 2, 1) := by decide +kernel
theorem dX12_value_189 : decode cX12_value 189 = .ok (.iload 4, 2) := by decide +kernel
theorem dX12_value_191 : decode cX12_value 191 = .ok (.isub, 1) := by decide +kernel
theorem dX12_value_192 : decode cX12_value 192 = .ok (.iconst 1, 1) := by decide +kernel
theorem dX12_value_193 : decode cX12_value 193 = .ok (.isub, 1) := by decide +kernel
theorem dX12_value_194 : decode cX12_value 194 = .ok (.invokevirtual 329, 3) := by decide +kernel
theorem dX12_value_197 : decode cX12_value 197 = .ok (.istore 6, 2) := by decide +kernel
theorem dX12_value_199 : decode cX12_value 199 = .ok (.iload 6, 2) := by decide +kernel
theorem dX12_value_201 : decode cX12_value 201 = .ok (.iconst 2, 1) := by decide +kernel
theorem dX12_value_202 : decode cX12_value 202 = .ok (.if_icmp .ne 25, 3) := by decide +kernel
theorem dX12_value_205 : decode cX12_value 205 = .ok (.iinc 4 1, 3) := by decide +kernel
theorem dX12_value_208 : decode cX12_value 208 = .ok (.aload_n 0, 1) := by decide +kernel
theorem dX12_value_209 : decode cX12_value 209 = .ok (.getfield 68, 3) := by decide +kernel
theorem dX12_value_212 : decode cX12_value 212 = .ok (.iload 4, 2) := by decide +kernel
theorem dX12_value_214 : decode cX12_value 214 = .ok (.iconst 0, 1) := by decide +kernel
theorem dX12_value_215 : decode cX12_value 215 = .ok (.iastore, 1) := by decide +kernel
theorem dX12_value_216 : decode cX12_value 216 = .ok (.aload_n 0, 1) := by decide +kernel
theorem dX12_value_217 : decode cX12_value 217 = .ok (.getfield 71, 3) := by decide +kernel
theorem dX12_value_220 : decode cX12_value 220 = .ok (.iload 4, 2) := by decide +kernel
theorem dX12_value_222 : decode cX12_value 222 = .ok (.iconst (-1), 1) := by decide +kernel
theorem dX12_value_223 : decode cX12_value 223 = .ok (.iastore, 1) := by decide +kernel
theorem dX12_value_224 : decode cX12_value 224 = .ok (.goto (-157), 3) := by decide +kernel
theorem dX12_value_227 : decode cX12_value 227 = .ok (.iload 6, 2) := by decide +kernel
theorem dX12_value_229 : decode cX12_value 229 = .ok (.ineg, 1) := by decide +kernel
theorem dX12_value_230 : decode cX12_value 230 = .ok (.istore_n 3, 1) := by decide +kernel
theorem dX12_value_231 : decode cX12_value 231 = .ok (.iload 4, 2) := by decide +kernel
theorem dX12_value_233 : decode cX12_value 233 = .ok (.ifCond .lt 22, 3) := by decide +kernel
theorem dX12_value_236 : decode cX12_value 236 = .ok (.iload_n 3, 1) := by decide +kernel
theorem dX12_value_237 : decode cX12_value 237 = .ok (.aload_n 0, 1) := by decide +kernel
theorem dX12_value_238 : decode cX12_value 238 = .ok (.getfield 71, 3) := by decide +kernel
theorem dX12_value_241 : decode cX12_value 241 = .ok (.iload 4, 2) := by decide +kernel
theorem dX12_value_243 : decode cX12_value 243 = .ok (.iaload, 1) := by decide +kernel
theorem dX12_value_244 : decode cX12_value 244 = .ok (.if_icmp .le 11, 3) := by decide +kernel
theorem dX12_value_247 : decode cX12_value 247 = .ok (.aload_n 0, 1) := by decide +kernel
theorem dX12_value_248 : decode cX12_value 248 = .ok (.getfield 71, 3) := by decide +kernel
theorem dX12_value_251 : decode cX12_value 251 = .ok (.iload 4, 2) := by decide +kernel
theorem dX12_value_253 : decode cX12_value 253 = .ok (.iload_n 3, 1) := by decide +kernel
theorem dX12_value_254 : decode cX12_value 254 = .ok (.iastore, 1) := by decide +kernel
theorem dX12_value_255 : decode cX12_value 255 = .ok (.goto (-188), 3) := by decide +kernel
theorem dX12_value_258 : decode cX12_value 258 = .ok (.aload_n 0, 1) := by decide +kernel
theorem dX12_value_259 : decode cX12_value 259 = .ok (.getfield 71, 3) := by decide +kernel
theorem dX12_value_262 : decode cX12_value 262 = .ok (.iconst 0, 1) := by decide +kernel
theorem dX12_value_263 : decode cX12_value 263 = .ok (.iaload, 1) := by decide +kernel
theorem dX12_value_264 : decode cX12_value 264 = .ok (.ireturn, 1) := by decide +kernel
def rm_X12_value : Room := { frames := 7, cells := 0, slots := 0, locals := 170 }
abbrev wS_X12_value : List (Nat × Nat) := [(13, 28), (13, 29), (13, 32), (60, 99), (75, 99), (76, 99)]
set_option maxRecDepth 100000 in
set_option maxHeartbeats 4000000 in
theorem c_X12_value (l : Launch) (E : zE) (hV : zV E) (H0 : Heap) (hT0 : HT E H0) (h0 : Nat) (kh0 : eK E h0 = 13) (p0 : Int32) (p1 : Int32) : Met l yX12_value (zws yX12_value cX12_value 7 (some .int)) rm_X12_value (zP E H0 [.ref h0, .int p0, .int p1]) (zQI E E wS_X12_value (fun r H1 => (-2147483647) ≤ r.toInt)) 0 0 (zfr E) := by
  refine zEnt (by decide) (Nat.le_of_ble_eq_true rfl) (fun p e s m args below meth c ls Q B hr hlk hh hQ hl => ?_)
  have hx := B.1
  have hb := B.2.1
  have hG0 : zG E wS_X12_value H0 H0 [] := zG.rf hT0
  have hl : lv_has ls 7 [(0, .ref h0), (1, .int p0), (2, .int p1)] := hl
  have b67 : ∀ (n67 : Nat) (H67 : Heap) (lc67 : List Loc) (ls : Array Slot) (v67_4 : Int32) (u67_h0_32 : Int32) (u67_h0_30 : Nat) (u67_h0_31 : Nat), 2 * (30002 - u67_h0_32.toInt) + v67_4.toInt + 1 < (n67 : Int) → zG E wS_X12_value H0 H67 lc67 → lv_has ls 7 [(0, .ref h0), (2, .int p1), (4, .int v67_4)] → eK E u67_h0_30 = 75 → eK E u67_h0_31 = 76 → 0 ≤ p1.toInt → p1.toInt ≤ 4 → (-1) ≤ v67_4.toInt → v67_4.toInt ≤ 3 → 0 ≤ u67_h0_32.toInt → u67_h0_32.toInt ≤ 30001 → sl H67 h0 (zix E 13 32) = some (.int u67_h0_32) → sl H67 h0 (zix E 13 30) = some (.ref u67_h0_30) → sl H67 h0 (zix E 13 31) = some (.ref u67_h0_31) → v67_4.toInt < p1.toInt → W p l e rm_X12_value s m args below meth c H67 lc67 0 0 Q (F0 m 67 ls []) := by
    intro n67
    induction n67 with
    | zero =>
      intro H67 lc67 ls v67_4 u67_h0_32 u67_h0_30 u67_h0_31 hm67 gH67 hl k_u67_h0_30 k_u67_h0_31 f67_1 f67_2 f67_3 f67_4 f67_5 f67_6 s67_u67_h0_32 s67_u67_h0_30 s67_u67_h0_31 f67_7
      exact absurd hm67 (by omega)
    | succ n67 ih67 =>
      intro H67 lc67 ls v67_4 u67_h0_32 u67_h0_30 u67_h0_31 hm67 gH67 hl k_u67_h0_30 k_u67_h0_31 f67_1 f67_2 f67_3 f67_4 f67_5 f67_6 s67_u67_h0_32 s67_u67_h0_30 s67_u67_h0_31 f67_7
      have b255 : ∀ (H255 : Heap) (lc255 : List Loc) (ls : Array Slot) (v255_4 : Int32) (u255_h0_32 : Int32), zG E wS_X12_value H0 H255 lc255 → lv_has ls 7 [(0, .ref h0), (2, .int p1), (4, .int v255_4)] → (-1) ≤ v255_4.toInt → v255_4.toInt ≤ 3 → 0 ≤ u255_h0_32.toInt → u255_h0_32.toInt ≤ 30001 → sl H255 h0 (zix E 13 32) = some (.int u255_h0_32) → sl H255 h0 (zix E 13 30) = some (.ref u67_h0_30) → sl H255 h0 (zix E 13 31) = some (.ref u67_h0_31) → v255_4.toInt < p1.toInt → 2 * (30002 - u255_h0_32.toInt) + v255_4.toInt < 2 * (30002 - u67_h0_32.toInt) + v67_4.toInt → W p l e rm_X12_value s m args below meth c H255 lc255 0 0 Q (F0 m 255 ls []) := by
        intro H255 lc255 ls v255_4 u255_h0_32 gH255 hl f255_1 f255_2 f255_3 f255_4 s255_u255_h0_32 s255_u255_h0_30 s255_u255_h0_31 f255_5 f255_6
        refine lv_goto (tgt := 67) hx hb dX12_value_255 (by decide) ?_
        exact ih67 H255 lc255 ls v255_4 u255_h0_32 u67_h0_30 u67_h0_31 (by omega) gH255 (lv_sub hl [0, 1, 2] rfl) k_u67_h0_30 k_u67_h0_31 (by omega) (by omega) (by omega) (by omega) (by omega) (by omega) s255_u255_h0_32 s255_u255_h0_30 s255_u255_h0_31 (by omega)
      have b231 : ∀ (H231 : Heap) (lc231 : List Loc) (ls : Array Slot) (v231_3 : Int32) (v231_4 : Int32) (u231_h0_32 : Int32) (u231_u67_h0_31_ev67_4 : Int32), zG E wS_X12_value H0 H231 lc231 → lv_has ls 7 [(0, .ref h0), (2, .int p1), (3, .int v231_3), (4, .int v231_4)] → (-2147483647) ≤ v231_3.toInt → (-1) ≤ v231_4.toInt → v231_4.toInt ≤ 3 → 0 ≤ u231_h0_32.toInt → u231_h0_32.toInt ≤ 30001 → (-2147483647) ≤ u231_u67_h0_31_ev67_4.toInt → sl H231 h0 (zix E 13 32) = some (.int u231_h0_32) → sl H231 h0 (zix E 13 30) = some (.ref u67_h0_30) → sl H231 h0 (zix E 13 31) = some (.ref u67_h0_31) → sl H231 u67_h0_31 v67_4.toNatClampNeg = some (.int u231_u67_h0_31_ev67_4) → v231_4.toInt < p1.toInt → 2 * (30002 - u231_h0_32.toInt) + v231_4.toInt < 2 * (30002 - u67_h0_32.toInt) + v67_4.toInt → W p l e rm_X12_value s m args below meth c H231 lc231 0 0 Q (F0 m 231 ls []) := by
        intro H231 lc231 ls v231_3 v231_4 u231_h0_32 u231_u67_h0_31_ev67_4 gH231 hl f231_1 f231_2 f231_3 f231_4 f231_5 f231_6 s231_u231_h0_32 s231_u231_h0_30 s231_u231_h0_31 s231_u231_u67_h0_31_ev67_4 f231_7 f231_8
        refine lv_iload hx hb dX12_value_231 (lv_at hl 3 rfl) ?_
        refine lv_if_lt (tgt := 255) hx hb dX12_value_233 (by decide) (fun c_1 => ?_) (fun c_1 => ?_)
        · have f_1 := z_lt c_1 rfl kl_0
          exact b255 H231 lc231 ls v231_4 u231_h0_32 gH231 (lv_sub hl [0, 1, 3] rfl) (by omega) (by omega) (by omega) (by omega) s231_u231_h0_32 s231_u231_h0_30 s231_u231_h0_31 (by omega) (by omega)
        · have f_1 := z_nlt c_1 rfl kl_0
          refine lv_iload_n hx hb dX12_value_236 rfl (lv_at hl 2 rfl) ?_
          refine lv_aload_n hx hb dX12_value_237 rfl (lv_at hl 0 rfl) ?_
          refine g_get B fl_RX12_71 gH231.1 kh0 rfl rfl rfl dX12_value_238 s231_u231_h0_31 ?_
          refine lv_iload hx hb dX12_value_241 (lv_at hl 3 rfl) ?_
          refine g_ialdI (i := v231_4) (N := 6) B gH231.1 k_u67_h0_31 rfl rfl rfl rfl (by omega) (by omega) rfl dX12_value_243 (fun x_2 s_2 a_2 b_2 => ?_)
          refine lv_icmp_le (tgt := 255) hx hb dX12_value_244 (by decide) (fun c_3 => ?_) (fun c_3 => ?_)
          · have f_3 := z_le c_3 rfl rfl
            exact b255 H231 lc231 ls v231_4 u231_h0_32 gH231 (lv_sub hl [0, 1, 3] rfl) (by omega) (by omega) (by omega) (by omega) s231_u231_h0_32 s231_u231_h0_30 s231_u231_h0_31 (by omega) (by omega)
          · have f_3 := z_nle c_3 rfl rfl
            refine lv_aload_n hx hb dX12_value_247 rfl (lv_at hl 0 rfl) ?_
            refine g_get B fl_RX12_71 gH231.1 kh0 rfl rfl rfl dX12_value_248 s231_u231_h0_31 ?_
            refine lv_iload hx hb dX12_value_251 (lv_at hl 3 rfl) ?_
            refine lv_iload_n hx hb dX12_value_253 rfl (lv_at hl 2 rfl) ?_
            have := z_rng v231_3
            refine g_iastI (i := v231_4) (N := 6) B hV gH231 k_u67_h0_31 rfl rfl rfl rfl (by omega) (by omega) rfl (by omega) (by omega) rfl dX12_value_254 (fun H4 lc4 gH4 uH4 => ?_)
            have s_5 := uH4.keep (Or.inl (k_ne kh0 k_u67_h0_31 rfl)) s231_u231_h0_32
            have s_6 := uH4.keep (Or.inl (k_ne kh0 k_u67_h0_31 rfl)) s231_u231_h0_30
            have s_7 := uH4.keep (Or.inl (k_ne kh0 k_u67_h0_31 rfl)) s231_u231_h0_31
            exact b255 H4 lc4 ls v231_4 u231_h0_32 gH4 (lv_sub hl [0, 1, 3] rfl) (by omega) (by omega) (by omega) (by omega) s_5 s_6 s_7 (by omega) (by omega)
      have b120 : ∀ (H120 : Heap) (lc120 : List Loc) (ls : Array Slot) (w120_0 : Int32) (u120_u67_h0_31_ev67_4 : Int32), zG E wS_X12_value H0 H120 lc120 → lv_has ls 7 [(0, .ref h0), (2, .int p1), (4, .int v67_4)] → 0 ≤ v67_4.toInt → 0 ≤ w120_0.toInt → w120_0.toInt ≤ 1 → u67_h0_32.toInt ≤ 30000 → (-2147483647) ≤ u120_u67_h0_31_ev67_4.toInt → sl H120 h0 (zix E 13 32) = some (.int u67_h0_32) → sl H120 h0 (zix E 13 30) = some (.ref u67_h0_30) → sl H120 h0 (zix E 13 31) = some (.ref u67_h0_31) → sl H120 u67_h0_31 v67_4.toNatClampNeg = some (.int u120_u67_h0_31_ev67_4) → W p l e rm_X12_value s m args below meth c H120 lc120 0 0 Q (F0 m 120 ls [.int w120_0]) := by
        intro H120 lc120 ls w120_0 u120_u67_h0_31_ev67_4 gH120 hl f120_1 f120_2 f120_3 f120_4 f120_5 s120_u120_h0_32 s120_u120_h0_30 s120_u120_h0_31 s120_u120_u67_h0_31_ev67_4
        refine lv_istore (lv' := [(5, .int w120_0), (0, .ref h0), (2, .int p1), (4, .int v67_4)]) hx hb dX12_value_120 hl (by decide) rfl (fun ls hl => ?_)
        refine lv_iload hx hb dX12_value_122 (lv_at hl 0 rfl) ?_
        refine lv_if_ne (tgt := 142) hx hb dX12_value_124 (by decide) (fun c_8 => ?_) (fun c_8 => ?_)
        · have f_8 := z_ne c_8 rfl kl_0
          refine lv_aload_n hx hb dX12_value_142 rfl (lv_at hl 1 rfl) ?_
          refine g_get B fl_RX12_68 gH120.1 kh0 rfl rfl rfl dX12_value_143 s120_u120_h0_30 ?_
          refine lv_iload hx hb dX12_value_146 (lv_at hl 3 rfl) ?_
          refine lv_dup2_11 hx hb dX12_value_148 rfl rfl ?_
          refine g_ialdI (i := v67_4) (N := 6) B gH120.1 k_u67_h0_30 rfl rfl rfl rfl (by omega) (by omega) rfl dX12_value_149 (fun x_9 s_9 a_9 b_9 => ?_)
          refine lv_iconst (v := 1) hx hb dX12_value_150 (by decide) ?_
          refine lv_iadd hx hb dX12_value_151 ?_
          refine lv_topi (fun x_10 e_10 => ?_)
          refine g_iastI (i := v67_4) (N := 6) B hV gH120 k_u67_h0_30 rfl rfl rfl rfl (by omega) (by omega) rfl (z_rng _).1 (z_rng _).2 rfl dX12_value_152 (fun H11 lc11 gH11 uH11 => ?_)
          have s_12 := uH11.keep (Or.inl (k_ne kh0 k_u67_h0_30 rfl)) s120_u120_h0_32
          have s_13 := uH11.keep (Or.inl (k_ne kh0 k_u67_h0_30 rfl)) s120_u120_h0_30
          have s_14 := uH11.keep (Or.inl (k_ne kh0 k_u67_h0_30 rfl)) s120_u120_h0_31
          have s_15 := uH11.keep (Or.inl (k_ne k_u67_h0_31 k_u67_h0_30 rfl)) s120_u120_u67_h0_31_ev67_4
          refine lv_aload_n hx hb dX12_value_153 rfl (lv_at hl 1 rfl) ?_
          refine lv_bipush (v := 122) hx hb dX12_value_154 (by decide) ?_
          refine lv_iload hx hb dX12_value_156 (lv_at hl 3 rfl) ?_
          refine lv_iadd hx hb dX12_value_158 ?_
          refine lv_topi (fun x_16 e_16 => ?_)
          have t_16 := z_add e_16 kl_122 rfl (by omega) (by omega)
          refine lv_bipush (v := 122) hx hb dX12_value_159 (by decide) ?_
          refine lv_iload hx hb dX12_value_161 (lv_at hl 3 rfl) ?_
          refine lv_iadd hx hb dX12_value_163 ?_
          refine lv_topi (fun x_17 e_17 => ?_)
          have t_17 := z_add e_17 kl_122 rfl (by omega) (by omega)
          refine lv_iconst (v := 1) hx hb dX12_value_164 (by decide) ?_
          refine lv_iadd hx hb dX12_value_165 ?_
          refine lv_topi (fun x_18 e_18 => ?_)
          have t_18 := z_add e_18 rfl kl_1 (by omega) (by omega)
          refine zkV (zrV (rest := []) B (c_X12_copy l E hV H11 gH11.1 h0 kh0 x_16 (by omega) (by omega) x_18 (by omega) (by omega)) cl_RX12_326 gH11.1 kh0 rfl rfl rfl rfl hl.1 rfl (Nat.le_of_ble_eq_true rfl) dX12_value_166 rfl rfl ⟨rfl, rfl⟩ ⟨Nat.zero_le _, Nat.zero_le _⟩ (zO.of gH11 hh)) gH11 rfl (fun H19 lc19 hp_19 gH19 rH19 => ?_)
          have s_20 := rH19.keep hV kh0 rfl s_12
          have s_21 := rH19.keep hV kh0 rfl s_13
          have s_22 := rH19.keep hV kh0 rfl s_14
          have s_23 := rH19.keepA k_u67_h0_31 rfl s_15
          have s_24 := rH19.keepA k_u67_h0_30 rfl uH11.2.1
          refine lv_aload_n hx hb dX12_value_169 rfl (lv_at hl 1 rfl) ?_
          refine lv_bipush (v := 122) hx hb dX12_value_170 (by decide) ?_
          refine lv_iload hx hb dX12_value_172 (lv_at hl 3 rfl) ?_
          refine lv_iadd hx hb dX12_value_174 ?_
          refine lv_topi (fun x_25 e_25 => ?_)
          have t_25 := z_add e_25 kl_122 rfl (by omega) (by omega)
          refine lv_iconst (v := 1) hx hb dX12_value_175 (by decide) ?_
          refine lv_iadd hx hb dX12_value_176 ?_
          refine lv_topi (fun x_26 e_26 => ?_)
          have t_26 := z_add e_26 rfl kl_1 (by omega) (by omega)
          refine zkV (zrV (rest := []) B (c_X12_makes l E hV H19 gH19.1 h0 kh0 x_26 (by omega) (by omega)) cl_RX12_332 gH19.1 kh0 rfl rfl rfl rfl hl.1 rfl (Nat.le_of_ble_eq_true rfl) dX12_value_177 rfl rfl ⟨rfl, rfl⟩ ⟨Nat.zero_le _, Nat.zero_le _⟩ (zO.of gH19 hh)) gH19 rfl (fun H27 lc27 hp_27 gH27 rH27 => ?_)
          have s_28 := rH27.keep hV kh0 rfl s_20
          have s_29 := rH27.keep hV kh0 rfl s_21
          have s_30 := rH27.keep hV kh0 rfl s_22
          have s_31 := rH27.keepA k_u67_h0_31 rfl s_23
          have s_32 := rH27.keepA k_u67_h0_30 rfl s_24
          refine lv_aload_n hx hb dX12_value_180 rfl (lv_at hl 1 rfl) ?_
          refine lv_bipush (v := 122) hx hb dX12_value_181 (by decide) ?_
          refine lv_iload hx hb dX12_value_183 (lv_at hl 3 rfl) ?_
          refine lv_iadd hx hb dX12_value_185 ?_
          refine lv_topi (fun x_33 e_33 => ?_)
          have t_33 := z_add e_33 kl_122 rfl (by omega) (by omega)
          refine lv_iconst (v := 1) hx hb dX12_value_186 (by decide) ?_
          refine lv_iadd hx hb dX12_value_187 ?_
          refine lv_topi (fun x_34 e_34 => ?_)
          have t_34 := z_add e_34 rfl kl_1 (by omega) (by omega)
          refine lv_iload_n hx hb dX12_value_188 rfl (lv_at hl 2 rfl) ?_
          refine lv_iload hx hb dX12_value_189 (lv_at hl 3 rfl) ?_
          refine lv_isub hx hb dX12_value_191 ?_
          refine lv_topi (fun x_35 e_35 => ?_)
          have t_35 := z_sub e_35 rfl rfl (by omega) (by omega)
          refine lv_iconst (v := 1) hx hb dX12_value_192 (by decide) ?_
          refine lv_isub hx hb dX12_value_193 ?_
          refine lv_topi (fun x_36 e_36 => ?_)
          have t_36 := z_sub e_36 rfl kl_1 (by omega) (by omega)
          refine zkI (zrV (rest := []) B (c_X12_atOnce l E hV H27 gH27.1 h0 kh0 x_34 (by omega) (by omega) x_36 u67_h0_32 s_28 (by omega) (by omega)) cl_RX12_329 gH27.1 kh0 rfl rfl rfl rfl hl.1 rfl (Nat.le_of_ble_eq_true rfl) dX12_value_194 rfl rfl ⟨rfl, rfl⟩ ⟨Nat.zero_le _, Nat.zero_le _⟩ (zO.of gH27 hh)) gH27 rfl (fun x_37 H37 lc37 hp_37 gH37 rH37 => ?_)
          have s_38 := rH37.keep hV kh0 rfl s_29
          have s_39 := rH37.keep hV kh0 rfl s_30
          have s_40 := rH37.keepA k_u67_h0_31 rfl s_31
          have s_41 := rH37.keepA k_u67_h0_30 rfl s_32
          obtain ⟨hp_37_1, hp_37_2, hp_37_3, ⟨k_42, sk_42, ak_42, bk_42, fk_42_0⟩⟩ := hp_37
          refine lv_istore (lv' := [(6, .int x_37), (5, .int w120_0), (0, .ref h0), (2, .int p1), (4, .int v67_4)]) hx hb dX12_value_197 hl (by decide) rfl (fun ls hl => ?_)
          refine lv_iload hx hb dX12_value_199 (lv_at hl 0 rfl) ?_
          refine lv_iconst (v := 2) hx hb dX12_value_201 (by decide) ?_
          refine lv_icmp_ne (tgt := 227) hx hb dX12_value_202 (by decide) (fun c_43 => ?_) (fun c_43 => ?_)
          · have f_43 := z_ne c_43 rfl kl_2
            refine lv_iload hx hb dX12_value_227 (lv_at hl 0 rfl) ?_
            refine lv_ineg hx hb dX12_value_229 ?_
            refine lv_topi (fun x_44 e_44 => ?_)
            have t_44 := z_neg e_44 rfl (by omega)
            refine lv_istore_n (lv' := [(3, .int x_44), (6, .int x_37), (5, .int w120_0), (0, .ref h0), (2, .int p1), (4, .int v67_4)]) hx hb dX12_value_230 rfl hl (by decide) rfl (fun ls hl => ?_)
            have := z_rng u120_u67_h0_31_ev67_4
            exact b231 H37 lc37 ls x_44 v67_4 k_42 u120_u67_h0_31_ev67_4 gH37 (lv_sub hl [3, 4, 0, 5] rfl) (by omega) (by omega) (by omega) (by omega) (by omega) (by omega) sk_42 s_38 s_39 s_40 (by omega) (by omega)
          · have f_43 := z_eq c_43 rfl kl_2
            obtain ⟨x_45, e_45⟩ : ∃ y : Int32, (v67_4 : Int32) + Int32.ofInt 1 = y := ⟨_, rfl⟩
            refine lv_iinc (v := x_45) (lv' := [(4, .int x_45), (6, .int x_37), (5, .int w120_0), (0, .ref h0), (2, .int p1)]) hx hb dX12_value_205 hl (k := 4) rfl e_45 (by decide) rfl (fun ls hl => ?_)
            have t_45 := z_inc2 e_45 rfl (by decide) (by omega) (by omega)
            refine lv_aload_n hx hb dX12_value_208 rfl (lv_at hl 3 rfl) ?_
            refine g_get B fl_RX12_68 gH37.1 kh0 rfl rfl rfl dX12_value_209 s_38 ?_
            refine lv_iload hx hb dX12_value_212 (lv_at hl 0 rfl) ?_
            refine lv_iconst (v := 0) hx hb dX12_value_214 (by decide) ?_
            have := kl_0
            refine g_iastI (i := x_45) (N := 6) B hV gH37 k_u67_h0_30 rfl rfl rfl rfl (by omega) (by omega) rfl (z_rng _).1 (z_rng _).2 rfl dX12_value_215 (fun H46 lc46 gH46 uH46 => ?_)
            have s_47 := uH46.keep (Or.inl (k_ne kh0 k_u67_h0_30 rfl)) s_38
            have s_48 := uH46.keep (Or.inl (k_ne kh0 k_u67_h0_30 rfl)) s_39
            have s_49 := uH46.keep (Or.inl (k_ne k_u67_h0_31 k_u67_h0_30 rfl)) s_40
            have s_50 := uH46.keep (Or.inl (k_ne kh0 k_u67_h0_30 rfl)) sk_42
            refine lv_aload_n hx hb dX12_value_216 rfl (lv_at hl 3 rfl) ?_
            refine g_get B fl_RX12_71 gH46.1 kh0 rfl rfl rfl dX12_value_217 s_48 ?_
            refine lv_iload hx hb dX12_value_220 (lv_at hl 0 rfl) ?_
            refine lv_iconst (v := (-1)) hx hb dX12_value_222 (by decide) ?_
            have := kl_m1
            refine g_iastI (i := x_45) (N := 6) B hV gH46 k_u67_h0_31 rfl rfl rfl rfl (by omega) (by omega) rfl (by omega) (by omega) rfl dX12_value_223 (fun H51 lc51 gH51 uH51 => ?_)
            have s_52 := uH51.keep (Or.inl (k_ne kh0 k_u67_h0_31 rfl)) s_47
            have s_53 := uH51.keep (Or.inl (k_ne kh0 k_u67_h0_31 rfl)) s_48
            have s_54 := uH51.keep (Or.inl (k_ne kh0 k_u67_h0_31 rfl)) s_50
            have s_55 := uH51.keep (Or.inl (k_ne k_u67_h0_30 k_u67_h0_31 rfl)) uH46.2.1
            refine lv_goto (tgt := 67) hx hb dX12_value_224 (by decide) ?_
            exact ih67 H51 lc51 ls x_45 k_42 u67_h0_30 u67_h0_31 (by omega) gH51 (lv_sub hl [3, 4, 0] rfl) k_u67_h0_30 k_u67_h0_31 (by omega) (by omega) (by omega) (by omega) (by omega) (by omega) s_54 s_52 s_53 (by omega)
        · have f_8 := z_eq c_8 rfl kl_0
          refine lv_aload_n hx hb dX12_value_127 rfl (lv_at hl 1 rfl) ?_
          refine g_get B fl_RX12_71 gH120.1 kh0 rfl rfl rfl dX12_value_128 s120_u120_h0_31 ?_
          refine lv_iload hx hb dX12_value_131 (lv_at hl 3 rfl) ?_
          refine g_iald (i := v67_4) (N := 6) B gH120.1 k_u67_h0_31 rfl rfl rfl rfl (by omega) (by omega) s120_u120_u67_h0_31_ev67_4 dX12_value_133 ?_
          refine lv_ineg hx hb dX12_value_134 ?_
          refine lv_topi (fun x_56 e_56 => ?_)
          have t_56 := z_neg e_56 rfl (by omega)
          refine lv_istore_n (lv' := [(3, .int x_56), (5, .int w120_0), (0, .ref h0), (2, .int p1), (4, .int v67_4)]) hx hb dX12_value_135 rfl hl (by decide) rfl (fun ls hl => ?_)
          obtain ⟨x_57, e_57⟩ : ∃ y : Int32, (v67_4 : Int32) + Int32.ofInt (-1) = y := ⟨_, rfl⟩
          refine lv_iinc (v := x_57) (lv' := [(4, .int x_57), (3, .int x_56), (5, .int w120_0), (0, .ref h0), (2, .int p1)]) hx hb dX12_value_136 hl (k := 4) rfl e_57 (by decide) rfl (fun ls hl => ?_)
          have t_57 := z_inc2 e_57 rfl (by decide) (by omega) (by omega)
          refine lv_goto (tgt := 231) hx hb dX12_value_139 (by decide) ?_
          have := z_rng x_56
          have := z_rng u120_u67_h0_31_ev67_4
          exact b231 H120 lc120 ls x_56 x_57 u67_h0_32 u120_u67_h0_31_ev67_4 gH120 (lv_sub hl [3, 4, 1, 0] rfl) (by omega) (by omega) (by omega) (by omega) (by omega) (by omega) s120_u120_h0_32 s120_u120_h0_30 s120_u120_h0_31 s120_u120_u67_h0_31_ev67_4 (by omega) (by omega)
      have b119 : ∀ (H119 : Heap) (lc119 : List Loc) (ls : Array Slot) (u119_u67_h0_31_ev67_4 : Int32), zG E wS_X12_value H0 H119 lc119 → lv_has ls 7 [(0, .ref h0), (2, .int p1), (4, .int v67_4)] → 0 ≤ v67_4.toInt → u67_h0_32.toInt ≤ 30000 → (-2147483647) ≤ u119_u67_h0_31_ev67_4.toInt → sl H119 h0 (zix E 13 32) = some (.int u67_h0_32) → sl H119 h0 (zix E 13 30) = some (.ref u67_h0_30) → sl H119 h0 (zix E 13 31) = some (.ref u67_h0_31) → sl H119 u67_h0_31 v67_4.toNatClampNeg = some (.int u119_u67_h0_31_ev67_4) → W p l e rm_X12_value s m args below meth c H119 lc119 0 0 Q (F0 m 119 ls []) := by
        intro H119 lc119 ls u119_u67_h0_31_ev67_4 gH119 hl f119_1 f119_2 f119_3 s119_u119_h0_32 s119_u119_h0_30 s119_u119_h0_31 s119_u119_u67_h0_31_ev67_4
        refine lv_iconst (v := 0) hx hb dX12_value_119 (by decide) ?_
        have := kl_0
        have := z_rng u119_u67_h0_31_ev67_4
        exact b120 H119 lc119 ls 0 u119_u67_h0_31_ev67_4 gH119 (lv_sub hl [0, 1, 2] rfl) (by omega) (by omega) (by omega) (by omega) (by omega) s119_u119_h0_32 s119_u119_h0_30 s119_u119_h0_31 s119_u119_u67_h0_31_ev67_4
      refine lv_iload hx hb dX12_value_67 (lv_at hl 2 rfl) ?_
      refine lv_if_lt (tgt := 258) hx hb dX12_value_69 (by decide) (fun c_58 => ?_) (fun c_58 => ?_)
      · have f_58 := z_lt c_58 rfl kl_0
        refine lv_aload_n hx hb dX12_value_258 rfl (lv_at hl 0 rfl) ?_
        refine g_get B fl_RX12_71 gH67.1 kh0 rfl rfl rfl dX12_value_259 s67_u67_h0_31 ?_
        refine lv_iconst (v := 0) hx hb dX12_value_262 (by decide) ?_
        have := kl_0
        refine g_ialdI (i := 0) (N := 6) B gH67.1 k_u67_h0_31 rfl rfl rfl rfl (by omega) (by omega) rfl dX12_value_263 (fun x_59 s_59 a_59 b_59 => ?_)
        have := z_rng x_59
        have := z_rng x_59
        exact rtI (v := x_59) B hr hlk hh hQ gH67 rfl (by omega) dX12_value_264
      · have f_58 := z_nlt c_58 rfl kl_0
        refine lv_aload_n hx hb dX12_value_72 rfl (lv_at hl 0 rfl) ?_
        refine g_get B fl_RX12_323 gH67.1 kh0 rfl rfl rfl dX12_value_73 s67_u67_h0_32 ?_
        refine lv_sipush (v := 30000) hx hb dX12_value_76 (by decide) ?_
        refine lv_icmp_le (tgt := 85) hx hb dX12_value_79 (by decide) (fun c_60 => ?_) (fun c_60 => ?_)
        · have f_60 := z_le c_60 rfl kl_30000
          refine lv_aload_n hx hb dX12_value_85 rfl (lv_at hl 0 rfl) ?_
          refine g_get B fl_RX12_71 gH67.1 kh0 rfl rfl rfl dX12_value_86 s67_u67_h0_31 ?_
          refine lv_iload hx hb dX12_value_89 (lv_at hl 2 rfl) ?_
          refine g_ialdI (i := v67_4) (N := 6) B gH67.1 k_u67_h0_31 rfl rfl rfl rfl (by omega) (by omega) rfl dX12_value_91 (fun x_61 s_61 a_61 b_61 => ?_)
          refine lv_iconst (v := 1) hx hb dX12_value_92 (by decide) ?_
          refine lv_icmp_ge (tgt := 119) hx hb dX12_value_93 (by decide) (fun c_62 => ?_) (fun c_62 => ?_)
          · have f_62 := z_le c_62 kl_1 rfl
            have := z_rng x_61
            exact b119 H67 lc67 ls x_61 gH67 (lv_sub hl [0, 1, 2] rfl) (by omega) (by omega) (by omega) s67_u67_h0_32 s67_u67_h0_30 s67_u67_h0_31 s_61
          · have f_62 := z_nle c_62 kl_1 rfl
            refine lv_aload_n hx hb dX12_value_96 rfl (lv_at hl 0 rfl) ?_
            refine lv_bipush (v := 122) hx hb dX12_value_97 (by decide) ?_
            refine lv_iload hx hb dX12_value_99 (lv_at hl 2 rfl) ?_
            refine lv_iadd hx hb dX12_value_101 ?_
            refine lv_topi (fun x_63 e_63 => ?_)
            have t_63 := z_add e_63 kl_122 rfl (by omega) (by omega)
            refine lv_aload_n hx hb dX12_value_102 rfl (lv_at hl 0 rfl) ?_
            refine g_get B fl_RX12_68 gH67.1 kh0 rfl rfl rfl dX12_value_103 s67_u67_h0_30 ?_
            refine lv_iload hx hb dX12_value_106 (lv_at hl 2 rfl) ?_
            refine g_ialdI (i := v67_4) (N := 6) B gH67.1 k_u67_h0_30 rfl rfl rfl rfl (by omega) (by omega) rfl dX12_value_108 (fun x_64 s_64 a_64 b_64 => ?_)
            obtain ⟨q_65, s_65, k_q_65⟩ := HT.atR gH67.1 kh0 rfl (j := 12) (by decide) rfl
            obtain ⟨x_66, s_66, a_66, b_66⟩ := HT.atI gH67.1 kh0 rfl (j := 26) (by decide) rfl
            obtain ⟨x_67, s_67, a_67, b_67⟩ := HT.elI (i := x_66) (N := 2) gH67.1 k_q_65 rfl rfl rfl (by omega) (by omega) rfl
            refine zkI (zrV (rest := []) B (c_X12_findMove l E hV H67 gH67.1 h0 kh0 x_63 (by omega) (by omega) x_64 q_65 k_q_65 s_65 x_66 s_66 x_67 s_67) cl_RX12_317 gH67.1 kh0 rfl rfl rfl rfl hl.1 rfl (Nat.le_of_ble_eq_true rfl) dX12_value_109 rfl rfl ⟨rfl, rfl⟩ ⟨Nat.zero_le _, Nat.zero_le _⟩ (zO.of gH67 hh)) gH67 rfl (fun x_68 H68 lc68 hp_68 gH68 rH68 => ?_)
            have s_69 := rH68.keep hV kh0 rfl s67_u67_h0_32
            have s_70 := rH68.keep hV kh0 rfl s67_u67_h0_30
            have s_71 := rH68.keep hV kh0 rfl s67_u67_h0_31
            have s_72 := rH68.keepA k_u67_h0_31 rfl s_61
            have s_73 := rH68.keepA k_u67_h0_30 rfl s_64
            have s_74 := rH68.keepA k_q_65 rfl s_67
            obtain ⟨hp_68_1, hp_68_2, hp_68_3⟩ := hp_68
            refine lv_if_eq (tgt := 119) hx hb dX12_value_112 (by decide) (fun c_75 => ?_) (fun c_75 => ?_)
            · have f_75 := z_eq c_75 rfl kl_0
              exact b119 H68 lc68 ls x_61 gH68 (lv_sub hl [0, 1, 2] rfl) (by omega) (by omega) (by omega) s_69 s_70 s_71 s_72
            · have f_75 := z_ne c_75 rfl kl_0
              refine lv_iconst (v := 1) hx hb dX12_value_115 (by decide) ?_
              refine lv_goto (tgt := 120) hx hb dX12_value_116 (by decide) ?_
              have := kl_1
              exact b120 H68 lc68 ls 1 x_61 gH68 (lv_sub hl [0, 1, 2] rfl) (by omega) (by omega) (by omega) (by omega) (by omega) s_69 s_70 s_71 s_72
        · have f_60 := z_nle c_60 rfl kl_30000
          refine lv_bipush (v := (-2)) hx hb dX12_value_82 (by decide) ?_
          have := kl_m2
          have := kl_m2
          exact rtI (v := (-2)) B hr hlk hh hQ gH67 rfl (by omega) dX12_value_84
  refine lv_iload_n hx hb dX12_value_0 rfl (lv_at hl 1 rfl) ?_
  refine zkPI (zrS (rest := []) B (c_X12_isKeeper l E hV H0 hT0 p0) cs_RX12_308 rfl hl.1 rfl (Nat.le_of_ble_eq_true rfl) dX12_value_1 rfl rfl ⟨rfl, rfl⟩ ⟨Nat.zero_le _, Nat.zero_le _⟩ (zO.of hG0 hh)) (fun x_76 hp_76 => ?_)
  obtain ⟨hp_76_1, hp_76_2, hp_76_3⟩ := hp_76
  refine lv_if_eq (tgt := 16) hx hb dX12_value_4 (by decide) (fun c_77 => ?_) (fun c_77 => ?_)
  · have f_77 := z_eq c_77 rfl kl_0
    refine lv_bipush (v := (-3)) hx hb dX12_value_16 (by decide) ?_
    have := kl_m3
    have := kl_m3
    exact rtI (v := (-3)) B hr hlk hh hQ hG0 rfl (by omega) dX12_value_18
  · have f_77 := z_ne c_77 rfl kl_0
    refine lv_iload_n hx hb dX12_value_7 rfl (lv_at hl 2 rfl) ?_
    refine lv_iconst (v := 0) hx hb dX12_value_8 (by decide) ?_
    refine lv_iconst (v := 4) hx hb dX12_value_9 (by decide) ?_
    refine zkPI (zrS (rest := []) B (c_X12_isIn l E hV H0 hT0 p1 0 4) cs_RX12_260 rfl hl.1 rfl (Nat.le_of_ble_eq_true rfl) dX12_value_10 rfl rfl ⟨rfl, rfl⟩ ⟨Nat.zero_le _, Nat.zero_le _⟩ (zO.of hG0 hh)) (fun x_78 hp_78 => ?_)
    obtain ⟨hp_78_1, hp_78_2, hp_78_3⟩ := hp_78
    have := kl_0
    have := kl_4
    refine lv_if_ne (tgt := 19) hx hb dX12_value_13 (by decide) (fun c_79 => ?_) (fun c_79 => ?_)
    · have f_79 := z_ne c_79 rfl kl_0
      refine lv_aload_n hx hb dX12_value_19 rfl (lv_at hl 0 rfl) ?_
      refine lv_iconst (v := 0) hx hb dX12_value_20 (by decide) ?_
      have := kl_0
      refine g_putI B fp_RX12_323 hV hG0 kh0 rfl rfl rfl rfl rfl (z_rng _).1 (z_rng _).2 rfl dX12_value_21 (fun H80 lc80 gH80 uH80 => ?_)
      refine lv_aload_n hx hb dX12_value_24 rfl (lv_at hl 0 rfl) ?_
      refine lv_aload_n hx hb dX12_value_25 rfl (lv_at hl 0 rfl) ?_
      refine lv_iload_n hx hb dX12_value_26 rfl (lv_at hl 1 rfl) ?_
      refine zkPI (zrV (rest := [.ref h0]) B (c_X12_boardOf l E hV H80 gH80.1 h0 kh0 p0 (by omega) (by omega)) cl_RX12_314 gH80.1 kh0 rfl rfl rfl rfl hl.1 rfl (Nat.le_of_ble_eq_true rfl) dX12_value_27 rfl rfl ⟨rfl, rfl⟩ ⟨Nat.zero_le _, Nat.zero_le _⟩ (zO.of gH80 hh)) (fun x_81 hp_81 => ?_)
      obtain ⟨hp_81_1, hp_81_2⟩ := hp_81
      refine lv_bipush (v := 122) hx hb dX12_value_30 (by decide) ?_
      have := kl_122
      refine zkV (zrV (rest := []) B (c_X12_copy l E hV H80 gH80.1 h0 kh0 x_81 (by omega) (by omega) 122 (by omega) (by omega)) cl_RX12_326 gH80.1 kh0 rfl rfl rfl rfl hl.1 rfl (Nat.le_of_ble_eq_true rfl) dX12_value_32 rfl rfl ⟨rfl, rfl⟩ ⟨Nat.zero_le _, Nat.zero_le _⟩ (zO.of gH80 hh)) gH80 rfl (fun H82 lc82 hp_82 gH82 rH82 => ?_)
      have s_83 := rH82.keep hV kh0 rfl uH80.2.1
      refine lv_aload_n hx hb dX12_value_35 rfl (lv_at hl 0 rfl) ?_
      refine lv_bipush (v := 122) hx hb dX12_value_36 (by decide) ?_
      refine lv_iload_n hx hb dX12_value_38 rfl (lv_at hl 2 rfl) ?_
      have := kl_122
      have := kl_0
      refine zkI (zrV (rest := []) B (c_X12_atOnce l E hV H82 gH82.1 h0 kh0 122 (by omega) (by omega) p1 0 s_83 (by omega) (by omega)) cl_RX12_329 gH82.1 kh0 rfl rfl rfl rfl hl.1 rfl (Nat.le_of_ble_eq_true rfl) dX12_value_39 rfl rfl ⟨rfl, rfl⟩ ⟨Nat.zero_le _, Nat.zero_le _⟩ (zO.of gH82 hh)) gH82 rfl (fun x_84 H84 lc84 hp_84 gH84 rH84 => ?_)
      obtain ⟨hp_84_1, hp_84_2, hp_84_3, ⟨k_85, sk_85, ak_85, bk_85, fk_85_0⟩⟩ := hp_84
      have := kl_122
      refine lv_istore_n (lv' := [(3, .int x_84), (0, .ref h0), (1, .int p0), (2, .int p1)]) hx hb dX12_value_42 rfl hl (by decide) rfl (fun ls hl => ?_)
      refine lv_iload_n hx hb dX12_value_43 rfl (lv_at hl 0 rfl) ?_
      refine lv_iconst (v := 2) hx hb dX12_value_44 (by decide) ?_
      refine lv_icmp_ge (tgt := 50) hx hb dX12_value_45 (by decide) (fun c_86 => ?_) (fun c_86 => ?_)
      · have f_86 := z_le c_86 kl_2 rfl
        refine lv_iconst (v := 0) hx hb dX12_value_50 (by decide) ?_
        refine lv_istore (lv' := [(4, .int 0), (3, .int x_84), (0, .ref h0), (1, .int p0), (2, .int p1)]) hx hb dX12_value_51 hl (by decide) rfl (fun ls hl => ?_)
        refine lv_aload_n hx hb dX12_value_53 rfl (lv_at hl 2 rfl) ?_
        refine g_getR B fl_RX12_68 gH84.1 kh0 rfl rfl rfl rfl rfl dX12_value_54 (fun q_87 s_87 k_q_87 => ?_)
        refine lv_iconst (v := 0) hx hb dX12_value_57 (by decide) ?_
        refine lv_iconst (v := 0) hx hb dX12_value_58 (by decide) ?_
        have := kl_0
        have := kl_0
        refine g_iastI (i := 0) (N := 6) B hV gH84 k_q_87 rfl rfl rfl rfl (by omega) (by omega) rfl (z_rng _).1 (z_rng _).2 rfl dX12_value_59 (fun H88 lc88 gH88 uH88 => ?_)
        have s_89 := uH88.keep (Or.inl (k_ne kh0 k_q_87 rfl)) sk_85
        have s_90 := uH88.keep (Or.inl (k_ne kh0 k_q_87 rfl)) s_87
        refine lv_aload_n hx hb dX12_value_60 rfl (lv_at hl 2 rfl) ?_
        refine g_getR B fl_RX12_71 gH88.1 kh0 rfl rfl rfl rfl rfl dX12_value_61 (fun q_91 s_91 k_q_91 => ?_)
        refine lv_iconst (v := 0) hx hb dX12_value_64 (by decide) ?_
        refine lv_iconst (v := (-1)) hx hb dX12_value_65 (by decide) ?_
        have := kl_0
        have := kl_m1
        refine g_iastI (i := 0) (N := 6) B hV gH88 k_q_91 rfl rfl rfl rfl (by omega) (by omega) rfl (by omega) (by omega) rfl dX12_value_66 (fun H92 lc92 gH92 uH92 => ?_)
        have s_93 := uH92.keep (Or.inl (k_ne kh0 k_q_91 rfl)) s_89
        have s_94 := uH92.keep (Or.inl (k_ne kh0 k_q_91 rfl)) s_90
        have s_95 := uH92.keep (Or.inl (k_ne k_q_87 k_q_91 rfl)) uH88.2.1
        have s_96 := uH92.keep (Or.inl (k_ne kh0 k_q_91 rfl)) s_91
        have := kl_0
        exact b67 60010 H92 lc92 ls 0 k_85 q_87 q_91 (by omega) gH92 (lv_sub hl [2, 4, 0] rfl) k_q_87 k_q_91 (by omega) (by omega) (by omega) (by omega) (by omega) (by omega) s_93 s_94 s_96 (by omega)
      · have f_86 := z_nle c_86 kl_2 rfl
        refine lv_iload_n hx hb dX12_value_48 rfl (lv_at hl 0 rfl) ?_
        exact rtI (v := x_84) B hr hlk hh hQ gH84 rfl (by omega) dX12_value_49
    · have f_79 := z_eq c_79 rfl kl_0
      refine lv_bipush (v := (-3)) hx hb dX12_value_16 (by decide) ?_
      have := kl_m3
      have := kl_m3
      exact rtI (v := (-3)) B hr hlk hh hQ hG0 rfl (by omega) dX12_value_18
