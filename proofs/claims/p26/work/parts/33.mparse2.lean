theorem dX12_readMan_0 : decode cX12_readMan 0 = .ok (.aload_n 0, 1) := by decide +kernel
theorem dX12_readMan_1 : decode cX12_readMan 1 = .ok (.invokevirtual 250, 3) := by decide +kernel
theorem dX12_readMan_4 : decode cX12_readMan 4 = .ok (.istore_n 2, 1) := by decide +kernel
theorem dX12_readMan_5 : decode cX12_readMan 5 = .ok (.aload_n 0, 1) := by decide +kernel
theorem dX12_readMan_6 : decode cX12_readMan 6 = .ok (.getfield 169, 3) := by decide +kernel
theorem dX12_readMan_9 : decode cX12_readMan 9 = .ok (.iconst 2, 1) := by decide +kernel
theorem dX12_readMan_10 : decode cX12_readMan 10 = .ok (.if_icmp .eq 10, 3) := by decide +kernel
theorem dX12_readMan_13 : decode cX12_readMan 13 = .ok (.aload_n 0, 1) := by decide +kernel
theorem dX12_readMan_14 : decode cX12_readMan 14 = .ok (.invokevirtual 201, 3) := by decide +kernel
theorem dX12_readMan_17 : decode cX12_readMan 17 = .ok (.goto 16, 3) := by decide +kernel
theorem dX12_readMan_20 : decode cX12_readMan 20 = .ok (.iload_n 2, 1) := by decide +kernel
theorem dX12_readMan_21 : decode cX12_readMan 21 = .ok (.ifCond .ge 12, 3) := by decide +kernel
theorem dX12_readMan_24 : decode cX12_readMan 24 = .ok (.aload_n 0, 1) := by decide +kernel
theorem dX12_readMan_25 : decode cX12_readMan 25 = .ok (.iconst 5, 1) := by decide +kernel
theorem dX12_readMan_26 : decode cX12_readMan 26 = .ok (.aload_n 0, 1) := by decide +kernel
theorem dX12_readMan_27 : decode cX12_readMan 27 = .ok (.getfield 162, 3) := by decide +kernel
theorem dX12_readMan_30 : decode cX12_readMan 30 = .ok (.invokevirtual 190, 3) := by decide +kernel
theorem dX12_readMan_33 : decode cX12_readMan 33 = .ok (.aload_n 0, 1) := by decide +kernel
theorem dX12_readMan_34 : decode cX12_readMan 34 = .ok (.invokevirtual 194, 3) := by decide +kernel
theorem dX12_readMan_37 : decode cX12_readMan 37 = .ok (.ifCond .eq 7, 3) := by decide +kernel
theorem dX12_readMan_40 : decode cX12_readMan 40 = .ok (.aload_n 0, 1) := by decide +kernel
theorem dX12_readMan_41 : decode cX12_readMan 41 = .ok (.invokevirtual 198, 3) := by decide +kernel
theorem dX12_readMan_44 : decode cX12_readMan 44 = .ok (.aload_n 0, 1) := by decide +kernel
theorem dX12_readMan_45 : decode cX12_readMan 45 = .ok (.aload_n 0, 1) := by decide +kernel
theorem dX12_readMan_46 : decode cX12_readMan 46 = .ok (.ldc2_w 155, 3) := by decide +kernel
theorem dX12_readMan_49 : decode cX12_readMan 49 = .ok (.invokevirtual 226, 3) := by decide +kernel
theorem dX12_readMan_52 : decode cX12_readMan 52 = .ok (.invokevirtual 236, 3) := by decide +kernel
theorem dX12_readMan_55 : decode cX12_readMan 55 = .ok (.aload_n 0, 1) := by decide +kernel
theorem dX12_readMan_56 : decode cX12_readMan 56 = .ok (.iconst 0, 1) := by decide +kernel
theorem dX12_readMan_57 : decode cX12_readMan 57 = .ok (.aload_n 0, 1) := by decide +kernel
theorem dX12_readMan_58 : decode cX12_readMan 58 = .ok (.getfield 24, 3) := by decide +kernel
theorem dX12_readMan_61 : decode cX12_readMan 61 = .ok (.aload_n 0, 1) := by decide +kernel
theorem dX12_readMan_62 : decode cX12_readMan 62 = .ok (.getfield 204, 3) := by decide +kernel
theorem dX12_readMan_65 : decode cX12_readMan 65 = .ok (.iaload, 1) := by decide +kernel
theorem dX12_readMan_66 : decode cX12_readMan 66 = .ok (.iconst 1, 1) := by decide +kernel
theorem dX12_readMan_67 : decode cX12_readMan 67 = .ok (.isub, 1) := by decide +kernel
theorem dX12_readMan_68 : decode cX12_readMan 68 = .ok (.invokevirtual 232, 3) := by decide +kernel
theorem dX12_readMan_71 : decode cX12_readMan 71 = .ok (.istore_n 3, 1) := by decide +kernel
theorem dX12_readMan_72 : decode cX12_readMan 72 = .ok (.aload_n 0, 1) := by decide +kernel
theorem dX12_readMan_73 : decode cX12_readMan 73 = .ok (.getfield 162, 3) := by decide +kernel
theorem dX12_readMan_76 : decode cX12_readMan 76 = .ok (.istore 4, 2) := by decide +kernel
theorem dX12_readMan_78 : decode cX12_readMan 78 = .ok (.aload_n 0, 1) := by decide +kernel
theorem dX12_readMan_79 : decode cX12_readMan 79 = .ok (.iconst 0, 1) := by decide +kernel
theorem dX12_readMan_80 : decode cX12_readMan 80 = .ok (.aload_n 0, 1) := by decide +kernel
theorem dX12_readMan_81 : decode cX12_readMan 81 = .ok (.getfield 27, 3) := by decide +kernel
theorem dX12_readMan_84 : decode cX12_readMan 84 = .ok (.aload_n 0, 1) := by decide +kernel
theorem dX12_readMan_85 : decode cX12_readMan 85 = .ok (.getfield 204, 3) := by decide +kernel
theorem dX12_readMan_88 : decode cX12_readMan 88 = .ok (.iaload, 1) := by decide +kernel
theorem dX12_readMan_89 : decode cX12_readMan 89 = .ok (.iconst 1, 1) := by decide +kernel
theorem dX12_readMan_90 : decode cX12_readMan 90 = .ok (.isub, 1) := by decide +kernel
theorem dX12_readMan_91 : decode cX12_readMan 91 = .ok (.invokevirtual 232, 3) := by decide +kernel
theorem dX12_readMan_94 : decode cX12_readMan 94 = .ok (.istore 5, 2) := by decide +kernel
theorem dX12_readMan_96 : decode cX12_readMan 96 = .ok (.iload_n 3, 1) := by decide +kernel
theorem dX12_readMan_97 : decode cX12_readMan 97 = .ok (.aload_n 0, 1) := by decide +kernel
theorem dX12_readMan_98 : decode cX12_readMan 98 = .ok (.getfield 24, 3) := by decide +kernel
theorem dX12_readMan_101 : decode cX12_readMan 101 = .ok (.aload_n 0, 1) := by decide +kernel
theorem dX12_readMan_102 : decode cX12_readMan 102 = .ok (.getfield 204, 3) := by decide +kernel
theorem dX12_readMan_105 : decode cX12_readMan 105 = .ok (.iaload, 1) := by decide +kernel
theorem dX12_readMan_106 : decode cX12_readMan 106 = .ok (.iload 5, 2) := by decide +kernel
theorem dX12_readMan_108 : decode cX12_readMan 108 = .ok (.imul, 1) := by decide +kernel
theorem dX12_readMan_109 : decode cX12_readMan 109 = .ok (.iadd, 1) := by decide +kernel
theorem dX12_readMan_110 : decode cX12_readMan 110 = .ok (.istore 6, 2) := by decide +kernel
theorem dX12_readMan_112 : decode cX12_readMan 112 = .ok (.aload_n 0, 1) := by decide +kernel
theorem dX12_readMan_113 : decode cX12_readMan 113 = .ok (.invokevirtual 194, 3) := by decide +kernel
theorem dX12_readMan_116 : decode cX12_readMan 116 = .ok (.ifCond .eq 27, 3) := by decide +kernel
theorem dX12_readMan_119 : decode cX12_readMan 119 = .ok (.aload_n 0, 1) := by decide +kernel
theorem dX12_readMan_120 : decode cX12_readMan 120 = .ok (.aload_n 0, 1) := by decide +kernel
theorem dX12_readMan_121 : decode cX12_readMan 121 = .ok (.aload_n 0, 1) := by decide +kernel
theorem dX12_readMan_122 : decode cX12_readMan 122 = .ok (.getfield 204, 3) := by decide +kernel
theorem dX12_readMan_125 : decode cX12_readMan 125 = .ok (.invokevirtual 207, 3) := by decide +kernel
theorem dX12_readMan_128 : decode cX12_readMan 128 = .ok (.iload 6, 2) := by decide +kernel
theorem dX12_readMan_130 : decode cX12_readMan 130 = .ok (.invokevirtual 257, 3) := by decide +kernel
theorem dX12_readMan_133 : decode cX12_readMan 133 = .ok (.ifCond .lt 10, 3) := by decide +kernel
theorem dX12_readMan_136 : decode cX12_readMan 136 = .ok (.aload_n 0, 1) := by decide +kernel
theorem dX12_readMan_137 : decode cX12_readMan 137 = .ok (.iconst 3, 1) := by decide +kernel
theorem dX12_readMan_138 : decode cX12_readMan 138 = .ok (.iload 4, 2) := by decide +kernel
theorem dX12_readMan_140 : decode cX12_readMan 140 = .ok (.invokevirtual 190, 3) := by decide +kernel
theorem dX12_readMan_143 : decode cX12_readMan 143 = .ok (.aload_n 0, 1) := by decide +kernel
theorem dX12_readMan_144 : decode cX12_readMan 144 = .ok (.invokevirtual 194, 3) := by decide +kernel
theorem dX12_readMan_147 : decode cX12_readMan 147 = .ok (.ifCond .ne 4, 3) := by decide +kernel
theorem dX12_readMan_150 : decode cX12_readMan 150 = .ok (.return_, 1) := by decide +kernel
theorem dX12_readMan_151 : decode cX12_readMan 151 = .ok (.aload_n 0, 1) := by decide +kernel
theorem dX12_readMan_152 : decode cX12_readMan 152 = .ok (.aload_n 0, 1) := by decide +kernel
theorem dX12_readMan_153 : decode cX12_readMan 153 = .ok (.aload_n 0, 1) := by decide +kernel
theorem dX12_readMan_154 : decode cX12_readMan 154 = .ok (.getfield 204, 3) := by decide +kernel
theorem dX12_readMan_157 : decode cX12_readMan 157 = .ok (.invokevirtual 207, 3) := by decide +kernel
theorem dX12_readMan_160 : decode cX12_readMan 160 = .ok (.iload 6, 2) := by decide +kernel
theorem dX12_readMan_162 : decode cX12_readMan 162 = .ok (.iconst 2, 1) := by decide +kernel
theorem dX12_readMan_163 : decode cX12_readMan 163 = .ok (.iload_n 2, 1) := by decide +kernel
theorem dX12_readMan_164 : decode cX12_readMan 164 = .ok (.imul, 1) := by decide +kernel
theorem dX12_readMan_165 : decode cX12_readMan 165 = .ok (.iload_n 1, 1) := by decide +kernel
theorem dX12_readMan_166 : decode cX12_readMan 166 = .ok (.iadd, 1) := by decide +kernel
theorem dX12_readMan_167 : decode cX12_readMan 167 = .ok (.invokevirtual 210, 3) := by decide +kernel
theorem dX12_readMan_170 : decode cX12_readMan 170 = .ok (.aload_n 0, 1) := by decide +kernel
theorem dX12_readMan_171 : decode cX12_readMan 171 = .ok (.getfield 51, 3) := by decide +kernel
theorem dX12_readMan_174 : decode cX12_readMan 174 = .ok (.bipush 6, 2) := by decide +kernel
theorem dX12_readMan_176 : decode cX12_readMan 176 = .ok (.aload_n 0, 1) := by decide +kernel
theorem dX12_readMan_177 : decode cX12_readMan 177 = .ok (.getfield 204, 3) := by decide +kernel
theorem dX12_readMan_180 : decode cX12_readMan 180 = .ok (.imul, 1) := by decide +kernel
theorem dX12_readMan_181 : decode cX12_readMan 181 = .ok (.iload_n 2, 1) := by decide +kernel
theorem dX12_readMan_182 : decode cX12_readMan 182 = .ok (.iadd, 1) := by decide +kernel
theorem dX12_readMan_183 : decode cX12_readMan 183 = .ok (.baload, 1) := by decide +kernel
theorem dX12_readMan_184 : decode cX12_readMan 184 = .ok (.ifCond .eq 17, 3) := by decide +kernel
theorem dX12_readMan_187 : decode cX12_readMan 187 = .ok (.aload_n 0, 1) := by decide +kernel
theorem dX12_readMan_188 : decode cX12_readMan 188 = .ok (.getfield 61, 3) := by decide +kernel
theorem dX12_readMan_191 : decode cX12_readMan 191 = .ok (.iconst 2, 1) := by decide +kernel
theorem dX12_readMan_192 : decode cX12_readMan 192 = .ok (.aload_n 0, 1) := by decide +kernel
theorem dX12_readMan_193 : decode cX12_readMan 193 = .ok (.getfield 204, 3) := by decide +kernel
theorem dX12_readMan_196 : decode cX12_readMan 196 = .ok (.imul, 1) := by decide +kernel
theorem dX12_readMan_197 : decode cX12_readMan 197 = .ok (.iload_n 1, 1) := by decide +kernel
theorem dX12_readMan_198 : decode cX12_readMan 198 = .ok (.iadd, 1) := by decide +kernel
theorem dX12_readMan_199 : decode cX12_readMan 199 = .ok (.iconst 1, 1) := by decide +kernel
theorem dX12_readMan_200 : decode cX12_readMan 200 = .ok (.bastore, 1) := by decide +kernel
theorem dX12_readMan_201 : decode cX12_readMan 201 = .ok (.aload_n 0, 1) := by decide +kernel
theorem dX12_readMan_202 : decode cX12_readMan 202 = .ok (.getfield 33, 3) := by decide +kernel
theorem dX12_readMan_205 : decode cX12_readMan 205 = .ok (.aload_n 0, 1) := by decide +kernel
theorem dX12_readMan_206 : decode cX12_readMan 206 = .ok (.getfield 204, 3) := by decide +kernel
theorem dX12_readMan_209 : decode cX12_readMan 209 = .ok (.dup2, 1) := by decide +kernel
theorem dX12_readMan_210 : decode cX12_readMan 210 = .ok (.iaload, 1) := by decide +kernel
theorem dX12_readMan_211 : decode cX12_readMan 211 = .ok (.iconst 1, 1) := by decide +kernel
theorem dX12_readMan_212 : decode cX12_readMan 212 = .ok (.iadd, 1) := by decide +kernel
theorem dX12_readMan_213 : decode cX12_readMan 213 = .ok (.iastore, 1) := by decide +kernel
theorem dX12_readMan_214 : decode cX12_readMan 214 = .ok (.return_, 1) := by decide +kernel
def rm_X12_readMan : Room := { frames := 3, cells := 0, slots := 0, locals := 66 }
abbrev wS_X12_readMan : List (Nat × Nat) := [(13, 5), (13, 6), (13, 7), (13, 8), (13, 9), (13, 10), (13, 11), (60, 99), (64, 99), (73, 99)]
set_option maxRecDepth 100000 in
set_option maxHeartbeats 4000000 in
theorem c_X12_readMan (l : Launch) (E : zE) (hV : zV E) (H0 : Heap) (hT0 : HT E H0) (h0 : Nat) (kh0 : eK E h0 = 13) (p0 : Int32) (p0_lo : 0 ≤ p0.toInt) (p0_hi : p0.toInt ≤ 1) (e0 : Int32) (s_e0 : sl H0 h0 (zix E 13 8) = some (.int e0)) (e0_lo : 0 ≤ e0.toInt) (e0_hi : e0.toInt ≤ 1600) (sz : Int32) (s_sz : sl H0 h0 (zix E 13 4) = some (.int sz)) (t0 : Int32) (s_t0 : sl H0 h0 (zix E 13 9) = some (.int t0)) (fk : Int32) (s_fk : sl H0 h0 (zix E 13 5) = some (.int fk)) (pr_0 : e0.toInt ≤ sz.toInt) : Met l yX12_readMan (zws yX12_readMan cX12_readMan 7 none) rm_X12_readMan (zP E H0 [.ref h0, .int p0]) (zQV E E wS_X12_readMan (fun H1 => ∃ e1 : Int32, sl H1 h0 (zix E 13 8) = some (.int e1) ∧ 0 ≤ e1.toInt ∧ e1.toInt ≤ 1600 ∧ (e0.toInt ≤ e1.toInt) ∧ (e1.toInt ≤ sz.toInt) ∧ ∃ t1 : Int32, sl H1 h0 (zix E 13 9) = some (.int t1) ∧ 0 ≤ t1.toInt ∧ t1.toInt ≤ 5 ∧ (e0.toInt < e1.toInt ∨ t1.toInt ≤ 1 ∨ t1.toInt = 4 ∨ (t1.toInt = t0.toInt ∧ e1.toInt = e0.toInt)) ∧ ∃ f1 : Int32, sl H1 h0 (zix E 13 5) = some (.int f1) ∧ 0 ≤ f1.toInt ∧ f1.toInt ≤ 5 ∧ (fk.toInt = 0 ∨ f1.toInt ≠ 0))) 0 0 (zfr E) := by
  refine zEnt (by decide) (Nat.le_of_ble_eq_true rfl) (fun p e s m args below meth c ls Q B hr hlk hh hQ hl => ?_)
  have hx := B.1
  have hb := B.2.1
  have hG0 : zG E wS_X12_readMan H0 H0 [] := zG.rf hT0
  have hl : lv_has ls 7 [(0, .ref h0), (1, .int p0)] := hl
  have bd_sz := HT.bdI hT0 kh0 rfl (j := 4) (by decide) rfl s_sz
  have bd_t0 := HT.bdI hT0 kh0 rfl (j := 9) (by decide) rfl s_t0
  have bd_fk := HT.bdI hT0 kh0 rfl (j := 5) (by decide) rfl s_fk
  have b201 : ∀ (H201 : Heap) (lc201 : List Loc) (ls : Array Slot) (u201_h0_27 : Int32) (u201_h0_8 : Int32) (u201_h0_9 : Int32) (u201_h0_5 : Int32), zG E wS_X12_readMan H0 H201 lc201 → lv_has ls 7 [(0, .ref h0)] → 0 ≤ u201_h0_27.toInt → u201_h0_27.toInt ≤ 1 → 0 ≤ u201_h0_8.toInt → u201_h0_8.toInt ≤ 1600 → 0 ≤ u201_h0_9.toInt → u201_h0_9.toInt ≤ 5 → 0 ≤ u201_h0_5.toInt → u201_h0_5.toInt ≤ 0 → sl H201 h0 (zix E 13 4) = some (.int sz) → sl H201 h0 (zix E 13 27) = some (.int u201_h0_27) → sl H201 h0 (zix E 13 8) = some (.int u201_h0_8) → sl H201 h0 (zix E 13 9) = some (.int u201_h0_9) → sl H201 h0 (zix E 13 5) = some (.int u201_h0_5) → fk.toInt = 0 ∨ u201_h0_5.toInt ≠ 0 → e0.toInt ≤ u201_h0_8.toInt → u201_h0_8.toInt ≤ sz.toInt → e0.toInt < u201_h0_8.toInt ∨ u201_h0_9.toInt ≤ 1 ∨ u201_h0_9.toInt = 4 ∨ (u201_h0_9.toInt = t0.toInt ∧ u201_h0_8.toInt = e0.toInt) → W p l e rm_X12_readMan s m args below meth c H201 lc201 0 0 Q (F0 m 201 ls []) := by
    intro H201 lc201 ls u201_h0_27 u201_h0_8 u201_h0_9 u201_h0_5 gH201 hl f201_1 f201_2 f201_3 f201_4 f201_5 f201_6 f201_7 f201_8 s201_u201_h0_4 s201_u201_h0_27 s201_u201_h0_8 s201_u201_h0_9 s201_u201_h0_5 f201_9 f201_10 f201_11 f201_12
    refine lv_aload_n hx hb dX12_readMan_201 rfl (lv_at hl 0 rfl) ?_
    refine g_getR B fl_RX12_33 gH201.1 kh0 rfl rfl rfl rfl rfl dX12_readMan_202 (fun q_1 s_1 k_q_1 => ?_)
    refine lv_aload_n hx hb dX12_readMan_205 rfl (lv_at hl 0 rfl) ?_
    refine g_get B fl_RX12_204 gH201.1 kh0 rfl rfl rfl dX12_readMan_206 s201_u201_h0_27 ?_
    refine lv_dup2_11 hx hb dX12_readMan_209 rfl rfl ?_
    refine g_ialdI (i := u201_h0_27) (N := 2) B gH201.1 k_q_1 rfl rfl rfl rfl (by omega) (by omega) rfl dX12_readMan_210 (fun x_2 s_2 a_2 b_2 => ?_)
    refine lv_iconst (v := 1) hx hb dX12_readMan_211 (by decide) ?_
    refine lv_iadd hx hb dX12_readMan_212 ?_
    refine lv_topi (fun x_3 e_3 => ?_)
    refine g_iastI (i := u201_h0_27) (N := 2) B hV gH201 k_q_1 rfl rfl rfl rfl (by omega) (by omega) rfl (z_rng _).1 (z_rng _).2 rfl dX12_readMan_213 (fun H4 lc4 gH4 uH4 => ?_)
    have s_5 := uH4.keep (Or.inl (k_ne kh0 k_q_1 rfl)) s201_u201_h0_4
    have s_6 := uH4.keep (Or.inl (k_ne kh0 k_q_1 rfl)) s201_u201_h0_8
    have s_7 := uH4.keep (Or.inl (k_ne kh0 k_q_1 rfl)) s201_u201_h0_9
    have s_8 := uH4.keep (Or.inl (k_ne kh0 k_q_1 rfl)) s201_u201_h0_5
    exact rtV B hr hlk hh hQ gH4 ⟨u201_h0_8, s_6, by omega, by omega, by omega, by omega, u201_h0_9, s_7, by omega, by omega, by omega, u201_h0_5, s_8, by omega, by omega, by omega⟩ dX12_readMan_214
  have b143 : ∀ (H143 : Heap) (lc143 : List Loc) (ls : Array Slot) (v143_2 : Int32) (v143_6 : Int32) (u143_h0_27 : Int32) (u143_h0_8 : Int32) (u143_h0_9 : Int32) (u143_h0_5 : Int32), zG E wS_X12_readMan H0 H143 lc143 → lv_has ls 7 [(0, .ref h0), (1, .int p0), (2, .int v143_2), (6, .int v143_6)] → (-1) ≤ v143_2.toInt → v143_2.toInt ≤ 5 → 0 ≤ v143_6.toInt → v143_6.toInt ≤ 29 → 0 ≤ u143_h0_27.toInt → u143_h0_27.toInt ≤ 1 → 0 ≤ u143_h0_8.toInt → u143_h0_8.toInt ≤ 1600 → 0 ≤ u143_h0_9.toInt → u143_h0_9.toInt ≤ 5 → 0 ≤ u143_h0_5.toInt → u143_h0_5.toInt ≤ 5 → sl H143 h0 (zix E 13 4) = some (.int sz) → sl H143 h0 (zix E 13 27) = some (.int u143_h0_27) → sl H143 h0 (zix E 13 8) = some (.int u143_h0_8) → sl H143 h0 (zix E 13 9) = some (.int u143_h0_9) → sl H143 h0 (zix E 13 5) = some (.int u143_h0_5) → fk.toInt = 0 ∨ u143_h0_5.toInt ≠ 0 → e0.toInt ≤ u143_h0_8.toInt → u143_h0_8.toInt ≤ sz.toInt → e0.toInt < u143_h0_8.toInt ∨ u143_h0_9.toInt ≤ 1 ∨ u143_h0_9.toInt = 4 ∨ (u143_h0_9.toInt = t0.toInt ∧ u143_h0_8.toInt = e0.toInt) → u143_h0_5.toInt ≠ 0 ∨ 0 ≤ v143_2.toInt → W p l e rm_X12_readMan s m args below meth c H143 lc143 0 0 Q (F0 m 143 ls []) := by
    intro H143 lc143 ls v143_2 v143_6 u143_h0_27 u143_h0_8 u143_h0_9 u143_h0_5 gH143 hl f143_1 f143_2 f143_3 f143_4 f143_5 f143_6 f143_7 f143_8 f143_9 f143_10 f143_11 f143_12 s143_u143_h0_4 s143_u143_h0_27 s143_u143_h0_8 s143_u143_h0_9 s143_u143_h0_5 f143_13 f143_14 f143_15 f143_16 f143_17
    refine lv_aload_n hx hb dX12_readMan_143 rfl (lv_at hl 0 rfl) ?_
    refine zkPI (zrV (rest := []) B (c_X12_isGood l E hV H143 gH143.1 h0 kh0 u143_h0_5 s143_u143_h0_5) cl_RX12_194 gH143.1 kh0 rfl rfl rfl rfl hl.1 rfl (Nat.le_of_ble_eq_true rfl) dX12_readMan_144 rfl rfl ⟨rfl, rfl⟩ ⟨Nat.zero_le _, Nat.zero_le _⟩ (zO.of gH143 hh)) (fun x_9 hp_9 => ?_)
    obtain ⟨hp_9_1, hp_9_2, hp_9_3⟩ := hp_9
    refine lv_if_ne (tgt := 151) hx hb dX12_readMan_147 (by decide) (fun c_10 => ?_) (fun c_10 => ?_)
    · have f_10 := z_ne c_10 rfl kl_0
      refine lv_aload_n hx hb dX12_readMan_151 rfl (lv_at hl 0 rfl) ?_
      refine lv_aload_n hx hb dX12_readMan_152 rfl (lv_at hl 0 rfl) ?_
      refine lv_aload_n hx hb dX12_readMan_153 rfl (lv_at hl 0 rfl) ?_
      refine g_get B fl_RX12_204 gH143.1 kh0 rfl rfl rfl dX12_readMan_154 s143_u143_h0_27 ?_
      refine zkPI (zrV (rest := [.ref h0]) B (c_X12_firstOf l E hV H143 gH143.1 h0 kh0 u143_h0_27 (by omega) (by omega)) cl_RX12_207 gH143.1 kh0 rfl rfl rfl rfl hl.1 rfl (Nat.le_of_ble_eq_true rfl) dX12_readMan_157 rfl rfl ⟨rfl, rfl⟩ ⟨Nat.zero_le _, Nat.zero_le _⟩ (zO.of gH143 hh)) (fun x_11 hp_11 => ?_)
      obtain ⟨hp_11_1, hp_11_2⟩ := hp_11
      refine lv_iload hx hb dX12_readMan_160 (lv_at hl 3 rfl) ?_
      refine lv_iconst (v := 2) hx hb dX12_readMan_162 (by decide) ?_
      refine lv_iload_n hx hb dX12_readMan_163 rfl (lv_at hl 2 rfl) ?_
      refine lv_imul hx hb dX12_readMan_164 ?_
      refine lv_topi (fun x_12 e_12 => ?_)
      have t_12 := z_mul e_12 kl_2 rfl (by omega) (by omega)
      refine lv_iload_n hx hb dX12_readMan_165 rfl (lv_at hl 1 rfl) ?_
      refine lv_iadd hx hb dX12_readMan_166 ?_
      refine lv_topi (fun x_13 e_13 => ?_)
      have t_13 := z_add e_13 rfl rfl (by omega) (by omega)
      refine zkV (zrV (rest := []) B (c_X12_put l E hV H143 gH143.1 h0 kh0 x_11 (by omega) (by omega) v143_6 (by omega) (by omega) x_13 (by omega)) cl_RX12_210 gH143.1 kh0 rfl rfl rfl rfl hl.1 rfl (Nat.le_of_ble_eq_true rfl) dX12_readMan_167 rfl rfl ⟨rfl, rfl⟩ ⟨Nat.zero_le _, Nat.zero_le _⟩ (zO.of gH143 hh)) gH143 rfl (fun H14 lc14 hp_14 gH14 rH14 => ?_)
      have s_15 := rH14.keep hV kh0 rfl s143_u143_h0_4
      have s_16 := rH14.keep hV kh0 rfl s143_u143_h0_27
      have s_17 := rH14.keep hV kh0 rfl s143_u143_h0_8
      have s_18 := rH14.keep hV kh0 rfl s143_u143_h0_9
      have s_19 := rH14.keep hV kh0 rfl s143_u143_h0_5
      refine lv_aload_n hx hb dX12_readMan_170 rfl (lv_at hl 0 rfl) ?_
      refine g_getR B fl_RX12_51 gH14.1 kh0 rfl rfl rfl rfl rfl dX12_readMan_171 (fun q_20 s_20 k_q_20 => ?_)
      refine lv_bipush (v := 6) hx hb dX12_readMan_174 (by decide) ?_
      refine lv_aload_n hx hb dX12_readMan_176 rfl (lv_at hl 0 rfl) ?_
      refine g_get B fl_RX12_204 gH14.1 kh0 rfl rfl rfl dX12_readMan_177 s_16 ?_
      refine lv_imul hx hb dX12_readMan_180 ?_
      refine lv_topi (fun x_21 e_21 => ?_)
      have t_21 := z_mul e_21 kl_6 rfl (by omega) (by omega)
      refine lv_iload_n hx hb dX12_readMan_181 rfl (lv_at hl 2 rfl) ?_
      refine lv_iadd hx hb dX12_readMan_182 ?_
      refine lv_topi (fun x_22 e_22 => ?_)
      have t_22 := z_add e_22 rfl rfl (by omega) (by omega)
      refine g_zaldI (i := x_22) (N := 12) B gH14.1 k_q_20 rfl rfl rfl rfl (by omega) (by omega) rfl dX12_readMan_183 (fun x_23 s_23 a_23 b_23 => ?_)
      refine lv_if_eq (tgt := 201) hx hb dX12_readMan_184 (by decide) (fun c_24 => ?_) (fun c_24 => ?_)
      · have f_24 := z_eq c_24 rfl kl_0
        exact b201 H14 lc14 ls u143_h0_27 u143_h0_8 u143_h0_9 u143_h0_5 gH14 (lv_sub hl [0] rfl) (by omega) (by omega) (by omega) (by omega) (by omega) (by omega) (by omega) (by omega) s_15 s_16 s_17 s_18 s_19 (by omega) (by omega) (by omega) (by omega)
      · have f_24 := z_ne c_24 rfl kl_0
        refine lv_aload_n hx hb dX12_readMan_187 rfl (lv_at hl 0 rfl) ?_
        refine g_getR B fl_RX12_61 gH14.1 kh0 rfl rfl rfl rfl rfl dX12_readMan_188 (fun q_25 s_25 k_q_25 => ?_)
        refine lv_iconst (v := 2) hx hb dX12_readMan_191 (by decide) ?_
        refine lv_aload_n hx hb dX12_readMan_192 rfl (lv_at hl 0 rfl) ?_
        refine g_get B fl_RX12_204 gH14.1 kh0 rfl rfl rfl dX12_readMan_193 s_16 ?_
        refine lv_imul hx hb dX12_readMan_196 ?_
        refine lv_topi (fun x_26 e_26 => ?_)
        have t_26 := z_mul e_26 kl_2 rfl (by omega) (by omega)
        refine lv_iload_n hx hb dX12_readMan_197 rfl (lv_at hl 1 rfl) ?_
        refine lv_iadd hx hb dX12_readMan_198 ?_
        refine lv_topi (fun x_27 e_27 => ?_)
        have t_27 := z_add e_27 rfl rfl (by omega) (by omega)
        refine lv_iconst (v := 1) hx hb dX12_readMan_199 (by decide) ?_
        have := kl_1
        refine g_zastI (i := x_27) (N := 4) B hV gH14 k_q_25 rfl rfl rfl rfl (by omega) (by omega) rfl (by omega) (by omega) rfl dX12_readMan_200 (fun H28 lc28 gH28 uH28 => ?_)
        have s_29 := uH28.keep (Or.inl (k_ne kh0 k_q_25 rfl)) s_15
        have s_30 := uH28.keep (Or.inl (k_ne kh0 k_q_25 rfl)) s_16
        have s_31 := uH28.keep (Or.inl (k_ne kh0 k_q_25 rfl)) s_17
        have s_32 := uH28.keep (Or.inl (k_ne kh0 k_q_25 rfl)) s_18
        have s_33 := uH28.keep (Or.inl (k_ne kh0 k_q_25 rfl)) s_19
        have s_34 := uH28.keep (Or.inl (k_ne k_q_20 k_q_25 rfl)) s_23
        exact b201 H28 lc28 ls u143_h0_27 u143_h0_8 u143_h0_9 u143_h0_5 gH28 (lv_sub hl [0] rfl) (by omega) (by omega) (by omega) (by omega) (by omega) (by omega) (by omega) (by omega) s_29 s_30 s_31 s_32 s_33 (by omega) (by omega) (by omega) (by omega)
    · have f_10 := z_eq c_10 rfl kl_0
      exact rtV B hr hlk hh hQ gH143 ⟨u143_h0_8, s143_u143_h0_8, by omega, by omega, by omega, by omega, u143_h0_9, s143_u143_h0_9, by omega, by omega, by omega, u143_h0_5, s143_u143_h0_5, by omega, by omega, by omega⟩ dX12_readMan_150
  have b44 : ∀ (H44 : Heap) (lc44 : List Loc) (ls : Array Slot) (v44_2 : Int32) (u44_h0_8 : Int32) (u44_h0_9 : Int32) (u44_h0_5 : Int32), zG E wS_X12_readMan H0 H44 lc44 → lv_has ls 7 [(0, .ref h0), (1, .int p0), (2, .int v44_2)] → (-1) ≤ v44_2.toInt → v44_2.toInt ≤ 5 → 0 ≤ u44_h0_8.toInt → u44_h0_8.toInt ≤ 1600 → 0 ≤ u44_h0_9.toInt → u44_h0_9.toInt ≤ 5 → 0 ≤ u44_h0_5.toInt → u44_h0_5.toInt ≤ 5 → sl H44 h0 (zix E 13 8) = some (.int u44_h0_8) → sl H44 h0 (zix E 13 4) = some (.int sz) → sl H44 h0 (zix E 13 9) = some (.int u44_h0_9) → sl H44 h0 (zix E 13 5) = some (.int u44_h0_5) → fk.toInt = 0 ∨ u44_h0_5.toInt ≠ 0 → e0.toInt ≤ u44_h0_8.toInt → u44_h0_8.toInt ≤ sz.toInt → e0.toInt < u44_h0_8.toInt ∨ u44_h0_9.toInt ≤ 1 ∨ u44_h0_9.toInt = 4 ∨ (u44_h0_9.toInt = t0.toInt ∧ u44_h0_8.toInt = e0.toInt) → u44_h0_5.toInt ≠ 0 ∨ 0 ≤ v44_2.toInt → W p l e rm_X12_readMan s m args below meth c H44 lc44 0 0 Q (F0 m 44 ls []) := by
    intro H44 lc44 ls v44_2 u44_h0_8 u44_h0_9 u44_h0_5 gH44 hl f44_1 f44_2 f44_3 f44_4 f44_5 f44_6 f44_7 f44_8 s44_u44_h0_8 s44_u44_h0_4 s44_u44_h0_9 s44_u44_h0_5 f44_9 f44_10 f44_11 f44_12 f44_13
    refine lv_aload_n hx hb dX12_readMan_44 rfl (lv_at hl 0 rfl) ?_
    refine lv_aload_n hx hb dX12_readMan_45 rfl (lv_at hl 0 rfl) ?_
    refine lv_ldc2 hx hb B.2.2.2.1 (B.2.2.2.2.1 _ (mc_wsL_law_r26 _ (List.mem_of_getElem? (i := 5) rfl))) dX12_readMan_46 ?_
    obtain ⟨y_35, s_35⟩ := HT.atL gH44.1 kh0 rfl (j := 11) (by decide) rfl
    refine zkPI (zrV (rest := [.ref h0]) B (c_X12_isWord l E hV H44 gH44.1 h0 kh0 (24948 : Int64) u44_h0_9 s44_u44_h0_9 y_35 s_35) cl_RX12_226 gH44.1 kh0 rfl rfl rfl rfl hl.1 rfl (Nat.le_of_ble_eq_true rfl) dX12_readMan_49 rfl rfl ⟨rfl, rfl⟩ ⟨Nat.zero_le _, Nat.zero_le _⟩ (zO.of gH44 hh)) (fun x_36 hp_36 => ?_)
    obtain ⟨hp_36_1, hp_36_2, hp_36_3⟩ := hp_36
    have := kL_24948
    refine zkV (zrV (rest := []) B (c_X12_must l E hV H44 gH44.1 h0 kh0 x_36 (by omega) (by omega) u44_h0_8 s44_u44_h0_8 (by omega) (by omega) sz s44_u44_h0_4 u44_h0_9 s44_u44_h0_9 u44_h0_5 s44_u44_h0_5 (by omega)) cl_RX12_236 gH44.1 kh0 rfl rfl rfl rfl hl.1 rfl (Nat.le_of_ble_eq_true rfl) dX12_readMan_52 rfl rfl ⟨rfl, rfl⟩ ⟨Nat.zero_le _, Nat.zero_le _⟩ (zO.of gH44 hh)) gH44 rfl (fun H37 lc37 hp_37 gH37 rH37 => ?_)
    have s_38 := rH37.keep hV kh0 rfl s44_u44_h0_4
    obtain ⟨k_39, sk_39, ak_39, bk_39, fk_39_0, fk_39_1, k_40, sk_40, ak_40, bk_40, fk_40_0, k_41, sk_41, ak_41, bk_41, fk_41_0, fk_41_1⟩ := hp_37
    refine lv_aload_n hx hb dX12_readMan_55 rfl (lv_at hl 0 rfl) ?_
    refine lv_iconst (v := 0) hx hb dX12_readMan_56 (by decide) ?_
    refine lv_aload_n hx hb dX12_readMan_57 rfl (lv_at hl 0 rfl) ?_
    refine g_getR B fl_RX12_24 gH37.1 kh0 rfl rfl rfl rfl rfl dX12_readMan_58 (fun q_42 s_42 k_q_42 => ?_)
    refine lv_aload_n hx hb dX12_readMan_61 rfl (lv_at hl 0 rfl) ?_
    refine g_getI B fl_RX12_204 gH37.1 kh0 rfl rfl rfl rfl rfl dX12_readMan_62 (fun x_43 s_43 a_43 b_43 => ?_)
    refine g_ialdI (i := x_43) (N := 2) B gH37.1 k_q_42 rfl rfl rfl rfl (by omega) (by omega) rfl dX12_readMan_65 (fun x_44 s_44 a_44 b_44 => ?_)
    refine lv_iconst (v := 1) hx hb dX12_readMan_66 (by decide) ?_
    refine lv_isub hx hb dX12_readMan_67 ?_
    refine lv_topi (fun x_45 e_45 => ?_)
    have t_45 := z_sub e_45 rfl kl_1 (by omega) (by omega)
    have := kl_0
    obtain ⟨x_46, s_46, a_46, b_46⟩ := HT.atI gH37.1 kh0 rfl (j := 10) (by decide) rfl
    have := kl_0
    refine zkI (zrV (rest := []) B (c_X12_numeral l E hV H37 gH37.1 h0 kh0 0 (by omega) (by omega) x_45 (by omega) (by omega) k_39 sk_39 (by omega) (by omega) sz s_38 k_40 sk_40 k_41 sk_41 x_46 s_46 (by omega)) cl_RX12_232 gH37.1 kh0 rfl rfl rfl rfl hl.1 rfl (Nat.le_of_ble_eq_true rfl) dX12_readMan_68 rfl rfl ⟨rfl, rfl⟩ ⟨Nat.zero_le _, Nat.zero_le _⟩ (zO.of gH37 hh)) gH37 rfl (fun x_47 H47 lc47 hp_47 gH47 rH47 => ?_)
    have s_48 := rH47.keep hV kh0 rfl s_38
    have s_49 := rH47.keep hV kh0 rfl s_42
    have s_50 := rH47.keep hV kh0 rfl s_43
    have s_51 := rH47.keepA k_q_42 rfl s_44
    obtain ⟨hp_47_1, hp_47_2, hp_47_3, k_52, sk_52, ak_52, bk_52, fk_52_0, fk_52_1, k_53, sk_53, ak_53, bk_53, fk_53_0, k_54, sk_54, ak_54, bk_54, fk_54_0⟩ := hp_47
    have := kl_0
    refine lv_istore_n (lv' := [(3, .int x_47), (0, .ref h0), (1, .int p0), (2, .int v44_2)]) hx hb dX12_readMan_71 rfl hl (by decide) rfl (fun ls hl => ?_)
    refine lv_aload_n hx hb dX12_readMan_72 rfl (lv_at hl 1 rfl) ?_
    refine g_getI B fl_RX12_162 gH47.1 kh0 rfl rfl rfl rfl rfl dX12_readMan_73 (fun x_55 s_55 a_55 b_55 => ?_)
    refine lv_istore (lv' := [(4, .int x_55), (3, .int x_47), (0, .ref h0), (1, .int p0), (2, .int v44_2)]) hx hb dX12_readMan_76 hl (by decide) rfl (fun ls hl => ?_)
    refine lv_aload_n hx hb dX12_readMan_78 rfl (lv_at hl 2 rfl) ?_
    refine lv_iconst (v := 0) hx hb dX12_readMan_79 (by decide) ?_
    refine lv_aload_n hx hb dX12_readMan_80 rfl (lv_at hl 2 rfl) ?_
    refine g_getR B fl_RX12_27 gH47.1 kh0 rfl rfl rfl rfl rfl dX12_readMan_81 (fun q_56 s_56 k_q_56 => ?_)
    refine lv_aload_n hx hb dX12_readMan_84 rfl (lv_at hl 2 rfl) ?_
    refine g_get B fl_RX12_204 gH47.1 kh0 rfl rfl rfl dX12_readMan_85 s_50 ?_
    refine g_ialdI (i := x_43) (N := 2) B gH47.1 k_q_56 rfl rfl rfl rfl (by omega) (by omega) rfl dX12_readMan_88 (fun x_57 s_57 a_57 b_57 => ?_)
    refine lv_iconst (v := 1) hx hb dX12_readMan_89 (by decide) ?_
    refine lv_isub hx hb dX12_readMan_90 ?_
    refine lv_topi (fun x_58 e_58 => ?_)
    have t_58 := z_sub e_58 rfl kl_1 (by omega) (by omega)
    have := kl_0
    obtain ⟨x_59, s_59, a_59, b_59⟩ := HT.atI gH47.1 kh0 rfl (j := 10) (by decide) rfl
    have := kl_0
    refine zkI (zrV (rest := []) B (c_X12_numeral l E hV H47 gH47.1 h0 kh0 0 (by omega) (by omega) x_58 (by omega) (by omega) k_52 sk_52 (by omega) (by omega) sz s_48 k_53 sk_53 k_54 sk_54 x_59 s_59 (by omega)) cl_RX12_232 gH47.1 kh0 rfl rfl rfl rfl hl.1 rfl (Nat.le_of_ble_eq_true rfl) dX12_readMan_91 rfl rfl ⟨rfl, rfl⟩ ⟨Nat.zero_le _, Nat.zero_le _⟩ (zO.of gH47 hh)) gH47 rfl (fun x_60 H60 lc60 hp_60 gH60 rH60 => ?_)
    have s_61 := rH60.keep hV kh0 rfl s_48
    have s_62 := rH60.keep hV kh0 rfl s_49
    have s_63 := rH60.keep hV kh0 rfl s_50
    have s_64 := rH60.keepA k_q_42 rfl s_51
    have s_65 := rH60.keepA k_q_56 rfl s_57
    obtain ⟨hp_60_1, hp_60_2, hp_60_3, k_66, sk_66, ak_66, bk_66, fk_66_0, fk_66_1, k_67, sk_67, ak_67, bk_67, fk_67_0, k_68, sk_68, ak_68, bk_68, fk_68_0⟩ := hp_60
    have := kl_0
    refine lv_istore (lv' := [(5, .int x_60), (4, .int x_55), (3, .int x_47), (0, .ref h0), (1, .int p0), (2, .int v44_2)]) hx hb dX12_readMan_94 hl (by decide) rfl (fun ls hl => ?_)
    refine lv_iload_n hx hb dX12_readMan_96 rfl (lv_at hl 2 rfl) ?_
    refine lv_aload_n hx hb dX12_readMan_97 rfl (lv_at hl 3 rfl) ?_
    refine g_get B fl_RX12_24 gH60.1 kh0 rfl rfl rfl dX12_readMan_98 s_62 ?_
    refine lv_aload_n hx hb dX12_readMan_101 rfl (lv_at hl 3 rfl) ?_
    refine g_get B fl_RX12_204 gH60.1 kh0 rfl rfl rfl dX12_readMan_102 s_63 ?_
    refine g_iald (i := x_43) (N := 2) B gH60.1 k_q_42 rfl rfl rfl rfl (by omega) (by omega) s_64 dX12_readMan_105 ?_
    refine lv_iload hx hb dX12_readMan_106 (lv_at hl 0 rfl) ?_
    refine lv_imul hx hb dX12_readMan_108 ?_
    refine lv_topi (fun x_69 e_69 => ?_)
    have m_69 := z_mulB (a := x_44.toInt) (b := x_60.toInt) (A := 5) (B := 5) (by omega) (by omega) (by omega) (by omega)
    have t_69 := z_mul e_69 rfl rfl (by omega) (by omega)
    refine lv_iadd hx hb dX12_readMan_109 ?_
    refine lv_topi (fun x_70 e_70 => ?_)
    have t_70 := z_add e_70 rfl rfl (by omega) (by omega)
    refine lv_istore (lv' := [(6, .int x_70), (5, .int x_60), (4, .int x_55), (3, .int x_47), (0, .ref h0), (1, .int p0), (2, .int v44_2)]) hx hb dX12_readMan_110 hl (by decide) rfl (fun ls hl => ?_)
    refine lv_aload_n hx hb dX12_readMan_112 rfl (lv_at hl 4 rfl) ?_
    refine zkPI (zrV (rest := []) B (c_X12_isGood l E hV H60 gH60.1 h0 kh0 k_68 sk_68) cl_RX12_194 gH60.1 kh0 rfl rfl rfl rfl hl.1 rfl (Nat.le_of_ble_eq_true rfl) dX12_readMan_113 rfl rfl ⟨rfl, rfl⟩ ⟨Nat.zero_le _, Nat.zero_le _⟩ (zO.of gH60 hh)) (fun x_71 hp_71 => ?_)
    obtain ⟨hp_71_1, hp_71_2, hp_71_3⟩ := hp_71
    refine lv_if_eq (tgt := 143) hx hb dX12_readMan_116 (by decide) (fun c_72 => ?_) (fun c_72 => ?_)
    · have f_72 := z_eq c_72 rfl kl_0
      exact b143 H60 lc60 ls v44_2 x_70 x_43 k_66 k_67 k_68 gH60 (lv_sub hl [4, 5, 6, 0] rfl) (by omega) (by omega) (by omega) (by omega) (by omega) (by omega) (by omega) (by omega) (by omega) (by omega) (by omega) (by omega) s_61 s_63 sk_66 sk_67 sk_68 (by omega) (by omega) (by omega) (by omega) (by omega)
    · have f_72 := z_ne c_72 rfl kl_0
      refine lv_aload_n hx hb dX12_readMan_119 rfl (lv_at hl 4 rfl) ?_
      refine lv_aload_n hx hb dX12_readMan_120 rfl (lv_at hl 4 rfl) ?_
      refine lv_aload_n hx hb dX12_readMan_121 rfl (lv_at hl 4 rfl) ?_
      refine g_get B fl_RX12_204 gH60.1 kh0 rfl rfl rfl dX12_readMan_122 s_63 ?_
      refine zkPI (zrV (rest := [.ref h0]) B (c_X12_firstOf l E hV H60 gH60.1 h0 kh0 x_43 (by omega) (by omega)) cl_RX12_207 gH60.1 kh0 rfl rfl rfl rfl hl.1 rfl (Nat.le_of_ble_eq_true rfl) dX12_readMan_125 rfl rfl ⟨rfl, rfl⟩ ⟨Nat.zero_le _, Nat.zero_le _⟩ (zO.of gH60 hh)) (fun x_73 hp_73 => ?_)
      obtain ⟨hp_73_1, hp_73_2⟩ := hp_73
      refine lv_iload hx hb dX12_readMan_128 (lv_at hl 0 rfl) ?_
      obtain ⟨q_74, s_74, k_q_74⟩ := HT.atR gH60.1 kh0 rfl (j := 2) (by decide) rfl
      refine zkPI (zrV (rest := []) B (c_X12_of l E hV H60 gH60.1 h0 kh0 x_73 (by omega) (by omega) x_70 (by omega) (by omega) q_74 k_q_74 s_74) cl_RX12_257 gH60.1 kh0 rfl rfl rfl rfl hl.1 rfl (Nat.le_of_ble_eq_true rfl) dX12_readMan_130 rfl rfl ⟨rfl, rfl⟩ ⟨Nat.zero_le _, Nat.zero_le _⟩ (zO.of gH60 hh)) (fun x_75 hp_75 => ?_)
      obtain ⟨hp_75_1, hp_75_2⟩ := hp_75
      refine lv_if_lt (tgt := 143) hx hb dX12_readMan_133 (by decide) (fun c_76 => ?_) (fun c_76 => ?_)
      · have f_76 := z_lt c_76 rfl kl_0
        exact b143 H60 lc60 ls v44_2 x_70 x_43 k_66 k_67 k_68 gH60 (lv_sub hl [4, 5, 6, 0] rfl) (by omega) (by omega) (by omega) (by omega) (by omega) (by omega) (by omega) (by omega) (by omega) (by omega) (by omega) (by omega) s_61 s_63 sk_66 sk_67 sk_68 (by omega) (by omega) (by omega) (by omega) (by omega)
      · have f_76 := z_nlt c_76 rfl kl_0
        refine lv_aload_n hx hb dX12_readMan_136 rfl (lv_at hl 4 rfl) ?_
        refine lv_iconst (v := 3) hx hb dX12_readMan_137 (by decide) ?_
        refine lv_iload hx hb dX12_readMan_138 (lv_at hl 2 rfl) ?_
        have := kl_3
        refine zkV (zrV (rest := []) B (c_X12_fails l E hV H60 gH60.1 h0 kh0 3 (by omega) (by omega) x_55 k_68 sk_68) cl_RX12_190 gH60.1 kh0 rfl rfl rfl rfl hl.1 rfl (Nat.le_of_ble_eq_true rfl) dX12_readMan_140 rfl rfl ⟨rfl, rfl⟩ ⟨Nat.zero_le _, Nat.zero_le _⟩ (zO.of gH60 hh)) gH60 rfl (fun H77 lc77 hp_77 gH77 rH77 => ?_)
        have s_78 := rH77.keep hV kh0 rfl s_61
        have s_79 := rH77.keep hV kh0 rfl s_63
        have s_80 := rH77.keepA k_q_42 rfl s_64
        have s_81 := rH77.keepA k_q_56 rfl s_65
        have s_82 := rH77.keep hV kh0 rfl sk_66
        have s_83 := rH77.keep hV kh0 rfl sk_67
        obtain ⟨k_84, sk_84, ak_84, bk_84⟩ := hp_77
        have := kl_3
        exact b143 H77 lc77 ls v44_2 x_70 x_43 k_66 k_67 k_84 gH77 (lv_sub hl [4, 5, 6, 0] rfl) (by omega) (by omega) (by omega) (by omega) (by omega) (by omega) (by omega) (by omega) (by omega) (by omega) (by omega) (by omega) s_78 s_79 s_82 s_83 sk_84 (by omega) (by omega) (by omega) (by omega) (by omega)
  have b33 : ∀ (H33 : Heap) (lc33 : List Loc) (ls : Array Slot) (v33_2 : Int32) (u33_h0_5 : Int32), zG E wS_X12_readMan H0 H33 lc33 → lv_has ls 7 [(0, .ref h0), (1, .int p0), (2, .int v33_2)] → (-1) ≤ v33_2.toInt → v33_2.toInt ≤ 5 → 0 ≤ u33_h0_5.toInt → u33_h0_5.toInt ≤ 5 → sl H33 h0 (zix E 13 8) = some (.int e0) → sl H33 h0 (zix E 13 4) = some (.int sz) → sl H33 h0 (zix E 13 9) = some (.int t0) → sl H33 h0 (zix E 13 5) = some (.int u33_h0_5) → fk.toInt = 0 ∨ u33_h0_5.toInt ≠ 0 → u33_h0_5.toInt ≠ 0 ∨ 0 ≤ v33_2.toInt → W p l e rm_X12_readMan s m args below meth c H33 lc33 0 0 Q (F0 m 33 ls []) := by
    intro H33 lc33 ls v33_2 u33_h0_5 gH33 hl f33_1 f33_2 f33_3 f33_4 s33_u33_h0_8 s33_u33_h0_4 s33_u33_h0_9 s33_u33_h0_5 f33_5 f33_6
    refine lv_aload_n hx hb dX12_readMan_33 rfl (lv_at hl 0 rfl) ?_
    refine zkPI (zrV (rest := []) B (c_X12_isGood l E hV H33 gH33.1 h0 kh0 u33_h0_5 s33_u33_h0_5) cl_RX12_194 gH33.1 kh0 rfl rfl rfl rfl hl.1 rfl (Nat.le_of_ble_eq_true rfl) dX12_readMan_34 rfl rfl ⟨rfl, rfl⟩ ⟨Nat.zero_le _, Nat.zero_le _⟩ (zO.of gH33 hh)) (fun x_85 hp_85 => ?_)
    obtain ⟨hp_85_1, hp_85_2, hp_85_3⟩ := hp_85
    refine lv_if_eq (tgt := 44) hx hb dX12_readMan_37 (by decide) (fun c_86 => ?_) (fun c_86 => ?_)
    · have f_86 := z_eq c_86 rfl kl_0
      exact b44 H33 lc33 ls v33_2 e0 t0 u33_h0_5 gH33 (lv_sub hl [0, 1, 2] rfl) (by omega) (by omega) (by omega) (by omega) (by omega) (by omega) (by omega) (by omega) s33_u33_h0_8 s33_u33_h0_4 s33_u33_h0_9 s33_u33_h0_5 (by omega) (by omega) (by omega) (by omega) (by omega)
    · have f_86 := z_ne c_86 rfl kl_0
      refine lv_aload_n hx hb dX12_readMan_40 rfl (lv_at hl 0 rfl) ?_
      refine zkV (zrV (rest := []) B (c_X12_goOn l E hV H33 gH33.1 h0 kh0 e0 s33_u33_h0_8 (by omega) (by omega) sz s33_u33_h0_4 (by omega)) cl_RX12_198 gH33.1 kh0 rfl rfl rfl rfl hl.1 rfl (Nat.le_of_ble_eq_true rfl) dX12_readMan_41 rfl rfl ⟨rfl, rfl⟩ ⟨Nat.zero_le _, Nat.zero_le _⟩ (zO.of gH33 hh)) gH33 rfl (fun H87 lc87 hp_87 gH87 rH87 => ?_)
      have s_88 := rH87.keep hV kh0 rfl s33_u33_h0_4
      have s_89 := rH87.keep hV kh0 rfl s33_u33_h0_5
      obtain ⟨k_90, sk_90, ak_90, bk_90, fk_90_0, fk_90_1, k_91, sk_91, ak_91, bk_91, fk_91_0⟩ := hp_87
      exact b44 H87 lc87 ls v33_2 k_90 k_91 u33_h0_5 gH87 (lv_sub hl [0, 1, 2] rfl) (by omega) (by omega) (by omega) (by omega) (by omega) (by omega) (by omega) (by omega) sk_90 s_88 sk_91 s_89 (by omega) (by omega) (by omega) (by omega) (by omega)
  refine lv_aload_n hx hb dX12_readMan_0 rfl (lv_at hl 0 rfl) ?_
  refine zkPI (zrV (rest := []) B (c_X12_pieceHere l E hV H0 hT0 h0 kh0) cl_RX12_250 hT0 kh0 rfl rfl rfl rfl hl.1 rfl (Nat.le_of_ble_eq_true rfl) dX12_readMan_1 rfl rfl ⟨rfl, rfl⟩ ⟨Nat.zero_le _, Nat.zero_le _⟩ (zO.of hG0 hh)) (fun x_92 hp_92 => ?_)
  obtain ⟨hp_92_1, hp_92_2⟩ := hp_92
  refine lv_istore_n (lv' := [(2, .int x_92), (0, .ref h0), (1, .int p0)]) hx hb dX12_readMan_4 rfl hl (by decide) rfl (fun ls hl => ?_)
  refine lv_aload_n hx hb dX12_readMan_5 rfl (lv_at hl 1 rfl) ?_
  refine g_get B fl_RX12_169 hT0 kh0 rfl rfl rfl dX12_readMan_6 s_t0 ?_
  refine lv_iconst (v := 2) hx hb dX12_readMan_9 (by decide) ?_
  refine lv_icmp_eq (tgt := 20) hx hb dX12_readMan_10 (by decide) (fun c_93 => ?_) (fun c_93 => ?_)
  · have f_93 := z_eq c_93 rfl kl_2
    refine lv_iload_n hx hb dX12_readMan_20 rfl (lv_at hl 0 rfl) ?_
    refine lv_if_ge (tgt := 33) hx hb dX12_readMan_21 (by decide) (fun c_94 => ?_) (fun c_94 => ?_)
    · have f_94 := z_le c_94 kl_0 rfl
      exact b33 H0 [] ls x_92 fk hG0 (lv_sub hl [1, 2, 0] rfl) (by omega) (by omega) (by omega) (by omega) s_e0 s_sz s_t0 s_fk (by omega) (by omega)
    · have f_94 := z_nle c_94 kl_0 rfl
      refine lv_aload_n hx hb dX12_readMan_24 rfl (lv_at hl 1 rfl) ?_
      refine lv_iconst (v := 5) hx hb dX12_readMan_25 (by decide) ?_
      refine lv_aload_n hx hb dX12_readMan_26 rfl (lv_at hl 1 rfl) ?_
      refine g_getI B fl_RX12_162 hT0 kh0 rfl rfl rfl rfl rfl dX12_readMan_27 (fun x_95 s_95 a_95 b_95 => ?_)
      have := kl_5
      refine zkV (zrV (rest := []) B (c_X12_fails l E hV H0 hT0 h0 kh0 5 (by omega) (by omega) x_95 fk s_fk) cl_RX12_190 hT0 kh0 rfl rfl rfl rfl hl.1 rfl (Nat.le_of_ble_eq_true rfl) dX12_readMan_30 rfl rfl ⟨rfl, rfl⟩ ⟨Nat.zero_le _, Nat.zero_le _⟩ (zO.of hG0 hh)) hG0 rfl (fun H96 lc96 hp_96 gH96 rH96 => ?_)
      have s_97 := rH96.keep hV kh0 rfl s_e0
      have s_98 := rH96.keep hV kh0 rfl s_sz
      have s_99 := rH96.keep hV kh0 rfl s_t0
      have s_100 := rH96.keep hV kh0 rfl s_95
      obtain ⟨k_101, sk_101, ak_101, bk_101⟩ := hp_96
      have := kl_5
      exact b33 H96 lc96 ls x_92 k_101 gH96 (lv_sub hl [1, 2, 0] rfl) (by omega) (by omega) (by omega) (by omega) s_97 s_98 s_99 sk_101 (by omega) (by omega)
  · have f_93 := z_ne c_93 rfl kl_2
    refine lv_aload_n hx hb dX12_readMan_13 rfl (lv_at hl 1 rfl) ?_
    refine zkV (zrV (rest := []) B (c_X12_misplaced l E hV H0 hT0 h0 kh0 fk s_fk) cl_RX12_201 hT0 kh0 rfl rfl rfl rfl hl.1 rfl (Nat.le_of_ble_eq_true rfl) dX12_readMan_14 rfl rfl ⟨rfl, rfl⟩ ⟨Nat.zero_le _, Nat.zero_le _⟩ (zO.of hG0 hh)) hG0 rfl (fun H102 lc102 hp_102 gH102 rH102 => ?_)
    have s_103 := rH102.keep hV kh0 rfl s_e0
    have s_104 := rH102.keep hV kh0 rfl s_sz
    have s_105 := rH102.keep hV kh0 rfl s_t0
    obtain ⟨k_106, sk_106, ak_106, bk_106⟩ := hp_102
    refine lv_goto (tgt := 33) hx hb dX12_readMan_17 (by decide) ?_
    exact b33 H102 lc102 ls x_92 k_106 gH102 (lv_sub hl [1, 2, 0] rfl) (by omega) (by omega) (by omega) (by omega) s_103 s_104 s_105 sk_106 (by omega) (by omega)

theorem dX12_readFlash_0 : decode cX12_readFlash 0 = .ok (.aload_n 0, 1) := by decide +kernel
theorem dX12_readFlash_1 : decode cX12_readFlash 1 = .ok (.getfield 36, 3) := by decide +kernel
theorem dX12_readFlash_4 : decode cX12_readFlash 4 = .ok (.aload_n 0, 1) := by decide +kernel
theorem dX12_readFlash_5 : decode cX12_readFlash 5 = .ok (.getfield 204, 3) := by decide +kernel
theorem dX12_readFlash_8 : decode cX12_readFlash 8 = .ok (.iaload, 1) := by decide +kernel
theorem dX12_readFlash_9 : decode cX12_readFlash 9 = .ok (.bipush 12, 2) := by decide +kernel
theorem dX12_readFlash_11 : decode cX12_readFlash 11 = .ok (.if_icmp .ne 7, 3) := by decide +kernel
theorem dX12_readFlash_14 : decode cX12_readFlash 14 = .ok (.aload_n 0, 1) := by decide +kernel
theorem dX12_readFlash_15 : decode cX12_readFlash 15 = .ok (.invokevirtual 201, 3) := by decide +kernel
theorem dX12_readFlash_18 : decode cX12_readFlash 18 = .ok (.aload_n 0, 1) := by decide +kernel
theorem dX12_readFlash_19 : decode cX12_readFlash 19 = .ok (.iconst 1, 1) := by decide +kernel
theorem dX12_readFlash_20 : decode cX12_readFlash 20 = .ok (.sipush 999, 3) := by decide +kernel
theorem dX12_readFlash_23 : decode cX12_readFlash 23 = .ok (.invokevirtual 232, 3) := by decide +kernel
theorem dX12_readFlash_26 : decode cX12_readFlash 26 = .ok (.istore_n 1, 1) := by decide +kernel
theorem dX12_readFlash_27 : decode cX12_readFlash 27 = .ok (.aload_n 0, 1) := by decide +kernel
theorem dX12_readFlash_28 : decode cX12_readFlash 28 = .ok (.invokevirtual 194, 3) := by decide +kernel
theorem dX12_readFlash_31 : decode cX12_readFlash 31 = .ok (.ifCond .ne 4, 3) := by decide +kernel
theorem dX12_readFlash_34 : decode cX12_readFlash 34 = .ok (.return_, 1) := by decide +kernel
theorem dX12_readFlash_35 : decode cX12_readFlash 35 = .ok (.aload_n 0, 1) := by decide +kernel
theorem dX12_readFlash_36 : decode cX12_readFlash 36 = .ok (.getfield 39, 3) := by decide +kernel
theorem dX12_readFlash_39 : decode cX12_readFlash 39 = .ok (.bipush 12, 2) := by decide +kernel
theorem dX12_readFlash_41 : decode cX12_readFlash 41 = .ok (.aload_n 0, 1) := by decide +kernel
theorem dX12_readFlash_42 : decode cX12_readFlash 42 = .ok (.getfield 204, 3) := by decide +kernel
theorem dX12_readFlash_45 : decode cX12_readFlash 45 = .ok (.imul, 1) := by decide +kernel
theorem dX12_readFlash_46 : decode cX12_readFlash 46 = .ok (.aload_n 0, 1) := by decide +kernel
theorem dX12_readFlash_47 : decode cX12_readFlash 47 = .ok (.getfield 36, 3) := by decide +kernel
theorem dX12_readFlash_50 : decode cX12_readFlash 50 = .ok (.aload_n 0, 1) := by decide +kernel
theorem dX12_readFlash_51 : decode cX12_readFlash 51 = .ok (.getfield 204, 3) := by decide +kernel
theorem dX12_readFlash_54 : decode cX12_readFlash 54 = .ok (.iaload, 1) := by decide +kernel
theorem dX12_readFlash_55 : decode cX12_readFlash 55 = .ok (.iadd, 1) := by decide +kernel
theorem dX12_readFlash_56 : decode cX12_readFlash 56 = .ok (.iload_n 1, 1) := by decide +kernel
theorem dX12_readFlash_57 : decode cX12_readFlash 57 = .ok (.iastore, 1) := by decide +kernel
theorem dX12_readFlash_58 : decode cX12_readFlash 58 = .ok (.aload_n 0, 1) := by decide +kernel
theorem dX12_readFlash_59 : decode cX12_readFlash 59 = .ok (.getfield 36, 3) := by decide +kernel
theorem dX12_readFlash_62 : decode cX12_readFlash 62 = .ok (.aload_n 0, 1) := by decide +kernel
theorem dX12_readFlash_63 : decode cX12_readFlash 63 = .ok (.getfield 204, 3) := by decide +kernel
theorem dX12_readFlash_66 : decode cX12_readFlash 66 = .ok (.dup2, 1) := by decide +kernel
theorem dX12_readFlash_67 : decode cX12_readFlash 67 = .ok (.iaload, 1) := by decide +kernel
theorem dX12_readFlash_68 : decode cX12_readFlash 68 = .ok (.iconst 1, 1) := by decide +kernel
theorem dX12_readFlash_69 : decode cX12_readFlash 69 = .ok (.iadd, 1) := by decide +kernel
theorem dX12_readFlash_70 : decode cX12_readFlash 70 = .ok (.iastore, 1) := by decide +kernel
theorem dX12_readFlash_71 : decode cX12_readFlash 71 = .ok (.aload_n 0, 1) := by decide +kernel
theorem dX12_readFlash_72 : decode cX12_readFlash 72 = .ok (.getfield 169, 3) := by decide +kernel
theorem dX12_readFlash_75 : decode cX12_readFlash 75 = .ok (.iconst 4, 1) := by decide +kernel
theorem dX12_readFlash_76 : decode cX12_readFlash 76 = .ok (.if_icmp .eq (-76), 3) := by decide +kernel
theorem dX12_readFlash_79 : decode cX12_readFlash 79 = .ok (.return_, 1) := by decide +kernel
def rm_X12_readFlash : Room := { frames := 3, cells := 0, slots := 0, locals := 66 }
abbrev wS_X12_readFlash : List (Nat × Nat) := [(13, 5), (13, 6), (13, 7), (13, 8), (13, 9), (13, 10), (13, 11), (65, 99), (66, 99)]
set_option maxRecDepth 100000 in
set_option maxHeartbeats 4000000 in
theorem c_X12_readFlash (l : Launch) (E : zE) (hV : zV E) (H0 : Heap) (hT0 : HT E H0) (h0 : Nat) (kh0 : eK E h0 = 13) (e0 : Int32) (s_e0 : sl H0 h0 (zix E 13 8) = some (.int e0)) (e0_lo : 0 ≤ e0.toInt) (e0_hi : e0.toInt ≤ 1600) (sz : Int32) (s_sz : sl H0 h0 (zix E 13 4) = some (.int sz)) (t0 : Int32) (s_t0 : sl H0 h0 (zix E 13 9) = some (.int t0)) (fk : Int32) (s_fk : sl H0 h0 (zix E 13 5) = some (.int fk)) (rbv : Int32) (s_rbv : sl H0 h0 (zix E 13 27) = some (.int rbv)) (fla : Nat) (kfla : eK E fla = 65) (s_fla : sl H0 h0 (zix E 13 16) = some (.ref fla)) (flv : Int32) (s_flv : sl H0 fla rbv.toNatClampNeg = some (.int flv)) (pr_0 : e0.toInt ≤ sz.toInt) : Met l yX12_readFlash (zws yX12_readFlash cX12_readFlash 2 none) rm_X12_readFlash (zP E H0 [.ref h0]) (zQV E E wS_X12_readFlash (fun H1 => ∃ e1 : Int32, sl H1 h0 (zix E 13 8) = some (.int e1) ∧ 0 ≤ e1.toInt ∧ e1.toInt ≤ 1600 ∧ (e0.toInt ≤ e1.toInt) ∧ (e1.toInt ≤ sz.toInt) ∧ ∃ t1 : Int32, sl H1 h0 (zix E 13 9) = some (.int t1) ∧ 0 ≤ t1.toInt ∧ t1.toInt ≤ 5 ∧ (e0.toInt < e1.toInt ∨ t1.toInt ≤ 1 ∨ t1.toInt = 4 ∨ (t1.toInt = t0.toInt ∧ e1.toInt = e0.toInt)) ∧ ∃ f1 : Int32, sl H1 h0 (zix E 13 5) = some (.int f1) ∧ 0 ≤ f1.toInt ∧ f1.toInt ≤ 5 ∧ (fk.toInt = 0 ∨ f1.toInt ≠ 0))) 0 0 (zfr E) := by
  refine zEnt (by decide) (Nat.le_of_ble_eq_true rfl) (fun p e s m args below meth c ls Q B hr hlk hh hQ hl => ?_)
  have hx := B.1
  have hb := B.2.1
  have hG0 : zG E wS_X12_readFlash H0 H0 [] := zG.rf hT0
  have hl : lv_has ls 2 [(0, .ref h0)] := hl
  have bd_sz := HT.bdI hT0 kh0 rfl (j := 4) (by decide) rfl s_sz
  have bd_t0 := HT.bdI hT0 kh0 rfl (j := 9) (by decide) rfl s_t0
  have bd_fk := HT.bdI hT0 kh0 rfl (j := 5) (by decide) rfl s_fk
  have bd_rbv := HT.bdI hT0 kh0 rfl (j := 27) (by decide) rfl s_rbv
  have bd_flv := HT.bdE (i := rbv) (N := 2) hT0 kfla rfl rfl rfl (by omega) (by omega) rfl s_flv
  have b0 : ∀ (n0 : Nat) (Hz : Heap) (lcz : List Loc) (ls : Array Slot) (u0_h0_8 : Int32) (u0_h0_9 : Int32) (u0_h0_5 : Int32) (u0_fla_erbv : Int32), 12 - u0_fla_erbv.toInt < (n0 : Int) → zG E wS_X12_readFlash H0 Hz lcz → lv_has ls 2 [(0, .ref h0)] → 0 ≤ u0_h0_8.toInt → u0_h0_8.toInt ≤ 1600 → 0 ≤ u0_h0_9.toInt → u0_h0_9.toInt ≤ 5 → 0 ≤ u0_h0_5.toInt → u0_h0_5.toInt ≤ 5 → 0 ≤ u0_fla_erbv.toInt → u0_fla_erbv.toInt ≤ 12 → sl Hz h0 (zix E 13 8) = some (.int u0_h0_8) → sl Hz h0 (zix E 13 4) = some (.int sz) → sl Hz h0 (zix E 13 9) = some (.int u0_h0_9) → sl Hz h0 (zix E 13 5) = some (.int u0_h0_5) → sl Hz h0 (zix E 13 27) = some (.int rbv) → sl Hz h0 (zix E 13 16) = some (.ref fla) → sl Hz fla rbv.toNatClampNeg = some (.int u0_fla_erbv) → fk.toInt = 0 ∨ u0_h0_5.toInt ≠ 0 → e0.toInt ≤ u0_h0_8.toInt → u0_h0_8.toInt ≤ sz.toInt → e0.toInt < u0_h0_8.toInt ∨ u0_h0_9.toInt ≤ 1 ∨ u0_h0_9.toInt = 4 ∨ (u0_h0_9.toInt = t0.toInt ∧ u0_h0_8.toInt = e0.toInt) → W p l e rm_X12_readFlash s m args below meth c Hz lcz 0 0 Q (F0 m 0 ls []) := by
    intro n0
    induction n0 with
    | zero =>
      intro Hz lcz ls u0_h0_8 u0_h0_9 u0_h0_5 u0_fla_erbv hm0 gHz hl f0_1 f0_2 f0_3 f0_4 f0_5 f0_6 f0_7 f0_8 s0_u0_h0_8 s0_u0_h0_4 s0_u0_h0_9 s0_u0_h0_5 s0_u0_h0_27 s0_u0_h0_16 s0_u0_fla_erbv f0_9 f0_10 f0_11 f0_12
      exact absurd hm0 (by omega)
    | succ n0 ih0 =>
      intro Hz lcz ls u0_h0_8 u0_h0_9 u0_h0_5 u0_fla_erbv hm0 gHz hl f0_1 f0_2 f0_3 f0_4 f0_5 f0_6 f0_7 f0_8 s0_u0_h0_8 s0_u0_h0_4 s0_u0_h0_9 s0_u0_h0_5 s0_u0_h0_27 s0_u0_h0_16 s0_u0_fla_erbv f0_9 f0_10 f0_11 f0_12
      have b18 : ∀ (H18 : Heap) (lc18 : List Loc) (ls : Array Slot) (u18_h0_5 : Int32), zG E wS_X12_readFlash H0 H18 lc18 → lv_has ls 2 [(0, .ref h0)] → 0 ≤ u18_h0_5.toInt → u18_h0_5.toInt ≤ 5 → sl H18 h0 (zix E 13 8) = some (.int u0_h0_8) → sl H18 h0 (zix E 13 4) = some (.int sz) → sl H18 h0 (zix E 13 9) = some (.int u0_h0_9) → sl H18 h0 (zix E 13 5) = some (.int u18_h0_5) → sl H18 h0 (zix E 13 27) = some (.int rbv) → sl H18 h0 (zix E 13 16) = some (.ref fla) → sl H18 fla rbv.toNatClampNeg = some (.int u0_fla_erbv) → fk.toInt = 0 ∨ u18_h0_5.toInt ≠ 0 → e0.toInt ≤ u0_h0_8.toInt → u0_h0_8.toInt ≤ sz.toInt → e0.toInt < u0_h0_8.toInt ∨ u0_h0_9.toInt ≤ 1 ∨ u0_h0_9.toInt = 4 ∨ (u0_h0_9.toInt = t0.toInt ∧ u0_h0_8.toInt = e0.toInt) → u0_fla_erbv.toInt ≤ 11 ∨ u18_h0_5.toInt ≠ 0 → W p l e rm_X12_readFlash s m args below meth c H18 lc18 0 0 Q (F0 m 18 ls []) := by
        intro H18 lc18 ls u18_h0_5 gH18 hl f18_1 f18_2 s18_u18_h0_8 s18_u18_h0_4 s18_u18_h0_9 s18_u18_h0_5 s18_u18_h0_27 s18_u18_h0_16 s18_u18_fla_erbv f18_3 f18_4 f18_5 f18_6 f18_7
        refine lv_aload_n hx hb dX12_readFlash_18 rfl (lv_at hl 0 rfl) ?_
        refine lv_iconst (v := 1) hx hb dX12_readFlash_19 (by decide) ?_
        refine lv_sipush (v := 999) hx hb dX12_readFlash_20 (by decide) ?_
        have := kl_1
        have := kl_999
        obtain ⟨x_1, s_1, a_1, b_1⟩ := HT.atI gH18.1 kh0 rfl (j := 10) (by decide) rfl
        have := kl_1
        have := kl_999
        refine zkI (zrV (rest := []) B (c_X12_numeral l E hV H18 gH18.1 h0 kh0 1 (by omega) (by omega) 999 (by omega) (by omega) u0_h0_8 s18_u18_h0_8 (by omega) (by omega) sz s18_u18_h0_4 u0_h0_9 s18_u18_h0_9 u18_h0_5 s18_u18_h0_5 x_1 s_1 (by omega)) cl_RX12_232 gH18.1 kh0 rfl rfl rfl rfl hl.1 rfl (Nat.le_of_ble_eq_true rfl) dX12_readFlash_23 rfl rfl ⟨rfl, rfl⟩ ⟨Nat.zero_le _, Nat.zero_le _⟩ (zO.of gH18 hh)) gH18 rfl (fun x_2 H2 lc2 hp_2 gH2 rH2 => ?_)
        have s_3 := rH2.keep hV kh0 rfl s18_u18_h0_4
        have s_4 := rH2.keep hV kh0 rfl s18_u18_h0_27
        have s_5 := rH2.keep hV kh0 rfl s18_u18_h0_16
        have s_6 := rH2.keepA kfla rfl s18_u18_fla_erbv
        obtain ⟨hp_2_1, hp_2_2, hp_2_3, k_7, sk_7, ak_7, bk_7, fk_7_0, fk_7_1, k_8, sk_8, ak_8, bk_8, fk_8_0, k_9, sk_9, ak_9, bk_9, fk_9_0⟩ := hp_2
        have := kl_1
        have := kl_999
        refine lv_istore_n (lv' := [(1, .int x_2), (0, .ref h0)]) hx hb dX12_readFlash_26 rfl hl (by decide) rfl (fun ls hl => ?_)
        refine lv_aload_n hx hb dX12_readFlash_27 rfl (lv_at hl 1 rfl) ?_
        refine zkPI (zrV (rest := []) B (c_X12_isGood l E hV H2 gH2.1 h0 kh0 k_9 sk_9) cl_RX12_194 gH2.1 kh0 rfl rfl rfl rfl hl.1 rfl (Nat.le_of_ble_eq_true rfl) dX12_readFlash_28 rfl rfl ⟨rfl, rfl⟩ ⟨Nat.zero_le _, Nat.zero_le _⟩ (zO.of gH2 hh)) (fun x_10 hp_10 => ?_)
        obtain ⟨hp_10_1, hp_10_2, hp_10_3⟩ := hp_10
        refine lv_if_ne (tgt := 35) hx hb dX12_readFlash_31 (by decide) (fun c_11 => ?_) (fun c_11 => ?_)
        · have f_11 := z_ne c_11 rfl kl_0
          refine lv_aload_n hx hb dX12_readFlash_35 rfl (lv_at hl 1 rfl) ?_
          refine g_getR B fl_RX12_39 gH2.1 kh0 rfl rfl rfl rfl rfl dX12_readFlash_36 (fun q_12 s_12 k_q_12 => ?_)
          refine lv_bipush (v := 12) hx hb dX12_readFlash_39 (by decide) ?_
          refine lv_aload_n hx hb dX12_readFlash_41 rfl (lv_at hl 1 rfl) ?_
          refine g_get B fl_RX12_204 gH2.1 kh0 rfl rfl rfl dX12_readFlash_42 s_4 ?_
          refine lv_imul hx hb dX12_readFlash_45 ?_
          refine lv_topi (fun x_13 e_13 => ?_)
          have t_13 := z_mul e_13 kl_12 rfl (by omega) (by omega)
          refine lv_aload_n hx hb dX12_readFlash_46 rfl (lv_at hl 1 rfl) ?_
          refine g_get B fl_RX12_36 gH2.1 kh0 rfl rfl rfl dX12_readFlash_47 s_5 ?_
          refine lv_aload_n hx hb dX12_readFlash_50 rfl (lv_at hl 1 rfl) ?_
          refine g_get B fl_RX12_204 gH2.1 kh0 rfl rfl rfl dX12_readFlash_51 s_4 ?_
          refine g_iald (i := rbv) (N := 2) B gH2.1 kfla rfl rfl rfl rfl (by omega) (by omega) s_6 dX12_readFlash_54 ?_
          refine lv_iadd hx hb dX12_readFlash_55 ?_
          refine lv_topi (fun x_14 e_14 => ?_)
          have t_14 := z_add e_14 rfl rfl (by omega) (by omega)
          refine lv_iload_n hx hb dX12_readFlash_56 rfl (lv_at hl 0 rfl) ?_
          refine g_iastI (i := x_14) (N := 24) B hV gH2 k_q_12 rfl rfl rfl rfl (by omega) (by omega) rfl (by omega) (by omega) rfl dX12_readFlash_57 (fun H15 lc15 gH15 uH15 => ?_)
          have s_16 := uH15.keep (Or.inl (k_ne kh0 k_q_12 rfl)) s_3
          have s_17 := uH15.keep (Or.inl (k_ne kh0 k_q_12 rfl)) s_4
          have s_18 := uH15.keep (Or.inl (k_ne kh0 k_q_12 rfl)) s_5
          have s_19 := uH15.keep (Or.inl (k_ne kfla k_q_12 rfl)) s_6
          have s_20 := uH15.keep (Or.inl (k_ne kh0 k_q_12 rfl)) sk_7
          have s_21 := uH15.keep (Or.inl (k_ne kh0 k_q_12 rfl)) sk_8
          have s_22 := uH15.keep (Or.inl (k_ne kh0 k_q_12 rfl)) sk_9
          have s_23 := uH15.keep (Or.inl (k_ne kh0 k_q_12 rfl)) s_12
          refine lv_aload_n hx hb dX12_readFlash_58 rfl (lv_at hl 1 rfl) ?_
          refine g_get B fl_RX12_36 gH15.1 kh0 rfl rfl rfl dX12_readFlash_59 s_18 ?_
          refine lv_aload_n hx hb dX12_readFlash_62 rfl (lv_at hl 1 rfl) ?_
          refine g_get B fl_RX12_204 gH15.1 kh0 rfl rfl rfl dX12_readFlash_63 s_17 ?_
          refine lv_dup2_11 hx hb dX12_readFlash_66 rfl rfl ?_
          refine g_iald (i := rbv) (N := 2) B gH15.1 kfla rfl rfl rfl rfl (by omega) (by omega) s_19 dX12_readFlash_67 ?_
          refine lv_iconst (v := 1) hx hb dX12_readFlash_68 (by decide) ?_
          refine lv_iadd hx hb dX12_readFlash_69 ?_
          refine lv_topi (fun x_24 e_24 => ?_)
          have t_24 := z_add e_24 rfl kl_1 (by omega) (by omega)
          refine g_iastI (i := rbv) (N := 2) B hV gH15 kfla rfl rfl rfl rfl (by omega) (by omega) rfl (by omega) (by omega) rfl dX12_readFlash_70 (fun H25 lc25 gH25 uH25 => ?_)
          have s_26 := uH25.keep (Or.inl (k_ne kh0 kfla rfl)) s_16
          have s_27 := uH25.keep (Or.inl (k_ne kh0 kfla rfl)) s_17
          have s_28 := uH25.keep (Or.inl (k_ne kh0 kfla rfl)) s_18
          have s_29 := uH25.keep (Or.inl (k_ne kh0 kfla rfl)) s_20
          have s_30 := uH25.keep (Or.inl (k_ne kh0 kfla rfl)) s_21
          have s_31 := uH25.keep (Or.inl (k_ne kh0 kfla rfl)) s_22
          have s_32 := uH25.keep (Or.inl (k_ne kh0 kfla rfl)) s_23
          have s_33 := uH25.keep (Or.inl (k_ne k_q_12 kfla rfl)) uH15.2.1
          refine lv_aload_n hx hb dX12_readFlash_71 rfl (lv_at hl 1 rfl) ?_
          refine g_get B fl_RX12_169 gH25.1 kh0 rfl rfl rfl dX12_readFlash_72 s_30 ?_
          refine lv_iconst (v := 4) hx hb dX12_readFlash_75 (by decide) ?_
          refine lv_icmp_eq (tgt := 0) hx hb dX12_readFlash_76 (by decide) (fun c_34 => ?_) (fun c_34 => ?_)
          · have f_34 := z_eq c_34 rfl kl_4
            exact ih0 H25 lc25 ls k_7 k_8 k_9 x_24 (by omega) gH25 (lv_sub hl [1] rfl) (by omega) (by omega) (by omega) (by omega) (by omega) (by omega) (by omega) (by omega) s_29 s_26 s_30 s_31 s_27 s_28 uH25.2.1 (by omega) (by omega) (by omega) (by omega)
          · have f_34 := z_ne c_34 rfl kl_4
            exact rtV B hr hlk hh hQ gH25 ⟨k_7, s_29, by omega, by omega, by omega, by omega, k_8, s_30, by omega, by omega, by omega, k_9, s_31, by omega, by omega, by omega⟩ dX12_readFlash_79
        · have f_11 := z_eq c_11 rfl kl_0
          exact rtV B hr hlk hh hQ gH2 ⟨k_7, sk_7, by omega, by omega, by omega, by omega, k_8, sk_8, by omega, by omega, by omega, k_9, sk_9, by omega, by omega, by omega⟩ dX12_readFlash_34
      refine lv_aload_n hx hb dX12_readFlash_0 rfl (lv_at hl 0 rfl) ?_
      refine g_get B fl_RX12_36 gHz.1 kh0 rfl rfl rfl dX12_readFlash_1 s0_u0_h0_16 ?_
      refine lv_aload_n hx hb dX12_readFlash_4 rfl (lv_at hl 0 rfl) ?_
      refine g_get B fl_RX12_204 gHz.1 kh0 rfl rfl rfl dX12_readFlash_5 s0_u0_h0_27 ?_
      refine g_iald (i := rbv) (N := 2) B gHz.1 kfla rfl rfl rfl rfl (by omega) (by omega) s0_u0_fla_erbv dX12_readFlash_8 ?_
      refine lv_bipush (v := 12) hx hb dX12_readFlash_9 (by decide) ?_
      refine lv_icmp_ne (tgt := 18) hx hb dX12_readFlash_11 (by decide) (fun c_35 => ?_) (fun c_35 => ?_)
      · have f_35 := z_ne c_35 rfl kl_12
        exact b18 Hz lcz ls u0_h0_5 gHz (lv_sub hl [0] rfl) (by omega) (by omega) s0_u0_h0_8 s0_u0_h0_4 s0_u0_h0_9 s0_u0_h0_5 s0_u0_h0_27 s0_u0_h0_16 s0_u0_fla_erbv (by omega) (by omega) (by omega) (by omega) (by omega)
      · have f_35 := z_eq c_35 rfl kl_12
        refine lv_aload_n hx hb dX12_readFlash_14 rfl (lv_at hl 0 rfl) ?_
        refine zkV (zrV (rest := []) B (c_X12_misplaced l E hV Hz gHz.1 h0 kh0 u0_h0_5 s0_u0_h0_5) cl_RX12_201 gHz.1 kh0 rfl rfl rfl rfl hl.1 rfl (Nat.le_of_ble_eq_true rfl) dX12_readFlash_15 rfl rfl ⟨rfl, rfl⟩ ⟨Nat.zero_le _, Nat.zero_le _⟩ (zO.of gHz hh)) gHz rfl (fun H36 lc36 hp_36 gH36 rH36 => ?_)
        have s_37 := rH36.keep hV kh0 rfl s0_u0_h0_8
        have s_38 := rH36.keep hV kh0 rfl s0_u0_h0_4
        have s_39 := rH36.keep hV kh0 rfl s0_u0_h0_9
        have s_40 := rH36.keep hV kh0 rfl s0_u0_h0_27
        have s_41 := rH36.keep hV kh0 rfl s0_u0_h0_16
        have s_42 := rH36.keepA kfla rfl s0_u0_fla_erbv
        obtain ⟨k_43, sk_43, ak_43, bk_43⟩ := hp_36
        exact b18 H36 lc36 ls k_43 gH36 (lv_sub hl [0] rfl) (by omega) (by omega) s_37 s_38 s_39 sk_43 s_40 s_41 s_42 (by omega) (by omega) (by omega) (by omega) (by omega)
  exact b0 13 H0 [] ls e0 t0 fk flv (by omega) hG0 (lv_sub hl [0] rfl) (by omega) (by omega) (by omega) (by omega) (by omega) (by omega) (by omega) (by omega) s_e0 s_sz s_t0 s_fk s_rbv s_fla s_flv (by omega) (by omega) (by omega) (by omega)

theorem dX12_readLine_0 : decode cX12_readLine 0 = .ok (.aload_n 0, 1) := by decide +kernel
theorem dX12_readLine_1 : decode cX12_readLine 1 = .ok (.getfield 176, 3) := by decide +kernel
theorem dX12_readLine_4 : decode cX12_readLine 4 = .ok (.lstore_n 1, 1) := by decide +kernel
theorem dX12_readLine_5 : decode cX12_readLine 5 = .ok (.aload_n 0, 1) := by decide +kernel
theorem dX12_readLine_6 : decode cX12_readLine 6 = .ok (.getfield 169, 3) := by decide +kernel
theorem dX12_readLine_9 : decode cX12_readLine 9 = .ok (.iconst 3, 1) := by decide +kernel
theorem dX12_readLine_10 : decode cX12_readLine 10 = .ok (.if_icmp .ne 10, 3) := by decide +kernel
theorem dX12_readLine_13 : decode cX12_readLine 13 = .ok (.aload_n 0, 1) := by decide +kernel
theorem dX12_readLine_14 : decode cX12_readLine 14 = .ok (.invokevirtual 229, 3) := by decide +kernel
theorem dX12_readLine_17 : decode cX12_readLine 17 = .ok (.ifCond .eq 7, 3) := by decide +kernel
theorem dX12_readLine_20 : decode cX12_readLine 20 = .ok (.aload_n 0, 1) := by decide +kernel
theorem dX12_readLine_21 : decode cX12_readLine 21 = .ok (.invokevirtual 201, 3) := by decide +kernel
theorem dX12_readLine_24 : decode cX12_readLine 24 = .ok (.aload_n 0, 1) := by decide +kernel
theorem dX12_readLine_25 : decode cX12_readLine 25 = .ok (.invokevirtual 194, 3) := by decide +kernel
theorem dX12_readLine_28 : decode cX12_readLine 28 = .ok (.ifCond .ne 4, 3) := by decide +kernel
theorem dX12_readLine_31 : decode cX12_readLine 31 = .ok (.return_, 1) := by decide +kernel
theorem dX12_readLine_32 : decode cX12_readLine 32 = .ok (.aload_n 0, 1) := by decide +kernel
theorem dX12_readLine_33 : decode cX12_readLine 33 = .ok (.invokevirtual 198, 3) := by decide +kernel
theorem dX12_readLine_36 : decode cX12_readLine 36 = .ok (.lload_n 1, 1) := by decide +kernel
theorem dX12_readLine_37 : decode cX12_readLine 37 = .ok (.ldc2_w 137, 3) := by decide +kernel
theorem dX12_readLine_40 : decode cX12_readLine 40 = .ok (.lcmp, 1) := by decide +kernel
theorem dX12_readLine_41 : decode cX12_readLine 41 = .ok (.ifCond .ne 45, 3) := by decide +kernel
theorem dX12_readLine_44 : decode cX12_readLine 44 = .ok (.aload_n 0, 1) := by decide +kernel
theorem dX12_readLine_45 : decode cX12_readLine 45 = .ok (.getfield 24, 3) := by decide +kernel
theorem dX12_readLine_48 : decode cX12_readLine 48 = .ok (.aload_n 0, 1) := by decide +kernel
theorem dX12_readLine_49 : decode cX12_readLine 49 = .ok (.getfield 204, 3) := by decide +kernel
theorem dX12_readLine_52 : decode cX12_readLine 52 = .ok (.aload_n 0, 1) := by decide +kernel
theorem dX12_readLine_53 : decode cX12_readLine 53 = .ok (.iconst 1, 1) := by decide +kernel
theorem dX12_readLine_54 : decode cX12_readLine 54 = .ok (.iconst 5, 1) := by decide +kernel
theorem dX12_readLine_55 : decode cX12_readLine 55 = .ok (.invokevirtual 232, 3) := by decide +kernel
theorem dX12_readLine_58 : decode cX12_readLine 58 = .ok (.iastore, 1) := by decide +kernel
theorem dX12_readLine_59 : decode cX12_readLine 59 = .ok (.aload_n 0, 1) := by decide +kernel
theorem dX12_readLine_60 : decode cX12_readLine 60 = .ok (.aload_n 0, 1) := by decide +kernel
theorem dX12_readLine_61 : decode cX12_readLine 61 = .ok (.ldc2_w 139, 3) := by decide +kernel
theorem dX12_readLine_64 : decode cX12_readLine 64 = .ok (.invokevirtual 226, 3) := by decide +kernel
theorem dX12_readLine_67 : decode cX12_readLine 67 = .ok (.invokevirtual 236, 3) := by decide +kernel
theorem dX12_readLine_70 : decode cX12_readLine 70 = .ok (.aload_n 0, 1) := by decide +kernel
theorem dX12_readLine_71 : decode cX12_readLine 71 = .ok (.getfield 27, 3) := by decide +kernel
theorem dX12_readLine_74 : decode cX12_readLine 74 = .ok (.aload_n 0, 1) := by decide +kernel
theorem dX12_readLine_75 : decode cX12_readLine 75 = .ok (.getfield 204, 3) := by decide +kernel
theorem dX12_readLine_78 : decode cX12_readLine 78 = .ok (.aload_n 0, 1) := by decide +kernel
theorem dX12_readLine_79 : decode cX12_readLine 79 = .ok (.iconst 1, 1) := by decide +kernel
theorem dX12_readLine_80 : decode cX12_readLine 80 = .ok (.bipush 6, 2) := by decide +kernel
theorem dX12_readLine_82 : decode cX12_readLine 82 = .ok (.invokevirtual 232, 3) := by decide +kernel
theorem dX12_readLine_85 : decode cX12_readLine 85 = .ok (.iastore, 1) := by decide +kernel
theorem dX12_readLine_86 : decode cX12_readLine 86 = .ok (.lload_n 1, 1) := by decide +kernel
theorem dX12_readLine_87 : decode cX12_readLine 87 = .ok (.ldc2_w 141, 3) := by decide +kernel
theorem dX12_readLine_90 : decode cX12_readLine 90 = .ok (.lcmp, 1) := by decide +kernel
theorem dX12_readLine_91 : decode cX12_readLine 91 = .ok (.ifCond .ne 7, 3) := by decide +kernel
theorem dX12_readLine_94 : decode cX12_readLine 94 = .ok (.aload_n 0, 1) := by decide +kernel
theorem dX12_readLine_95 : decode cX12_readLine 95 = .ok (.invokevirtual 240, 3) := by decide +kernel
theorem dX12_readLine_98 : decode cX12_readLine 98 = .ok (.lload_n 1, 1) := by decide +kernel
theorem dX12_readLine_99 : decode cX12_readLine 99 = .ok (.ldc2_w 151, 3) := by decide +kernel
theorem dX12_readLine_102 : decode cX12_readLine 102 = .ok (.lcmp, 1) := by decide +kernel
theorem dX12_readLine_103 : decode cX12_readLine 103 = .ok (.ifCond .eq 11, 3) := by decide +kernel
theorem dX12_readLine_106 : decode cX12_readLine 106 = .ok (.lload_n 1, 1) := by decide +kernel
theorem dX12_readLine_107 : decode cX12_readLine 107 = .ok (.ldc2_w 153, 3) := by decide +kernel
theorem dX12_readLine_110 : decode cX12_readLine 110 = .ok (.lcmp, 1) := by decide +kernel
theorem dX12_readLine_111 : decode cX12_readLine 111 = .ok (.ifCond .ne 20, 3) := by decide +kernel
theorem dX12_readLine_114 : decode cX12_readLine 114 = .ok (.aload_n 0, 1) := by decide +kernel
theorem dX12_readLine_115 : decode cX12_readLine 115 = .ok (.lload_n 1, 1) := by decide +kernel
theorem dX12_readLine_116 : decode cX12_readLine 116 = .ok (.ldc2_w 153, 3) := by decide +kernel
theorem dX12_readLine_119 : decode cX12_readLine 119 = .ok (.lcmp, 1) := by decide +kernel
theorem dX12_readLine_120 : decode cX12_readLine 120 = .ok (.ifCond .ne 7, 3) := by decide +kernel
theorem dX12_readLine_123 : decode cX12_readLine 123 = .ok (.iconst 1, 1) := by decide +kernel
theorem dX12_readLine_124 : decode cX12_readLine 124 = .ok (.goto 4, 3) := by decide +kernel
theorem dX12_readLine_127 : decode cX12_readLine 127 = .ok (.iconst 0, 1) := by decide +kernel
theorem dX12_readLine_128 : decode cX12_readLine 128 = .ok (.invokevirtual 243, 3) := by decide +kernel
theorem dX12_readLine_131 : decode cX12_readLine 131 = .ok (.lload_n 1, 1) := by decide +kernel
theorem dX12_readLine_132 : decode cX12_readLine 132 = .ok (.ldc2_w 157, 3) := by decide +kernel
theorem dX12_readLine_135 : decode cX12_readLine 135 = .ok (.lcmp, 1) := by decide +kernel
theorem dX12_readLine_136 : decode cX12_readLine 136 = .ok (.ifCond .ne 7, 3) := by decide +kernel
theorem dX12_readLine_139 : decode cX12_readLine 139 = .ok (.aload_n 0, 1) := by decide +kernel
theorem dX12_readLine_140 : decode cX12_readLine 140 = .ok (.invokevirtual 247, 3) := by decide +kernel
theorem dX12_readLine_143 : decode cX12_readLine 143 = .ok (.aload_n 0, 1) := by decide +kernel
theorem dX12_readLine_144 : decode cX12_readLine 144 = .ok (.aload_n 0, 1) := by decide +kernel
theorem dX12_readLine_145 : decode cX12_readLine 145 = .ok (.getfield 169, 3) := by decide +kernel
theorem dX12_readLine_148 : decode cX12_readLine 148 = .ok (.iconst 5, 1) := by decide +kernel
theorem dX12_readLine_149 : decode cX12_readLine 149 = .ok (.if_icmp .ne 7, 3) := by decide +kernel
theorem dX12_readLine_152 : decode cX12_readLine 152 = .ok (.iconst 1, 1) := by decide +kernel
theorem dX12_readLine_153 : decode cX12_readLine 153 = .ok (.goto 4, 3) := by decide +kernel
theorem dX12_readLine_156 : decode cX12_readLine 156 = .ok (.iconst 0, 1) := by decide +kernel
theorem dX12_readLine_157 : decode cX12_readLine 157 = .ok (.invokevirtual 236, 3) := by decide +kernel
theorem dX12_readLine_160 : decode cX12_readLine 160 = .ok (.return_, 1) := by decide +kernel
def rm_X12_readLine : Room := { frames := 5, cells := 0, slots := 0, locals := 109 }
abbrev wS_X12_readLine : List (Nat × Nat) := [(13, 5), (13, 6), (13, 7), (13, 8), (13, 9), (13, 10), (13, 11), (60, 99), (61, 99), (62, 99), (63, 99), (64, 99), (65, 99), (66, 99), (67, 99), (68, 99), (69, 99), (70, 99), (71, 99), (72, 99), (73, 99), (74, 99)]
set_option maxRecDepth 100000 in
set_option maxHeartbeats 4000000 in
theorem c_X12_readLine (l : Launch) (E : zE) (hV : zV E) (H0 : Heap) (hT0 : HT E H0) (h0 : Nat) (kh0 : eK E h0 = 13) (e0 : Int32) (s_e0 : sl H0 h0 (zix E 13 8) = some (.int e0)) (e0_lo : 0 ≤ e0.toInt) (e0_hi : e0.toInt ≤ 1600) (sz : Int32) (s_sz : sl H0 h0 (zix E 13 4) = some (.int sz)) (t0 : Int32) (s_t0 : sl H0 h0 (zix E 13 9) = some (.int t0)) (fk : Int32) (s_fk : sl H0 h0 (zix E 13 5) = some (.int fk)) (nm : Int64) (s_nm : sl H0 h0 (zix E 13 11) = some (.long nm)) (rbv : Int32) (s_rbv : sl H0 h0 (zix E 13 27) = some (.int rbv)) (pa : Nat) (kpa : eK E pa = 63) (s_pa : sl H0 h0 (zix E 13 14) = some (.ref pa)) (pcv : Int32) (s_pcv : sl H0 pa rbv.toNatClampNeg = some (.int pcv)) (pr_0 : e0.toInt ≤ sz.toInt) : Met l yX12_readLine (zws yX12_readLine cX12_readLine 3 none) rm_X12_readLine (zP E H0 [.ref h0]) (zQV E E wS_X12_readLine (fun H1 => ∃ e1 : Int32, sl H1 h0 (zix E 13 8) = some (.int e1) ∧ 0 ≤ e1.toInt ∧ e1.toInt ≤ 1600 ∧ (e0.toInt ≤ e1.toInt) ∧ (e1.toInt ≤ sz.toInt) ∧ ∃ f1 : Int32, sl H1 h0 (zix E 13 5) = some (.int f1) ∧ 0 ≤ f1.toInt ∧ f1.toInt ≤ 5 ∧ (f1.toInt ≠ 0 ∨ e0.toInt < e1.toInt))) 0 0 (zfr E) := by
  refine zEnt (by decide) (Nat.le_of_ble_eq_true rfl) (fun p e s m args below meth c ls Q B hr hlk hh hQ hl => ?_)
  have hx := B.1
  have hb := B.2.1
  have hG0 : zG E wS_X12_readLine H0 H0 [] := zG.rf hT0
  have hl : lv_has ls 3 [(0, .ref h0)] := hl
  have bd_sz := HT.bdI hT0 kh0 rfl (j := 4) (by decide) rfl s_sz
  have bd_t0 := HT.bdI hT0 kh0 rfl (j := 9) (by decide) rfl s_t0
  have bd_fk := HT.bdI hT0 kh0 rfl (j := 5) (by decide) rfl s_fk
  have bd_rbv := HT.bdI hT0 kh0 rfl (j := 27) (by decide) rfl s_rbv
  have bd_pcv := HT.bdE (i := rbv) (N := 2) hT0 kpa rfl rfl rfl (by omega) (by omega) rfl s_pcv
  have b157 : ∀ (H157 : Heap) (lc157 : List Loc) (ls : Array Slot) (w157_0 : Int32) (u157_h0_5 : Int32) (u157_h0_8 : Int32) (u157_h0_9 : Int32), zG E wS_X12_readLine H0 H157 lc157 → lv_has ls 3 [] → 0 ≤ w157_0.toInt → w157_0.toInt ≤ 1 → 0 ≤ u157_h0_5.toInt → u157_h0_5.toInt ≤ 5 → 0 ≤ u157_h0_8.toInt → u157_h0_8.toInt ≤ 1600 → 0 ≤ u157_h0_9.toInt → u157_h0_9.toInt ≤ 5 → sl H157 h0 (zix E 13 4) = some (.int sz) → sl H157 h0 (zix E 13 5) = some (.int u157_h0_5) → sl H157 h0 (zix E 13 27) = some (.int rbv) → sl H157 h0 (zix E 13 14) = some (.ref pa) → sl H157 h0 (zix E 13 8) = some (.int u157_h0_8) → sl H157 h0 (zix E 13 9) = some (.int u157_h0_9) → e0.toInt ≤ u157_h0_8.toInt → u157_h0_8.toInt ≤ sz.toInt → u157_h0_5.toInt ≠ 0 ∨ e0.toInt < u157_h0_8.toInt ∨ u157_h0_9.toInt ≤ 1 ∨ u157_h0_9.toInt = 4 → w157_0.toInt = 0 ∨ u157_h0_9.toInt = 5 → W p l e rm_X12_readLine s m args below meth c H157 lc157 0 0 Q (F0 m 157 ls [.int w157_0, .ref h0]) := by
    intro H157 lc157 ls w157_0 u157_h0_5 u157_h0_8 u157_h0_9 gH157 hl f157_1 f157_2 f157_3 f157_4 f157_5 f157_6 f157_7 f157_8 s157_u157_h0_4 s157_u157_h0_5 s157_u157_h0_27 s157_u157_h0_14 s157_u157_h0_8 s157_u157_h0_9 f157_9 f157_10 f157_11 f157_12
    refine zkV (zrV (rest := []) B (c_X12_must l E hV H157 gH157.1 h0 kh0 w157_0 (by omega) (by omega) u157_h0_8 s157_u157_h0_8 (by omega) (by omega) sz s157_u157_h0_4 u157_h0_9 s157_u157_h0_9 u157_h0_5 s157_u157_h0_5 (by omega)) cl_RX12_236 gH157.1 kh0 rfl rfl rfl rfl hl.1 rfl (Nat.le_of_ble_eq_true rfl) dX12_readLine_157 rfl rfl ⟨rfl, rfl⟩ ⟨Nat.zero_le _, Nat.zero_le _⟩ (zO.of gH157 hh)) gH157 rfl (fun H1 lc1 hp_1 gH1 rH1 => ?_)
    have s_2 := rH1.keep hV kh0 rfl s157_u157_h0_4
    have s_3 := rH1.keep hV kh0 rfl s157_u157_h0_27
    have s_4 := rH1.keep hV kh0 rfl s157_u157_h0_14
    obtain ⟨k_5, sk_5, ak_5, bk_5, fk_5_0, fk_5_1, k_6, sk_6, ak_6, bk_6, fk_6_0, k_7, sk_7, ak_7, bk_7, fk_7_0, fk_7_1⟩ := hp_1
    exact rtV B hr hlk hh hQ gH1 ⟨k_5, sk_5, by omega, by omega, by omega, by omega, k_7, sk_7, by omega, by omega, by omega⟩ dX12_readLine_160
  have b143 : ∀ (H143 : Heap) (lc143 : List Loc) (ls : Array Slot) (u143_h0_5 : Int32) (u143_h0_8 : Int32) (u143_h0_9 : Int32), zG E wS_X12_readLine H0 H143 lc143 → lv_has ls 3 [(0, .ref h0)] → 0 ≤ u143_h0_5.toInt → u143_h0_5.toInt ≤ 5 → 0 ≤ u143_h0_8.toInt → u143_h0_8.toInt ≤ 1600 → 0 ≤ u143_h0_9.toInt → u143_h0_9.toInt ≤ 5 → sl H143 h0 (zix E 13 4) = some (.int sz) → sl H143 h0 (zix E 13 5) = some (.int u143_h0_5) → sl H143 h0 (zix E 13 27) = some (.int rbv) → sl H143 h0 (zix E 13 14) = some (.ref pa) → sl H143 h0 (zix E 13 8) = some (.int u143_h0_8) → sl H143 h0 (zix E 13 9) = some (.int u143_h0_9) → e0.toInt ≤ u143_h0_8.toInt → u143_h0_8.toInt ≤ sz.toInt → u143_h0_5.toInt ≠ 0 ∨ e0.toInt < u143_h0_8.toInt ∨ u143_h0_9.toInt ≤ 1 ∨ u143_h0_9.toInt = 4 → W p l e rm_X12_readLine s m args below meth c H143 lc143 0 0 Q (F0 m 143 ls []) := by
    intro H143 lc143 ls u143_h0_5 u143_h0_8 u143_h0_9 gH143 hl f143_1 f143_2 f143_3 f143_4 f143_5 f143_6 s143_u143_h0_4 s143_u143_h0_5 s143_u143_h0_27 s143_u143_h0_14 s143_u143_h0_8 s143_u143_h0_9 f143_7 f143_8 f143_9
    refine lv_aload_n hx hb dX12_readLine_143 rfl (lv_at hl 0 rfl) ?_
    refine lv_aload_n hx hb dX12_readLine_144 rfl (lv_at hl 0 rfl) ?_
    refine g_get B fl_RX12_169 gH143.1 kh0 rfl rfl rfl dX12_readLine_145 s143_u143_h0_9 ?_
    refine lv_iconst (v := 5) hx hb dX12_readLine_148 (by decide) ?_
    refine lv_icmp_ne (tgt := 156) hx hb dX12_readLine_149 (by decide) (fun c_8 => ?_) (fun c_8 => ?_)
    · have f_8 := z_ne c_8 rfl kl_5
      refine lv_iconst (v := 0) hx hb dX12_readLine_156 (by decide) ?_
      have := kl_0
      exact b157 H143 lc143 ls 0 u143_h0_5 u143_h0_8 u143_h0_9 gH143 (lv_sub hl [] rfl) (by omega) (by omega) (by omega) (by omega) (by omega) (by omega) (by omega) (by omega) s143_u143_h0_4 s143_u143_h0_5 s143_u143_h0_27 s143_u143_h0_14 s143_u143_h0_8 s143_u143_h0_9 (by omega) (by omega) (by omega) (by omega)
    · have f_8 := z_eq c_8 rfl kl_5
      refine lv_iconst (v := 1) hx hb dX12_readLine_152 (by decide) ?_
      refine lv_goto (tgt := 157) hx hb dX12_readLine_153 (by decide) ?_
      have := kl_1
      exact b157 H143 lc143 ls 1 u143_h0_5 u143_h0_8 u143_h0_9 gH143 (lv_sub hl [] rfl) (by omega) (by omega) (by omega) (by omega) (by omega) (by omega) (by omega) (by omega) s143_u143_h0_4 s143_u143_h0_5 s143_u143_h0_27 s143_u143_h0_14 s143_u143_h0_8 s143_u143_h0_9 (by omega) (by omega) (by omega) (by omega)
  have b131 : ∀ (H131 : Heap) (lc131 : List Loc) (ls : Array Slot) (u131_h0_5 : Int32) (u131_h0_8 : Int32) (u131_h0_9 : Int32), zG E wS_X12_readLine H0 H131 lc131 → lv_has ls 3 [(0, .ref h0), (1, .long nm)] → 0 ≤ u131_h0_5.toInt → u131_h0_5.toInt ≤ 5 → 0 ≤ u131_h0_8.toInt → u131_h0_8.toInt ≤ 1600 → 0 ≤ u131_h0_9.toInt → u131_h0_9.toInt ≤ 5 → sl H131 h0 (zix E 13 4) = some (.int sz) → sl H131 h0 (zix E 13 5) = some (.int u131_h0_5) → sl H131 h0 (zix E 13 27) = some (.int rbv) → sl H131 h0 (zix E 13 14) = some (.ref pa) → sl H131 h0 (zix E 13 8) = some (.int u131_h0_8) → sl H131 h0 (zix E 13 9) = some (.int u131_h0_9) → e0.toInt ≤ u131_h0_8.toInt → u131_h0_8.toInt ≤ sz.toInt → u131_h0_5.toInt ≠ 0 ∨ e0.toInt < u131_h0_8.toInt ∨ u131_h0_9.toInt ≤ 1 ∨ u131_h0_9.toInt = 4 → W p l e rm_X12_readLine s m args below meth c H131 lc131 0 0 Q (F0 m 131 ls []) := by
    intro H131 lc131 ls u131_h0_5 u131_h0_8 u131_h0_9 gH131 hl f131_1 f131_2 f131_3 f131_4 f131_5 f131_6 s131_u131_h0_4 s131_u131_h0_5 s131_u131_h0_27 s131_u131_h0_14 s131_u131_h0_8 s131_u131_h0_9 f131_7 f131_8 f131_9
    refine lv_lload_n hx hb dX12_readLine_131 rfl (lv_at hl 1 rfl) ?_
    refine lv_ldc2 hx hb B.2.2.2.1 (B.2.2.2.2.1 _ (mc_wsL_law_r26 _ (List.mem_of_getElem? (i := 6) rfl))) dX12_readLine_132 ?_
    refine W.lcmp hx hb dX12_readLine_135 ?_
    refine lv_topi (fun x_9 e_9 => ?_)
    have t_9 := z_lcmpI e_9
    have := kL_439904990056
    refine lv_if_ne (tgt := 143) hx hb dX12_readLine_136 (by decide) (fun c_10 => ?_) (fun c_10 => ?_)
    · have f_10 := z_ne c_10 rfl kl_0
      exact b143 H131 lc131 ls u131_h0_5 u131_h0_8 u131_h0_9 gH131 (lv_sub hl [0] rfl) (by omega) (by omega) (by omega) (by omega) (by omega) (by omega) s131_u131_h0_4 s131_u131_h0_5 s131_u131_h0_27 s131_u131_h0_14 s131_u131_h0_8 s131_u131_h0_9 (by omega) (by omega) (by omega)
    · have f_10 := z_eq c_10 rfl kl_0
      refine lv_aload_n hx hb dX12_readLine_139 rfl (lv_at hl 0 rfl) ?_
      obtain ⟨q_11, s_11, k_q_11⟩ := HT.atR gH131.1 kh0 rfl (j := 16) (by decide) rfl
      obtain ⟨x_12, s_12, a_12, b_12⟩ := HT.elI (i := rbv) (N := 2) gH131.1 k_q_11 rfl rfl rfl (by omega) (by omega) rfl
      refine zkV (zrV (rest := []) B (c_X12_readFlash l E hV H131 gH131.1 h0 kh0 u131_h0_8 s131_u131_h0_8 (by omega) (by omega) sz s131_u131_h0_4 u131_h0_9 s131_u131_h0_9 u131_h0_5 s131_u131_h0_5 rbv s131_u131_h0_27 q_11 k_q_11 s_11 x_12 s_12 (by omega)) cl_RX12_247 gH131.1 kh0 rfl rfl rfl rfl hl.1 rfl (Nat.le_of_ble_eq_true rfl) dX12_readLine_140 rfl rfl ⟨rfl, rfl⟩ ⟨Nat.zero_le _, Nat.zero_le _⟩ (zO.of gH131 hh)) gH131 rfl (fun H13 lc13 hp_13 gH13 rH13 => ?_)
      have s_14 := rH13.keep hV kh0 rfl s131_u131_h0_4
      have s_15 := rH13.keep hV kh0 rfl s131_u131_h0_27
      have s_16 := rH13.keep hV kh0 rfl s131_u131_h0_14
      obtain ⟨k_17, sk_17, ak_17, bk_17, fk_17_0, fk_17_1, k_18, sk_18, ak_18, bk_18, fk_18_0, k_19, sk_19, ak_19, bk_19, fk_19_0⟩ := hp_13
      exact b143 H13 lc13 ls k_19 k_17 k_18 gH13 (lv_sub hl [0] rfl) (by omega) (by omega) (by omega) (by omega) (by omega) (by omega) s_14 sk_19 s_15 s_16 sk_17 sk_18 (by omega) (by omega) (by omega)
  have b128 : ∀ (H128 : Heap) (lc128 : List Loc) (ls : Array Slot) (w128_0 : Int32) (u128_h0_5 : Int32) (u128_h0_8 : Int32) (u128_h0_9 : Int32), zG E wS_X12_readLine H0 H128 lc128 → lv_has ls 3 [(0, .ref h0), (1, .long nm)] → 0 ≤ w128_0.toInt → w128_0.toInt ≤ 1 → 0 ≤ u128_h0_5.toInt → u128_h0_5.toInt ≤ 5 → 0 ≤ u128_h0_8.toInt → u128_h0_8.toInt ≤ 1600 → 0 ≤ u128_h0_9.toInt → u128_h0_9.toInt ≤ 5 → sl H128 h0 (zix E 13 4) = some (.int sz) → sl H128 h0 (zix E 13 5) = some (.int u128_h0_5) → sl H128 h0 (zix E 13 27) = some (.int rbv) → sl H128 h0 (zix E 13 14) = some (.ref pa) → sl H128 h0 (zix E 13 8) = some (.int u128_h0_8) → sl H128 h0 (zix E 13 9) = some (.int u128_h0_9) → e0.toInt ≤ u128_h0_8.toInt → u128_h0_8.toInt ≤ sz.toInt → u128_h0_5.toInt ≠ 0 ∨ e0.toInt < u128_h0_8.toInt ∨ u128_h0_9.toInt ≤ 1 ∨ u128_h0_9.toInt = 4 → W p l e rm_X12_readLine s m args below meth c H128 lc128 0 0 Q (F0 m 128 ls [.int w128_0, .ref h0]) := by
    intro H128 lc128 ls w128_0 u128_h0_5 u128_h0_8 u128_h0_9 gH128 hl f128_1 f128_2 f128_3 f128_4 f128_5 f128_6 f128_7 f128_8 s128_u128_h0_4 s128_u128_h0_5 s128_u128_h0_27 s128_u128_h0_14 s128_u128_h0_8 s128_u128_h0_9 f128_9 f128_10 f128_11
    refine zkV (zrV (rest := []) B (c_X12_readMan l E hV H128 gH128.1 h0 kh0 w128_0 (by omega) (by omega) u128_h0_8 s128_u128_h0_8 (by omega) (by omega) sz s128_u128_h0_4 u128_h0_9 s128_u128_h0_9 u128_h0_5 s128_u128_h0_5 (by omega)) cl_RX12_243 gH128.1 kh0 rfl rfl rfl rfl hl.1 rfl (Nat.le_of_ble_eq_true rfl) dX12_readLine_128 rfl rfl ⟨rfl, rfl⟩ ⟨Nat.zero_le _, Nat.zero_le _⟩ (zO.of gH128 hh)) gH128 rfl (fun H20 lc20 hp_20 gH20 rH20 => ?_)
    have s_21 := rH20.keep hV kh0 rfl s128_u128_h0_4
    have s_22 := rH20.keep hV kh0 rfl s128_u128_h0_27
    have s_23 := rH20.keep hV kh0 rfl s128_u128_h0_14
    obtain ⟨k_24, sk_24, ak_24, bk_24, fk_24_0, fk_24_1, k_25, sk_25, ak_25, bk_25, fk_25_0, k_26, sk_26, ak_26, bk_26, fk_26_0⟩ := hp_20
    exact b131 H20 lc20 ls k_26 k_24 k_25 gH20 (lv_sub hl [0, 1] rfl) (by omega) (by omega) (by omega) (by omega) (by omega) (by omega) s_21 sk_26 s_22 s_23 sk_24 sk_25 (by omega) (by omega) (by omega)
  have b114 : ∀ (H114 : Heap) (lc114 : List Loc) (ls : Array Slot) (u114_h0_5 : Int32) (u114_h0_8 : Int32) (u114_h0_9 : Int32), zG E wS_X12_readLine H0 H114 lc114 → lv_has ls 3 [(0, .ref h0), (1, .long nm)] → 0 ≤ u114_h0_5.toInt → u114_h0_5.toInt ≤ 5 → 0 ≤ u114_h0_8.toInt → u114_h0_8.toInt ≤ 1600 → 0 ≤ u114_h0_9.toInt → u114_h0_9.toInt ≤ 5 → sl H114 h0 (zix E 13 4) = some (.int sz) → sl H114 h0 (zix E 13 5) = some (.int u114_h0_5) → sl H114 h0 (zix E 13 27) = some (.int rbv) → sl H114 h0 (zix E 13 14) = some (.ref pa) → sl H114 h0 (zix E 13 8) = some (.int u114_h0_8) → sl H114 h0 (zix E 13 9) = some (.int u114_h0_9) → e0.toInt ≤ u114_h0_8.toInt → u114_h0_8.toInt ≤ sz.toInt → u114_h0_5.toInt ≠ 0 ∨ e0.toInt < u114_h0_8.toInt ∨ u114_h0_9.toInt ≤ 1 ∨ u114_h0_9.toInt = 4 → W p l e rm_X12_readLine s m args below meth c H114 lc114 0 0 Q (F0 m 114 ls []) := by
    intro H114 lc114 ls u114_h0_5 u114_h0_8 u114_h0_9 gH114 hl f114_1 f114_2 f114_3 f114_4 f114_5 f114_6 s114_u114_h0_4 s114_u114_h0_5 s114_u114_h0_27 s114_u114_h0_14 s114_u114_h0_8 s114_u114_h0_9 f114_7 f114_8 f114_9
    refine lv_aload_n hx hb dX12_readLine_114 rfl (lv_at hl 0 rfl) ?_
    refine lv_lload_n hx hb dX12_readLine_115 rfl (lv_at hl 1 rfl) ?_
    refine lv_ldc2 hx hb B.2.2.2.1 (B.2.2.2.2.1 _ (mc_wsL_law_r26 _ (List.mem_of_getElem? (i := 4) rfl))) dX12_readLine_116 ?_
    refine W.lcmp hx hb dX12_readLine_119 ?_
    refine lv_topi (fun x_27 e_27 => ?_)
    have t_27 := z_lcmpI e_27
    have := kL_422725116779
    refine lv_if_ne (tgt := 127) hx hb dX12_readLine_120 (by decide) (fun c_28 => ?_) (fun c_28 => ?_)
    · have f_28 := z_ne c_28 rfl kl_0
      refine lv_iconst (v := 0) hx hb dX12_readLine_127 (by decide) ?_
      have := kl_0
      exact b128 H114 lc114 ls 0 u114_h0_5 u114_h0_8 u114_h0_9 gH114 (lv_sub hl [0, 1] rfl) (by omega) (by omega) (by omega) (by omega) (by omega) (by omega) (by omega) (by omega) s114_u114_h0_4 s114_u114_h0_5 s114_u114_h0_27 s114_u114_h0_14 s114_u114_h0_8 s114_u114_h0_9 (by omega) (by omega) (by omega)
    · have f_28 := z_eq c_28 rfl kl_0
      refine lv_iconst (v := 1) hx hb dX12_readLine_123 (by decide) ?_
      refine lv_goto (tgt := 128) hx hb dX12_readLine_124 (by decide) ?_
      have := kl_1
      exact b128 H114 lc114 ls 1 u114_h0_5 u114_h0_8 u114_h0_9 gH114 (lv_sub hl [0, 1] rfl) (by omega) (by omega) (by omega) (by omega) (by omega) (by omega) (by omega) (by omega) s114_u114_h0_4 s114_u114_h0_5 s114_u114_h0_27 s114_u114_h0_14 s114_u114_h0_8 s114_u114_h0_9 (by omega) (by omega) (by omega)
  have b98 : ∀ (H98 : Heap) (lc98 : List Loc) (ls : Array Slot) (u98_h0_5 : Int32) (u98_h0_8 : Int32) (u98_h0_9 : Int32), zG E wS_X12_readLine H0 H98 lc98 → lv_has ls 3 [(0, .ref h0), (1, .long nm)] → 0 ≤ u98_h0_5.toInt → u98_h0_5.toInt ≤ 5 → 0 ≤ u98_h0_8.toInt → u98_h0_8.toInt ≤ 1600 → 0 ≤ u98_h0_9.toInt → u98_h0_9.toInt ≤ 5 → sl H98 h0 (zix E 13 4) = some (.int sz) → sl H98 h0 (zix E 13 5) = some (.int u98_h0_5) → sl H98 h0 (zix E 13 27) = some (.int rbv) → sl H98 h0 (zix E 13 14) = some (.ref pa) → sl H98 h0 (zix E 13 8) = some (.int u98_h0_8) → sl H98 h0 (zix E 13 9) = some (.int u98_h0_9) → e0.toInt ≤ u98_h0_8.toInt → u98_h0_8.toInt ≤ sz.toInt → u98_h0_5.toInt ≠ 0 ∨ e0.toInt < u98_h0_8.toInt ∨ u98_h0_9.toInt ≤ 1 ∨ u98_h0_9.toInt = 4 → W p l e rm_X12_readLine s m args below meth c H98 lc98 0 0 Q (F0 m 98 ls []) := by
    intro H98 lc98 ls u98_h0_5 u98_h0_8 u98_h0_9 gH98 hl f98_1 f98_2 f98_3 f98_4 f98_5 f98_6 s98_u98_h0_4 s98_u98_h0_5 s98_u98_h0_27 s98_u98_h0_14 s98_u98_h0_8 s98_u98_h0_9 f98_7 f98_8 f98_9
    refine lv_lload_n hx hb dX12_readLine_98 rfl (lv_at hl 1 rfl) ?_
    refine lv_ldc2 hx hb B.2.2.2.1 (B.2.2.2.2.1 _ (mc_wsL_law_r26 _ (List.mem_of_getElem? (i := 3) rfl))) dX12_readLine_99 ?_
    refine W.lcmp hx hb dX12_readLine_102 ?_
    refine lv_topi (fun x_29 e_29 => ?_)
    have t_29 := z_lcmpI e_29
    have := kL_512852849765
    refine lv_if_eq (tgt := 114) hx hb dX12_readLine_103 (by decide) (fun c_30 => ?_) (fun c_30 => ?_)
    · have f_30 := z_eq c_30 rfl kl_0
      exact b114 H98 lc98 ls u98_h0_5 u98_h0_8 u98_h0_9 gH98 (lv_sub hl [0, 1] rfl) (by omega) (by omega) (by omega) (by omega) (by omega) (by omega) s98_u98_h0_4 s98_u98_h0_5 s98_u98_h0_27 s98_u98_h0_14 s98_u98_h0_8 s98_u98_h0_9 (by omega) (by omega) (by omega)
    · have f_30 := z_ne c_30 rfl kl_0
      refine lv_lload_n hx hb dX12_readLine_106 rfl (lv_at hl 1 rfl) ?_
      refine lv_ldc2 hx hb B.2.2.2.1 (B.2.2.2.2.1 _ (mc_wsL_law_r26 _ (List.mem_of_getElem? (i := 4) rfl))) dX12_readLine_107 ?_
      refine W.lcmp hx hb dX12_readLine_110 ?_
      refine lv_topi (fun x_31 e_31 => ?_)
      have t_31 := z_lcmpI e_31
      have := kL_422725116779
      refine lv_if_ne (tgt := 131) hx hb dX12_readLine_111 (by decide) (fun c_32 => ?_) (fun c_32 => ?_)
      · have f_32 := z_ne c_32 rfl kl_0
        exact b131 H98 lc98 ls u98_h0_5 u98_h0_8 u98_h0_9 gH98 (lv_sub hl [0, 1] rfl) (by omega) (by omega) (by omega) (by omega) (by omega) (by omega) s98_u98_h0_4 s98_u98_h0_5 s98_u98_h0_27 s98_u98_h0_14 s98_u98_h0_8 s98_u98_h0_9 (by omega) (by omega) (by omega)
      · have f_32 := z_eq c_32 rfl kl_0
        exact b114 H98 lc98 ls u98_h0_5 u98_h0_8 u98_h0_9 gH98 (lv_sub hl [0, 1] rfl) (by omega) (by omega) (by omega) (by omega) (by omega) (by omega) s98_u98_h0_4 s98_u98_h0_5 s98_u98_h0_27 s98_u98_h0_14 s98_u98_h0_8 s98_u98_h0_9 (by omega) (by omega) (by omega)
  have b86 : ∀ (H86 : Heap) (lc86 : List Loc) (ls : Array Slot) (u86_h0_5 : Int32) (u86_h0_8 : Int32) (u86_h0_9 : Int32), zG E wS_X12_readLine H0 H86 lc86 → lv_has ls 3 [(0, .ref h0), (1, .long nm)] → 0 ≤ u86_h0_5.toInt → u86_h0_5.toInt ≤ 5 → 0 ≤ u86_h0_8.toInt → u86_h0_8.toInt ≤ 1600 → 0 ≤ u86_h0_9.toInt → u86_h0_9.toInt ≤ 5 → sl H86 h0 (zix E 13 4) = some (.int sz) → sl H86 h0 (zix E 13 5) = some (.int u86_h0_5) → sl H86 h0 (zix E 13 27) = some (.int rbv) → sl H86 h0 (zix E 13 14) = some (.ref pa) → sl H86 pa rbv.toNatClampNeg = some (.int pcv) → sl H86 h0 (zix E 13 8) = some (.int u86_h0_8) → sl H86 h0 (zix E 13 9) = some (.int u86_h0_9) → e0.toInt ≤ u86_h0_8.toInt → u86_h0_8.toInt ≤ sz.toInt → u86_h0_5.toInt ≠ 0 ∨ e0.toInt < u86_h0_8.toInt ∨ u86_h0_9.toInt ≤ 1 ∨ u86_h0_9.toInt = 4 → nm.toInt ≠ 482804589413 ∨ pcv.toInt ≤ 5 → W p l e rm_X12_readLine s m args below meth c H86 lc86 0 0 Q (F0 m 86 ls []) := by
    intro H86 lc86 ls u86_h0_5 u86_h0_8 u86_h0_9 gH86 hl f86_1 f86_2 f86_3 f86_4 f86_5 f86_6 s86_u86_h0_4 s86_u86_h0_5 s86_u86_h0_27 s86_u86_h0_14 s86_u86_pa_erbv s86_u86_h0_8 s86_u86_h0_9 f86_7 f86_8 f86_9 f86_10
    refine lv_lload_n hx hb dX12_readLine_86 rfl (lv_at hl 1 rfl) ?_
    refine lv_ldc2 hx hb B.2.2.2.1 (B.2.2.2.2.1 _ (mc_wsL_law_r25 _ (List.mem_of_getElem? (i := 22) rfl))) dX12_readLine_87 ?_
    refine W.lcmp hx hb dX12_readLine_90 ?_
    refine lv_topi (fun x_33 e_33 => ?_)
    have t_33 := z_lcmpI e_33
    have := kL_482804589413
    refine lv_if_ne (tgt := 98) hx hb dX12_readLine_91 (by decide) (fun c_34 => ?_) (fun c_34 => ?_)
    · have f_34 := z_ne c_34 rfl kl_0
      exact b98 H86 lc86 ls u86_h0_5 u86_h0_8 u86_h0_9 gH86 (lv_sub hl [0, 1] rfl) (by omega) (by omega) (by omega) (by omega) (by omega) (by omega) s86_u86_h0_4 s86_u86_h0_5 s86_u86_h0_27 s86_u86_h0_14 s86_u86_h0_8 s86_u86_h0_9 (by omega) (by omega) (by omega)
    · have f_34 := z_eq c_34 rfl kl_0
      refine lv_aload_n hx hb dX12_readLine_94 rfl (lv_at hl 0 rfl) ?_
      refine zkV (zrV (rest := []) B (c_X12_readPiece l E hV H86 gH86.1 h0 kh0 u86_h0_8 s86_u86_h0_8 (by omega) (by omega) sz s86_u86_h0_4 u86_h0_9 s86_u86_h0_9 u86_h0_5 s86_u86_h0_5 rbv s86_u86_h0_27 pa kpa s86_u86_h0_14 pcv s86_u86_pa_erbv (by omega) (by omega) (by omega)) cl_RX12_240 gH86.1 kh0 rfl rfl rfl rfl hl.1 rfl (Nat.le_of_ble_eq_true rfl) dX12_readLine_95 rfl rfl ⟨rfl, rfl⟩ ⟨Nat.zero_le _, Nat.zero_le _⟩ (zO.of gH86 hh)) gH86 rfl (fun H35 lc35 hp_35 gH35 rH35 => ?_)
      have s_36 := rH35.keep hV kh0 rfl s86_u86_h0_4
      have s_37 := rH35.keep hV kh0 rfl s86_u86_h0_27
      have s_38 := rH35.keep hV kh0 rfl s86_u86_h0_14
      obtain ⟨k_39, sk_39, ak_39, bk_39, fk_39_0, fk_39_1, k_40, sk_40, ak_40, bk_40, fk_40_0, k_41, sk_41, ak_41, bk_41, fk_41_0⟩ := hp_35
      exact b98 H35 lc35 ls k_41 k_39 k_40 gH35 (lv_sub hl [0, 1] rfl) (by omega) (by omega) (by omega) (by omega) (by omega) (by omega) s_36 sk_41 s_37 s_38 sk_39 sk_40 (by omega) (by omega) (by omega)
  have b24 : ∀ (H24 : Heap) (lc24 : List Loc) (ls : Array Slot) (u24_h0_5 : Int32), zG E wS_X12_readLine H0 H24 lc24 → lv_has ls 3 [(0, .ref h0), (1, .long nm)] → 0 ≤ u24_h0_5.toInt → u24_h0_5.toInt ≤ 5 → sl H24 h0 (zix E 13 8) = some (.int e0) → sl H24 h0 (zix E 13 4) = some (.int sz) → sl H24 h0 (zix E 13 9) = some (.int t0) → sl H24 h0 (zix E 13 5) = some (.int u24_h0_5) → sl H24 h0 (zix E 13 11) = some (.long nm) → sl H24 h0 (zix E 13 27) = some (.int rbv) → sl H24 h0 (zix E 13 14) = some (.ref pa) → sl H24 pa rbv.toNatClampNeg = some (.int pcv) → u24_h0_5.toInt ≠ 0 ∨ (t0.toInt = 3 ∧ (nm.toInt ≠ 482804589413 ∨ pcv.toInt ≤ 5)) → W p l e rm_X12_readLine s m args below meth c H24 lc24 0 0 Q (F0 m 24 ls []) := by
    intro H24 lc24 ls u24_h0_5 gH24 hl f24_1 f24_2 s24_u24_h0_8 s24_u24_h0_4 s24_u24_h0_9 s24_u24_h0_5 s24_u24_h0_11 s24_u24_h0_27 s24_u24_h0_14 s24_u24_pa_erbv f24_3
    refine lv_aload_n hx hb dX12_readLine_24 rfl (lv_at hl 0 rfl) ?_
    refine zkPI (zrV (rest := []) B (c_X12_isGood l E hV H24 gH24.1 h0 kh0 u24_h0_5 s24_u24_h0_5) cl_RX12_194 gH24.1 kh0 rfl rfl rfl rfl hl.1 rfl (Nat.le_of_ble_eq_true rfl) dX12_readLine_25 rfl rfl ⟨rfl, rfl⟩ ⟨Nat.zero_le _, Nat.zero_le _⟩ (zO.of gH24 hh)) (fun x_42 hp_42 => ?_)
    obtain ⟨hp_42_1, hp_42_2, hp_42_3⟩ := hp_42
    refine lv_if_ne (tgt := 32) hx hb dX12_readLine_28 (by decide) (fun c_43 => ?_) (fun c_43 => ?_)
    · have f_43 := z_ne c_43 rfl kl_0
      refine lv_aload_n hx hb dX12_readLine_32 rfl (lv_at hl 0 rfl) ?_
      refine zkV (zrV (rest := []) B (c_X12_goOn l E hV H24 gH24.1 h0 kh0 e0 s24_u24_h0_8 (by omega) (by omega) sz s24_u24_h0_4 (by omega)) cl_RX12_198 gH24.1 kh0 rfl rfl rfl rfl hl.1 rfl (Nat.le_of_ble_eq_true rfl) dX12_readLine_33 rfl rfl ⟨rfl, rfl⟩ ⟨Nat.zero_le _, Nat.zero_le _⟩ (zO.of gH24 hh)) gH24 rfl (fun H44 lc44 hp_44 gH44 rH44 => ?_)
      have s_45 := rH44.keep hV kh0 rfl s24_u24_h0_4
      have s_46 := rH44.keep hV kh0 rfl s24_u24_h0_5
      have s_47 := rH44.keep hV kh0 rfl s24_u24_h0_27
      have s_48 := rH44.keep hV kh0 rfl s24_u24_h0_14
      have s_49 := rH44.keepA kpa rfl s24_u24_pa_erbv
      obtain ⟨k_50, sk_50, ak_50, bk_50, fk_50_0, fk_50_1, k_51, sk_51, ak_51, bk_51, fk_51_0⟩ := hp_44
      refine lv_lload_n hx hb dX12_readLine_36 rfl (lv_at hl 1 rfl) ?_
      refine lv_ldc2 hx hb B.2.2.2.1 (B.2.2.2.2.1 _ (mc_wsL_law_r25 _ (List.mem_of_getElem? (i := 20) rfl))) dX12_readLine_37 ?_
      refine W.lcmp hx hb dX12_readLine_40 ?_
      refine lv_topi (fun x_52 e_52 => ?_)
      have t_52 := z_lcmpI e_52
      have := kL_422775452260
      refine lv_if_ne (tgt := 86) hx hb dX12_readLine_41 (by decide) (fun c_53 => ?_) (fun c_53 => ?_)
      · have f_53 := z_ne c_53 rfl kl_0
        exact b86 H44 lc44 ls u24_h0_5 k_50 k_51 gH44 (lv_sub hl [0, 1] rfl) (by omega) (by omega) (by omega) (by omega) (by omega) (by omega) s_45 s_46 s_47 s_48 s_49 sk_50 sk_51 (by omega) (by omega) (by omega) (by omega)
      · have f_53 := z_eq c_53 rfl kl_0
        refine lv_aload_n hx hb dX12_readLine_44 rfl (lv_at hl 0 rfl) ?_
        refine g_getR B fl_RX12_24 gH44.1 kh0 rfl rfl rfl rfl rfl dX12_readLine_45 (fun q_54 s_54 k_q_54 => ?_)
        refine lv_aload_n hx hb dX12_readLine_48 rfl (lv_at hl 0 rfl) ?_
        refine g_get B fl_RX12_204 gH44.1 kh0 rfl rfl rfl dX12_readLine_49 s_47 ?_
        refine lv_aload_n hx hb dX12_readLine_52 rfl (lv_at hl 0 rfl) ?_
        refine lv_iconst (v := 1) hx hb dX12_readLine_53 (by decide) ?_
        refine lv_iconst (v := 5) hx hb dX12_readLine_54 (by decide) ?_
        have := kl_1
        have := kl_5
        obtain ⟨x_55, s_55, a_55, b_55⟩ := HT.atI gH44.1 kh0 rfl (j := 10) (by decide) rfl
        have := kl_1
        have := kl_5
        refine zkI (zrV (rest := [.int rbv, .ref q_54]) B (c_X12_numeral l E hV H44 gH44.1 h0 kh0 1 (by omega) (by omega) 5 (by omega) (by omega) k_50 sk_50 (by omega) (by omega) sz s_45 k_51 sk_51 u24_h0_5 s_46 x_55 s_55 (by omega)) cl_RX12_232 gH44.1 kh0 rfl rfl rfl rfl hl.1 rfl (Nat.le_of_ble_eq_true rfl) dX12_readLine_55 rfl rfl ⟨rfl, rfl⟩ ⟨Nat.zero_le _, Nat.zero_le _⟩ (zO.of gH44 hh)) gH44 rfl (fun x_56 H56 lc56 hp_56 gH56 rH56 => ?_)
        have s_57 := rH56.keep hV kh0 rfl s_45
        have s_58 := rH56.keep hV kh0 rfl s_47
        have s_59 := rH56.keep hV kh0 rfl s_48
        have s_60 := rH56.keepA kpa rfl s_49
        obtain ⟨hp_56_1, hp_56_2, hp_56_3, k_61, sk_61, ak_61, bk_61, fk_61_0, fk_61_1, k_62, sk_62, ak_62, bk_62, fk_62_0, k_63, sk_63, ak_63, bk_63, fk_63_0⟩ := hp_56
        have := kl_1
        have := kl_5
        refine g_iastI (i := rbv) (N := 2) B hV gH56 k_q_54 rfl rfl rfl rfl (by omega) (by omega) rfl (by omega) (by omega) rfl dX12_readLine_58 (fun H64 lc64 gH64 uH64 => ?_)
        have s_65 := uH64.keep (Or.inl (k_ne kh0 k_q_54 rfl)) s_57
        have s_66 := uH64.keep (Or.inl (k_ne kh0 k_q_54 rfl)) s_58
        have s_67 := uH64.keep (Or.inl (k_ne kh0 k_q_54 rfl)) s_59
        have s_68 := uH64.keep (Or.inl (k_ne kpa k_q_54 rfl)) s_60
        have s_69 := uH64.keep (Or.inl (k_ne kh0 k_q_54 rfl)) sk_61
        have s_70 := uH64.keep (Or.inl (k_ne kh0 k_q_54 rfl)) sk_62
        have s_71 := uH64.keep (Or.inl (k_ne kh0 k_q_54 rfl)) sk_63
        refine lv_aload_n hx hb dX12_readLine_59 rfl (lv_at hl 0 rfl) ?_
        refine lv_aload_n hx hb dX12_readLine_60 rfl (lv_at hl 0 rfl) ?_
        refine lv_ldc2 hx hb B.2.2.2.1 (B.2.2.2.2.1 _ (mc_wsL_law_r25 _ (List.mem_of_getElem? (i := 21) rfl))) dX12_readLine_61 ?_
        obtain ⟨y_72, s_72⟩ := HT.atL gH64.1 kh0 rfl (j := 11) (by decide) rfl
        refine zkPI (zrV (rest := [.ref h0]) B (c_X12_isWord l E hV H64 gH64.1 h0 kh0 (25209 : Int64) k_62 s_70 y_72 s_72) cl_RX12_226 gH64.1 kh0 rfl rfl rfl rfl hl.1 rfl (Nat.le_of_ble_eq_true rfl) dX12_readLine_64 rfl rfl ⟨rfl, rfl⟩ ⟨Nat.zero_le _, Nat.zero_le _⟩ (zO.of gH64 hh)) (fun x_73 hp_73 => ?_)
        obtain ⟨hp_73_1, hp_73_2, hp_73_3⟩ := hp_73
        have := kL_25209
        refine zkV (zrV (rest := []) B (c_X12_must l E hV H64 gH64.1 h0 kh0 x_73 (by omega) (by omega) k_61 s_69 (by omega) (by omega) sz s_65 k_62 s_70 k_63 s_71 (by omega)) cl_RX12_236 gH64.1 kh0 rfl rfl rfl rfl hl.1 rfl (Nat.le_of_ble_eq_true rfl) dX12_readLine_67 rfl rfl ⟨rfl, rfl⟩ ⟨Nat.zero_le _, Nat.zero_le _⟩ (zO.of gH64 hh)) gH64 rfl (fun H74 lc74 hp_74 gH74 rH74 => ?_)
        have s_75 := rH74.keep hV kh0 rfl s_65
        have s_76 := rH74.keep hV kh0 rfl s_66
        have s_77 := rH74.keep hV kh0 rfl s_67
        have s_78 := rH74.keepA kpa rfl s_68
        obtain ⟨k_79, sk_79, ak_79, bk_79, fk_79_0, fk_79_1, k_80, sk_80, ak_80, bk_80, fk_80_0, k_81, sk_81, ak_81, bk_81, fk_81_0, fk_81_1⟩ := hp_74
        refine lv_aload_n hx hb dX12_readLine_70 rfl (lv_at hl 0 rfl) ?_
        refine g_getR B fl_RX12_27 gH74.1 kh0 rfl rfl rfl rfl rfl dX12_readLine_71 (fun q_82 s_82 k_q_82 => ?_)
        refine lv_aload_n hx hb dX12_readLine_74 rfl (lv_at hl 0 rfl) ?_
        refine g_get B fl_RX12_204 gH74.1 kh0 rfl rfl rfl dX12_readLine_75 s_76 ?_
        refine lv_aload_n hx hb dX12_readLine_78 rfl (lv_at hl 0 rfl) ?_
        refine lv_iconst (v := 1) hx hb dX12_readLine_79 (by decide) ?_
        refine lv_bipush (v := 6) hx hb dX12_readLine_80 (by decide) ?_
        have := kl_1
        have := kl_6
        obtain ⟨x_83, s_83, a_83, b_83⟩ := HT.atI gH74.1 kh0 rfl (j := 10) (by decide) rfl
        have := kl_1
        have := kl_6
        refine zkI (zrV (rest := [.int rbv, .ref q_82]) B (c_X12_numeral l E hV H74 gH74.1 h0 kh0 1 (by omega) (by omega) 6 (by omega) (by omega) k_79 sk_79 (by omega) (by omega) sz s_75 k_80 sk_80 k_81 sk_81 x_83 s_83 (by omega)) cl_RX12_232 gH74.1 kh0 rfl rfl rfl rfl hl.1 rfl (Nat.le_of_ble_eq_true rfl) dX12_readLine_82 rfl rfl ⟨rfl, rfl⟩ ⟨Nat.zero_le _, Nat.zero_le _⟩ (zO.of gH74 hh)) gH74 rfl (fun x_84 H84 lc84 hp_84 gH84 rH84 => ?_)
        have s_85 := rH84.keep hV kh0 rfl s_75
        have s_86 := rH84.keep hV kh0 rfl s_76
        have s_87 := rH84.keep hV kh0 rfl s_77
        have s_88 := rH84.keepA kpa rfl s_78
        obtain ⟨hp_84_1, hp_84_2, hp_84_3, k_89, sk_89, ak_89, bk_89, fk_89_0, fk_89_1, k_90, sk_90, ak_90, bk_90, fk_90_0, k_91, sk_91, ak_91, bk_91, fk_91_0⟩ := hp_84
        have := kl_1
        have := kl_6
        refine g_iastI (i := rbv) (N := 2) B hV gH84 k_q_82 rfl rfl rfl rfl (by omega) (by omega) rfl (by omega) (by omega) rfl dX12_readLine_85 (fun H92 lc92 gH92 uH92 => ?_)
        have s_93 := uH92.keep (Or.inl (k_ne kh0 k_q_82 rfl)) s_85
        have s_94 := uH92.keep (Or.inl (k_ne kh0 k_q_82 rfl)) s_86
        have s_95 := uH92.keep (Or.inl (k_ne kh0 k_q_82 rfl)) s_87
        have s_96 := uH92.keep (Or.inl (k_ne kpa k_q_82 rfl)) s_88
        have s_97 := uH92.keep (Or.inl (k_ne kh0 k_q_82 rfl)) sk_89
        have s_98 := uH92.keep (Or.inl (k_ne kh0 k_q_82 rfl)) sk_90
        have s_99 := uH92.keep (Or.inl (k_ne kh0 k_q_82 rfl)) sk_91
        exact b86 H92 lc92 ls k_91 k_89 k_90 gH92 (lv_sub hl [0, 1] rfl) (by omega) (by omega) (by omega) (by omega) (by omega) (by omega) s_93 s_99 s_94 s_95 s_96 s_97 s_98 (by omega) (by omega) (by omega) (by omega)
    · have f_43 := z_eq c_43 rfl kl_0
      exact rtV B hr hlk hh hQ gH24 ⟨e0, s24_u24_h0_8, by omega, by omega, by omega, by omega, u24_h0_5, s24_u24_h0_5, by omega, by omega, by omega⟩ dX12_readLine_31
  have b20 : ∀ (ls : Array Slot), lv_has ls 3 [(0, .ref h0), (1, .long nm)] → sl H0 h0 (zix E 13 8) = some (.int e0) → sl H0 h0 (zix E 13 4) = some (.int sz) → sl H0 h0 (zix E 13 9) = some (.int t0) → sl H0 h0 (zix E 13 5) = some (.int fk) → sl H0 h0 (zix E 13 11) = some (.long nm) → sl H0 h0 (zix E 13 27) = some (.int rbv) → sl H0 h0 (zix E 13 14) = some (.ref pa) → sl H0 pa rbv.toNatClampNeg = some (.int pcv) → W p l e rm_X12_readLine s m args below meth c H0 [] 0 0 Q (F0 m 20 ls []) := by
    intro ls hl s20_u20_h0_8 s20_u20_h0_4 s20_u20_h0_9 s20_u20_h0_5 s20_u20_h0_11 s20_u20_h0_27 s20_u20_h0_14 s20_u20_pa_erbv
    refine lv_aload_n hx hb dX12_readLine_20 rfl (lv_at hl 0 rfl) ?_
    refine zkV (zrV (rest := []) B (c_X12_misplaced l E hV H0 hT0 h0 kh0 fk s20_u20_h0_5) cl_RX12_201 hT0 kh0 rfl rfl rfl rfl hl.1 rfl (Nat.le_of_ble_eq_true rfl) dX12_readLine_21 rfl rfl ⟨rfl, rfl⟩ ⟨Nat.zero_le _, Nat.zero_le _⟩ (zO.of hG0 hh)) hG0 rfl (fun H100 lc100 hp_100 gH100 rH100 => ?_)
    have s_101 := rH100.keep hV kh0 rfl s20_u20_h0_8
    have s_102 := rH100.keep hV kh0 rfl s20_u20_h0_4
    have s_103 := rH100.keep hV kh0 rfl s20_u20_h0_9
    have s_104 := rH100.keep hV kh0 rfl s20_u20_h0_11
    have s_105 := rH100.keep hV kh0 rfl s20_u20_h0_27
    have s_106 := rH100.keep hV kh0 rfl s20_u20_h0_14
    have s_107 := rH100.keepA kpa rfl s20_u20_pa_erbv
    obtain ⟨k_108, sk_108, ak_108, bk_108⟩ := hp_100
    exact b24 H100 lc100 ls k_108 gH100 (lv_sub hl [0, 1] rfl) (by omega) (by omega) s_101 s_102 s_103 sk_108 s_104 s_105 s_106 s_107 (by omega)
  refine lv_aload_n hx hb dX12_readLine_0 rfl (lv_at hl 0 rfl) ?_
  refine g_get B fl_RX12_176 hT0 kh0 rfl rfl rfl dX12_readLine_1 s_nm ?_
  refine lv_lstore_n (lv' := [(1, .long nm), (0, .ref h0)]) hx hb dX12_readLine_4 rfl hl (by decide) rfl (fun ls hl => ?_)
  refine lv_aload_n hx hb dX12_readLine_5 rfl (lv_at hl 1 rfl) ?_
  refine g_get B fl_RX12_169 hT0 kh0 rfl rfl rfl dX12_readLine_6 s_t0 ?_
  refine lv_iconst (v := 3) hx hb dX12_readLine_9 (by decide) ?_
  refine lv_icmp_ne (tgt := 20) hx hb dX12_readLine_10 (by decide) (fun c_109 => ?_) (fun c_109 => ?_)
  · have f_109 := z_ne c_109 rfl kl_3
    exact b20 ls (lv_sub hl [1, 0] rfl) s_e0 s_sz s_t0 s_fk s_nm s_rbv s_pa s_pcv
  · have f_109 := z_eq c_109 rfl kl_3
    refine lv_aload_n hx hb dX12_readLine_13 rfl (lv_at hl 1 rfl) ?_
    refine zkPI (zrV (rest := []) B (c_X12_isFull l E hV H0 hT0 h0 kh0 t0 s_t0 nm s_nm pa kpa s_pa rbv s_rbv pcv s_pcv) cl_RX12_229 hT0 kh0 rfl rfl rfl rfl hl.1 rfl (Nat.le_of_ble_eq_true rfl) dX12_readLine_14 rfl rfl ⟨rfl, rfl⟩ ⟨Nat.zero_le _, Nat.zero_le _⟩ (zO.of hG0 hh)) (fun x_110 hp_110 => ?_)
    obtain ⟨hp_110_1, hp_110_2, hp_110_3⟩ := hp_110
    refine lv_if_eq (tgt := 24) hx hb dX12_readLine_17 (by decide) (fun c_111 => ?_) (fun c_111 => ?_)
    · have f_111 := z_eq c_111 rfl kl_0
      exact b24 H0 [] ls fk hG0 (lv_sub hl [1, 0] rfl) (by omega) (by omega) s_e0 s_sz s_t0 s_fk s_nm s_rbv s_pa s_pcv (by omega)
    · have f_111 := z_ne c_111 rfl kl_0
      exact b20 ls (lv_sub hl [1, 0] rfl) s_e0 s_sz s_t0 s_fk s_nm s_rbv s_pa s_pcv

theorem dX12_copy_0 : decode cX12_copy 0 = .ok (.iconst 0, 1) := by decide +kernel
theorem dX12_copy_1 : decode cX12_copy 1 = .ok (.istore_n 3, 1) := by decide +kernel
theorem dX12_copy_2 : decode cX12_copy 2 = .ok (.iload_n 3, 1) := by decide +kernel
theorem dX12_copy_3 : decode cX12_copy 3 = .ok (.bipush 31, 2) := by decide +kernel
theorem dX12_copy_5 : decode cX12_copy 5 = .ok (.if_icmp .ge 21, 3) := by decide +kernel
theorem dX12_copy_8 : decode cX12_copy 8 = .ok (.aload_n 0, 1) := by decide +kernel
theorem dX12_copy_9 : decode cX12_copy 9 = .ok (.iload_n 2, 1) := by decide +kernel
theorem dX12_copy_10 : decode cX12_copy 10 = .ok (.iload_n 3, 1) := by decide +kernel
theorem dX12_copy_11 : decode cX12_copy 11 = .ok (.aload_n 0, 1) := by decide +kernel
theorem dX12_copy_12 : decode cX12_copy 12 = .ok (.iload_n 1, 1) := by decide +kernel
theorem dX12_copy_13 : decode cX12_copy 13 = .ok (.iload_n 3, 1) := by decide +kernel
theorem dX12_copy_14 : decode cX12_copy 14 = .ok (.invokevirtual 257, 3) := by decide +kernel
theorem dX12_copy_17 : decode cX12_copy 17 = .ok (.invokevirtual 210, 3) := by decide +kernel
theorem dX12_copy_20 : decode cX12_copy 20 = .ok (.iinc 3 1, 3) := by decide +kernel
theorem dX12_copy_23 : decode cX12_copy 23 = .ok (.goto (-21), 3) := by decide +kernel
theorem dX12_copy_26 : decode cX12_copy 26 = .ok (.return_, 1) := by decide +kernel
def rm_X12_copy : Room := { frames := 1, cells := 0, slots := 0, locals := 23 }
abbrev wS_X12_copy : List (Nat × Nat) := [(60, 99)]
set_option maxRecDepth 100000 in
set_option maxHeartbeats 4000000 in
theorem c_X12_copy (l : Launch) (E : zE) (hV : zV E) (H0 : Heap) (hT0 : HT E H0) (h0 : Nat) (kh0 : eK E h0 = 13) (p0 : Int32) (p0_lo : 0 ≤ p0.toInt) (p0_hi : p0.toInt ≤ 195) (p1 : Int32) (p1_lo : 0 ≤ p1.toInt) (p1_hi : p1.toInt ≤ 195) : Met l yX12_copy (zws yX12_copy cX12_copy 4 none) rm_X12_copy (zP E H0 [.ref h0, .int p0, .int p1]) (zQV E E wS_X12_copy (fun H1 => True)) 0 0 (zfr E) := by
  refine zEnt (by decide) (Nat.le_of_ble_eq_true rfl) (fun p e s m args below meth c ls Q B hr hlk hh hQ hl => ?_)
  have hx := B.1
  have hb := B.2.1
  have hG0 : zG E wS_X12_copy H0 H0 [] := zG.rf hT0
  have hl : lv_has ls 4 [(0, .ref h0), (1, .int p0), (2, .int p1)] := hl
  have b2 : ∀ (n2 : Nat) (H2 : Heap) (lc2 : List Loc) (ls : Array Slot) (v2_3 : Int32), 31 - v2_3.toInt < (n2 : Int) → zG E wS_X12_copy H0 H2 lc2 → lv_has ls 4 [(0, .ref h0), (1, .int p0), (2, .int p1), (3, .int v2_3)] → 0 ≤ v2_3.toInt → v2_3.toInt ≤ 31 → W p l e rm_X12_copy s m args below meth c H2 lc2 0 0 Q (F0 m 2 ls []) := by
    intro n2
    induction n2 with
    | zero =>
      intro H2 lc2 ls v2_3 hm2 gH2 hl f2_1 f2_2
      exact absurd hm2 (by omega)
    | succ n2 ih2 =>
      intro H2 lc2 ls v2_3 hm2 gH2 hl f2_1 f2_2
      refine lv_iload_n hx hb dX12_copy_2 rfl (lv_at hl 3 rfl) ?_
      refine lv_bipush (v := 31) hx hb dX12_copy_3 (by decide) ?_
      refine lv_icmp_ge (tgt := 26) hx hb dX12_copy_5 (by decide) (fun c_1 => ?_) (fun c_1 => ?_)
      · have f_1 := z_le c_1 kl_31 rfl
        exact rtV B hr hlk hh hQ gH2 trivial dX12_copy_26
      · have f_1 := z_nle c_1 kl_31 rfl
        refine lv_aload_n hx hb dX12_copy_8 rfl (lv_at hl 0 rfl) ?_
        refine lv_iload_n hx hb dX12_copy_9 rfl (lv_at hl 2 rfl) ?_
        refine lv_iload_n hx hb dX12_copy_10 rfl (lv_at hl 3 rfl) ?_
        refine lv_aload_n hx hb dX12_copy_11 rfl (lv_at hl 0 rfl) ?_
        refine lv_iload_n hx hb dX12_copy_12 rfl (lv_at hl 1 rfl) ?_
        refine lv_iload_n hx hb dX12_copy_13 rfl (lv_at hl 3 rfl) ?_
        obtain ⟨q_2, s_2, k_q_2⟩ := HT.atR gH2.1 kh0 rfl (j := 2) (by decide) rfl
        refine zkPI (zrV (rest := [.int v2_3, .int p1, .ref h0]) B (c_X12_of l E hV H2 gH2.1 h0 kh0 p0 (by omega) (by omega) v2_3 (by omega) (by omega) q_2 k_q_2 s_2) cl_RX12_257 gH2.1 kh0 rfl rfl rfl rfl hl.1 rfl (Nat.le_of_ble_eq_true rfl) dX12_copy_14 rfl rfl ⟨rfl, rfl⟩ ⟨Nat.zero_le _, Nat.zero_le _⟩ (zO.of gH2 hh)) (fun x_3 hp_3 => ?_)
        obtain ⟨hp_3_1, hp_3_2⟩ := hp_3
        refine zkV (zrV (rest := []) B (c_X12_put l E hV H2 gH2.1 h0 kh0 p1 (by omega) (by omega) v2_3 (by omega) (by omega) x_3 (by omega)) cl_RX12_210 gH2.1 kh0 rfl rfl rfl rfl hl.1 rfl (Nat.le_of_ble_eq_true rfl) dX12_copy_17 rfl rfl ⟨rfl, rfl⟩ ⟨Nat.zero_le _, Nat.zero_le _⟩ (zO.of gH2 hh)) gH2 rfl (fun H4 lc4 hp_4 gH4 rH4 => ?_)
        obtain ⟨x_5, e_5⟩ : ∃ y : Int32, (v2_3 : Int32) + Int32.ofInt 1 = y := ⟨_, rfl⟩
        refine lv_iinc (v := x_5) (lv' := [(3, .int x_5), (0, .ref h0), (1, .int p0), (2, .int p1)]) hx hb dX12_copy_20 hl (k := 3) rfl e_5 (by decide) rfl (fun ls hl => ?_)
        have t_5 := z_inc2 e_5 rfl (by decide) (by omega) (by omega)
        refine lv_goto (tgt := 2) hx hb dX12_copy_23 (by decide) ?_
        exact ih2 H4 lc4 ls x_5 (by omega) gH4 (lv_sub hl [1, 2, 3, 0] rfl) (by omega) (by omega)
  refine lv_iconst (v := 0) hx hb dX12_copy_0 (by decide) ?_
  refine lv_istore_n (lv' := [(3, .int 0), (0, .ref h0), (1, .int p0), (2, .int p1)]) hx hb dX12_copy_1 rfl hl (by decide) rfl (fun ls hl => ?_)
  have := kl_0
  exact b2 32 H0 [] ls 0 (by omega) hG0 (lv_sub hl [1, 2, 3, 0] rfl) (by omega) (by omega)

theorem dX12_clearBank_0 : decode cX12_clearBank 0 = .ok (.aload_n 0, 1) := by decide +kernel
theorem dX12_clearBank_1 : decode cX12_clearBank 1 = .ok (.getfield 24, 3) := by decide +kernel
theorem dX12_clearBank_4 : decode cX12_clearBank 4 = .ok (.aload_n 0, 1) := by decide +kernel
theorem dX12_clearBank_5 : decode cX12_clearBank 5 = .ok (.getfield 204, 3) := by decide +kernel
theorem dX12_clearBank_8 : decode cX12_clearBank 8 = .ok (.iconst 0, 1) := by decide +kernel
theorem dX12_clearBank_9 : decode cX12_clearBank 9 = .ok (.iastore, 1) := by decide +kernel
theorem dX12_clearBank_10 : decode cX12_clearBank 10 = .ok (.aload_n 0, 1) := by decide +kernel
theorem dX12_clearBank_11 : decode cX12_clearBank 11 = .ok (.getfield 27, 3) := by decide +kernel
theorem dX12_clearBank_14 : decode cX12_clearBank 14 = .ok (.aload_n 0, 1) := by decide +kernel
theorem dX12_clearBank_15 : decode cX12_clearBank 15 = .ok (.getfield 204, 3) := by decide +kernel
theorem dX12_clearBank_18 : decode cX12_clearBank 18 = .ok (.iconst 0, 1) := by decide +kernel
theorem dX12_clearBank_19 : decode cX12_clearBank 19 = .ok (.iastore, 1) := by decide +kernel
theorem dX12_clearBank_20 : decode cX12_clearBank 20 = .ok (.aload_n 0, 1) := by decide +kernel
theorem dX12_clearBank_21 : decode cX12_clearBank 21 = .ok (.getfield 30, 3) := by decide +kernel
theorem dX12_clearBank_24 : decode cX12_clearBank 24 = .ok (.aload_n 0, 1) := by decide +kernel
theorem dX12_clearBank_25 : decode cX12_clearBank 25 = .ok (.getfield 204, 3) := by decide +kernel
theorem dX12_clearBank_28 : decode cX12_clearBank 28 = .ok (.iconst 0, 1) := by decide +kernel
theorem dX12_clearBank_29 : decode cX12_clearBank 29 = .ok (.iastore, 1) := by decide +kernel
theorem dX12_clearBank_30 : decode cX12_clearBank 30 = .ok (.aload_n 0, 1) := by decide +kernel
theorem dX12_clearBank_31 : decode cX12_clearBank 31 = .ok (.getfield 33, 3) := by decide +kernel
theorem dX12_clearBank_34 : decode cX12_clearBank 34 = .ok (.aload_n 0, 1) := by decide +kernel
theorem dX12_clearBank_35 : decode cX12_clearBank 35 = .ok (.getfield 204, 3) := by decide +kernel
theorem dX12_clearBank_38 : decode cX12_clearBank 38 = .ok (.iconst 0, 1) := by decide +kernel
theorem dX12_clearBank_39 : decode cX12_clearBank 39 = .ok (.iastore, 1) := by decide +kernel
theorem dX12_clearBank_40 : decode cX12_clearBank 40 = .ok (.aload_n 0, 1) := by decide +kernel
theorem dX12_clearBank_41 : decode cX12_clearBank 41 = .ok (.getfield 36, 3) := by decide +kernel
theorem dX12_clearBank_44 : decode cX12_clearBank 44 = .ok (.aload_n 0, 1) := by decide +kernel
theorem dX12_clearBank_45 : decode cX12_clearBank 45 = .ok (.getfield 204, 3) := by decide +kernel
theorem dX12_clearBank_48 : decode cX12_clearBank 48 = .ok (.iconst 0, 1) := by decide +kernel
theorem dX12_clearBank_49 : decode cX12_clearBank 49 = .ok (.iastore, 1) := by decide +kernel
theorem dX12_clearBank_50 : decode cX12_clearBank 50 = .ok (.aload_n 0, 1) := by decide +kernel
theorem dX12_clearBank_51 : decode cX12_clearBank 51 = .ok (.getfield 61, 3) := by decide +kernel
theorem dX12_clearBank_54 : decode cX12_clearBank 54 = .ok (.iconst 2, 1) := by decide +kernel
theorem dX12_clearBank_55 : decode cX12_clearBank 55 = .ok (.aload_n 0, 1) := by decide +kernel
theorem dX12_clearBank_56 : decode cX12_clearBank 56 = .ok (.getfield 204, 3) := by decide +kernel
theorem dX12_clearBank_59 : decode cX12_clearBank 59 = .ok (.imul, 1) := by decide +kernel
theorem dX12_clearBank_60 : decode cX12_clearBank 60 = .ok (.iconst 0, 1) := by decide +kernel
theorem dX12_clearBank_61 : decode cX12_clearBank 61 = .ok (.bastore, 1) := by decide +kernel
theorem dX12_clearBank_62 : decode cX12_clearBank 62 = .ok (.aload_n 0, 1) := by decide +kernel
theorem dX12_clearBank_63 : decode cX12_clearBank 63 = .ok (.getfield 61, 3) := by decide +kernel
theorem dX12_clearBank_66 : decode cX12_clearBank 66 = .ok (.iconst 2, 1) := by decide +kernel
theorem dX12_clearBank_67 : decode cX12_clearBank 67 = .ok (.aload_n 0, 1) := by decide +kernel
theorem dX12_clearBank_68 : decode cX12_clearBank 68 = .ok (.getfield 204, 3) := by decide +kernel
theorem dX12_clearBank_71 : decode cX12_clearBank 71 = .ok (.imul, 1) := by decide +kernel
theorem dX12_clearBank_72 : decode cX12_clearBank 72 = .ok (.iconst 1, 1) := by decide +kernel
theorem dX12_clearBank_73 : decode cX12_clearBank 73 = .ok (.iadd, 1) := by decide +kernel
theorem dX12_clearBank_74 : decode cX12_clearBank 74 = .ok (.iconst 0, 1) := by decide +kernel
theorem dX12_clearBank_75 : decode cX12_clearBank 75 = .ok (.bastore, 1) := by decide +kernel
theorem dX12_clearBank_76 : decode cX12_clearBank 76 = .ok (.iconst 0, 1) := by decide +kernel
theorem dX12_clearBank_77 : decode cX12_clearBank 77 = .ok (.istore_n 1, 1) := by decide +kernel
theorem dX12_clearBank_78 : decode cX12_clearBank 78 = .ok (.iload_n 1, 1) := by decide +kernel
theorem dX12_clearBank_79 : decode cX12_clearBank 79 = .ok (.bipush 30, 2) := by decide +kernel
theorem dX12_clearBank_81 : decode cX12_clearBank 81 = .ok (.if_icmp .ge 23, 3) := by decide +kernel
theorem dX12_clearBank_84 : decode cX12_clearBank 84 = .ok (.aload_n 0, 1) := by decide +kernel
theorem dX12_clearBank_85 : decode cX12_clearBank 85 = .ok (.aload_n 0, 1) := by decide +kernel
theorem dX12_clearBank_86 : decode cX12_clearBank 86 = .ok (.aload_n 0, 1) := by decide +kernel
theorem dX12_clearBank_87 : decode cX12_clearBank 87 = .ok (.getfield 204, 3) := by decide +kernel
theorem dX12_clearBank_90 : decode cX12_clearBank 90 = .ok (.invokevirtual 207, 3) := by decide +kernel
theorem dX12_clearBank_93 : decode cX12_clearBank 93 = .ok (.iload_n 1, 1) := by decide +kernel
theorem dX12_clearBank_94 : decode cX12_clearBank 94 = .ok (.iconst (-1), 1) := by decide +kernel
theorem dX12_clearBank_95 : decode cX12_clearBank 95 = .ok (.invokevirtual 210, 3) := by decide +kernel
theorem dX12_clearBank_98 : decode cX12_clearBank 98 = .ok (.iinc 1 1, 3) := by decide +kernel
theorem dX12_clearBank_101 : decode cX12_clearBank 101 = .ok (.goto (-23), 3) := by decide +kernel
theorem dX12_clearBank_104 : decode cX12_clearBank 104 = .ok (.aload_n 0, 1) := by decide +kernel
theorem dX12_clearBank_105 : decode cX12_clearBank 105 = .ok (.aload_n 0, 1) := by decide +kernel
theorem dX12_clearBank_106 : decode cX12_clearBank 106 = .ok (.aload_n 0, 1) := by decide +kernel
theorem dX12_clearBank_107 : decode cX12_clearBank 107 = .ok (.getfield 204, 3) := by decide +kernel
theorem dX12_clearBank_110 : decode cX12_clearBank 110 = .ok (.invokevirtual 207, 3) := by decide +kernel
theorem dX12_clearBank_113 : decode cX12_clearBank 113 = .ok (.bipush 30, 2) := by decide +kernel
theorem dX12_clearBank_115 : decode cX12_clearBank 115 = .ok (.iconst 0, 1) := by decide +kernel
theorem dX12_clearBank_116 : decode cX12_clearBank 116 = .ok (.invokevirtual 210, 3) := by decide +kernel
theorem dX12_clearBank_119 : decode cX12_clearBank 119 = .ok (.return_, 1) := by decide +kernel
def rm_X12_clearBank : Room := { frames := 1, cells := 0, slots := 0, locals := 23 }
abbrev wS_X12_clearBank : List (Nat × Nat) := [(60, 99), (61, 99), (62, 99), (63, 99), (64, 99), (65, 99), (73, 99)]
set_option maxRecDepth 100000 in
set_option maxHeartbeats 4000000 in
theorem c_X12_clearBank (l : Launch) (E : zE) (hV : zV E) (H0 : Heap) (hT0 : HT E H0) (h0 : Nat) (kh0 : eK E h0 = 13) : Met l yX12_clearBank (zws yX12_clearBank cX12_clearBank 2 none) rm_X12_clearBank (zP E H0 [.ref h0]) (zQV E E wS_X12_clearBank (fun H1 => True)) 0 0 (zfr E) := by
  refine zEnt (by decide) (Nat.le_of_ble_eq_true rfl) (fun p e s m args below meth c ls Q B hr hlk hh hQ hl => ?_)
  have hx := B.1
  have hb := B.2.1
  have hG0 : zG E wS_X12_clearBank H0 H0 [] := zG.rf hT0
  have hl : lv_has ls 2 [(0, .ref h0)] := hl
  have b78 : ∀ (n78 : Nat) (H78 : Heap) (lc78 : List Loc) (ls : Array Slot) (v78_1 : Int32) (u78_h0_27 : Int32), 30 - v78_1.toInt < (n78 : Int) → zG E wS_X12_clearBank H0 H78 lc78 → lv_has ls 2 [(0, .ref h0), (1, .int v78_1)] → 0 ≤ v78_1.toInt → v78_1.toInt ≤ 30 → 0 ≤ u78_h0_27.toInt → u78_h0_27.toInt ≤ 1 → sl H78 h0 (zix E 13 27) = some (.int u78_h0_27) → W p l e rm_X12_clearBank s m args below meth c H78 lc78 0 0 Q (F0 m 78 ls []) := by
    intro n78
    induction n78 with
    | zero =>
      intro H78 lc78 ls v78_1 u78_h0_27 hm78 gH78 hl f78_1 f78_2 f78_3 f78_4 s78_u78_h0_27
      exact absurd hm78 (by omega)
    | succ n78 ih78 =>
      intro H78 lc78 ls v78_1 u78_h0_27 hm78 gH78 hl f78_1 f78_2 f78_3 f78_4 s78_u78_h0_27
      refine lv_iload_n hx hb dX12_clearBank_78 rfl (lv_at hl 1 rfl) ?_
      refine lv_bipush (v := 30) hx hb dX12_clearBank_79 (by decide) ?_
      refine lv_icmp_ge (tgt := 104) hx hb dX12_clearBank_81 (by decide) (fun c_1 => ?_) (fun c_1 => ?_)
      · have f_1 := z_le c_1 kl_30 rfl
        refine lv_aload_n hx hb dX12_clearBank_104 rfl (lv_at hl 0 rfl) ?_
        refine lv_aload_n hx hb dX12_clearBank_105 rfl (lv_at hl 0 rfl) ?_
        refine lv_aload_n hx hb dX12_clearBank_106 rfl (lv_at hl 0 rfl) ?_
        refine g_get B fl_RX12_204 gH78.1 kh0 rfl rfl rfl dX12_clearBank_107 s78_u78_h0_27 ?_
        refine zkPI (zrV (rest := [.ref h0]) B (c_X12_firstOf l E hV H78 gH78.1 h0 kh0 u78_h0_27 (by omega) (by omega)) cl_RX12_207 gH78.1 kh0 rfl rfl rfl rfl hl.1 rfl (Nat.le_of_ble_eq_true rfl) dX12_clearBank_110 rfl rfl ⟨rfl, rfl⟩ ⟨Nat.zero_le _, Nat.zero_le _⟩ (zO.of gH78 hh)) (fun x_2 hp_2 => ?_)
        obtain ⟨hp_2_1, hp_2_2⟩ := hp_2
        refine lv_bipush (v := 30) hx hb dX12_clearBank_113 (by decide) ?_
        refine lv_iconst (v := 0) hx hb dX12_clearBank_115 (by decide) ?_
        have := kl_30
        have := kl_30
        have := kl_0
        refine zkV (zrV (rest := []) B (c_X12_put l E hV H78 gH78.1 h0 kh0 x_2 (by omega) (by omega) 30 (by omega) (by omega) 0 (by omega)) cl_RX12_210 gH78.1 kh0 rfl rfl rfl rfl hl.1 rfl (Nat.le_of_ble_eq_true rfl) dX12_clearBank_116 rfl rfl ⟨rfl, rfl⟩ ⟨Nat.zero_le _, Nat.zero_le _⟩ (zO.of gH78 hh)) gH78 rfl (fun H3 lc3 hp_3 gH3 rH3 => ?_)
        exact rtV B hr hlk hh hQ gH3 trivial dX12_clearBank_119
      · have f_1 := z_nle c_1 kl_30 rfl
        refine lv_aload_n hx hb dX12_clearBank_84 rfl (lv_at hl 0 rfl) ?_
        refine lv_aload_n hx hb dX12_clearBank_85 rfl (lv_at hl 0 rfl) ?_
        refine lv_aload_n hx hb dX12_clearBank_86 rfl (lv_at hl 0 rfl) ?_
        refine g_get B fl_RX12_204 gH78.1 kh0 rfl rfl rfl dX12_clearBank_87 s78_u78_h0_27 ?_
        refine zkPI (zrV (rest := [.ref h0]) B (c_X12_firstOf l E hV H78 gH78.1 h0 kh0 u78_h0_27 (by omega) (by omega)) cl_RX12_207 gH78.1 kh0 rfl rfl rfl rfl hl.1 rfl (Nat.le_of_ble_eq_true rfl) dX12_clearBank_90 rfl rfl ⟨rfl, rfl⟩ ⟨Nat.zero_le _, Nat.zero_le _⟩ (zO.of gH78 hh)) (fun x_4 hp_4 => ?_)
        obtain ⟨hp_4_1, hp_4_2⟩ := hp_4
        refine lv_iload_n hx hb dX12_clearBank_93 rfl (lv_at hl 1 rfl) ?_
        refine lv_iconst (v := (-1)) hx hb dX12_clearBank_94 (by decide) ?_
        have := kl_m1
        refine zkV (zrV (rest := []) B (c_X12_put l E hV H78 gH78.1 h0 kh0 x_4 (by omega) (by omega) v78_1 (by omega) (by omega) (-1) (by omega)) cl_RX12_210 gH78.1 kh0 rfl rfl rfl rfl hl.1 rfl (Nat.le_of_ble_eq_true rfl) dX12_clearBank_95 rfl rfl ⟨rfl, rfl⟩ ⟨Nat.zero_le _, Nat.zero_le _⟩ (zO.of gH78 hh)) gH78 rfl (fun H5 lc5 hp_5 gH5 rH5 => ?_)
        have s_6 := rH5.keep hV kh0 rfl s78_u78_h0_27
        obtain ⟨x_7, e_7⟩ : ∃ y : Int32, (v78_1 : Int32) + Int32.ofInt 1 = y := ⟨_, rfl⟩
        refine lv_iinc (v := x_7) (lv' := [(1, .int x_7), (0, .ref h0)]) hx hb dX12_clearBank_98 hl (k := 1) rfl e_7 (by decide) rfl (fun ls hl => ?_)
        have t_7 := z_inc2 e_7 rfl (by decide) (by omega) (by omega)
        refine lv_goto (tgt := 78) hx hb dX12_clearBank_101 (by decide) ?_
        exact ih78 H5 lc5 ls x_7 u78_h0_27 (by omega) gH5 (lv_sub hl [1, 0] rfl) (by omega) (by omega) (by omega) (by omega) s_6
  refine lv_aload_n hx hb dX12_clearBank_0 rfl (lv_at hl 0 rfl) ?_
  refine g_getR B fl_RX12_24 hT0 kh0 rfl rfl rfl rfl rfl dX12_clearBank_1 (fun q_8 s_8 k_q_8 => ?_)
  refine lv_aload_n hx hb dX12_clearBank_4 rfl (lv_at hl 0 rfl) ?_
  refine g_getI B fl_RX12_204 hT0 kh0 rfl rfl rfl rfl rfl dX12_clearBank_5 (fun x_9 s_9 a_9 b_9 => ?_)
  refine lv_iconst (v := 0) hx hb dX12_clearBank_8 (by decide) ?_
  have := kl_0
  refine g_iastI (i := x_9) (N := 2) B hV hG0 k_q_8 rfl rfl rfl rfl (by omega) (by omega) rfl (by omega) (by omega) rfl dX12_clearBank_9 (fun H10 lc10 gH10 uH10 => ?_)
  have s_11 := uH10.keep (Or.inl (k_ne kh0 k_q_8 rfl)) s_9
  refine lv_aload_n hx hb dX12_clearBank_10 rfl (lv_at hl 0 rfl) ?_
  refine g_getR B fl_RX12_27 gH10.1 kh0 rfl rfl rfl rfl rfl dX12_clearBank_11 (fun q_12 s_12 k_q_12 => ?_)
  refine lv_aload_n hx hb dX12_clearBank_14 rfl (lv_at hl 0 rfl) ?_
  refine g_get B fl_RX12_204 gH10.1 kh0 rfl rfl rfl dX12_clearBank_15 s_11 ?_
  refine lv_iconst (v := 0) hx hb dX12_clearBank_18 (by decide) ?_
  have := kl_0
  refine g_iastI (i := x_9) (N := 2) B hV gH10 k_q_12 rfl rfl rfl rfl (by omega) (by omega) rfl (by omega) (by omega) rfl dX12_clearBank_19 (fun H13 lc13 gH13 uH13 => ?_)
  have s_14 := uH13.keep (Or.inl (k_ne kh0 k_q_12 rfl)) s_11
  refine lv_aload_n hx hb dX12_clearBank_20 rfl (lv_at hl 0 rfl) ?_
  refine g_getR B fl_RX12_30 gH13.1 kh0 rfl rfl rfl rfl rfl dX12_clearBank_21 (fun q_15 s_15 k_q_15 => ?_)
  refine lv_aload_n hx hb dX12_clearBank_24 rfl (lv_at hl 0 rfl) ?_
  refine g_get B fl_RX12_204 gH13.1 kh0 rfl rfl rfl dX12_clearBank_25 s_14 ?_
  refine lv_iconst (v := 0) hx hb dX12_clearBank_28 (by decide) ?_
  have := kl_0
  refine g_iastI (i := x_9) (N := 2) B hV gH13 k_q_15 rfl rfl rfl rfl (by omega) (by omega) rfl (by omega) (by omega) rfl dX12_clearBank_29 (fun H16 lc16 gH16 uH16 => ?_)
  have s_17 := uH16.keep (Or.inl (k_ne kh0 k_q_15 rfl)) s_14
  refine lv_aload_n hx hb dX12_clearBank_30 rfl (lv_at hl 0 rfl) ?_
  refine g_getR B fl_RX12_33 gH16.1 kh0 rfl rfl rfl rfl rfl dX12_clearBank_31 (fun q_18 s_18 k_q_18 => ?_)
  refine lv_aload_n hx hb dX12_clearBank_34 rfl (lv_at hl 0 rfl) ?_
  refine g_get B fl_RX12_204 gH16.1 kh0 rfl rfl rfl dX12_clearBank_35 s_17 ?_
  refine lv_iconst (v := 0) hx hb dX12_clearBank_38 (by decide) ?_
  have := kl_0
  refine g_iastI (i := x_9) (N := 2) B hV gH16 k_q_18 rfl rfl rfl rfl (by omega) (by omega) rfl (z_rng _).1 (z_rng _).2 rfl dX12_clearBank_39 (fun H19 lc19 gH19 uH19 => ?_)
  have s_20 := uH19.keep (Or.inl (k_ne kh0 k_q_18 rfl)) s_17
  refine lv_aload_n hx hb dX12_clearBank_40 rfl (lv_at hl 0 rfl) ?_
  refine g_getR B fl_RX12_36 gH19.1 kh0 rfl rfl rfl rfl rfl dX12_clearBank_41 (fun q_21 s_21 k_q_21 => ?_)
  refine lv_aload_n hx hb dX12_clearBank_44 rfl (lv_at hl 0 rfl) ?_
  refine g_get B fl_RX12_204 gH19.1 kh0 rfl rfl rfl dX12_clearBank_45 s_20 ?_
  refine lv_iconst (v := 0) hx hb dX12_clearBank_48 (by decide) ?_
  have := kl_0
  refine g_iastI (i := x_9) (N := 2) B hV gH19 k_q_21 rfl rfl rfl rfl (by omega) (by omega) rfl (by omega) (by omega) rfl dX12_clearBank_49 (fun H22 lc22 gH22 uH22 => ?_)
  have s_23 := uH22.keep (Or.inl (k_ne kh0 k_q_21 rfl)) s_20
  refine lv_aload_n hx hb dX12_clearBank_50 rfl (lv_at hl 0 rfl) ?_
  refine g_getR B fl_RX12_61 gH22.1 kh0 rfl rfl rfl rfl rfl dX12_clearBank_51 (fun q_24 s_24 k_q_24 => ?_)
  refine lv_iconst (v := 2) hx hb dX12_clearBank_54 (by decide) ?_
  refine lv_aload_n hx hb dX12_clearBank_55 rfl (lv_at hl 0 rfl) ?_
  refine g_get B fl_RX12_204 gH22.1 kh0 rfl rfl rfl dX12_clearBank_56 s_23 ?_
  refine lv_imul hx hb dX12_clearBank_59 ?_
  refine lv_topi (fun x_25 e_25 => ?_)
  have t_25 := z_mul e_25 kl_2 rfl (by omega) (by omega)
  refine lv_iconst (v := 0) hx hb dX12_clearBank_60 (by decide) ?_
  have := kl_0
  refine g_zastI (i := x_25) (N := 4) B hV gH22 k_q_24 rfl rfl rfl rfl (by omega) (by omega) rfl (by omega) (by omega) rfl dX12_clearBank_61 (fun H26 lc26 gH26 uH26 => ?_)
  have s_27 := uH26.keep (Or.inl (k_ne kh0 k_q_24 rfl)) s_23
  have s_28 := uH26.keep (Or.inl (k_ne kh0 k_q_24 rfl)) s_24
  refine lv_aload_n hx hb dX12_clearBank_62 rfl (lv_at hl 0 rfl) ?_
  refine g_get B fl_RX12_61 gH26.1 kh0 rfl rfl rfl dX12_clearBank_63 s_28 ?_
  refine lv_iconst (v := 2) hx hb dX12_clearBank_66 (by decide) ?_
  refine lv_aload_n hx hb dX12_clearBank_67 rfl (lv_at hl 0 rfl) ?_
  refine g_get B fl_RX12_204 gH26.1 kh0 rfl rfl rfl dX12_clearBank_68 s_27 ?_
  refine lv_imul hx hb dX12_clearBank_71 ?_
  refine lv_topi (fun x_29 e_29 => ?_)
  have t_29 := z_mul e_29 kl_2 rfl (by omega) (by omega)
  refine lv_iconst (v := 1) hx hb dX12_clearBank_72 (by decide) ?_
  refine lv_iadd hx hb dX12_clearBank_73 ?_
  refine lv_topi (fun x_30 e_30 => ?_)
  have t_30 := z_add e_30 rfl kl_1 (by omega) (by omega)
  refine lv_iconst (v := 0) hx hb dX12_clearBank_74 (by decide) ?_
  have := kl_0
  refine g_zastI (i := x_30) (N := 4) B hV gH26 k_q_24 rfl rfl rfl rfl (by omega) (by omega) rfl (by omega) (by omega) rfl dX12_clearBank_75 (fun H31 lc31 gH31 uH31 => ?_)
  have s_32 := uH31.keep (Or.inl (k_ne kh0 k_q_24 rfl)) s_27
  refine lv_iconst (v := 0) hx hb dX12_clearBank_76 (by decide) ?_
  refine lv_istore_n (lv' := [(1, .int 0), (0, .ref h0)]) hx hb dX12_clearBank_77 rfl hl (by decide) rfl (fun ls hl => ?_)
  have := kl_0
  exact b78 31 H31 lc31 ls 0 x_9 (by omega) gH31 (lv_sub hl [1, 0] rfl) (by omega) (by omega) (by omega) (by omega) s_32

theorem dX12_begin_0 : decode cX12_begin 0 = .ok (.aload_n 0, 1) := by decide +kernel
theorem dX12_begin_1 : decode cX12_begin 1 = .ok (.aload_n 0, 1) := by decide +kernel
theorem dX12_begin_2 : decode cX12_begin 2 = .ok (.aload_n 0, 1) := by decide +kernel
theorem dX12_begin_3 : decode cX12_begin 3 = .ok (.getfield 217, 3) := by decide +kernel
theorem dX12_begin_6 : decode cX12_begin 6 = .ok (.invokevirtual 207, 3) := by decide +kernel
theorem dX12_begin_9 : decode cX12_begin 9 = .ok (.iconst 0, 1) := by decide +kernel
theorem dX12_begin_10 : decode cX12_begin 10 = .ok (.invokevirtual 326, 3) := by decide +kernel
theorem dX12_begin_13 : decode cX12_begin 13 = .ok (.aload_n 0, 1) := by decide +kernel
theorem dX12_begin_14 : decode cX12_begin 14 = .ok (.aload_n 0, 1) := by decide +kernel
theorem dX12_begin_15 : decode cX12_begin 15 = .ok (.aload_n 0, 1) := by decide +kernel
theorem dX12_begin_16 : decode cX12_begin 16 = .ok (.getfield 217, 3) := by decide +kernel
theorem dX12_begin_19 : decode cX12_begin 19 = .ok (.invokevirtual 207, 3) := by decide +kernel
theorem dX12_begin_22 : decode cX12_begin 22 = .ok (.iconst 1, 1) := by decide +kernel
theorem dX12_begin_23 : decode cX12_begin 23 = .ok (.invokevirtual 326, 3) := by decide +kernel
theorem dX12_begin_26 : decode cX12_begin 26 = .ok (.aload_n 0, 1) := by decide +kernel
theorem dX12_begin_27 : decode cX12_begin 27 = .ok (.iconst 0, 1) := by decide +kernel
theorem dX12_begin_28 : decode cX12_begin 28 = .ok (.putfield 305, 3) := by decide +kernel
theorem dX12_begin_31 : decode cX12_begin 31 = .ok (.aload_n 0, 1) := by decide +kernel
theorem dX12_begin_32 : decode cX12_begin 32 = .ok (.iconst 0, 1) := by decide +kernel
theorem dX12_begin_33 : decode cX12_begin 33 = .ok (.putfield 335, 3) := by decide +kernel
theorem dX12_begin_36 : decode cX12_begin 36 = .ok (.iconst 0, 1) := by decide +kernel
theorem dX12_begin_37 : decode cX12_begin 37 = .ok (.istore_n 1, 1) := by decide +kernel
theorem dX12_begin_38 : decode cX12_begin 38 = .ok (.iload_n 1, 1) := by decide +kernel
theorem dX12_begin_39 : decode cX12_begin 39 = .ok (.iconst 3, 1) := by decide +kernel
theorem dX12_begin_40 : decode cX12_begin 40 = .ok (.if_icmp .ge 16, 3) := by decide +kernel
theorem dX12_begin_43 : decode cX12_begin 43 = .ok (.aload_n 0, 1) := by decide +kernel
theorem dX12_begin_44 : decode cX12_begin 44 = .ok (.getfield 107, 3) := by decide +kernel
theorem dX12_begin_47 : decode cX12_begin 47 = .ok (.iload_n 1, 1) := by decide +kernel
theorem dX12_begin_48 : decode cX12_begin 48 = .ok (.iconst (-1), 1) := by decide +kernel
theorem dX12_begin_49 : decode cX12_begin 49 = .ok (.iastore, 1) := by decide +kernel
theorem dX12_begin_50 : decode cX12_begin 50 = .ok (.iinc 1 1, 3) := by decide +kernel
theorem dX12_begin_53 : decode cX12_begin 53 = .ok (.goto (-15), 3) := by decide +kernel
theorem dX12_begin_56 : decode cX12_begin 56 = .ok (.return_, 1) := by decide +kernel
def rm_X12_begin : Room := { frames := 2, cells := 0, slots := 0, locals := 46 }
abbrev wS_X12_begin : List (Nat × Nat) := [(13, 37), (13, 38), (60, 99), (88, 99)]
set_option maxRecDepth 100000 in
set_option maxHeartbeats 4000000 in
theorem c_X12_begin (l : Launch) (E : zE) (hV : zV E) (H0 : Heap) (hT0 : HT E H0) (h0 : Nat) (kh0 : eK E h0 = 13) : Met l yX12_begin (zws yX12_begin cX12_begin 2 none) rm_X12_begin (zP E H0 [.ref h0]) (zQV E E wS_X12_begin (fun H1 => (∃ n1 : Int32, sl H1 h0 (zix E 13 37) = some (.int n1) ∧ 0 ≤ n1.toInt ∧ n1.toInt ≤ 0) ∧ (∃ u1 : Int32, sl H1 h0 (zix E 13 38) = some (.int u1) ∧ 0 ≤ u1.toInt ∧ u1.toInt ≤ 0))) 0 0 (zfr E) := by
  refine zEnt (by decide) (Nat.le_of_ble_eq_true rfl) (fun p e s m args below meth c ls Q B hr hlk hh hQ hl => ?_)
  have hx := B.1
  have hb := B.2.1
  have hG0 : zG E wS_X12_begin H0 H0 [] := zG.rf hT0
  have hl : lv_has ls 2 [(0, .ref h0)] := hl
  have b38 : ∀ (n38 : Nat) (H38 : Heap) (lc38 : List Loc) (ls : Array Slot) (v38_1 : Int32), 3 - v38_1.toInt < (n38 : Int) → zG E wS_X12_begin H0 H38 lc38 → lv_has ls 2 [(0, .ref h0), (1, .int v38_1)] → 0 ≤ v38_1.toInt → v38_1.toInt ≤ 3 → sl H38 h0 (zix E 13 37) = some (.int 0) → sl H38 h0 (zix E 13 38) = some (.int 0) → W p l e rm_X12_begin s m args below meth c H38 lc38 0 0 Q (F0 m 38 ls []) := by
    intro n38
    induction n38 with
    | zero =>
      intro H38 lc38 ls v38_1 hm38 gH38 hl f38_1 f38_2 s38_u38_h0_37 s38_u38_h0_38
      exact absurd hm38 (by omega)
    | succ n38 ih38 =>
      intro H38 lc38 ls v38_1 hm38 gH38 hl f38_1 f38_2 s38_u38_h0_37 s38_u38_h0_38
      refine lv_iload_n hx hb dX12_begin_38 rfl (lv_at hl 1 rfl) ?_
      refine lv_iconst (v := 3) hx hb dX12_begin_39 (by decide) ?_
      refine lv_icmp_ge (tgt := 56) hx hb dX12_begin_40 (by decide) (fun c_1 => ?_) (fun c_1 => ?_)
      · have f_1 := z_le c_1 kl_3 rfl
        have := kl_0
        have := kl_0
        exact rtV B hr hlk hh hQ gH38 ⟨⟨0, s38_u38_h0_37, by omega, by omega⟩, ⟨0, s38_u38_h0_38, by omega, by omega⟩⟩ dX12_begin_56
      · have f_1 := z_nle c_1 kl_3 rfl
        refine lv_aload_n hx hb dX12_begin_43 rfl (lv_at hl 0 rfl) ?_
        refine g_getR B fl_RX12_107 gH38.1 kh0 rfl rfl rfl rfl rfl dX12_begin_44 (fun q_2 s_2 k_q_2 => ?_)
        refine lv_iload_n hx hb dX12_begin_47 rfl (lv_at hl 1 rfl) ?_
        refine lv_iconst (v := (-1)) hx hb dX12_begin_48 (by decide) ?_
        have := kl_m1
        refine g_iastI (i := v38_1) (N := 3) B hV gH38 k_q_2 rfl rfl rfl rfl (by omega) (by omega) rfl (by omega) (by omega) rfl dX12_begin_49 (fun H3 lc3 gH3 uH3 => ?_)
        have s_4 := uH3.keep (Or.inl (k_ne kh0 k_q_2 rfl)) s38_u38_h0_37
        have s_5 := uH3.keep (Or.inl (k_ne kh0 k_q_2 rfl)) s38_u38_h0_38
        have s_6 := uH3.keep (Or.inl (k_ne kh0 k_q_2 rfl)) s_2
        obtain ⟨x_7, e_7⟩ : ∃ y : Int32, (v38_1 : Int32) + Int32.ofInt 1 = y := ⟨_, rfl⟩
        refine lv_iinc (v := x_7) (lv' := [(1, .int x_7), (0, .ref h0)]) hx hb dX12_begin_50 hl (k := 1) rfl e_7 (by decide) rfl (fun ls hl => ?_)
        have t_7 := z_inc2 e_7 rfl (by decide) (by omega) (by omega)
        refine lv_goto (tgt := 38) hx hb dX12_begin_53 (by decide) ?_
        have := kl_0
        have := kl_0
        exact ih38 H3 lc3 ls x_7 (by omega) gH3 (lv_sub hl [1, 0] rfl) (by omega) (by omega) s_4 s_5
  refine lv_aload_n hx hb dX12_begin_0 rfl (lv_at hl 0 rfl) ?_
  refine lv_aload_n hx hb dX12_begin_1 rfl (lv_at hl 0 rfl) ?_
  refine lv_aload_n hx hb dX12_begin_2 rfl (lv_at hl 0 rfl) ?_
  refine g_getI B fl_RX12_217 hT0 kh0 rfl rfl rfl rfl rfl dX12_begin_3 (fun x_8 s_8 a_8 b_8 => ?_)
  refine zkPI (zrV (rest := [.ref h0]) B (c_X12_firstOf l E hV H0 hT0 h0 kh0 x_8 (by omega) (by omega)) cl_RX12_207 hT0 kh0 rfl rfl rfl rfl hl.1 rfl (Nat.le_of_ble_eq_true rfl) dX12_begin_6 rfl rfl ⟨rfl, rfl⟩ ⟨Nat.zero_le _, Nat.zero_le _⟩ (zO.of hG0 hh)) (fun x_9 hp_9 => ?_)
  obtain ⟨hp_9_1, hp_9_2⟩ := hp_9
  refine lv_iconst (v := 0) hx hb dX12_begin_9 (by decide) ?_
  have := kl_0
  refine zkV (zrV (rest := []) B (c_X12_copy l E hV H0 hT0 h0 kh0 x_9 (by omega) (by omega) 0 (by omega) (by omega)) cl_RX12_326 hT0 kh0 rfl rfl rfl rfl hl.1 rfl (Nat.le_of_ble_eq_true rfl) dX12_begin_10 rfl rfl ⟨rfl, rfl⟩ ⟨Nat.zero_le _, Nat.zero_le _⟩ (zO.of hG0 hh)) hG0 rfl (fun H10 lc10 hp_10 gH10 rH10 => ?_)
  have s_11 := rH10.keep hV kh0 rfl s_8
  refine lv_aload_n hx hb dX12_begin_13 rfl (lv_at hl 0 rfl) ?_
  refine lv_aload_n hx hb dX12_begin_14 rfl (lv_at hl 0 rfl) ?_
  refine lv_aload_n hx hb dX12_begin_15 rfl (lv_at hl 0 rfl) ?_
  refine g_get B fl_RX12_217 gH10.1 kh0 rfl rfl rfl dX12_begin_16 s_11 ?_
  refine zkPI (zrV (rest := [.ref h0]) B (c_X12_firstOf l E hV H10 gH10.1 h0 kh0 x_8 (by omega) (by omega)) cl_RX12_207 gH10.1 kh0 rfl rfl rfl rfl hl.1 rfl (Nat.le_of_ble_eq_true rfl) dX12_begin_19 rfl rfl ⟨rfl, rfl⟩ ⟨Nat.zero_le _, Nat.zero_le _⟩ (zO.of gH10 hh)) (fun x_12 hp_12 => ?_)
  obtain ⟨hp_12_1, hp_12_2⟩ := hp_12
  refine lv_iconst (v := 1) hx hb dX12_begin_22 (by decide) ?_
  have := kl_1
  refine zkV (zrV (rest := []) B (c_X12_copy l E hV H10 gH10.1 h0 kh0 x_12 (by omega) (by omega) 1 (by omega) (by omega)) cl_RX12_326 gH10.1 kh0 rfl rfl rfl rfl hl.1 rfl (Nat.le_of_ble_eq_true rfl) dX12_begin_23 rfl rfl ⟨rfl, rfl⟩ ⟨Nat.zero_le _, Nat.zero_le _⟩ (zO.of gH10 hh)) gH10 rfl (fun H13 lc13 hp_13 gH13 rH13 => ?_)
  refine lv_aload_n hx hb dX12_begin_26 rfl (lv_at hl 0 rfl) ?_
  refine lv_iconst (v := 0) hx hb dX12_begin_27 (by decide) ?_
  have := kl_0
  refine g_putI B fp_RX12_305 hV gH13 kh0 rfl rfl rfl rfl rfl (by omega) (by omega) rfl dX12_begin_28 (fun H14 lc14 gH14 uH14 => ?_)
  refine lv_aload_n hx hb dX12_begin_31 rfl (lv_at hl 0 rfl) ?_
  refine lv_iconst (v := 0) hx hb dX12_begin_32 (by decide) ?_
  have := kl_0
  refine g_putI B fp_RX12_335 hV gH14 kh0 rfl rfl rfl rfl rfl (by omega) (by omega) rfl dX12_begin_33 (fun H15 lc15 gH15 uH15 => ?_)
  have s_16 := uH15.keep (Or.inr (j_ne hV rfl rfl rfl rfl)) uH14.2.1
  refine lv_iconst (v := 0) hx hb dX12_begin_36 (by decide) ?_
  refine lv_istore_n (lv' := [(1, .int 0), (0, .ref h0)]) hx hb dX12_begin_37 rfl hl (by decide) rfl (fun ls hl => ?_)
  have := kl_0
  have := kl_0
  have := kl_0
  exact b38 4 H15 lc15 ls 0 (by omega) gH15 (lv_sub hl [1, 0] rfl) (by omega) (by omega) s_16 uH15.2.1

theorem dX12_game_0 : decode cX12_game 0 = .ok (.aload_n 0, 1) := by decide +kernel
theorem dX12_game_1 : decode cX12_game 1 = .ok (.iconst 0, 1) := by decide +kernel
theorem dX12_game_2 : decode cX12_game 2 = .ok (.putfield 134, 3) := by decide +kernel
theorem dX12_game_5 : decode cX12_game 5 = .ok (.aload_n 0, 1) := by decide +kernel
theorem dX12_game_6 : decode cX12_game 6 = .ok (.iconst (-1), 1) := by decide +kernel
theorem dX12_game_7 : decode cX12_game 7 = .ok (.putfield 20, 3) := by decide +kernel
theorem dX12_game_10 : decode cX12_game 10 = .ok (.aload_n 0, 1) := by decide +kernel
theorem dX12_game_11 : decode cX12_game 11 = .ok (.aload_n 0, 1) := by decide +kernel
theorem dX12_game_12 : decode cX12_game 12 = .ok (.getfield 214, 3) := by decide +kernel
theorem dX12_game_15 : decode cX12_game 15 = .ok (.putfield 131, 3) := by decide +kernel
theorem dX12_game_18 : decode cX12_game 18 = .ok (.iconst 0, 1) := by decide +kernel
theorem dX12_game_19 : decode cX12_game 19 = .ok (.istore_n 1, 1) := by decide +kernel
theorem dX12_game_20 : decode cX12_game 20 = .ok (.iload_n 1, 1) := by decide +kernel
theorem dX12_game_21 : decode cX12_game 21 = .ok (.aload_n 0, 1) := by decide +kernel
theorem dX12_game_22 : decode cX12_game 22 = .ok (.getfield 131, 3) := by decide +kernel
theorem dX12_game_25 : decode cX12_game 25 = .ok (.if_icmp .ge 21, 3) := by decide +kernel
theorem dX12_game_28 : decode cX12_game 28 = .ok (.aload_n 0, 1) := by decide +kernel
theorem dX12_game_29 : decode cX12_game 29 = .ok (.getfield 13, 3) := by decide +kernel
theorem dX12_game_32 : decode cX12_game 32 = .ok (.iload_n 1, 1) := by decide +kernel
theorem dX12_game_33 : decode cX12_game 33 = .ok (.aload_n 0, 1) := by decide +kernel
theorem dX12_game_34 : decode cX12_game 34 = .ok (.getfield 7, 3) := by decide +kernel
theorem dX12_game_37 : decode cX12_game 37 = .ok (.iload_n 1, 1) := by decide +kernel
theorem dX12_game_38 : decode cX12_game 38 = .ok (.baload, 1) := by decide +kernel
theorem dX12_game_39 : decode cX12_game 39 = .ok (.bastore, 1) := by decide +kernel
theorem dX12_game_40 : decode cX12_game 40 = .ok (.iinc 1 1, 3) := by decide +kernel
theorem dX12_game_43 : decode cX12_game 43 = .ok (.goto (-23), 3) := by decide +kernel
theorem dX12_game_46 : decode cX12_game 46 = .ok (.aload_n 0, 1) := by decide +kernel
theorem dX12_game_47 : decode cX12_game 47 = .ok (.iconst 0, 1) := by decide +kernel
theorem dX12_game_48 : decode cX12_game 48 = .ok (.putfield 214, 3) := by decide +kernel
theorem dX12_game_51 : decode cX12_game 51 = .ok (.aload_n 0, 1) := by decide +kernel
theorem dX12_game_52 : decode cX12_game 52 = .ok (.iconst 0, 1) := by decide +kernel
theorem dX12_game_53 : decode cX12_game 53 = .ok (.putfield 159, 3) := by decide +kernel
theorem dX12_game_56 : decode cX12_game 56 = .ok (.aload_n 0, 1) := by decide +kernel
theorem dX12_game_57 : decode cX12_game 57 = .ok (.iconst 1, 1) := by decide +kernel
theorem dX12_game_58 : decode cX12_game 58 = .ok (.aload_n 0, 1) := by decide +kernel
theorem dX12_game_59 : decode cX12_game 59 = .ok (.getfield 217, 3) := by decide +kernel
theorem dX12_game_62 : decode cX12_game 62 = .ok (.isub, 1) := by decide +kernel
theorem dX12_game_63 : decode cX12_game 63 = .ok (.putfield 204, 3) := by decide +kernel
theorem dX12_game_66 : decode cX12_game 66 = .ok (.aload_n 0, 1) := by decide +kernel
theorem dX12_game_67 : decode cX12_game 67 = .ok (.invokevirtual 125, 3) := by decide +kernel
theorem dX12_game_70 : decode cX12_game 70 = .ok (.aload_n 0, 1) := by decide +kernel
theorem dX12_game_71 : decode cX12_game 71 = .ok (.invokevirtual 198, 3) := by decide +kernel
theorem dX12_game_74 : decode cX12_game 74 = .ok (.aload_n 0, 1) := by decide +kernel
theorem dX12_game_75 : decode cX12_game 75 = .ok (.invokevirtual 194, 3) := by decide +kernel
theorem dX12_game_78 : decode cX12_game 78 = .ok (.ifCond .eq 17, 3) := by decide +kernel
theorem dX12_game_81 : decode cX12_game 81 = .ok (.aload_n 0, 1) := by decide +kernel
theorem dX12_game_82 : decode cX12_game 82 = .ok (.getfield 169, 3) := by decide +kernel
theorem dX12_game_85 : decode cX12_game 85 = .ok (.ifCond .eq 10, 3) := by decide +kernel
theorem dX12_game_88 : decode cX12_game 88 = .ok (.aload_n 0, 1) := by decide +kernel
theorem dX12_game_89 : decode cX12_game 89 = .ok (.invokevirtual 220, 3) := by decide +kernel
theorem dX12_game_92 : decode cX12_game 92 = .ok (.goto (-18), 3) := by decide +kernel
theorem dX12_game_95 : decode cX12_game 95 = .ok (.aload_n 0, 1) := by decide +kernel
theorem dX12_game_96 : decode cX12_game 96 = .ok (.invokevirtual 194, 3) := by decide +kernel
theorem dX12_game_99 : decode cX12_game 99 = .ok (.ifCond .ne 5, 3) := by decide +kernel
theorem dX12_game_102 : decode cX12_game 102 = .ok (.iconst (-1), 1) := by decide +kernel
theorem dX12_game_103 : decode cX12_game 103 = .ok (.ireturn, 1) := by decide +kernel
theorem dX12_game_104 : decode cX12_game 104 = .ok (.aload_n 0, 1) := by decide +kernel
theorem dX12_game_105 : decode cX12_game 105 = .ok (.aload_n 0, 1) := by decide +kernel
theorem dX12_game_106 : decode cX12_game 106 = .ok (.getfield 204, 3) := by decide +kernel
theorem dX12_game_109 : decode cX12_game 109 = .ok (.putfield 217, 3) := by decide +kernel
theorem dX12_game_112 : decode cX12_game 112 = .ok (.aload_n 0, 1) := by decide +kernel
theorem dX12_game_113 : decode cX12_game 113 = .ok (.iconst 0, 1) := by decide +kernel
theorem dX12_game_114 : decode cX12_game 114 = .ok (.putfield 223, 3) := by decide +kernel
theorem dX12_game_117 : decode cX12_game 117 = .ok (.aload_n 0, 1) := by decide +kernel
theorem dX12_game_118 : decode cX12_game 118 = .ok (.invokevirtual 128, 3) := by decide +kernel
theorem dX12_game_121 : decode cX12_game 121 = .ok (.aload_n 0, 1) := by decide +kernel
theorem dX12_game_122 : decode cX12_game 122 = .ok (.getfield 33, 3) := by decide +kernel
theorem dX12_game_125 : decode cX12_game 125 = .ok (.aload_n 0, 1) := by decide +kernel
theorem dX12_game_126 : decode cX12_game 126 = .ok (.getfield 217, 3) := by decide +kernel
theorem dX12_game_129 : decode cX12_game 129 = .ok (.iaload, 1) := by decide +kernel
theorem dX12_game_130 : decode cX12_game 130 = .ok (.ireturn, 1) := by decide +kernel
def rm_X12_game : Room := { frames := 6, cells := 0, slots := 0, locals := 131 }
abbrev wS_X12_game : List (Nat × Nat) := [(13, 3), (13, 4), (13, 5), (13, 6), (13, 7), (13, 8), (13, 9), (13, 10), (13, 11), (13, 26), (13, 27), (13, 37), (13, 38), (13, 47), (59, 99), (60, 99), (61, 99), (62, 99), (63, 99), (64, 99), (65, 99), (66, 99), (67, 99), (68, 99), (69, 99), (70, 99), (71, 99), (72, 99), (73, 99), (74, 99), (88, 99)]
set_option maxRecDepth 100000 in
set_option maxHeartbeats 4000000 in
theorem c_X12_game (l : Launch) (E : zE) (hV : zV E) (H0 : Heap) (hT0 : HT E H0) (h0 : Nat) (kh0 : eK E h0 = 13) (n0 : Int32) (s_n0 : sl H0 h0 (zix E 13 37) = some (.int n0)) (u0 : Int32) (s_u0 : sl H0 h0 (zix E 13 38) = some (.int u0)) (pr_0 : n0.toInt + u0.toInt ≤ 60) : Met l yX12_game (zws yX12_game cX12_game 2 (some .int)) rm_X12_game (zP E H0 [.ref h0]) (zQI E E wS_X12_game (fun r H1 => ∃ n1 : Int32, sl H1 h0 (zix E 13 37) = some (.int n1) ∧ 0 ≤ n1.toInt ∧ n1.toInt ≤ 60 ∧ ∃ u1 : Int32, sl H1 h0 (zix E 13 38) = some (.int u1) ∧ 0 ≤ u1.toInt ∧ u1.toInt ≤ 60 ∧ (n1.toInt + u1.toInt ≤ 60))) 0 0 (zfr E) := by
  refine zEnt (by decide) (Nat.le_of_ble_eq_true rfl) (fun p e s m args below meth c ls Q B hr hlk hh hQ hl => ?_)
  have hx := B.1
  have hb := B.2.1
  have hG0 : zG E wS_X12_game H0 H0 [] := zG.rf hT0
  have hl : lv_has ls 2 [(0, .ref h0)] := hl
  have bd_n0 := HT.bdI hT0 kh0 rfl (j := 37) (by decide) rfl s_n0
  have bd_u0 := HT.bdI hT0 kh0 rfl (j := 38) (by decide) rfl s_u0
  have b95 : ∀ (H95 : Heap) (lc95 : List Loc) (ls : Array Slot) (u95_h0_5 : Int32) (u95_h0_4 : Int32) (u95_h0_26 : Int32) (u95_h0_27 : Int32) (u95_h0_8 : Int32), zG E wS_X12_game H0 H95 lc95 → lv_has ls 2 [(0, .ref h0)] → 0 ≤ u95_h0_5.toInt → u95_h0_5.toInt ≤ 5 → 0 ≤ u95_h0_4.toInt → u95_h0_4.toInt ≤ 1600 → 0 ≤ u95_h0_26.toInt → u95_h0_26.toInt ≤ 1 → 0 ≤ u95_h0_27.toInt → u95_h0_27.toInt ≤ 1 → 0 ≤ u95_h0_8.toInt → u95_h0_8.toInt ≤ 1600 → sl H95 h0 (zix E 13 37) = some (.int n0) → sl H95 h0 (zix E 13 38) = some (.int u0) → sl H95 h0 (zix E 13 5) = some (.int u95_h0_5) → sl H95 h0 (zix E 13 4) = some (.int u95_h0_4) → sl H95 h0 (zix E 13 26) = some (.int u95_h0_26) → sl H95 h0 (zix E 13 27) = some (.int u95_h0_27) → sl H95 h0 (zix E 13 8) = some (.int u95_h0_8) → W p l e rm_X12_game s m args below meth c H95 lc95 0 0 Q (F0 m 95 ls []) := by
    intro H95 lc95 ls u95_h0_5 u95_h0_4 u95_h0_26 u95_h0_27 u95_h0_8 gH95 hl f95_1 f95_2 f95_3 f95_4 f95_5 f95_6 f95_7 f95_8 f95_9 f95_10 s95_u95_h0_37 s95_u95_h0_38 s95_u95_h0_5 s95_u95_h0_4 s95_u95_h0_26 s95_u95_h0_27 s95_u95_h0_8
    refine lv_aload_n hx hb dX12_game_95 rfl (lv_at hl 0 rfl) ?_
    refine zkPI (zrV (rest := []) B (c_X12_isGood l E hV H95 gH95.1 h0 kh0 u95_h0_5 s95_u95_h0_5) cl_RX12_194 gH95.1 kh0 rfl rfl rfl rfl hl.1 rfl (Nat.le_of_ble_eq_true rfl) dX12_game_96 rfl rfl ⟨rfl, rfl⟩ ⟨Nat.zero_le _, Nat.zero_le _⟩ (zO.of gH95 hh)) (fun x_1 hp_1 => ?_)
    obtain ⟨hp_1_1, hp_1_2, hp_1_3⟩ := hp_1
    refine lv_if_ne (tgt := 104) hx hb dX12_game_99 (by decide) (fun c_2 => ?_) (fun c_2 => ?_)
    · have f_2 := z_ne c_2 rfl kl_0
      refine lv_aload_n hx hb dX12_game_104 rfl (lv_at hl 0 rfl) ?_
      refine lv_aload_n hx hb dX12_game_105 rfl (lv_at hl 0 rfl) ?_
      refine g_get B fl_RX12_204 gH95.1 kh0 rfl rfl rfl dX12_game_106 s95_u95_h0_27 ?_
      refine g_putI B fp_RX12_217 hV gH95 kh0 rfl rfl rfl rfl rfl (by omega) (by omega) rfl dX12_game_109 (fun H3 lc3 gH3 uH3 => ?_)
      have s_4 := uH3.keep (Or.inr (j_ne hV rfl rfl rfl rfl)) s95_u95_h0_37
      have s_5 := uH3.keep (Or.inr (j_ne hV rfl rfl rfl rfl)) s95_u95_h0_38
      have s_6 := uH3.keep (Or.inr (j_ne hV rfl rfl rfl rfl)) s95_u95_h0_5
      have s_7 := uH3.keep (Or.inr (j_ne hV rfl rfl rfl rfl)) s95_u95_h0_4
      have s_8 := uH3.keep (Or.inr (j_ne hV rfl rfl rfl rfl)) s95_u95_h0_8
      refine lv_aload_n hx hb dX12_game_112 rfl (lv_at hl 0 rfl) ?_
      refine lv_iconst (v := 0) hx hb dX12_game_113 (by decide) ?_
      have := kl_0
      refine g_putI B fp_RX12_223 hV gH3 kh0 rfl rfl rfl rfl rfl (by omega) (by omega) rfl dX12_game_114 (fun H9 lc9 gH9 uH9 => ?_)
      have s_10 := uH9.keep (Or.inr (j_ne hV rfl rfl rfl rfl)) s_4
      have s_11 := uH9.keep (Or.inr (j_ne hV rfl rfl rfl rfl)) s_5
      have s_12 := uH9.keep (Or.inr (j_ne hV rfl rfl rfl rfl)) s_6
      have s_13 := uH9.keep (Or.inr (j_ne hV rfl rfl rfl rfl)) s_7
      have s_14 := uH9.keep (Or.inr (j_ne hV rfl rfl rfl rfl)) s_8
      have s_15 := uH9.keep (Or.inr (j_ne hV rfl rfl rfl rfl)) uH3.2.1
      refine lv_aload_n hx hb dX12_game_117 rfl (lv_at hl 0 rfl) ?_
      refine zkV (zrV (rest := []) B (c_X12_begin l E hV H9 gH9.1 h0 kh0) cl_RX12_128 gH9.1 kh0 rfl rfl rfl rfl hl.1 rfl (Nat.le_of_ble_eq_true rfl) dX12_game_118 rfl rfl ⟨rfl, rfl⟩ ⟨Nat.zero_le _, Nat.zero_le _⟩ (zO.of gH9 hh)) gH9 rfl (fun H16 lc16 hp_16 gH16 rH16 => ?_)
      have s_17 := rH16.keep hV kh0 rfl s_12
      have s_18 := rH16.keep hV kh0 rfl s_13
      have s_19 := rH16.keep hV kh0 rfl s_14
      have s_20 := rH16.keep hV kh0 rfl s_15
      obtain ⟨⟨k_21, sk_21, ak_21, bk_21⟩, ⟨k_22, sk_22, ak_22, bk_22⟩⟩ := hp_16
      refine lv_aload_n hx hb dX12_game_121 rfl (lv_at hl 0 rfl) ?_
      refine g_getR B fl_RX12_33 gH16.1 kh0 rfl rfl rfl rfl rfl dX12_game_122 (fun q_23 s_23 k_q_23 => ?_)
      refine lv_aload_n hx hb dX12_game_125 rfl (lv_at hl 0 rfl) ?_
      refine g_get B fl_RX12_217 gH16.1 kh0 rfl rfl rfl dX12_game_126 s_20 ?_
      refine g_ialdI (i := u95_h0_27) (N := 2) B gH16.1 k_q_23 rfl rfl rfl rfl (by omega) (by omega) rfl dX12_game_129 (fun x_24 s_24 a_24 b_24 => ?_)
      exact rtI (v := x_24) B hr hlk hh hQ gH16 rfl ⟨k_21, sk_21, by omega, by omega, k_22, sk_22, by omega, by omega, by omega⟩ dX12_game_130
    · have f_2 := z_eq c_2 rfl kl_0
      refine lv_iconst (v := (-1)) hx hb dX12_game_102 (by decide) ?_
      have := kl_m1
      have := kl_m1
      exact rtI (v := (-1)) B hr hlk hh hQ gH95 rfl ⟨n0, s95_u95_h0_37, by omega, by omega, u0, s95_u95_h0_38, by omega, by omega, by omega⟩ dX12_game_103
  have b74 : ∀ (n74 : Nat) (H74 : Heap) (lc74 : List Loc) (ls : Array Slot) (u74_h0_5 : Int32) (u74_h0_4 : Int32) (u74_h0_26 : Int32) (u74_h0_27 : Int32) (u74_h0_8 : Int32), (2 * (u74_h0_4.toInt - u74_h0_8.toInt) < (n74 : Int) ∧ (u74_h0_5.toInt ≠ 0 ∨ 2 * (u74_h0_4.toInt - u74_h0_8.toInt) + 1 < (n74 : Int))) → zG E wS_X12_game H0 H74 lc74 → lv_has ls 2 [(0, .ref h0)] → 0 ≤ u74_h0_5.toInt → u74_h0_5.toInt ≤ 5 → 0 ≤ u74_h0_4.toInt → u74_h0_4.toInt ≤ 1600 → 0 ≤ u74_h0_26.toInt → u74_h0_26.toInt ≤ 1 → 0 ≤ u74_h0_27.toInt → u74_h0_27.toInt ≤ 1 → 0 ≤ u74_h0_8.toInt → u74_h0_8.toInt ≤ 1600 → sl H74 h0 (zix E 13 37) = some (.int n0) → sl H74 h0 (zix E 13 38) = some (.int u0) → sl H74 h0 (zix E 13 5) = some (.int u74_h0_5) → sl H74 h0 (zix E 13 4) = some (.int u74_h0_4) → sl H74 h0 (zix E 13 26) = some (.int u74_h0_26) → sl H74 h0 (zix E 13 27) = some (.int u74_h0_27) → sl H74 h0 (zix E 13 8) = some (.int u74_h0_8) → u74_h0_8.toInt ≤ u74_h0_4.toInt → W p l e rm_X12_game s m args below meth c H74 lc74 0 0 Q (F0 m 74 ls []) := by
    intro n74
    induction n74 with
    | zero =>
      intro H74 lc74 ls u74_h0_5 u74_h0_4 u74_h0_26 u74_h0_27 u74_h0_8 hm74 gH74 hl f74_1 f74_2 f74_3 f74_4 f74_5 f74_6 f74_7 f74_8 f74_9 f74_10 s74_u74_h0_37 s74_u74_h0_38 s74_u74_h0_5 s74_u74_h0_4 s74_u74_h0_26 s74_u74_h0_27 s74_u74_h0_8 f74_11
      exact False.elim (by omega)
    | succ n74 ih74 =>
      intro H74 lc74 ls u74_h0_5 u74_h0_4 u74_h0_26 u74_h0_27 u74_h0_8 hm74 gH74 hl f74_1 f74_2 f74_3 f74_4 f74_5 f74_6 f74_7 f74_8 f74_9 f74_10 s74_u74_h0_37 s74_u74_h0_38 s74_u74_h0_5 s74_u74_h0_4 s74_u74_h0_26 s74_u74_h0_27 s74_u74_h0_8 f74_11
      refine lv_aload_n hx hb dX12_game_74 rfl (lv_at hl 0 rfl) ?_
      refine zkPI (zrV (rest := []) B (c_X12_isGood l E hV H74 gH74.1 h0 kh0 u74_h0_5 s74_u74_h0_5) cl_RX12_194 gH74.1 kh0 rfl rfl rfl rfl hl.1 rfl (Nat.le_of_ble_eq_true rfl) dX12_game_75 rfl rfl ⟨rfl, rfl⟩ ⟨Nat.zero_le _, Nat.zero_le _⟩ (zO.of gH74 hh)) (fun x_25 hp_25 => ?_)
      obtain ⟨hp_25_1, hp_25_2, hp_25_3⟩ := hp_25
      refine lv_if_eq (tgt := 95) hx hb dX12_game_78 (by decide) (fun c_26 => ?_) (fun c_26 => ?_)
      · have f_26 := z_eq c_26 rfl kl_0
        exact b95 H74 lc74 ls u74_h0_5 u74_h0_4 u74_h0_26 u74_h0_27 u74_h0_8 gH74 (lv_sub hl [0] rfl) (by omega) (by omega) (by omega) (by omega) (by omega) (by omega) (by omega) (by omega) (by omega) (by omega) s74_u74_h0_37 s74_u74_h0_38 s74_u74_h0_5 s74_u74_h0_4 s74_u74_h0_26 s74_u74_h0_27 s74_u74_h0_8
      · have f_26 := z_ne c_26 rfl kl_0
        refine lv_aload_n hx hb dX12_game_81 rfl (lv_at hl 0 rfl) ?_
        refine g_getI B fl_RX12_169 gH74.1 kh0 rfl rfl rfl rfl rfl dX12_game_82 (fun x_27 s_27 a_27 b_27 => ?_)
        refine lv_if_eq (tgt := 95) hx hb dX12_game_85 (by decide) (fun c_28 => ?_) (fun c_28 => ?_)
        · have f_28 := z_eq c_28 rfl kl_0
          exact b95 H74 lc74 ls u74_h0_5 u74_h0_4 u74_h0_26 u74_h0_27 u74_h0_8 gH74 (lv_sub hl [0] rfl) (by omega) (by omega) (by omega) (by omega) (by omega) (by omega) (by omega) (by omega) (by omega) (by omega) s74_u74_h0_37 s74_u74_h0_38 s74_u74_h0_5 s74_u74_h0_4 s74_u74_h0_26 s74_u74_h0_27 s74_u74_h0_8
        · have f_28 := z_ne c_28 rfl kl_0
          refine lv_aload_n hx hb dX12_game_88 rfl (lv_at hl 0 rfl) ?_
          obtain ⟨y_29, s_29⟩ := HT.atL gH74.1 kh0 rfl (j := 11) (by decide) rfl
          obtain ⟨q_30, s_30, k_q_30⟩ := HT.atR gH74.1 kh0 rfl (j := 14) (by decide) rfl
          obtain ⟨x_31, s_31, a_31, b_31⟩ := HT.elI (i := u74_h0_27) (N := 2) gH74.1 k_q_30 rfl rfl rfl (by omega) (by omega) rfl
          refine zkV (zrV (rest := []) B (c_X12_readLine l E hV H74 gH74.1 h0 kh0 u74_h0_8 s74_u74_h0_8 (by omega) (by omega) u74_h0_4 s74_u74_h0_4 x_27 s_27 u74_h0_5 s74_u74_h0_5 y_29 s_29 u74_h0_27 s74_u74_h0_27 q_30 k_q_30 s_30 x_31 s_31 (by omega)) cl_RX12_220 gH74.1 kh0 rfl rfl rfl rfl hl.1 rfl (Nat.le_of_ble_eq_true rfl) dX12_game_89 rfl rfl ⟨rfl, rfl⟩ ⟨Nat.zero_le _, Nat.zero_le _⟩ (zO.of gH74 hh)) gH74 rfl (fun H32 lc32 hp_32 gH32 rH32 => ?_)
          have s_33 := rH32.keep hV kh0 rfl s74_u74_h0_37
          have s_34 := rH32.keep hV kh0 rfl s74_u74_h0_38
          have s_35 := rH32.keep hV kh0 rfl s74_u74_h0_4
          have s_36 := rH32.keep hV kh0 rfl s74_u74_h0_26
          have s_37 := rH32.keep hV kh0 rfl s74_u74_h0_27
          obtain ⟨k_38, sk_38, ak_38, bk_38, fk_38_0, fk_38_1, k_39, sk_39, ak_39, bk_39, fk_39_0⟩ := hp_32
          refine lv_goto (tgt := 74) hx hb dX12_game_92 (by decide) ?_
          exact ih74 H32 lc32 ls k_39 u74_h0_4 u74_h0_26 u74_h0_27 k_38 (by omega) gH32 (lv_sub hl [0] rfl) (by omega) (by omega) (by omega) (by omega) (by omega) (by omega) (by omega) (by omega) (by omega) (by omega) s_33 s_34 sk_39 s_35 s_36 s_37 sk_38 (by omega)
  have b20 : ∀ (n20 : Nat) (H20 : Heap) (lc20 : List Loc) (ls : Array Slot) (v20_1 : Int32) (u20_h0_4 : Int32), 1600 - v20_1.toInt < (n20 : Int) → zG E wS_X12_game H0 H20 lc20 → lv_has ls 2 [(0, .ref h0), (1, .int v20_1)] → 0 ≤ v20_1.toInt → v20_1.toInt ≤ 1600 → 0 ≤ u20_h0_4.toInt → u20_h0_4.toInt ≤ 1600 → sl H20 h0 (zix E 13 37) = some (.int n0) → sl H20 h0 (zix E 13 38) = some (.int u0) → sl H20 h0 (zix E 13 5) = some (.int 0) → sl H20 h0 (zix E 13 4) = some (.int u20_h0_4) → W p l e rm_X12_game s m args below meth c H20 lc20 0 0 Q (F0 m 20 ls []) := by
    intro n20
    induction n20 with
    | zero =>
      intro H20 lc20 ls v20_1 u20_h0_4 hm20 gH20 hl f20_1 f20_2 f20_3 f20_4 s20_u20_h0_37 s20_u20_h0_38 s20_u20_h0_5 s20_u20_h0_4
      exact absurd hm20 (by omega)
    | succ n20 ih20 =>
      intro H20 lc20 ls v20_1 u20_h0_4 hm20 gH20 hl f20_1 f20_2 f20_3 f20_4 s20_u20_h0_37 s20_u20_h0_38 s20_u20_h0_5 s20_u20_h0_4
      refine lv_iload_n hx hb dX12_game_20 rfl (lv_at hl 1 rfl) ?_
      refine lv_aload_n hx hb dX12_game_21 rfl (lv_at hl 0 rfl) ?_
      refine g_get B fl_RX12_131 gH20.1 kh0 rfl rfl rfl dX12_game_22 s20_u20_h0_4 ?_
      refine lv_icmp_ge (tgt := 46) hx hb dX12_game_25 (by decide) (fun c_40 => ?_) (fun c_40 => ?_)
      · have f_40 := z_le c_40 rfl rfl
        refine lv_aload_n hx hb dX12_game_46 rfl (lv_at hl 0 rfl) ?_
        refine lv_iconst (v := 0) hx hb dX12_game_47 (by decide) ?_
        have := kl_0
        refine g_putI B fp_RX12_214 hV gH20 kh0 rfl rfl rfl rfl rfl (by omega) (by omega) rfl dX12_game_48 (fun H41 lc41 gH41 uH41 => ?_)
        have s_42 := uH41.keep (Or.inr (j_ne hV rfl rfl rfl rfl)) s20_u20_h0_37
        have s_43 := uH41.keep (Or.inr (j_ne hV rfl rfl rfl rfl)) s20_u20_h0_38
        have s_44 := uH41.keep (Or.inr (j_ne hV rfl rfl rfl rfl)) s20_u20_h0_5
        have s_45 := uH41.keep (Or.inr (j_ne hV rfl rfl rfl rfl)) s20_u20_h0_4
        refine lv_aload_n hx hb dX12_game_51 rfl (lv_at hl 0 rfl) ?_
        refine lv_iconst (v := 0) hx hb dX12_game_52 (by decide) ?_
        have := kl_0
        refine g_putI B fp_RX12_159 hV gH41 kh0 rfl rfl rfl rfl rfl (by omega) (by omega) rfl dX12_game_53 (fun H46 lc46 gH46 uH46 => ?_)
        have s_47 := uH46.keep (Or.inr (j_ne hV rfl rfl rfl rfl)) s_42
        have s_48 := uH46.keep (Or.inr (j_ne hV rfl rfl rfl rfl)) s_43
        have s_49 := uH46.keep (Or.inr (j_ne hV rfl rfl rfl rfl)) s_44
        have s_50 := uH46.keep (Or.inr (j_ne hV rfl rfl rfl rfl)) s_45
        refine lv_aload_n hx hb dX12_game_56 rfl (lv_at hl 0 rfl) ?_
        refine lv_iconst (v := 1) hx hb dX12_game_57 (by decide) ?_
        refine lv_aload_n hx hb dX12_game_58 rfl (lv_at hl 0 rfl) ?_
        refine g_getI B fl_RX12_217 gH46.1 kh0 rfl rfl rfl rfl rfl dX12_game_59 (fun x_51 s_51 a_51 b_51 => ?_)
        refine lv_isub hx hb dX12_game_62 ?_
        refine lv_topi (fun x_52 e_52 => ?_)
        have t_52 := z_sub e_52 kl_1 rfl (by omega) (by omega)
        refine g_putI B fp_RX12_204 hV gH46 kh0 rfl rfl rfl rfl rfl (by omega) (by omega) rfl dX12_game_63 (fun H53 lc53 gH53 uH53 => ?_)
        have s_54 := uH53.keep (Or.inr (j_ne hV rfl rfl rfl rfl)) s_47
        have s_55 := uH53.keep (Or.inr (j_ne hV rfl rfl rfl rfl)) s_48
        have s_56 := uH53.keep (Or.inr (j_ne hV rfl rfl rfl rfl)) s_49
        have s_57 := uH53.keep (Or.inr (j_ne hV rfl rfl rfl rfl)) s_50
        have s_58 := uH53.keep (Or.inr (j_ne hV rfl rfl rfl rfl)) uH46.2.1
        have s_59 := uH53.keep (Or.inr (j_ne hV rfl rfl rfl rfl)) s_51
        refine lv_aload_n hx hb dX12_game_66 rfl (lv_at hl 0 rfl) ?_
        refine zkV (zrV (rest := []) B (c_X12_clearBank l E hV H53 gH53.1 h0 kh0) cl_RX12_125 gH53.1 kh0 rfl rfl rfl rfl hl.1 rfl (Nat.le_of_ble_eq_true rfl) dX12_game_67 rfl rfl ⟨rfl, rfl⟩ ⟨Nat.zero_le _, Nat.zero_le _⟩ (zO.of gH53 hh)) gH53 rfl (fun H60 lc60 hp_60 gH60 rH60 => ?_)
        have s_61 := rH60.keep hV kh0 rfl s_54
        have s_62 := rH60.keep hV kh0 rfl s_55
        have s_63 := rH60.keep hV kh0 rfl s_56
        have s_64 := rH60.keep hV kh0 rfl s_57
        have s_65 := rH60.keep hV kh0 rfl s_58
        have s_66 := rH60.keep hV kh0 rfl s_59
        have s_67 := rH60.keep hV kh0 rfl uH53.2.1
        refine lv_aload_n hx hb dX12_game_70 rfl (lv_at hl 0 rfl) ?_
        have := kl_0
        have := kl_0
        refine zkV (zrV (rest := []) B (c_X12_goOn l E hV H60 gH60.1 h0 kh0 0 s_65 (by omega) (by omega) u20_h0_4 s_64 (by omega)) cl_RX12_198 gH60.1 kh0 rfl rfl rfl rfl hl.1 rfl (Nat.le_of_ble_eq_true rfl) dX12_game_71 rfl rfl ⟨rfl, rfl⟩ ⟨Nat.zero_le _, Nat.zero_le _⟩ (zO.of gH60 hh)) gH60 rfl (fun H68 lc68 hp_68 gH68 rH68 => ?_)
        have s_69 := rH68.keep hV kh0 rfl s_61
        have s_70 := rH68.keep hV kh0 rfl s_62
        have s_71 := rH68.keep hV kh0 rfl s_63
        have s_72 := rH68.keep hV kh0 rfl s_64
        have s_73 := rH68.keep hV kh0 rfl s_66
        have s_74 := rH68.keep hV kh0 rfl s_67
        obtain ⟨k_75, sk_75, ak_75, bk_75, fk_75_0, fk_75_1, k_76, sk_76, ak_76, bk_76, fk_76_0⟩ := hp_68
        have := kl_0
        exact b74 3300 H68 lc68 ls 0 u20_h0_4 x_51 x_52 k_75 (by omega) gH68 (lv_sub hl [0] rfl) (by omega) (by omega) (by omega) (by omega) (by omega) (by omega) (by omega) (by omega) (by omega) (by omega) s_69 s_70 s_71 s_72 s_73 s_74 sk_75 (by omega)
      · have f_40 := z_nle c_40 rfl rfl
        refine lv_aload_n hx hb dX12_game_28 rfl (lv_at hl 0 rfl) ?_
        refine g_getR B fl_RX12_13 gH20.1 kh0 rfl rfl rfl rfl rfl dX12_game_29 (fun q_77 s_77 k_q_77 => ?_)
        refine lv_iload_n hx hb dX12_game_32 rfl (lv_at hl 1 rfl) ?_
        refine lv_aload_n hx hb dX12_game_33 rfl (lv_at hl 0 rfl) ?_
        refine g_getR B fl_RX12_7 gH20.1 kh0 rfl rfl rfl rfl rfl dX12_game_34 (fun q_78 s_78 k_q_78 => ?_)
        refine lv_iload_n hx hb dX12_game_37 rfl (lv_at hl 1 rfl) ?_
        refine g_baldI (i := v20_1) (N := 1620) B gH20.1 k_q_78 rfl rfl rfl rfl (by omega) (by omega) rfl dX12_game_38 (fun x_79 s_79 a_79 b_79 => ?_)
        refine g_bastI (i := v20_1) (N := 1600) B hV gH20 k_q_77 rfl rfl rfl rfl (by omega) (by omega) rfl rfl dX12_game_39 (fun H80 lc80 gH80 uH80 => ?_)
        have s_81 := uH80.keep (Or.inl (k_ne kh0 k_q_77 rfl)) s20_u20_h0_37
        have s_82 := uH80.keep (Or.inl (k_ne kh0 k_q_77 rfl)) s20_u20_h0_38
        have s_83 := uH80.keep (Or.inl (k_ne kh0 k_q_77 rfl)) s20_u20_h0_5
        have s_84 := uH80.keep (Or.inl (k_ne kh0 k_q_77 rfl)) s20_u20_h0_4
        have s_85 := uH80.keep (Or.inl (k_ne kh0 k_q_77 rfl)) s_77
        have s_86 := uH80.keep (Or.inl (k_ne kh0 k_q_77 rfl)) s_78
        have s_87 := uH80.keep (Or.inl (k_ne k_q_78 k_q_77 rfl)) s_79
        obtain ⟨x_88, e_88⟩ : ∃ y : Int32, (v20_1 : Int32) + Int32.ofInt 1 = y := ⟨_, rfl⟩
        refine lv_iinc (v := x_88) (lv' := [(1, .int x_88), (0, .ref h0)]) hx hb dX12_game_40 hl (k := 1) rfl e_88 (by decide) rfl (fun ls hl => ?_)
        have t_88 := z_inc2 e_88 rfl (by decide) (by omega) (by omega)
        refine lv_goto (tgt := 20) hx hb dX12_game_43 (by decide) ?_
        have := kl_0
        exact ih20 H80 lc80 ls x_88 u20_h0_4 (by omega) gH80 (lv_sub hl [1, 0] rfl) (by omega) (by omega) (by omega) (by omega) s_81 s_82 s_83 s_84
  refine lv_aload_n hx hb dX12_game_0 rfl (lv_at hl 0 rfl) ?_
  refine lv_iconst (v := 0) hx hb dX12_game_1 (by decide) ?_
  have := kl_0
  refine g_putI B fp_RX12_134 hV hG0 kh0 rfl rfl rfl rfl rfl (by omega) (by omega) rfl dX12_game_2 (fun H89 lc89 gH89 uH89 => ?_)
  have s_90 := uH89.keep (Or.inr (j_ne hV rfl rfl rfl rfl)) s_n0
  have s_91 := uH89.keep (Or.inr (j_ne hV rfl rfl rfl rfl)) s_u0
  refine lv_aload_n hx hb dX12_game_5 rfl (lv_at hl 0 rfl) ?_
  refine lv_iconst (v := (-1)) hx hb dX12_game_6 (by decide) ?_
  have := kl_m1
  refine g_putI B fp_RX12_20 hV gH89 kh0 rfl rfl rfl rfl rfl (z_rng _).1 (z_rng _).2 rfl dX12_game_7 (fun H92 lc92 gH92 uH92 => ?_)
  have s_93 := uH92.keep (Or.inr (j_ne hV rfl rfl rfl rfl)) s_90
  have s_94 := uH92.keep (Or.inr (j_ne hV rfl rfl rfl rfl)) s_91
  have s_95 := uH92.keep (Or.inr (j_ne hV rfl rfl rfl rfl)) uH89.2.1
  refine lv_aload_n hx hb dX12_game_10 rfl (lv_at hl 0 rfl) ?_
  refine lv_aload_n hx hb dX12_game_11 rfl (lv_at hl 0 rfl) ?_
  refine g_getI B fl_RX12_214 gH92.1 kh0 rfl rfl rfl rfl rfl dX12_game_12 (fun x_96 s_96 a_96 b_96 => ?_)
  refine g_putI B fp_RX12_131 hV gH92 kh0 rfl rfl rfl rfl rfl (by omega) (by omega) rfl dX12_game_15 (fun H97 lc97 gH97 uH97 => ?_)
  have s_98 := uH97.keep (Or.inr (j_ne hV rfl rfl rfl rfl)) s_93
  have s_99 := uH97.keep (Or.inr (j_ne hV rfl rfl rfl rfl)) s_94
  have s_100 := uH97.keep (Or.inr (j_ne hV rfl rfl rfl rfl)) s_95
  refine lv_iconst (v := 0) hx hb dX12_game_18 (by decide) ?_
  refine lv_istore_n (lv' := [(1, .int 0), (0, .ref h0)]) hx hb dX12_game_19 rfl hl (by decide) rfl (fun ls hl => ?_)
  have := kl_0
  have := kl_0
  exact b20 1601 H97 lc97 ls 0 x_96 (by omega) gH97 (lv_sub hl [1, 0] rfl) (by omega) (by omega) (by omega) (by omega) s_98 s_99 s_100 uH97.2.1
