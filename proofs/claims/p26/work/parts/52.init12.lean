def zLX12 : List Nat := [58, 59, 60, 61, 62, 63, 64, 65, 66, 67, 68, 69, 70, 71, 72, 73, 74, 75, 76, 77, 78, 79, 80, 81, 82, 83, 84, 85, 86, 87, 88, 89, 90, 91, 92, 93]
theorem dX12_init_0 : decode cX12_init 0 = .ok (.aload_n 0, 1) := by decide +kernel
theorem dX12_init_1 : decode cX12_init 1 = .ok (.invokespecial 1, 3) := by decide +kernel
theorem dX12_init_4 : decode cX12_init 4 = .ok (.aload_n 0, 1) := by decide +kernel
theorem dX12_init_5 : decode cX12_init 5 = .ok (.sipush 1620, 3) := by decide +kernel
theorem dX12_init_8 : decode cX12_init 8 = .ok (.newarray .byte, 2) := by decide +kernel
theorem dX12_init_10 : decode cX12_init 10 = .ok (.putfield 7, 3) := by decide +kernel
theorem dX12_init_13 : decode cX12_init 13 = .ok (.aload_n 0, 1) := by decide +kernel
theorem dX12_init_14 : decode cX12_init 14 = .ok (.sipush 1600, 3) := by decide +kernel
theorem dX12_init_17 : decode cX12_init 17 = .ok (.newarray .byte, 2) := by decide +kernel
theorem dX12_init_19 : decode cX12_init 19 = .ok (.putfield 13, 3) := by decide +kernel
theorem dX12_init_22 : decode cX12_init 22 = .ok (.aload_n 0, 1) := by decide +kernel
theorem dX12_init_23 : decode cX12_init 23 = .ok (.sipush 6076, 3) := by decide +kernel
theorem dX12_init_26 : decode cX12_init 26 = .ok (.newarray .int, 2) := by decide +kernel
theorem dX12_init_28 : decode cX12_init 28 = .ok (.putfield 16, 3) := by decide +kernel
theorem dX12_init_31 : decode cX12_init 31 = .ok (.aload_n 0, 1) := by decide +kernel
theorem dX12_init_32 : decode cX12_init 32 = .ok (.iconst (-1), 1) := by decide +kernel
theorem dX12_init_33 : decode cX12_init 33 = .ok (.putfield 20, 3) := by decide +kernel
theorem dX12_init_36 : decode cX12_init 36 = .ok (.aload_n 0, 1) := by decide +kernel
theorem dX12_init_37 : decode cX12_init 37 = .ok (.iconst 2, 1) := by decide +kernel
theorem dX12_init_38 : decode cX12_init 38 = .ok (.newarray .int, 2) := by decide +kernel
theorem dX12_init_40 : decode cX12_init 40 = .ok (.putfield 24, 3) := by decide +kernel
theorem dX12_init_43 : decode cX12_init 43 = .ok (.aload_n 0, 1) := by decide +kernel
theorem dX12_init_44 : decode cX12_init 44 = .ok (.iconst 2, 1) := by decide +kernel
theorem dX12_init_45 : decode cX12_init 45 = .ok (.newarray .int, 2) := by decide +kernel
theorem dX12_init_47 : decode cX12_init 47 = .ok (.putfield 27, 3) := by decide +kernel
theorem dX12_init_50 : decode cX12_init 50 = .ok (.aload_n 0, 1) := by decide +kernel
theorem dX12_init_51 : decode cX12_init 51 = .ok (.iconst 2, 1) := by decide +kernel
theorem dX12_init_52 : decode cX12_init 52 = .ok (.newarray .int, 2) := by decide +kernel
theorem dX12_init_54 : decode cX12_init 54 = .ok (.putfield 30, 3) := by decide +kernel
theorem dX12_init_57 : decode cX12_init 57 = .ok (.aload_n 0, 1) := by decide +kernel
theorem dX12_init_58 : decode cX12_init 58 = .ok (.iconst 2, 1) := by decide +kernel
theorem dX12_init_59 : decode cX12_init 59 = .ok (.newarray .int, 2) := by decide +kernel
theorem dX12_init_61 : decode cX12_init 61 = .ok (.putfield 33, 3) := by decide +kernel
theorem dX12_init_64 : decode cX12_init 64 = .ok (.aload_n 0, 1) := by decide +kernel
theorem dX12_init_65 : decode cX12_init 65 = .ok (.iconst 2, 1) := by decide +kernel
theorem dX12_init_66 : decode cX12_init 66 = .ok (.newarray .int, 2) := by decide +kernel
theorem dX12_init_68 : decode cX12_init 68 = .ok (.putfield 36, 3) := by decide +kernel
theorem dX12_init_71 : decode cX12_init 71 = .ok (.aload_n 0, 1) := by decide +kernel
theorem dX12_init_72 : decode cX12_init 72 = .ok (.bipush 24, 2) := by decide +kernel
theorem dX12_init_74 : decode cX12_init 74 = .ok (.newarray .int, 2) := by decide +kernel
theorem dX12_init_76 : decode cX12_init 76 = .ok (.putfield 39, 3) := by decide +kernel
theorem dX12_init_79 : decode cX12_init 79 = .ok (.aload_n 0, 1) := by decide +kernel
theorem dX12_init_80 : decode cX12_init 80 = .ok (.bipush 12, 2) := by decide +kernel
theorem dX12_init_82 : decode cX12_init 82 = .ok (.newarray .int, 2) := by decide +kernel
theorem dX12_init_84 : decode cX12_init 84 = .ok (.putfield 42, 3) := by decide +kernel
theorem dX12_init_87 : decode cX12_init 87 = .ok (.aload_n 0, 1) := by decide +kernel
theorem dX12_init_88 : decode cX12_init 88 = .ok (.bipush 72, 2) := by decide +kernel
theorem dX12_init_90 : decode cX12_init 90 = .ok (.newarray .int, 2) := by decide +kernel
theorem dX12_init_92 : decode cX12_init 92 = .ok (.putfield 45, 3) := by decide +kernel
theorem dX12_init_95 : decode cX12_init 95 = .ok (.aload_n 0, 1) := by decide +kernel
theorem dX12_init_96 : decode cX12_init 96 = .ok (.bipush 72, 2) := by decide +kernel
theorem dX12_init_98 : decode cX12_init 98 = .ok (.newarray .int, 2) := by decide +kernel
theorem dX12_init_100 : decode cX12_init 100 = .ok (.putfield 48, 3) := by decide +kernel
theorem dX12_init_103 : decode cX12_init 103 = .ok (.aload_n 0, 1) := by decide +kernel
theorem dX12_init_104 : decode cX12_init 104 = .ok (.bipush 12, 2) := by decide +kernel
theorem dX12_init_106 : decode cX12_init 106 = .ok (.newarray .boolean, 2) := by decide +kernel
theorem dX12_init_108 : decode cX12_init 108 = .ok (.putfield 51, 3) := by decide +kernel
theorem dX12_init_111 : decode cX12_init 111 = .ok (.aload_n 0, 1) := by decide +kernel
theorem dX12_init_112 : decode cX12_init 112 = .ok (.bipush 12, 2) := by decide +kernel
theorem dX12_init_114 : decode cX12_init 114 = .ok (.newarray .boolean, 2) := by decide +kernel
theorem dX12_init_116 : decode cX12_init 116 = .ok (.putfield 55, 3) := by decide +kernel
theorem dX12_init_119 : decode cX12_init 119 = .ok (.aload_n 0, 1) := by decide +kernel
theorem dX12_init_120 : decode cX12_init 120 = .ok (.bipush 72, 2) := by decide +kernel
theorem dX12_init_122 : decode cX12_init 122 = .ok (.newarray .boolean, 2) := by decide +kernel
theorem dX12_init_124 : decode cX12_init 124 = .ok (.putfield 58, 3) := by decide +kernel
theorem dX12_init_127 : decode cX12_init 127 = .ok (.aload_n 0, 1) := by decide +kernel
theorem dX12_init_128 : decode cX12_init 128 = .ok (.iconst 4, 1) := by decide +kernel
theorem dX12_init_129 : decode cX12_init 129 = .ok (.newarray .boolean, 2) := by decide +kernel
theorem dX12_init_131 : decode cX12_init 131 = .ok (.putfield 61, 3) := by decide +kernel
theorem dX12_init_134 : decode cX12_init 134 = .ok (.aload_n 0, 1) := by decide +kernel
theorem dX12_init_135 : decode cX12_init 135 = .ok (.bipush 12, 2) := by decide +kernel
theorem dX12_init_137 : decode cX12_init 137 = .ok (.newarray .long, 2) := by decide +kernel
theorem dX12_init_139 : decode cX12_init 139 = .ok (.putfield 64, 3) := by decide +kernel
theorem dX12_init_142 : decode cX12_init 142 = .ok (.aload_n 0, 1) := by decide +kernel
theorem dX12_init_143 : decode cX12_init 143 = .ok (.bipush 6, 2) := by decide +kernel
theorem dX12_init_145 : decode cX12_init 145 = .ok (.newarray .int, 2) := by decide +kernel
theorem dX12_init_147 : decode cX12_init 147 = .ok (.putfield 68, 3) := by decide +kernel
theorem dX12_init_150 : decode cX12_init 150 = .ok (.aload_n 0, 1) := by decide +kernel
theorem dX12_init_151 : decode cX12_init 151 = .ok (.bipush 6, 2) := by decide +kernel
theorem dX12_init_153 : decode cX12_init 153 = .ok (.newarray .int, 2) := by decide +kernel
theorem dX12_init_155 : decode cX12_init 155 = .ok (.putfield 71, 3) := by decide +kernel
theorem dX12_init_158 : decode cX12_init 158 = .ok (.aload_n 0, 1) := by decide +kernel
theorem dX12_init_159 : decode cX12_init 159 = .ok (.bipush 60, 2) := by decide +kernel
theorem dX12_init_161 : decode cX12_init 161 = .ok (.newarray .int, 2) := by decide +kernel
theorem dX12_init_163 : decode cX12_init 163 = .ok (.putfield 74, 3) := by decide +kernel
theorem dX12_init_166 : decode cX12_init 166 = .ok (.aload_n 0, 1) := by decide +kernel
theorem dX12_init_167 : decode cX12_init 167 = .ok (.bipush 60, 2) := by decide +kernel
theorem dX12_init_169 : decode cX12_init 169 = .ok (.newarray .int, 2) := by decide +kernel
theorem dX12_init_171 : decode cX12_init 171 = .ok (.putfield 77, 3) := by decide +kernel
theorem dX12_init_174 : decode cX12_init 174 = .ok (.aload_n 0, 1) := by decide +kernel
theorem dX12_init_175 : decode cX12_init 175 = .ok (.bipush 60, 2) := by decide +kernel
theorem dX12_init_177 : decode cX12_init 177 = .ok (.newarray .boolean, 2) := by decide +kernel
theorem dX12_init_179 : decode cX12_init 179 = .ok (.putfield 80, 3) := by decide +kernel
theorem dX12_init_182 : decode cX12_init 182 = .ok (.aload_n 0, 1) := by decide +kernel
theorem dX12_init_183 : decode cX12_init 183 = .ok (.bipush 60, 2) := by decide +kernel
theorem dX12_init_185 : decode cX12_init 185 = .ok (.newarray .boolean, 2) := by decide +kernel
theorem dX12_init_187 : decode cX12_init 187 = .ok (.putfield 83, 3) := by decide +kernel
theorem dX12_init_190 : decode cX12_init 190 = .ok (.aload_n 0, 1) := by decide +kernel
theorem dX12_init_191 : decode cX12_init 191 = .ok (.sipush 26637, 3) := by decide +kernel
theorem dX12_init_194 : decode cX12_init 194 = .ok (.newarray .int, 2) := by decide +kernel
theorem dX12_init_196 : decode cX12_init 196 = .ok (.putfield 86, 3) := by decide +kernel
theorem dX12_init_199 : decode cX12_init 199 = .ok (.aload_n 0, 1) := by decide +kernel
theorem dX12_init_200 : decode cX12_init 200 = .ok (.bipush 30, 2) := by decide +kernel
theorem dX12_init_202 : decode cX12_init 202 = .ok (.newarray .int, 2) := by decide +kernel
theorem dX12_init_204 : decode cX12_init 204 = .ok (.putfield 89, 3) := by decide +kernel
theorem dX12_init_207 : decode cX12_init 207 = .ok (.aload_n 0, 1) := by decide +kernel
theorem dX12_init_208 : decode cX12_init 208 = .ok (.bipush 30, 2) := by decide +kernel
theorem dX12_init_210 : decode cX12_init 210 = .ok (.newarray .int, 2) := by decide +kernel
theorem dX12_init_212 : decode cX12_init 212 = .ok (.putfield 92, 3) := by decide +kernel
theorem dX12_init_215 : decode cX12_init 215 = .ok (.aload_n 0, 1) := by decide +kernel
theorem dX12_init_216 : decode cX12_init 216 = .ok (.bipush 30, 2) := by decide +kernel
theorem dX12_init_218 : decode cX12_init 218 = .ok (.newarray .int, 2) := by decide +kernel
theorem dX12_init_220 : decode cX12_init 220 = .ok (.putfield 95, 3) := by decide +kernel
theorem dX12_init_223 : decode cX12_init 223 = .ok (.aload_n 0, 1) := by decide +kernel
theorem dX12_init_224 : decode cX12_init 224 = .ok (.bipush 30, 2) := by decide +kernel
theorem dX12_init_226 : decode cX12_init 226 = .ok (.newarray .int, 2) := by decide +kernel
theorem dX12_init_228 : decode cX12_init 228 = .ok (.putfield 98, 3) := by decide +kernel
theorem dX12_init_231 : decode cX12_init 231 = .ok (.aload_n 0, 1) := by decide +kernel
theorem dX12_init_232 : decode cX12_init 232 = .ok (.bipush 30, 2) := by decide +kernel
theorem dX12_init_234 : decode cX12_init 234 = .ok (.newarray .int, 2) := by decide +kernel
theorem dX12_init_236 : decode cX12_init 236 = .ok (.putfield 101, 3) := by decide +kernel
theorem dX12_init_239 : decode cX12_init 239 = .ok (.aload_n 0, 1) := by decide +kernel
theorem dX12_init_240 : decode cX12_init 240 = .ok (.bipush 30, 2) := by decide +kernel
theorem dX12_init_242 : decode cX12_init 242 = .ok (.newarray .int, 2) := by decide +kernel
theorem dX12_init_244 : decode cX12_init 244 = .ok (.putfield 104, 3) := by decide +kernel
theorem dX12_init_247 : decode cX12_init 247 = .ok (.aload_n 0, 1) := by decide +kernel
theorem dX12_init_248 : decode cX12_init 248 = .ok (.iconst 3, 1) := by decide +kernel
theorem dX12_init_249 : decode cX12_init 249 = .ok (.newarray .int, 2) := by decide +kernel
theorem dX12_init_251 : decode cX12_init 251 = .ok (.putfield 107, 3) := by decide +kernel
theorem dX12_init_254 : decode cX12_init 254 = .ok (.aload_n 0, 1) := by decide +kernel
theorem dX12_init_255 : decode cX12_init 255 = .ok (.sipush 11346, 3) := by decide +kernel
theorem dX12_init_258 : decode cX12_init 258 = .ok (.newarray .int, 2) := by decide +kernel
theorem dX12_init_260 : decode cX12_init 260 = .ok (.putfield 110, 3) := by decide +kernel
theorem dX12_init_263 : decode cX12_init 263 = .ok (.aload_n 0, 1) := by decide +kernel
theorem dX12_init_264 : decode cX12_init 264 = .ok (.sipush 180, 3) := by decide +kernel
theorem dX12_init_267 : decode cX12_init 267 = .ok (.newarray .int, 2) := by decide +kernel
theorem dX12_init_269 : decode cX12_init 269 = .ok (.putfield 113, 3) := by decide +kernel
theorem dX12_init_272 : decode cX12_init 272 = .ok (.aload_n 0, 1) := by decide +kernel
theorem dX12_init_273 : decode cX12_init 273 = .ok (.sipush 180, 3) := by decide +kernel
theorem dX12_init_276 : decode cX12_init 276 = .ok (.newarray .int, 2) := by decide +kernel
theorem dX12_init_278 : decode cX12_init 278 = .ok (.putfield 116, 3) := by decide +kernel
theorem dX12_init_281 : decode cX12_init 281 = .ok (.aload_n 0, 1) := by decide +kernel
theorem dX12_init_282 : decode cX12_init 282 = .ok (.sipush 180, 3) := by decide +kernel
theorem dX12_init_285 : decode cX12_init 285 = .ok (.newarray .boolean, 2) := by decide +kernel
theorem dX12_init_287 : decode cX12_init 287 = .ok (.putfield 119, 3) := by decide +kernel
theorem dX12_init_290 : decode cX12_init 290 = .ok (.aload_n 0, 1) := by decide +kernel
theorem dX12_init_291 : decode cX12_init 291 = .ok (.sipush 180, 3) := by decide +kernel
theorem dX12_init_294 : decode cX12_init 294 = .ok (.newarray .boolean, 2) := by decide +kernel
theorem dX12_init_296 : decode cX12_init 296 = .ok (.putfield 122, 3) := by decide +kernel
theorem dX12_init_299 : decode cX12_init 299 = .ok (.aload_n 0, 1) := by decide +kernel
theorem dX12_init_300 : decode cX12_init 300 = .ok (.invokevirtual 125, 3) := by decide +kernel
theorem dX12_init_303 : decode cX12_init 303 = .ok (.aload_n 0, 1) := by decide +kernel
theorem dX12_init_304 : decode cX12_init 304 = .ok (.invokevirtual 128, 3) := by decide +kernel
theorem dX12_init_307 : decode cX12_init 307 = .ok (.return_, 1) := by decide +kernel
def rm_X12_init : Room := { frames := 3, cells := 36, slots := 48736, locals := 67 }
set_option maxRecDepth 100000 in
set_option maxHeartbeats 4000000 in
theorem m_X12_init (l : Launch) (E : zE) (hV : zV E) (H0 : Heap) (b : Nat) (kb : eK E b = 13) (hbn : b < H0.size) (hT : zTh E 13 b H0 [.null, .null, .null, .int 0, .int 0, .int 0, .int 0, .int 0, .int 0, .int 0, .int 0, .long 0, .null, .null, .null, .null, .null, .null, .null, .null, .null, .null, .null, .null, .null, .null, .int 0, .int 0, .int 0, .int 0, .null, .null, .int 0, .null, .null, .null, .null, .int 0, .int 0, .int 0, .null, .null, .null, .null, .null, .null, .null, .int 0, .int 0, .null, .null, .null, .null, .null, .null]) (heM : eM E = 0) (hold : ∀ q : Nat, q < H0.size → q ≠ b → eK E q ≠ 0 → HTq E H0 q) (hend : ∀ q : Nat, H0.size + 36 ≤ q → eK E q = 0) (hKi : zKi E H0.size zLX12) : Met l yX12_init (zws yX12_init cX12_init 1 none) rm_X12_init (zPm E H0 [.ref b]) (zQ0 E 36 H0 (fun H1 => (∃ n1 : Int32, sl H1 b (zix E 13 37) = some (.int n1) ∧ 0 ≤ n1.toInt ∧ n1.toInt ≤ 0) ∧ (∃ u1 : Int32, sl H1 b (zix E 13 38) = some (.int u1) ∧ 0 ≤ u1.toInt ∧ u1.toInt ≤ 0))) 36 48736 (zfb E H0.size) := by
  refine zEntM (by decide) rfl (Nat.le_of_ble_eq_true rfl) (fun p e s m args below meth c ls Q B hA hnm hr hlk hh hQ hl => ?_)
  have hx := B.1
  have hb := B.2.1
  have hl : lv_has ls 1 [(0, .ref b)] := hl
  have hC : zCo E b [] H0 H0 0 [] := zCo.rf
  have kne : eK E b ≠ 0 := by omega
  refine lv_aload_n hx hb dX12_init_0 rfl (lv_at hl 0 rfl) ?_
  refine m_obj B (mc_wsL_law_r12 _ (List.mem_of_getElem? (i := 19) rfl)) (mc_wsL_law_r1 _ (List.mem_of_getElem? (i := 10) rfl)) (mc_wsL_law_r1 _ (List.mem_of_getElem? (i := 11) rfl)) hl.1 dX12_init_1 rfl rfl ?_
  refine lv_aload_n hx hb dX12_init_4 rfl (lv_at hl 0 rfl) ?_
  refine lv_sipush (v := 1620) hx hb dX12_init_5 (by decide) ?_
  refine m_newa (z := 0) (atype := .byte) B hA hbn hC hT rfl (mc_wsL_law_r1 _ (List.mem_of_getElem? (i := 12) rfl)) (hKi 0 58 rfl) rfl rfl rfl rfl (by decide) (by decide) (fun j _ => dn_i (by decide) (by decide)) (Nat.le_of_ble_eq_true rfl) (Nat.le_of_ble_eq_true rfl) (Nat.le_of_ble_eq_true rfl) dX12_init_8 (fun H1 hC hT o_ => ?_)
  refine m_putF B ff_RX12_7 hnm hV hbn hC hT rfl rfl rfl rfl (v := .ref (H0.size + 0)) rfl rfl dX12_init_10 (fun H2 lc2 hC hT o_ => ?_)
  have hT : zTh E 13 b H2 [.ref (H0.size + 0), .null, .null, .int 0, .int 0, .int 0, .int 0, .int 0, .int 0, .int 0, .int 0, .long 0, .null, .null, .null, .null, .null, .null, .null, .null, .null, .null, .null, .null, .null, .null, .int 0, .int 0, .int 0, .int 0, .null, .null, .int 0, .null, .null, .null, .null, .int 0, .int 0, .int 0, .null, .null, .null, .null, .null, .null, .null, .int 0, .int 0, .null, .null, .null, .null, .null, .null] := hT
  refine lv_aload_n hx hb dX12_init_13 rfl (lv_at hl 0 rfl) ?_
  refine lv_sipush (v := 1600) hx hb dX12_init_14 (by decide) ?_
  refine m_newa (z := 1) (atype := .byte) B hA hbn hC hT rfl (mc_wsL_law_r1 _ (List.mem_of_getElem? (i := 12) rfl)) (hKi 1 59 rfl) rfl rfl rfl rfl (by decide) (by decide) (fun j _ => dn_i (by decide) (by decide)) (Nat.le_of_ble_eq_true rfl) (Nat.le_of_ble_eq_true rfl) (Nat.le_of_ble_eq_true rfl) dX12_init_17 (fun H3 hC hT o_ => ?_)
  refine m_putF B ff_RX12_13 hnm hV hbn hC hT rfl rfl rfl rfl (v := .ref (H0.size + 1)) rfl rfl dX12_init_19 (fun H4 lc4 hC hT o_ => ?_)
  have hT : zTh E 13 b H4 [.ref (H0.size + 0), .ref (H0.size + 1), .null, .int 0, .int 0, .int 0, .int 0, .int 0, .int 0, .int 0, .int 0, .long 0, .null, .null, .null, .null, .null, .null, .null, .null, .null, .null, .null, .null, .null, .null, .int 0, .int 0, .int 0, .int 0, .null, .null, .int 0, .null, .null, .null, .null, .int 0, .int 0, .int 0, .null, .null, .null, .null, .null, .null, .null, .int 0, .int 0, .null, .null, .null, .null, .null, .null] := hT
  refine lv_aload_n hx hb dX12_init_22 rfl (lv_at hl 0 rfl) ?_
  refine lv_sipush (v := 6076) hx hb dX12_init_23 (by decide) ?_
  refine m_newa (z := 2) (atype := .int) B hA hbn hC hT rfl (mc_wsL_law_r3 _ (List.mem_of_getElem? (i := 15) rfl)) (hKi 2 60 rfl) rfl rfl rfl rfl (by decide) (by decide) (fun j _ => dn_p j) (Nat.le_of_ble_eq_true rfl) (Nat.le_of_ble_eq_true rfl) (Nat.le_of_ble_eq_true rfl) dX12_init_26 (fun H5 hC hT o_ => ?_)
  refine m_putF B ff_RX12_16 hnm hV hbn hC hT rfl rfl rfl rfl (v := .ref (H0.size + 2)) rfl rfl dX12_init_28 (fun H6 lc6 hC hT o_ => ?_)
  have hT : zTh E 13 b H6 [.ref (H0.size + 0), .ref (H0.size + 1), .ref (H0.size + 2), .int 0, .int 0, .int 0, .int 0, .int 0, .int 0, .int 0, .int 0, .long 0, .null, .null, .null, .null, .null, .null, .null, .null, .null, .null, .null, .null, .null, .null, .int 0, .int 0, .int 0, .int 0, .null, .null, .int 0, .null, .null, .null, .null, .int 0, .int 0, .int 0, .null, .null, .null, .null, .null, .null, .null, .int 0, .int 0, .null, .null, .null, .null, .null, .null] := hT
  refine lv_aload_n hx hb dX12_init_31 rfl (lv_at hl 0 rfl) ?_
  refine lv_iconst (v := (-1)) hx hb dX12_init_32 (by decide) ?_
  refine m_put B fp_RX12_20 hV hbn hC hT rfl rfl rfl rfl (v := .int (-1)) rfl rfl dX12_init_33 (fun H7 lc7 hC hT o_ => ?_)
  have hT : zTh E 13 b H7 [.ref (H0.size + 0), .ref (H0.size + 1), .ref (H0.size + 2), .int 0, .int 0, .int 0, .int (-1), .int 0, .int 0, .int 0, .int 0, .long 0, .null, .null, .null, .null, .null, .null, .null, .null, .null, .null, .null, .null, .null, .null, .int 0, .int 0, .int 0, .int 0, .null, .null, .int 0, .null, .null, .null, .null, .int 0, .int 0, .int 0, .null, .null, .null, .null, .null, .null, .null, .int 0, .int 0, .null, .null, .null, .null, .null, .null] := hT
  refine lv_aload_n hx hb dX12_init_36 rfl (lv_at hl 0 rfl) ?_
  refine lv_iconst (v := 2) hx hb dX12_init_37 (by decide) ?_
  refine m_newa (z := 3) (atype := .int) B hA hbn hC hT rfl (mc_wsL_law_r3 _ (List.mem_of_getElem? (i := 15) rfl)) (hKi 3 61 rfl) rfl rfl rfl rfl (by decide) (by decide) (fun j _ => dn_i (by decide) (by decide)) (Nat.le_of_ble_eq_true rfl) (Nat.le_of_ble_eq_true rfl) (Nat.le_of_ble_eq_true rfl) dX12_init_38 (fun H8 hC hT o_ => ?_)
  refine m_putF B ff_RX12_24 hnm hV hbn hC hT rfl rfl rfl rfl (v := .ref (H0.size + 3)) rfl rfl dX12_init_40 (fun H9 lc9 hC hT o_ => ?_)
  have hT : zTh E 13 b H9 [.ref (H0.size + 0), .ref (H0.size + 1), .ref (H0.size + 2), .int 0, .int 0, .int 0, .int (-1), .int 0, .int 0, .int 0, .int 0, .long 0, .ref (H0.size + 3), .null, .null, .null, .null, .null, .null, .null, .null, .null, .null, .null, .null, .null, .int 0, .int 0, .int 0, .int 0, .null, .null, .int 0, .null, .null, .null, .null, .int 0, .int 0, .int 0, .null, .null, .null, .null, .null, .null, .null, .int 0, .int 0, .null, .null, .null, .null, .null, .null] := hT
  refine lv_aload_n hx hb dX12_init_43 rfl (lv_at hl 0 rfl) ?_
  refine lv_iconst (v := 2) hx hb dX12_init_44 (by decide) ?_
  refine m_newa (z := 4) (atype := .int) B hA hbn hC hT rfl (mc_wsL_law_r3 _ (List.mem_of_getElem? (i := 15) rfl)) (hKi 4 62 rfl) rfl rfl rfl rfl (by decide) (by decide) (fun j _ => dn_i (by decide) (by decide)) (Nat.le_of_ble_eq_true rfl) (Nat.le_of_ble_eq_true rfl) (Nat.le_of_ble_eq_true rfl) dX12_init_45 (fun H10 hC hT o_ => ?_)
  refine m_putF B ff_RX12_27 hnm hV hbn hC hT rfl rfl rfl rfl (v := .ref (H0.size + 4)) rfl rfl dX12_init_47 (fun H11 lc11 hC hT o_ => ?_)
  have hT : zTh E 13 b H11 [.ref (H0.size + 0), .ref (H0.size + 1), .ref (H0.size + 2), .int 0, .int 0, .int 0, .int (-1), .int 0, .int 0, .int 0, .int 0, .long 0, .ref (H0.size + 3), .ref (H0.size + 4), .null, .null, .null, .null, .null, .null, .null, .null, .null, .null, .null, .null, .int 0, .int 0, .int 0, .int 0, .null, .null, .int 0, .null, .null, .null, .null, .int 0, .int 0, .int 0, .null, .null, .null, .null, .null, .null, .null, .int 0, .int 0, .null, .null, .null, .null, .null, .null] := hT
  refine lv_aload_n hx hb dX12_init_50 rfl (lv_at hl 0 rfl) ?_
  refine lv_iconst (v := 2) hx hb dX12_init_51 (by decide) ?_
  refine m_newa (z := 5) (atype := .int) B hA hbn hC hT rfl (mc_wsL_law_r3 _ (List.mem_of_getElem? (i := 15) rfl)) (hKi 5 63 rfl) rfl rfl rfl rfl (by decide) (by decide) (fun j _ => dn_i (by decide) (by decide)) (Nat.le_of_ble_eq_true rfl) (Nat.le_of_ble_eq_true rfl) (Nat.le_of_ble_eq_true rfl) dX12_init_52 (fun H12 hC hT o_ => ?_)
  refine m_putF B ff_RX12_30 hnm hV hbn hC hT rfl rfl rfl rfl (v := .ref (H0.size + 5)) rfl rfl dX12_init_54 (fun H13 lc13 hC hT o_ => ?_)
  have hT : zTh E 13 b H13 [.ref (H0.size + 0), .ref (H0.size + 1), .ref (H0.size + 2), .int 0, .int 0, .int 0, .int (-1), .int 0, .int 0, .int 0, .int 0, .long 0, .ref (H0.size + 3), .ref (H0.size + 4), .ref (H0.size + 5), .null, .null, .null, .null, .null, .null, .null, .null, .null, .null, .null, .int 0, .int 0, .int 0, .int 0, .null, .null, .int 0, .null, .null, .null, .null, .int 0, .int 0, .int 0, .null, .null, .null, .null, .null, .null, .null, .int 0, .int 0, .null, .null, .null, .null, .null, .null] := hT
  refine lv_aload_n hx hb dX12_init_57 rfl (lv_at hl 0 rfl) ?_
  refine lv_iconst (v := 2) hx hb dX12_init_58 (by decide) ?_
  refine m_newa (z := 6) (atype := .int) B hA hbn hC hT rfl (mc_wsL_law_r3 _ (List.mem_of_getElem? (i := 15) rfl)) (hKi 6 64 rfl) rfl rfl rfl rfl (by decide) (by decide) (fun j _ => dn_i (by decide) (by decide)) (Nat.le_of_ble_eq_true rfl) (Nat.le_of_ble_eq_true rfl) (Nat.le_of_ble_eq_true rfl) dX12_init_59 (fun H14 hC hT o_ => ?_)
  refine m_putF B ff_RX12_33 hnm hV hbn hC hT rfl rfl rfl rfl (v := .ref (H0.size + 6)) rfl rfl dX12_init_61 (fun H15 lc15 hC hT o_ => ?_)
  have hT : zTh E 13 b H15 [.ref (H0.size + 0), .ref (H0.size + 1), .ref (H0.size + 2), .int 0, .int 0, .int 0, .int (-1), .int 0, .int 0, .int 0, .int 0, .long 0, .ref (H0.size + 3), .ref (H0.size + 4), .ref (H0.size + 5), .ref (H0.size + 6), .null, .null, .null, .null, .null, .null, .null, .null, .null, .null, .int 0, .int 0, .int 0, .int 0, .null, .null, .int 0, .null, .null, .null, .null, .int 0, .int 0, .int 0, .null, .null, .null, .null, .null, .null, .null, .int 0, .int 0, .null, .null, .null, .null, .null, .null] := hT
  refine lv_aload_n hx hb dX12_init_64 rfl (lv_at hl 0 rfl) ?_
  refine lv_iconst (v := 2) hx hb dX12_init_65 (by decide) ?_
  refine m_newa (z := 7) (atype := .int) B hA hbn hC hT rfl (mc_wsL_law_r3 _ (List.mem_of_getElem? (i := 15) rfl)) (hKi 7 65 rfl) rfl rfl rfl rfl (by decide) (by decide) (fun j _ => dn_i (by decide) (by decide)) (Nat.le_of_ble_eq_true rfl) (Nat.le_of_ble_eq_true rfl) (Nat.le_of_ble_eq_true rfl) dX12_init_66 (fun H16 hC hT o_ => ?_)
  refine m_putF B ff_RX12_36 hnm hV hbn hC hT rfl rfl rfl rfl (v := .ref (H0.size + 7)) rfl rfl dX12_init_68 (fun H17 lc17 hC hT o_ => ?_)
  have hT : zTh E 13 b H17 [.ref (H0.size + 0), .ref (H0.size + 1), .ref (H0.size + 2), .int 0, .int 0, .int 0, .int (-1), .int 0, .int 0, .int 0, .int 0, .long 0, .ref (H0.size + 3), .ref (H0.size + 4), .ref (H0.size + 5), .ref (H0.size + 6), .ref (H0.size + 7), .null, .null, .null, .null, .null, .null, .null, .null, .null, .int 0, .int 0, .int 0, .int 0, .null, .null, .int 0, .null, .null, .null, .null, .int 0, .int 0, .int 0, .null, .null, .null, .null, .null, .null, .null, .int 0, .int 0, .null, .null, .null, .null, .null, .null] := hT
  refine lv_aload_n hx hb dX12_init_71 rfl (lv_at hl 0 rfl) ?_
  refine lv_bipush (v := 24) hx hb dX12_init_72 (by decide) ?_
  refine m_newa (z := 8) (atype := .int) B hA hbn hC hT rfl (mc_wsL_law_r3 _ (List.mem_of_getElem? (i := 15) rfl)) (hKi 8 66 rfl) rfl rfl rfl rfl (by decide) (by decide) (fun j _ => dn_i (by decide) (by decide)) (Nat.le_of_ble_eq_true rfl) (Nat.le_of_ble_eq_true rfl) (Nat.le_of_ble_eq_true rfl) dX12_init_74 (fun H18 hC hT o_ => ?_)
  refine m_putF B ff_RX12_39 hnm hV hbn hC hT rfl rfl rfl rfl (v := .ref (H0.size + 8)) rfl rfl dX12_init_76 (fun H19 lc19 hC hT o_ => ?_)
  have hT : zTh E 13 b H19 [.ref (H0.size + 0), .ref (H0.size + 1), .ref (H0.size + 2), .int 0, .int 0, .int 0, .int (-1), .int 0, .int 0, .int 0, .int 0, .long 0, .ref (H0.size + 3), .ref (H0.size + 4), .ref (H0.size + 5), .ref (H0.size + 6), .ref (H0.size + 7), .ref (H0.size + 8), .null, .null, .null, .null, .null, .null, .null, .null, .int 0, .int 0, .int 0, .int 0, .null, .null, .int 0, .null, .null, .null, .null, .int 0, .int 0, .int 0, .null, .null, .null, .null, .null, .null, .null, .int 0, .int 0, .null, .null, .null, .null, .null, .null] := hT
  refine lv_aload_n hx hb dX12_init_79 rfl (lv_at hl 0 rfl) ?_
  refine lv_bipush (v := 12) hx hb dX12_init_80 (by decide) ?_
  refine m_newa (z := 9) (atype := .int) B hA hbn hC hT rfl (mc_wsL_law_r3 _ (List.mem_of_getElem? (i := 15) rfl)) (hKi 9 67 rfl) rfl rfl rfl rfl (by decide) (by decide) (fun j _ => dn_i (by decide) (by decide)) (Nat.le_of_ble_eq_true rfl) (Nat.le_of_ble_eq_true rfl) (Nat.le_of_ble_eq_true rfl) dX12_init_82 (fun H20 hC hT o_ => ?_)
  refine m_putF B ff_RX12_42 hnm hV hbn hC hT rfl rfl rfl rfl (v := .ref (H0.size + 9)) rfl rfl dX12_init_84 (fun H21 lc21 hC hT o_ => ?_)
  have hT : zTh E 13 b H21 [.ref (H0.size + 0), .ref (H0.size + 1), .ref (H0.size + 2), .int 0, .int 0, .int 0, .int (-1), .int 0, .int 0, .int 0, .int 0, .long 0, .ref (H0.size + 3), .ref (H0.size + 4), .ref (H0.size + 5), .ref (H0.size + 6), .ref (H0.size + 7), .ref (H0.size + 8), .ref (H0.size + 9), .null, .null, .null, .null, .null, .null, .null, .int 0, .int 0, .int 0, .int 0, .null, .null, .int 0, .null, .null, .null, .null, .int 0, .int 0, .int 0, .null, .null, .null, .null, .null, .null, .null, .int 0, .int 0, .null, .null, .null, .null, .null, .null] := hT
  refine lv_aload_n hx hb dX12_init_87 rfl (lv_at hl 0 rfl) ?_
  refine lv_bipush (v := 72) hx hb dX12_init_88 (by decide) ?_
  refine m_newa (z := 10) (atype := .int) B hA hbn hC hT rfl (mc_wsL_law_r3 _ (List.mem_of_getElem? (i := 15) rfl)) (hKi 10 68 rfl) rfl rfl rfl rfl (by decide) (by decide) (fun j _ => dn_i (by decide) (by decide)) (Nat.le_of_ble_eq_true rfl) (Nat.le_of_ble_eq_true rfl) (Nat.le_of_ble_eq_true rfl) dX12_init_90 (fun H22 hC hT o_ => ?_)
  refine m_putF B ff_RX12_45 hnm hV hbn hC hT rfl rfl rfl rfl (v := .ref (H0.size + 10)) rfl rfl dX12_init_92 (fun H23 lc23 hC hT o_ => ?_)
  have hT : zTh E 13 b H23 [.ref (H0.size + 0), .ref (H0.size + 1), .ref (H0.size + 2), .int 0, .int 0, .int 0, .int (-1), .int 0, .int 0, .int 0, .int 0, .long 0, .ref (H0.size + 3), .ref (H0.size + 4), .ref (H0.size + 5), .ref (H0.size + 6), .ref (H0.size + 7), .ref (H0.size + 8), .ref (H0.size + 9), .ref (H0.size + 10), .null, .null, .null, .null, .null, .null, .int 0, .int 0, .int 0, .int 0, .null, .null, .int 0, .null, .null, .null, .null, .int 0, .int 0, .int 0, .null, .null, .null, .null, .null, .null, .null, .int 0, .int 0, .null, .null, .null, .null, .null, .null] := hT
  refine lv_aload_n hx hb dX12_init_95 rfl (lv_at hl 0 rfl) ?_
  refine lv_bipush (v := 72) hx hb dX12_init_96 (by decide) ?_
  refine m_newa (z := 11) (atype := .int) B hA hbn hC hT rfl (mc_wsL_law_r3 _ (List.mem_of_getElem? (i := 15) rfl)) (hKi 11 69 rfl) rfl rfl rfl rfl (by decide) (by decide) (fun j _ => dn_i (by decide) (by decide)) (Nat.le_of_ble_eq_true rfl) (Nat.le_of_ble_eq_true rfl) (Nat.le_of_ble_eq_true rfl) dX12_init_98 (fun H24 hC hT o_ => ?_)
  refine m_putF B ff_RX12_48 hnm hV hbn hC hT rfl rfl rfl rfl (v := .ref (H0.size + 11)) rfl rfl dX12_init_100 (fun H25 lc25 hC hT o_ => ?_)
  have hT : zTh E 13 b H25 [.ref (H0.size + 0), .ref (H0.size + 1), .ref (H0.size + 2), .int 0, .int 0, .int 0, .int (-1), .int 0, .int 0, .int 0, .int 0, .long 0, .ref (H0.size + 3), .ref (H0.size + 4), .ref (H0.size + 5), .ref (H0.size + 6), .ref (H0.size + 7), .ref (H0.size + 8), .ref (H0.size + 9), .ref (H0.size + 10), .ref (H0.size + 11), .null, .null, .null, .null, .null, .int 0, .int 0, .int 0, .int 0, .null, .null, .int 0, .null, .null, .null, .null, .int 0, .int 0, .int 0, .null, .null, .null, .null, .null, .null, .null, .int 0, .int 0, .null, .null, .null, .null, .null, .null] := hT
  refine lv_aload_n hx hb dX12_init_103 rfl (lv_at hl 0 rfl) ?_
  refine lv_bipush (v := 12) hx hb dX12_init_104 (by decide) ?_
  refine m_newa (z := 12) (atype := .boolean) B hA hbn hC hT rfl (mc_wsL_law_r3 _ (List.mem_of_getElem? (i := 12) rfl)) (hKi 12 70 rfl) rfl rfl rfl rfl (by decide) (by decide) (fun j _ => dn_i (by decide) (by decide)) (Nat.le_of_ble_eq_true rfl) (Nat.le_of_ble_eq_true rfl) (Nat.le_of_ble_eq_true rfl) dX12_init_106 (fun H26 hC hT o_ => ?_)
  refine m_putF B ff_RX12_51 hnm hV hbn hC hT rfl rfl rfl rfl (v := .ref (H0.size + 12)) rfl rfl dX12_init_108 (fun H27 lc27 hC hT o_ => ?_)
  have hT : zTh E 13 b H27 [.ref (H0.size + 0), .ref (H0.size + 1), .ref (H0.size + 2), .int 0, .int 0, .int 0, .int (-1), .int 0, .int 0, .int 0, .int 0, .long 0, .ref (H0.size + 3), .ref (H0.size + 4), .ref (H0.size + 5), .ref (H0.size + 6), .ref (H0.size + 7), .ref (H0.size + 8), .ref (H0.size + 9), .ref (H0.size + 10), .ref (H0.size + 11), .ref (H0.size + 12), .null, .null, .null, .null, .int 0, .int 0, .int 0, .int 0, .null, .null, .int 0, .null, .null, .null, .null, .int 0, .int 0, .int 0, .null, .null, .null, .null, .null, .null, .null, .int 0, .int 0, .null, .null, .null, .null, .null, .null] := hT
  refine lv_aload_n hx hb dX12_init_111 rfl (lv_at hl 0 rfl) ?_
  refine lv_bipush (v := 12) hx hb dX12_init_112 (by decide) ?_
  refine m_newa (z := 13) (atype := .boolean) B hA hbn hC hT rfl (mc_wsL_law_r3 _ (List.mem_of_getElem? (i := 12) rfl)) (hKi 13 71 rfl) rfl rfl rfl rfl (by decide) (by decide) (fun j _ => dn_i (by decide) (by decide)) (Nat.le_of_ble_eq_true rfl) (Nat.le_of_ble_eq_true rfl) (Nat.le_of_ble_eq_true rfl) dX12_init_114 (fun H28 hC hT o_ => ?_)
  refine m_putF B ff_RX12_55 hnm hV hbn hC hT rfl rfl rfl rfl (v := .ref (H0.size + 13)) rfl rfl dX12_init_116 (fun H29 lc29 hC hT o_ => ?_)
  have hT : zTh E 13 b H29 [.ref (H0.size + 0), .ref (H0.size + 1), .ref (H0.size + 2), .int 0, .int 0, .int 0, .int (-1), .int 0, .int 0, .int 0, .int 0, .long 0, .ref (H0.size + 3), .ref (H0.size + 4), .ref (H0.size + 5), .ref (H0.size + 6), .ref (H0.size + 7), .ref (H0.size + 8), .ref (H0.size + 9), .ref (H0.size + 10), .ref (H0.size + 11), .ref (H0.size + 12), .ref (H0.size + 13), .null, .null, .null, .int 0, .int 0, .int 0, .int 0, .null, .null, .int 0, .null, .null, .null, .null, .int 0, .int 0, .int 0, .null, .null, .null, .null, .null, .null, .null, .int 0, .int 0, .null, .null, .null, .null, .null, .null] := hT
  refine lv_aload_n hx hb dX12_init_119 rfl (lv_at hl 0 rfl) ?_
  refine lv_bipush (v := 72) hx hb dX12_init_120 (by decide) ?_
  refine m_newa (z := 14) (atype := .boolean) B hA hbn hC hT rfl (mc_wsL_law_r3 _ (List.mem_of_getElem? (i := 12) rfl)) (hKi 14 72 rfl) rfl rfl rfl rfl (by decide) (by decide) (fun j _ => dn_i (by decide) (by decide)) (Nat.le_of_ble_eq_true rfl) (Nat.le_of_ble_eq_true rfl) (Nat.le_of_ble_eq_true rfl) dX12_init_122 (fun H30 hC hT o_ => ?_)
  refine m_putF B ff_RX12_58 hnm hV hbn hC hT rfl rfl rfl rfl (v := .ref (H0.size + 14)) rfl rfl dX12_init_124 (fun H31 lc31 hC hT o_ => ?_)
  have hT : zTh E 13 b H31 [.ref (H0.size + 0), .ref (H0.size + 1), .ref (H0.size + 2), .int 0, .int 0, .int 0, .int (-1), .int 0, .int 0, .int 0, .int 0, .long 0, .ref (H0.size + 3), .ref (H0.size + 4), .ref (H0.size + 5), .ref (H0.size + 6), .ref (H0.size + 7), .ref (H0.size + 8), .ref (H0.size + 9), .ref (H0.size + 10), .ref (H0.size + 11), .ref (H0.size + 12), .ref (H0.size + 13), .ref (H0.size + 14), .null, .null, .int 0, .int 0, .int 0, .int 0, .null, .null, .int 0, .null, .null, .null, .null, .int 0, .int 0, .int 0, .null, .null, .null, .null, .null, .null, .null, .int 0, .int 0, .null, .null, .null, .null, .null, .null] := hT
  refine lv_aload_n hx hb dX12_init_127 rfl (lv_at hl 0 rfl) ?_
  refine lv_iconst (v := 4) hx hb dX12_init_128 (by decide) ?_
  refine m_newa (z := 15) (atype := .boolean) B hA hbn hC hT rfl (mc_wsL_law_r3 _ (List.mem_of_getElem? (i := 12) rfl)) (hKi 15 73 rfl) rfl rfl rfl rfl (by decide) (by decide) (fun j _ => dn_i (by decide) (by decide)) (Nat.le_of_ble_eq_true rfl) (Nat.le_of_ble_eq_true rfl) (Nat.le_of_ble_eq_true rfl) dX12_init_129 (fun H32 hC hT o_ => ?_)
  refine m_putF B ff_RX12_61 hnm hV hbn hC hT rfl rfl rfl rfl (v := .ref (H0.size + 15)) rfl rfl dX12_init_131 (fun H33 lc33 hC hT o_ => ?_)
  have hT : zTh E 13 b H33 [.ref (H0.size + 0), .ref (H0.size + 1), .ref (H0.size + 2), .int 0, .int 0, .int 0, .int (-1), .int 0, .int 0, .int 0, .int 0, .long 0, .ref (H0.size + 3), .ref (H0.size + 4), .ref (H0.size + 5), .ref (H0.size + 6), .ref (H0.size + 7), .ref (H0.size + 8), .ref (H0.size + 9), .ref (H0.size + 10), .ref (H0.size + 11), .ref (H0.size + 12), .ref (H0.size + 13), .ref (H0.size + 14), .ref (H0.size + 15), .null, .int 0, .int 0, .int 0, .int 0, .null, .null, .int 0, .null, .null, .null, .null, .int 0, .int 0, .int 0, .null, .null, .null, .null, .null, .null, .null, .int 0, .int 0, .null, .null, .null, .null, .null, .null] := hT
  refine lv_aload_n hx hb dX12_init_134 rfl (lv_at hl 0 rfl) ?_
  refine lv_bipush (v := 12) hx hb dX12_init_135 (by decide) ?_
  refine m_newa (z := 16) (atype := .long) B hA hbn hC hT rfl (mc_wsL_law_r13 _ (List.mem_of_getElem? (i := 13) rfl)) (hKi 16 74 rfl) rfl rfl rfl rfl (by decide) (by decide) (fun j _ => dn_l) (Nat.le_of_ble_eq_true rfl) (Nat.le_of_ble_eq_true rfl) (Nat.le_of_ble_eq_true rfl) dX12_init_137 (fun H34 hC hT o_ => ?_)
  refine m_putF B ff_RX12_64 hnm hV hbn hC hT rfl rfl rfl rfl (v := .ref (H0.size + 16)) rfl rfl dX12_init_139 (fun H35 lc35 hC hT o_ => ?_)
  have hT : zTh E 13 b H35 [.ref (H0.size + 0), .ref (H0.size + 1), .ref (H0.size + 2), .int 0, .int 0, .int 0, .int (-1), .int 0, .int 0, .int 0, .int 0, .long 0, .ref (H0.size + 3), .ref (H0.size + 4), .ref (H0.size + 5), .ref (H0.size + 6), .ref (H0.size + 7), .ref (H0.size + 8), .ref (H0.size + 9), .ref (H0.size + 10), .ref (H0.size + 11), .ref (H0.size + 12), .ref (H0.size + 13), .ref (H0.size + 14), .ref (H0.size + 15), .ref (H0.size + 16), .int 0, .int 0, .int 0, .int 0, .null, .null, .int 0, .null, .null, .null, .null, .int 0, .int 0, .int 0, .null, .null, .null, .null, .null, .null, .null, .int 0, .int 0, .null, .null, .null, .null, .null, .null] := hT
  refine lv_aload_n hx hb dX12_init_142 rfl (lv_at hl 0 rfl) ?_
  refine lv_bipush (v := 6) hx hb dX12_init_143 (by decide) ?_
  refine m_newa (z := 17) (atype := .int) B hA hbn hC hT rfl (mc_wsL_law_r3 _ (List.mem_of_getElem? (i := 15) rfl)) (hKi 17 75 rfl) rfl rfl rfl rfl (by decide) (by decide) (fun j _ => dn_i (by decide) (by decide)) (Nat.le_of_ble_eq_true rfl) (Nat.le_of_ble_eq_true rfl) (Nat.le_of_ble_eq_true rfl) dX12_init_145 (fun H36 hC hT o_ => ?_)
  refine m_putF B ff_RX12_68 hnm hV hbn hC hT rfl rfl rfl rfl (v := .ref (H0.size + 17)) rfl rfl dX12_init_147 (fun H37 lc37 hC hT o_ => ?_)
  have hT : zTh E 13 b H37 [.ref (H0.size + 0), .ref (H0.size + 1), .ref (H0.size + 2), .int 0, .int 0, .int 0, .int (-1), .int 0, .int 0, .int 0, .int 0, .long 0, .ref (H0.size + 3), .ref (H0.size + 4), .ref (H0.size + 5), .ref (H0.size + 6), .ref (H0.size + 7), .ref (H0.size + 8), .ref (H0.size + 9), .ref (H0.size + 10), .ref (H0.size + 11), .ref (H0.size + 12), .ref (H0.size + 13), .ref (H0.size + 14), .ref (H0.size + 15), .ref (H0.size + 16), .int 0, .int 0, .int 0, .int 0, .ref (H0.size + 17), .null, .int 0, .null, .null, .null, .null, .int 0, .int 0, .int 0, .null, .null, .null, .null, .null, .null, .null, .int 0, .int 0, .null, .null, .null, .null, .null, .null] := hT
  refine lv_aload_n hx hb dX12_init_150 rfl (lv_at hl 0 rfl) ?_
  refine lv_bipush (v := 6) hx hb dX12_init_151 (by decide) ?_
  refine m_newa (z := 18) (atype := .int) B hA hbn hC hT rfl (mc_wsL_law_r3 _ (List.mem_of_getElem? (i := 15) rfl)) (hKi 18 76 rfl) rfl rfl rfl rfl (by decide) (by decide) (fun j _ => dn_i (by decide) (by decide)) (Nat.le_of_ble_eq_true rfl) (Nat.le_of_ble_eq_true rfl) (Nat.le_of_ble_eq_true rfl) dX12_init_153 (fun H38 hC hT o_ => ?_)
  refine m_putF B ff_RX12_71 hnm hV hbn hC hT rfl rfl rfl rfl (v := .ref (H0.size + 18)) rfl rfl dX12_init_155 (fun H39 lc39 hC hT o_ => ?_)
  have hT : zTh E 13 b H39 [.ref (H0.size + 0), .ref (H0.size + 1), .ref (H0.size + 2), .int 0, .int 0, .int 0, .int (-1), .int 0, .int 0, .int 0, .int 0, .long 0, .ref (H0.size + 3), .ref (H0.size + 4), .ref (H0.size + 5), .ref (H0.size + 6), .ref (H0.size + 7), .ref (H0.size + 8), .ref (H0.size + 9), .ref (H0.size + 10), .ref (H0.size + 11), .ref (H0.size + 12), .ref (H0.size + 13), .ref (H0.size + 14), .ref (H0.size + 15), .ref (H0.size + 16), .int 0, .int 0, .int 0, .int 0, .ref (H0.size + 17), .ref (H0.size + 18), .int 0, .null, .null, .null, .null, .int 0, .int 0, .int 0, .null, .null, .null, .null, .null, .null, .null, .int 0, .int 0, .null, .null, .null, .null, .null, .null] := hT
  refine lv_aload_n hx hb dX12_init_158 rfl (lv_at hl 0 rfl) ?_
  refine lv_bipush (v := 60) hx hb dX12_init_159 (by decide) ?_
  refine m_newa (z := 19) (atype := .int) B hA hbn hC hT rfl (mc_wsL_law_r3 _ (List.mem_of_getElem? (i := 15) rfl)) (hKi 19 77 rfl) rfl rfl rfl rfl (by decide) (by decide) (fun j _ => dn_i (by decide) (by decide)) (Nat.le_of_ble_eq_true rfl) (Nat.le_of_ble_eq_true rfl) (Nat.le_of_ble_eq_true rfl) dX12_init_161 (fun H40 hC hT o_ => ?_)
  refine m_putF B ff_RX12_74 hnm hV hbn hC hT rfl rfl rfl rfl (v := .ref (H0.size + 19)) rfl rfl dX12_init_163 (fun H41 lc41 hC hT o_ => ?_)
  have hT : zTh E 13 b H41 [.ref (H0.size + 0), .ref (H0.size + 1), .ref (H0.size + 2), .int 0, .int 0, .int 0, .int (-1), .int 0, .int 0, .int 0, .int 0, .long 0, .ref (H0.size + 3), .ref (H0.size + 4), .ref (H0.size + 5), .ref (H0.size + 6), .ref (H0.size + 7), .ref (H0.size + 8), .ref (H0.size + 9), .ref (H0.size + 10), .ref (H0.size + 11), .ref (H0.size + 12), .ref (H0.size + 13), .ref (H0.size + 14), .ref (H0.size + 15), .ref (H0.size + 16), .int 0, .int 0, .int 0, .int 0, .ref (H0.size + 17), .ref (H0.size + 18), .int 0, .ref (H0.size + 19), .null, .null, .null, .int 0, .int 0, .int 0, .null, .null, .null, .null, .null, .null, .null, .int 0, .int 0, .null, .null, .null, .null, .null, .null] := hT
  refine lv_aload_n hx hb dX12_init_166 rfl (lv_at hl 0 rfl) ?_
  refine lv_bipush (v := 60) hx hb dX12_init_167 (by decide) ?_
  refine m_newa (z := 20) (atype := .int) B hA hbn hC hT rfl (mc_wsL_law_r3 _ (List.mem_of_getElem? (i := 15) rfl)) (hKi 20 78 rfl) rfl rfl rfl rfl (by decide) (by decide) (fun j _ => dn_i (by decide) (by decide)) (Nat.le_of_ble_eq_true rfl) (Nat.le_of_ble_eq_true rfl) (Nat.le_of_ble_eq_true rfl) dX12_init_169 (fun H42 hC hT o_ => ?_)
  refine m_putF B ff_RX12_77 hnm hV hbn hC hT rfl rfl rfl rfl (v := .ref (H0.size + 20)) rfl rfl dX12_init_171 (fun H43 lc43 hC hT o_ => ?_)
  have hT : zTh E 13 b H43 [.ref (H0.size + 0), .ref (H0.size + 1), .ref (H0.size + 2), .int 0, .int 0, .int 0, .int (-1), .int 0, .int 0, .int 0, .int 0, .long 0, .ref (H0.size + 3), .ref (H0.size + 4), .ref (H0.size + 5), .ref (H0.size + 6), .ref (H0.size + 7), .ref (H0.size + 8), .ref (H0.size + 9), .ref (H0.size + 10), .ref (H0.size + 11), .ref (H0.size + 12), .ref (H0.size + 13), .ref (H0.size + 14), .ref (H0.size + 15), .ref (H0.size + 16), .int 0, .int 0, .int 0, .int 0, .ref (H0.size + 17), .ref (H0.size + 18), .int 0, .ref (H0.size + 19), .ref (H0.size + 20), .null, .null, .int 0, .int 0, .int 0, .null, .null, .null, .null, .null, .null, .null, .int 0, .int 0, .null, .null, .null, .null, .null, .null] := hT
  refine lv_aload_n hx hb dX12_init_174 rfl (lv_at hl 0 rfl) ?_
  refine lv_bipush (v := 60) hx hb dX12_init_175 (by decide) ?_
  refine m_newa (z := 21) (atype := .boolean) B hA hbn hC hT rfl (mc_wsL_law_r3 _ (List.mem_of_getElem? (i := 12) rfl)) (hKi 21 79 rfl) rfl rfl rfl rfl (by decide) (by decide) (fun j _ => dn_i (by decide) (by decide)) (Nat.le_of_ble_eq_true rfl) (Nat.le_of_ble_eq_true rfl) (Nat.le_of_ble_eq_true rfl) dX12_init_177 (fun H44 hC hT o_ => ?_)
  refine m_putF B ff_RX12_80 hnm hV hbn hC hT rfl rfl rfl rfl (v := .ref (H0.size + 21)) rfl rfl dX12_init_179 (fun H45 lc45 hC hT o_ => ?_)
  have hT : zTh E 13 b H45 [.ref (H0.size + 0), .ref (H0.size + 1), .ref (H0.size + 2), .int 0, .int 0, .int 0, .int (-1), .int 0, .int 0, .int 0, .int 0, .long 0, .ref (H0.size + 3), .ref (H0.size + 4), .ref (H0.size + 5), .ref (H0.size + 6), .ref (H0.size + 7), .ref (H0.size + 8), .ref (H0.size + 9), .ref (H0.size + 10), .ref (H0.size + 11), .ref (H0.size + 12), .ref (H0.size + 13), .ref (H0.size + 14), .ref (H0.size + 15), .ref (H0.size + 16), .int 0, .int 0, .int 0, .int 0, .ref (H0.size + 17), .ref (H0.size + 18), .int 0, .ref (H0.size + 19), .ref (H0.size + 20), .ref (H0.size + 21), .null, .int 0, .int 0, .int 0, .null, .null, .null, .null, .null, .null, .null, .int 0, .int 0, .null, .null, .null, .null, .null, .null] := hT
  refine lv_aload_n hx hb dX12_init_182 rfl (lv_at hl 0 rfl) ?_
  refine lv_bipush (v := 60) hx hb dX12_init_183 (by decide) ?_
  refine m_newa (z := 22) (atype := .boolean) B hA hbn hC hT rfl (mc_wsL_law_r3 _ (List.mem_of_getElem? (i := 12) rfl)) (hKi 22 80 rfl) rfl rfl rfl rfl (by decide) (by decide) (fun j _ => dn_i (by decide) (by decide)) (Nat.le_of_ble_eq_true rfl) (Nat.le_of_ble_eq_true rfl) (Nat.le_of_ble_eq_true rfl) dX12_init_185 (fun H46 hC hT o_ => ?_)
  refine m_putF B ff_RX12_83 hnm hV hbn hC hT rfl rfl rfl rfl (v := .ref (H0.size + 22)) rfl rfl dX12_init_187 (fun H47 lc47 hC hT o_ => ?_)
  have hT : zTh E 13 b H47 [.ref (H0.size + 0), .ref (H0.size + 1), .ref (H0.size + 2), .int 0, .int 0, .int 0, .int (-1), .int 0, .int 0, .int 0, .int 0, .long 0, .ref (H0.size + 3), .ref (H0.size + 4), .ref (H0.size + 5), .ref (H0.size + 6), .ref (H0.size + 7), .ref (H0.size + 8), .ref (H0.size + 9), .ref (H0.size + 10), .ref (H0.size + 11), .ref (H0.size + 12), .ref (H0.size + 13), .ref (H0.size + 14), .ref (H0.size + 15), .ref (H0.size + 16), .int 0, .int 0, .int 0, .int 0, .ref (H0.size + 17), .ref (H0.size + 18), .int 0, .ref (H0.size + 19), .ref (H0.size + 20), .ref (H0.size + 21), .ref (H0.size + 22), .int 0, .int 0, .int 0, .null, .null, .null, .null, .null, .null, .null, .int 0, .int 0, .null, .null, .null, .null, .null, .null] := hT
  refine lv_aload_n hx hb dX12_init_190 rfl (lv_at hl 0 rfl) ?_
  refine lv_sipush (v := 26637) hx hb dX12_init_191 (by decide) ?_
  refine m_newa (z := 23) (atype := .int) B hA hbn hC hT rfl (mc_wsL_law_r3 _ (List.mem_of_getElem? (i := 15) rfl)) (hKi 23 81 rfl) rfl rfl rfl rfl (by decide) (by decide) (fun j _ => dn_i (by decide) (by decide)) (Nat.le_of_ble_eq_true rfl) (Nat.le_of_ble_eq_true rfl) (Nat.le_of_ble_eq_true rfl) dX12_init_194 (fun H48 hC hT o_ => ?_)
  refine m_putF B ff_RX12_86 hnm hV hbn hC hT rfl rfl rfl rfl (v := .ref (H0.size + 23)) rfl rfl dX12_init_196 (fun H49 lc49 hC hT o_ => ?_)
  have hT : zTh E 13 b H49 [.ref (H0.size + 0), .ref (H0.size + 1), .ref (H0.size + 2), .int 0, .int 0, .int 0, .int (-1), .int 0, .int 0, .int 0, .int 0, .long 0, .ref (H0.size + 3), .ref (H0.size + 4), .ref (H0.size + 5), .ref (H0.size + 6), .ref (H0.size + 7), .ref (H0.size + 8), .ref (H0.size + 9), .ref (H0.size + 10), .ref (H0.size + 11), .ref (H0.size + 12), .ref (H0.size + 13), .ref (H0.size + 14), .ref (H0.size + 15), .ref (H0.size + 16), .int 0, .int 0, .int 0, .int 0, .ref (H0.size + 17), .ref (H0.size + 18), .int 0, .ref (H0.size + 19), .ref (H0.size + 20), .ref (H0.size + 21), .ref (H0.size + 22), .int 0, .int 0, .int 0, .ref (H0.size + 23), .null, .null, .null, .null, .null, .null, .int 0, .int 0, .null, .null, .null, .null, .null, .null] := hT
  refine lv_aload_n hx hb dX12_init_199 rfl (lv_at hl 0 rfl) ?_
  refine lv_bipush (v := 30) hx hb dX12_init_200 (by decide) ?_
  refine m_newa (z := 24) (atype := .int) B hA hbn hC hT rfl (mc_wsL_law_r3 _ (List.mem_of_getElem? (i := 15) rfl)) (hKi 24 82 rfl) rfl rfl rfl rfl (by decide) (by decide) (fun j _ => dn_i (by decide) (by decide)) (Nat.le_of_ble_eq_true rfl) (Nat.le_of_ble_eq_true rfl) (Nat.le_of_ble_eq_true rfl) dX12_init_202 (fun H50 hC hT o_ => ?_)
  refine m_putF B ff_RX12_89 hnm hV hbn hC hT rfl rfl rfl rfl (v := .ref (H0.size + 24)) rfl rfl dX12_init_204 (fun H51 lc51 hC hT o_ => ?_)
  have hT : zTh E 13 b H51 [.ref (H0.size + 0), .ref (H0.size + 1), .ref (H0.size + 2), .int 0, .int 0, .int 0, .int (-1), .int 0, .int 0, .int 0, .int 0, .long 0, .ref (H0.size + 3), .ref (H0.size + 4), .ref (H0.size + 5), .ref (H0.size + 6), .ref (H0.size + 7), .ref (H0.size + 8), .ref (H0.size + 9), .ref (H0.size + 10), .ref (H0.size + 11), .ref (H0.size + 12), .ref (H0.size + 13), .ref (H0.size + 14), .ref (H0.size + 15), .ref (H0.size + 16), .int 0, .int 0, .int 0, .int 0, .ref (H0.size + 17), .ref (H0.size + 18), .int 0, .ref (H0.size + 19), .ref (H0.size + 20), .ref (H0.size + 21), .ref (H0.size + 22), .int 0, .int 0, .int 0, .ref (H0.size + 23), .ref (H0.size + 24), .null, .null, .null, .null, .null, .int 0, .int 0, .null, .null, .null, .null, .null, .null] := hT
  refine lv_aload_n hx hb dX12_init_207 rfl (lv_at hl 0 rfl) ?_
  refine lv_bipush (v := 30) hx hb dX12_init_208 (by decide) ?_
  refine m_newa (z := 25) (atype := .int) B hA hbn hC hT rfl (mc_wsL_law_r3 _ (List.mem_of_getElem? (i := 15) rfl)) (hKi 25 83 rfl) rfl rfl rfl rfl (by decide) (by decide) (fun j _ => dn_i (by decide) (by decide)) (Nat.le_of_ble_eq_true rfl) (Nat.le_of_ble_eq_true rfl) (Nat.le_of_ble_eq_true rfl) dX12_init_210 (fun H52 hC hT o_ => ?_)
  refine m_putF B ff_RX12_92 hnm hV hbn hC hT rfl rfl rfl rfl (v := .ref (H0.size + 25)) rfl rfl dX12_init_212 (fun H53 lc53 hC hT o_ => ?_)
  have hT : zTh E 13 b H53 [.ref (H0.size + 0), .ref (H0.size + 1), .ref (H0.size + 2), .int 0, .int 0, .int 0, .int (-1), .int 0, .int 0, .int 0, .int 0, .long 0, .ref (H0.size + 3), .ref (H0.size + 4), .ref (H0.size + 5), .ref (H0.size + 6), .ref (H0.size + 7), .ref (H0.size + 8), .ref (H0.size + 9), .ref (H0.size + 10), .ref (H0.size + 11), .ref (H0.size + 12), .ref (H0.size + 13), .ref (H0.size + 14), .ref (H0.size + 15), .ref (H0.size + 16), .int 0, .int 0, .int 0, .int 0, .ref (H0.size + 17), .ref (H0.size + 18), .int 0, .ref (H0.size + 19), .ref (H0.size + 20), .ref (H0.size + 21), .ref (H0.size + 22), .int 0, .int 0, .int 0, .ref (H0.size + 23), .ref (H0.size + 24), .ref (H0.size + 25), .null, .null, .null, .null, .int 0, .int 0, .null, .null, .null, .null, .null, .null] := hT
  refine lv_aload_n hx hb dX12_init_215 rfl (lv_at hl 0 rfl) ?_
  refine lv_bipush (v := 30) hx hb dX12_init_216 (by decide) ?_
  refine m_newa (z := 26) (atype := .int) B hA hbn hC hT rfl (mc_wsL_law_r3 _ (List.mem_of_getElem? (i := 15) rfl)) (hKi 26 84 rfl) rfl rfl rfl rfl (by decide) (by decide) (fun j _ => dn_i (by decide) (by decide)) (Nat.le_of_ble_eq_true rfl) (Nat.le_of_ble_eq_true rfl) (Nat.le_of_ble_eq_true rfl) dX12_init_218 (fun H54 hC hT o_ => ?_)
  refine m_putF B ff_RX12_95 hnm hV hbn hC hT rfl rfl rfl rfl (v := .ref (H0.size + 26)) rfl rfl dX12_init_220 (fun H55 lc55 hC hT o_ => ?_)
  have hT : zTh E 13 b H55 [.ref (H0.size + 0), .ref (H0.size + 1), .ref (H0.size + 2), .int 0, .int 0, .int 0, .int (-1), .int 0, .int 0, .int 0, .int 0, .long 0, .ref (H0.size + 3), .ref (H0.size + 4), .ref (H0.size + 5), .ref (H0.size + 6), .ref (H0.size + 7), .ref (H0.size + 8), .ref (H0.size + 9), .ref (H0.size + 10), .ref (H0.size + 11), .ref (H0.size + 12), .ref (H0.size + 13), .ref (H0.size + 14), .ref (H0.size + 15), .ref (H0.size + 16), .int 0, .int 0, .int 0, .int 0, .ref (H0.size + 17), .ref (H0.size + 18), .int 0, .ref (H0.size + 19), .ref (H0.size + 20), .ref (H0.size + 21), .ref (H0.size + 22), .int 0, .int 0, .int 0, .ref (H0.size + 23), .ref (H0.size + 24), .ref (H0.size + 25), .ref (H0.size + 26), .null, .null, .null, .int 0, .int 0, .null, .null, .null, .null, .null, .null] := hT
  refine lv_aload_n hx hb dX12_init_223 rfl (lv_at hl 0 rfl) ?_
  refine lv_bipush (v := 30) hx hb dX12_init_224 (by decide) ?_
  refine m_newa (z := 27) (atype := .int) B hA hbn hC hT rfl (mc_wsL_law_r3 _ (List.mem_of_getElem? (i := 15) rfl)) (hKi 27 85 rfl) rfl rfl rfl rfl (by decide) (by decide) (fun j _ => dn_i (by decide) (by decide)) (Nat.le_of_ble_eq_true rfl) (Nat.le_of_ble_eq_true rfl) (Nat.le_of_ble_eq_true rfl) dX12_init_226 (fun H56 hC hT o_ => ?_)
  refine m_putF B ff_RX12_98 hnm hV hbn hC hT rfl rfl rfl rfl (v := .ref (H0.size + 27)) rfl rfl dX12_init_228 (fun H57 lc57 hC hT o_ => ?_)
  have hT : zTh E 13 b H57 [.ref (H0.size + 0), .ref (H0.size + 1), .ref (H0.size + 2), .int 0, .int 0, .int 0, .int (-1), .int 0, .int 0, .int 0, .int 0, .long 0, .ref (H0.size + 3), .ref (H0.size + 4), .ref (H0.size + 5), .ref (H0.size + 6), .ref (H0.size + 7), .ref (H0.size + 8), .ref (H0.size + 9), .ref (H0.size + 10), .ref (H0.size + 11), .ref (H0.size + 12), .ref (H0.size + 13), .ref (H0.size + 14), .ref (H0.size + 15), .ref (H0.size + 16), .int 0, .int 0, .int 0, .int 0, .ref (H0.size + 17), .ref (H0.size + 18), .int 0, .ref (H0.size + 19), .ref (H0.size + 20), .ref (H0.size + 21), .ref (H0.size + 22), .int 0, .int 0, .int 0, .ref (H0.size + 23), .ref (H0.size + 24), .ref (H0.size + 25), .ref (H0.size + 26), .ref (H0.size + 27), .null, .null, .int 0, .int 0, .null, .null, .null, .null, .null, .null] := hT
  refine lv_aload_n hx hb dX12_init_231 rfl (lv_at hl 0 rfl) ?_
  refine lv_bipush (v := 30) hx hb dX12_init_232 (by decide) ?_
  refine m_newa (z := 28) (atype := .int) B hA hbn hC hT rfl (mc_wsL_law_r3 _ (List.mem_of_getElem? (i := 15) rfl)) (hKi 28 86 rfl) rfl rfl rfl rfl (by decide) (by decide) (fun j _ => dn_i (by decide) (by decide)) (Nat.le_of_ble_eq_true rfl) (Nat.le_of_ble_eq_true rfl) (Nat.le_of_ble_eq_true rfl) dX12_init_234 (fun H58 hC hT o_ => ?_)
  refine m_putF B ff_RX12_101 hnm hV hbn hC hT rfl rfl rfl rfl (v := .ref (H0.size + 28)) rfl rfl dX12_init_236 (fun H59 lc59 hC hT o_ => ?_)
  have hT : zTh E 13 b H59 [.ref (H0.size + 0), .ref (H0.size + 1), .ref (H0.size + 2), .int 0, .int 0, .int 0, .int (-1), .int 0, .int 0, .int 0, .int 0, .long 0, .ref (H0.size + 3), .ref (H0.size + 4), .ref (H0.size + 5), .ref (H0.size + 6), .ref (H0.size + 7), .ref (H0.size + 8), .ref (H0.size + 9), .ref (H0.size + 10), .ref (H0.size + 11), .ref (H0.size + 12), .ref (H0.size + 13), .ref (H0.size + 14), .ref (H0.size + 15), .ref (H0.size + 16), .int 0, .int 0, .int 0, .int 0, .ref (H0.size + 17), .ref (H0.size + 18), .int 0, .ref (H0.size + 19), .ref (H0.size + 20), .ref (H0.size + 21), .ref (H0.size + 22), .int 0, .int 0, .int 0, .ref (H0.size + 23), .ref (H0.size + 24), .ref (H0.size + 25), .ref (H0.size + 26), .ref (H0.size + 27), .ref (H0.size + 28), .null, .int 0, .int 0, .null, .null, .null, .null, .null, .null] := hT
  refine lv_aload_n hx hb dX12_init_239 rfl (lv_at hl 0 rfl) ?_
  refine lv_bipush (v := 30) hx hb dX12_init_240 (by decide) ?_
  refine m_newa (z := 29) (atype := .int) B hA hbn hC hT rfl (mc_wsL_law_r3 _ (List.mem_of_getElem? (i := 15) rfl)) (hKi 29 87 rfl) rfl rfl rfl rfl (by decide) (by decide) (fun j _ => dn_i (by decide) (by decide)) (Nat.le_of_ble_eq_true rfl) (Nat.le_of_ble_eq_true rfl) (Nat.le_of_ble_eq_true rfl) dX12_init_242 (fun H60 hC hT o_ => ?_)
  refine m_putF B ff_RX12_104 hnm hV hbn hC hT rfl rfl rfl rfl (v := .ref (H0.size + 29)) rfl rfl dX12_init_244 (fun H61 lc61 hC hT o_ => ?_)
  have hT : zTh E 13 b H61 [.ref (H0.size + 0), .ref (H0.size + 1), .ref (H0.size + 2), .int 0, .int 0, .int 0, .int (-1), .int 0, .int 0, .int 0, .int 0, .long 0, .ref (H0.size + 3), .ref (H0.size + 4), .ref (H0.size + 5), .ref (H0.size + 6), .ref (H0.size + 7), .ref (H0.size + 8), .ref (H0.size + 9), .ref (H0.size + 10), .ref (H0.size + 11), .ref (H0.size + 12), .ref (H0.size + 13), .ref (H0.size + 14), .ref (H0.size + 15), .ref (H0.size + 16), .int 0, .int 0, .int 0, .int 0, .ref (H0.size + 17), .ref (H0.size + 18), .int 0, .ref (H0.size + 19), .ref (H0.size + 20), .ref (H0.size + 21), .ref (H0.size + 22), .int 0, .int 0, .int 0, .ref (H0.size + 23), .ref (H0.size + 24), .ref (H0.size + 25), .ref (H0.size + 26), .ref (H0.size + 27), .ref (H0.size + 28), .ref (H0.size + 29), .int 0, .int 0, .null, .null, .null, .null, .null, .null] := hT
  refine lv_aload_n hx hb dX12_init_247 rfl (lv_at hl 0 rfl) ?_
  refine lv_iconst (v := 3) hx hb dX12_init_248 (by decide) ?_
  refine m_newa (z := 30) (atype := .int) B hA hbn hC hT rfl (mc_wsL_law_r3 _ (List.mem_of_getElem? (i := 15) rfl)) (hKi 30 88 rfl) rfl rfl rfl rfl (by decide) (by decide) (fun j _ => dn_i (by decide) (by decide)) (Nat.le_of_ble_eq_true rfl) (Nat.le_of_ble_eq_true rfl) (Nat.le_of_ble_eq_true rfl) dX12_init_249 (fun H62 hC hT o_ => ?_)
  refine m_putF B ff_RX12_107 hnm hV hbn hC hT rfl rfl rfl rfl (v := .ref (H0.size + 30)) rfl rfl dX12_init_251 (fun H63 lc63 hC hT o_ => ?_)
  have hT : zTh E 13 b H63 [.ref (H0.size + 0), .ref (H0.size + 1), .ref (H0.size + 2), .int 0, .int 0, .int 0, .int (-1), .int 0, .int 0, .int 0, .int 0, .long 0, .ref (H0.size + 3), .ref (H0.size + 4), .ref (H0.size + 5), .ref (H0.size + 6), .ref (H0.size + 7), .ref (H0.size + 8), .ref (H0.size + 9), .ref (H0.size + 10), .ref (H0.size + 11), .ref (H0.size + 12), .ref (H0.size + 13), .ref (H0.size + 14), .ref (H0.size + 15), .ref (H0.size + 16), .int 0, .int 0, .int 0, .int 0, .ref (H0.size + 17), .ref (H0.size + 18), .int 0, .ref (H0.size + 19), .ref (H0.size + 20), .ref (H0.size + 21), .ref (H0.size + 22), .int 0, .int 0, .int 0, .ref (H0.size + 23), .ref (H0.size + 24), .ref (H0.size + 25), .ref (H0.size + 26), .ref (H0.size + 27), .ref (H0.size + 28), .ref (H0.size + 29), .int 0, .int 0, .ref (H0.size + 30), .null, .null, .null, .null, .null] := hT
  refine lv_aload_n hx hb dX12_init_254 rfl (lv_at hl 0 rfl) ?_
  refine lv_sipush (v := 11346) hx hb dX12_init_255 (by decide) ?_
  refine m_newa (z := 31) (atype := .int) B hA hbn hC hT rfl (mc_wsL_law_r3 _ (List.mem_of_getElem? (i := 15) rfl)) (hKi 31 89 rfl) rfl rfl rfl rfl (by decide) (by decide) (fun j _ => dn_p j) (Nat.le_of_ble_eq_true rfl) (Nat.le_of_ble_eq_true rfl) (Nat.le_of_ble_eq_true rfl) dX12_init_258 (fun H64 hC hT o_ => ?_)
  refine m_putF B ff_RX12_110 hnm hV hbn hC hT rfl rfl rfl rfl (v := .ref (H0.size + 31)) rfl rfl dX12_init_260 (fun H65 lc65 hC hT o_ => ?_)
  have hT : zTh E 13 b H65 [.ref (H0.size + 0), .ref (H0.size + 1), .ref (H0.size + 2), .int 0, .int 0, .int 0, .int (-1), .int 0, .int 0, .int 0, .int 0, .long 0, .ref (H0.size + 3), .ref (H0.size + 4), .ref (H0.size + 5), .ref (H0.size + 6), .ref (H0.size + 7), .ref (H0.size + 8), .ref (H0.size + 9), .ref (H0.size + 10), .ref (H0.size + 11), .ref (H0.size + 12), .ref (H0.size + 13), .ref (H0.size + 14), .ref (H0.size + 15), .ref (H0.size + 16), .int 0, .int 0, .int 0, .int 0, .ref (H0.size + 17), .ref (H0.size + 18), .int 0, .ref (H0.size + 19), .ref (H0.size + 20), .ref (H0.size + 21), .ref (H0.size + 22), .int 0, .int 0, .int 0, .ref (H0.size + 23), .ref (H0.size + 24), .ref (H0.size + 25), .ref (H0.size + 26), .ref (H0.size + 27), .ref (H0.size + 28), .ref (H0.size + 29), .int 0, .int 0, .ref (H0.size + 30), .ref (H0.size + 31), .null, .null, .null, .null] := hT
  refine lv_aload_n hx hb dX12_init_263 rfl (lv_at hl 0 rfl) ?_
  refine lv_sipush (v := 180) hx hb dX12_init_264 (by decide) ?_
  refine m_newa (z := 32) (atype := .int) B hA hbn hC hT rfl (mc_wsL_law_r3 _ (List.mem_of_getElem? (i := 15) rfl)) (hKi 32 90 rfl) rfl rfl rfl rfl (by decide) (by decide) (fun j _ => dn_i (by decide) (by decide)) (Nat.le_of_ble_eq_true rfl) (Nat.le_of_ble_eq_true rfl) (Nat.le_of_ble_eq_true rfl) dX12_init_267 (fun H66 hC hT o_ => ?_)
  refine m_putF B ff_RX12_113 hnm hV hbn hC hT rfl rfl rfl rfl (v := .ref (H0.size + 32)) rfl rfl dX12_init_269 (fun H67 lc67 hC hT o_ => ?_)
  have hT : zTh E 13 b H67 [.ref (H0.size + 0), .ref (H0.size + 1), .ref (H0.size + 2), .int 0, .int 0, .int 0, .int (-1), .int 0, .int 0, .int 0, .int 0, .long 0, .ref (H0.size + 3), .ref (H0.size + 4), .ref (H0.size + 5), .ref (H0.size + 6), .ref (H0.size + 7), .ref (H0.size + 8), .ref (H0.size + 9), .ref (H0.size + 10), .ref (H0.size + 11), .ref (H0.size + 12), .ref (H0.size + 13), .ref (H0.size + 14), .ref (H0.size + 15), .ref (H0.size + 16), .int 0, .int 0, .int 0, .int 0, .ref (H0.size + 17), .ref (H0.size + 18), .int 0, .ref (H0.size + 19), .ref (H0.size + 20), .ref (H0.size + 21), .ref (H0.size + 22), .int 0, .int 0, .int 0, .ref (H0.size + 23), .ref (H0.size + 24), .ref (H0.size + 25), .ref (H0.size + 26), .ref (H0.size + 27), .ref (H0.size + 28), .ref (H0.size + 29), .int 0, .int 0, .ref (H0.size + 30), .ref (H0.size + 31), .ref (H0.size + 32), .null, .null, .null] := hT
  refine lv_aload_n hx hb dX12_init_272 rfl (lv_at hl 0 rfl) ?_
  refine lv_sipush (v := 180) hx hb dX12_init_273 (by decide) ?_
  refine m_newa (z := 33) (atype := .int) B hA hbn hC hT rfl (mc_wsL_law_r3 _ (List.mem_of_getElem? (i := 15) rfl)) (hKi 33 91 rfl) rfl rfl rfl rfl (by decide) (by decide) (fun j _ => dn_i (by decide) (by decide)) (Nat.le_of_ble_eq_true rfl) (Nat.le_of_ble_eq_true rfl) (Nat.le_of_ble_eq_true rfl) dX12_init_276 (fun H68 hC hT o_ => ?_)
  refine m_putF B ff_RX12_116 hnm hV hbn hC hT rfl rfl rfl rfl (v := .ref (H0.size + 33)) rfl rfl dX12_init_278 (fun H69 lc69 hC hT o_ => ?_)
  have hT : zTh E 13 b H69 [.ref (H0.size + 0), .ref (H0.size + 1), .ref (H0.size + 2), .int 0, .int 0, .int 0, .int (-1), .int 0, .int 0, .int 0, .int 0, .long 0, .ref (H0.size + 3), .ref (H0.size + 4), .ref (H0.size + 5), .ref (H0.size + 6), .ref (H0.size + 7), .ref (H0.size + 8), .ref (H0.size + 9), .ref (H0.size + 10), .ref (H0.size + 11), .ref (H0.size + 12), .ref (H0.size + 13), .ref (H0.size + 14), .ref (H0.size + 15), .ref (H0.size + 16), .int 0, .int 0, .int 0, .int 0, .ref (H0.size + 17), .ref (H0.size + 18), .int 0, .ref (H0.size + 19), .ref (H0.size + 20), .ref (H0.size + 21), .ref (H0.size + 22), .int 0, .int 0, .int 0, .ref (H0.size + 23), .ref (H0.size + 24), .ref (H0.size + 25), .ref (H0.size + 26), .ref (H0.size + 27), .ref (H0.size + 28), .ref (H0.size + 29), .int 0, .int 0, .ref (H0.size + 30), .ref (H0.size + 31), .ref (H0.size + 32), .ref (H0.size + 33), .null, .null] := hT
  refine lv_aload_n hx hb dX12_init_281 rfl (lv_at hl 0 rfl) ?_
  refine lv_sipush (v := 180) hx hb dX12_init_282 (by decide) ?_
  refine m_newa (z := 34) (atype := .boolean) B hA hbn hC hT rfl (mc_wsL_law_r3 _ (List.mem_of_getElem? (i := 12) rfl)) (hKi 34 92 rfl) rfl rfl rfl rfl (by decide) (by decide) (fun j _ => dn_i (by decide) (by decide)) (Nat.le_of_ble_eq_true rfl) (Nat.le_of_ble_eq_true rfl) (Nat.le_of_ble_eq_true rfl) dX12_init_285 (fun H70 hC hT o_ => ?_)
  refine m_putF B ff_RX12_119 hnm hV hbn hC hT rfl rfl rfl rfl (v := .ref (H0.size + 34)) rfl rfl dX12_init_287 (fun H71 lc71 hC hT o_ => ?_)
  have hT : zTh E 13 b H71 [.ref (H0.size + 0), .ref (H0.size + 1), .ref (H0.size + 2), .int 0, .int 0, .int 0, .int (-1), .int 0, .int 0, .int 0, .int 0, .long 0, .ref (H0.size + 3), .ref (H0.size + 4), .ref (H0.size + 5), .ref (H0.size + 6), .ref (H0.size + 7), .ref (H0.size + 8), .ref (H0.size + 9), .ref (H0.size + 10), .ref (H0.size + 11), .ref (H0.size + 12), .ref (H0.size + 13), .ref (H0.size + 14), .ref (H0.size + 15), .ref (H0.size + 16), .int 0, .int 0, .int 0, .int 0, .ref (H0.size + 17), .ref (H0.size + 18), .int 0, .ref (H0.size + 19), .ref (H0.size + 20), .ref (H0.size + 21), .ref (H0.size + 22), .int 0, .int 0, .int 0, .ref (H0.size + 23), .ref (H0.size + 24), .ref (H0.size + 25), .ref (H0.size + 26), .ref (H0.size + 27), .ref (H0.size + 28), .ref (H0.size + 29), .int 0, .int 0, .ref (H0.size + 30), .ref (H0.size + 31), .ref (H0.size + 32), .ref (H0.size + 33), .ref (H0.size + 34), .null] := hT
  refine lv_aload_n hx hb dX12_init_290 rfl (lv_at hl 0 rfl) ?_
  refine lv_sipush (v := 180) hx hb dX12_init_291 (by decide) ?_
  refine m_newa (z := 35) (atype := .boolean) B hA hbn hC hT rfl (mc_wsL_law_r3 _ (List.mem_of_getElem? (i := 12) rfl)) (hKi 35 93 rfl) rfl rfl rfl rfl (by decide) (by decide) (fun j _ => dn_i (by decide) (by decide)) (Nat.le_of_ble_eq_true rfl) (Nat.le_of_ble_eq_true rfl) (Nat.le_of_ble_eq_true rfl) dX12_init_294 (fun H72 hC hT o_ => ?_)
  refine m_putF B ff_RX12_122 hnm hV hbn hC hT rfl rfl rfl rfl (v := .ref (H0.size + 35)) rfl rfl dX12_init_296 (fun H73 lc73 hC hT o_ => ?_)
  have hT : zTh E 13 b H73 [.ref (H0.size + 0), .ref (H0.size + 1), .ref (H0.size + 2), .int 0, .int 0, .int 0, .int (-1), .int 0, .int 0, .int 0, .int 0, .long 0, .ref (H0.size + 3), .ref (H0.size + 4), .ref (H0.size + 5), .ref (H0.size + 6), .ref (H0.size + 7), .ref (H0.size + 8), .ref (H0.size + 9), .ref (H0.size + 10), .ref (H0.size + 11), .ref (H0.size + 12), .ref (H0.size + 13), .ref (H0.size + 14), .ref (H0.size + 15), .ref (H0.size + 16), .int 0, .int 0, .int 0, .int 0, .ref (H0.size + 17), .ref (H0.size + 18), .int 0, .ref (H0.size + 19), .ref (H0.size + 20), .ref (H0.size + 21), .ref (H0.size + 22), .int 0, .int 0, .int 0, .ref (H0.size + 23), .ref (H0.size + 24), .ref (H0.size + 25), .ref (H0.size + 26), .ref (H0.size + 27), .ref (H0.size + 28), .ref (H0.size + 29), .int 0, .int 0, .ref (H0.size + 30), .ref (H0.size + 31), .ref (H0.size + 32), .ref (H0.size + 33), .ref (H0.size + 34), .ref (H0.size + 35)] := hT
  refine lv_aload_n hx hb dX12_init_299 rfl (lv_at hl 0 rfl) ?_
  have hT0 := hC.ht (hT.done kb (fun j hj => match j, hj with
    | 0, _ => ⟨_, rfl, (dn_r (hKi 0 58 rfl))⟩
    | 1, _ => ⟨_, rfl, (dn_r (hKi 1 59 rfl))⟩
    | 2, _ => ⟨_, rfl, (dn_r (hKi 2 60 rfl))⟩
    | 3, _ => ⟨_, rfl, (dn_i (by decide) (by decide))⟩
    | 4, _ => ⟨_, rfl, (dn_i (by decide) (by decide))⟩
    | 5, _ => ⟨_, rfl, (dn_i (by decide) (by decide))⟩
    | 6, _ => ⟨_, rfl, (dn_i (by decide) (by decide))⟩
    | 7, _ => ⟨_, rfl, (dn_i (by decide) (by decide))⟩
    | 8, _ => ⟨_, rfl, (dn_i (by decide) (by decide))⟩
    | 9, _ => ⟨_, rfl, (dn_i (by decide) (by decide))⟩
    | 10, _ => ⟨_, rfl, (dn_i (by decide) (by decide))⟩
    | 11, _ => ⟨_, rfl, dn_l⟩
    | 12, _ => ⟨_, rfl, (dn_r (hKi 3 61 rfl))⟩
    | 13, _ => ⟨_, rfl, (dn_r (hKi 4 62 rfl))⟩
    | 14, _ => ⟨_, rfl, (dn_r (hKi 5 63 rfl))⟩
    | 15, _ => ⟨_, rfl, (dn_r (hKi 6 64 rfl))⟩
    | 16, _ => ⟨_, rfl, (dn_r (hKi 7 65 rfl))⟩
    | 17, _ => ⟨_, rfl, (dn_r (hKi 8 66 rfl))⟩
    | 18, _ => ⟨_, rfl, (dn_r (hKi 9 67 rfl))⟩
    | 19, _ => ⟨_, rfl, (dn_r (hKi 10 68 rfl))⟩
    | 20, _ => ⟨_, rfl, (dn_r (hKi 11 69 rfl))⟩
    | 21, _ => ⟨_, rfl, (dn_r (hKi 12 70 rfl))⟩
    | 22, _ => ⟨_, rfl, (dn_r (hKi 13 71 rfl))⟩
    | 23, _ => ⟨_, rfl, (dn_r (hKi 14 72 rfl))⟩
    | 24, _ => ⟨_, rfl, (dn_r (hKi 15 73 rfl))⟩
    | 25, _ => ⟨_, rfl, (dn_r (hKi 16 74 rfl))⟩
    | 26, _ => ⟨_, rfl, (dn_i (by decide) (by decide))⟩
    | 27, _ => ⟨_, rfl, (dn_i (by decide) (by decide))⟩
    | 28, _ => ⟨_, rfl, (dn_i (by decide) (by decide))⟩
    | 29, _ => ⟨_, rfl, (dn_i (by decide) (by decide))⟩
    | 30, _ => ⟨_, rfl, (dn_r (hKi 17 75 rfl))⟩
    | 31, _ => ⟨_, rfl, (dn_r (hKi 18 76 rfl))⟩
    | 32, _ => ⟨_, rfl, (dn_i (by decide) (by decide))⟩
    | 33, _ => ⟨_, rfl, (dn_r (hKi 19 77 rfl))⟩
    | 34, _ => ⟨_, rfl, (dn_r (hKi 20 78 rfl))⟩
    | 35, _ => ⟨_, rfl, (dn_r (hKi 21 79 rfl))⟩
    | 36, _ => ⟨_, rfl, (dn_r (hKi 22 80 rfl))⟩
    | 37, _ => ⟨_, rfl, (dn_i (by decide) (by decide))⟩
    | 38, _ => ⟨_, rfl, (dn_i (by decide) (by decide))⟩
    | 39, _ => ⟨_, rfl, (dn_i (by decide) (by decide))⟩
    | 40, _ => ⟨_, rfl, (dn_r (hKi 23 81 rfl))⟩
    | 41, _ => ⟨_, rfl, (dn_r (hKi 24 82 rfl))⟩
    | 42, _ => ⟨_, rfl, (dn_r (hKi 25 83 rfl))⟩
    | 43, _ => ⟨_, rfl, (dn_r (hKi 26 84 rfl))⟩
    | 44, _ => ⟨_, rfl, (dn_r (hKi 27 85 rfl))⟩
    | 45, _ => ⟨_, rfl, (dn_r (hKi 28 86 rfl))⟩
    | 46, _ => ⟨_, rfl, (dn_r (hKi 29 87 rfl))⟩
    | 47, _ => ⟨_, rfl, (dn_i (by decide) (by decide))⟩
    | 48, _ => ⟨_, rfl, (dn_t heM)⟩
    | 49, _ => ⟨_, rfl, (dn_r (hKi 30 88 rfl))⟩
    | 50, _ => ⟨_, rfl, (dn_r (hKi 31 89 rfl))⟩
    | 51, _ => ⟨_, rfl, (dn_r (hKi 32 90 rfl))⟩
    | 52, _ => ⟨_, rfl, (dn_r (hKi 33 91 rfl))⟩
    | 53, _ => ⟨_, rfl, (dn_r (hKi 34 92 rfl))⟩
    | 54, _ => ⟨_, rfl, (dn_r (hKi 35 93 rfl))⟩
    | j + 55, h => absurd h (Nat.not_lt.mpr (Nat.le_add_left _ _)))) hold hend
  have hL0 := hC.lo kne
  have hO0 : ∀ a : Nat, eK E a = 0 → H73[a]? = H0[a]? := fun a ha => (hC.zO hh kne a ha).trans (by rw [hh])
  have hz0 := hC.1
  refine zkB (n := H0.size) (zrV (rest := []) B (c_X12_clearBank l E hV _ hT0 b kb) cl_RX12_125 hT0 kb rfl rfl rfl rfl hl.1 rfl (Nat.le_of_ble_eq_true rfl) dX12_init_300 rfl rfl ⟨rfl, rfl⟩ ⟨Nat.le_of_ble_eq_true rfl, Nat.le_of_ble_eq_true rfl⟩ (fun a ha => (hO0 a ha).trans (by rw [hh]))) hL0 (fun J1 lj1 hp hT1 hf hL1 => ?_)
  have hO1 : ∀ a : Nat, eK E a = 0 → J1[a]? = H0[a]? := fun a ha => (hf.2.1 a ha).trans (hO0 a ha)
  have hz1 := hf.1.trans hz0
  refine lv_aload_n hx hb dX12_init_303 rfl (lv_at hl 0 rfl) ?_
  refine zkB (n := H0.size) (zrV (rest := []) B (c_X12_begin l E hV _ hT1 b kb) cl_RX12_128 hT1 kb rfl rfl rfl rfl hl.1 rfl (Nat.le_of_ble_eq_true rfl) dX12_init_304 rfl rfl ⟨rfl, rfl⟩ ⟨Nat.le_of_ble_eq_true rfl, Nat.le_of_ble_eq_true rfl⟩ (fun a ha => (hO1 a ha).trans (by rw [hh]))) hL1 (fun J2 lj2 hp hT2 hf hL2 => ?_)
  have hO2 : ∀ a : Nat, eK E a = 0 → J2[a]? = H0[a]? := fun a ha => (hf.2.1 a ha).trans (hO1 a ha)
  have hz2 := hf.1.trans hz1
  exact m_ret0 B hr hlk hQ hz2 hT2 hO2 hp hL2 dX12_init_307
