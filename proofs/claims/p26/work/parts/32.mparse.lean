theorem dX12_goOn_0 : decode cX12_goOn 0 = .ok (.aload_n 0, 1) := by decide +kernel
theorem dX12_goOn_1 : decode cX12_goOn 1 = .ok (.aload_n 0, 1) := by decide +kernel
theorem dX12_goOn_2 : decode cX12_goOn 2 = .ok (.getfield 159, 3) := by decide +kernel
theorem dX12_goOn_5 : decode cX12_goOn 5 = .ok (.putfield 162, 3) := by decide +kernel
theorem dX12_goOn_8 : decode cX12_goOn 8 = .ok (.aload_n 0, 1) := by decide +kernel
theorem dX12_goOn_9 : decode cX12_goOn 9 = .ok (.getfield 162, 3) := by decide +kernel
theorem dX12_goOn_12 : decode cX12_goOn 12 = .ok (.aload_n 0, 1) := by decide +kernel
theorem dX12_goOn_13 : decode cX12_goOn 13 = .ok (.getfield 131, 3) := by decide +kernel
theorem dX12_goOn_16 : decode cX12_goOn 16 = .ok (.if_icmp .ge 42, 3) := by decide +kernel
theorem dX12_goOn_19 : decode cX12_goOn 19 = .ok (.aload_n 0, 1) := by decide +kernel
theorem dX12_goOn_20 : decode cX12_goOn 20 = .ok (.aload_n 0, 1) := by decide +kernel
theorem dX12_goOn_21 : decode cX12_goOn 21 = .ok (.getfield 162, 3) := by decide +kernel
theorem dX12_goOn_24 : decode cX12_goOn 24 = .ok (.invokevirtual 165, 3) := by decide +kernel
theorem dX12_goOn_27 : decode cX12_goOn 27 = .ok (.bipush 32, 2) := by decide +kernel
theorem dX12_goOn_29 : decode cX12_goOn 29 = .ok (.if_icmp .eq 16, 3) := by decide +kernel
theorem dX12_goOn_32 : decode cX12_goOn 32 = .ok (.aload_n 0, 1) := by decide +kernel
theorem dX12_goOn_33 : decode cX12_goOn 33 = .ok (.aload_n 0, 1) := by decide +kernel
theorem dX12_goOn_34 : decode cX12_goOn 34 = .ok (.getfield 162, 3) := by decide +kernel
theorem dX12_goOn_37 : decode cX12_goOn 37 = .ok (.invokevirtual 165, 3) := by decide +kernel
theorem dX12_goOn_40 : decode cX12_goOn 40 = .ok (.bipush 10, 2) := by decide +kernel
theorem dX12_goOn_42 : decode cX12_goOn 42 = .ok (.if_icmp .ne 16, 3) := by decide +kernel
theorem dX12_goOn_45 : decode cX12_goOn 45 = .ok (.aload_n 0, 1) := by decide +kernel
theorem dX12_goOn_46 : decode cX12_goOn 46 = .ok (.dup, 1) := by decide +kernel
theorem dX12_goOn_47 : decode cX12_goOn 47 = .ok (.getfield 162, 3) := by decide +kernel
theorem dX12_goOn_50 : decode cX12_goOn 50 = .ok (.iconst 1, 1) := by decide +kernel
theorem dX12_goOn_51 : decode cX12_goOn 51 = .ok (.iadd, 1) := by decide +kernel
theorem dX12_goOn_52 : decode cX12_goOn 52 = .ok (.putfield 162, 3) := by decide +kernel
theorem dX12_goOn_55 : decode cX12_goOn 55 = .ok (.goto (-47), 3) := by decide +kernel
theorem dX12_goOn_58 : decode cX12_goOn 58 = .ok (.aload_n 0, 1) := by decide +kernel
theorem dX12_goOn_59 : decode cX12_goOn 59 = .ok (.aload_n 0, 1) := by decide +kernel
theorem dX12_goOn_60 : decode cX12_goOn 60 = .ok (.getfield 162, 3) := by decide +kernel
theorem dX12_goOn_63 : decode cX12_goOn 63 = .ok (.invokevirtual 165, 3) := by decide +kernel
theorem dX12_goOn_66 : decode cX12_goOn 66 = .ok (.istore_n 1, 1) := by decide +kernel
theorem dX12_goOn_67 : decode cX12_goOn 67 = .ok (.aload_n 0, 1) := by decide +kernel
theorem dX12_goOn_68 : decode cX12_goOn 68 = .ok (.aload_n 0, 1) := by decide +kernel
theorem dX12_goOn_69 : decode cX12_goOn 69 = .ok (.getfield 162, 3) := by decide +kernel
theorem dX12_goOn_72 : decode cX12_goOn 72 = .ok (.iconst 1, 1) := by decide +kernel
theorem dX12_goOn_73 : decode cX12_goOn 73 = .ok (.iadd, 1) := by decide +kernel
theorem dX12_goOn_74 : decode cX12_goOn 74 = .ok (.putfield 159, 3) := by decide +kernel
theorem dX12_goOn_77 : decode cX12_goOn 77 = .ok (.aload_n 0, 1) := by decide +kernel
theorem dX12_goOn_78 : decode cX12_goOn 78 = .ok (.getfield 162, 3) := by decide +kernel
theorem dX12_goOn_81 : decode cX12_goOn 81 = .ok (.aload_n 0, 1) := by decide +kernel
theorem dX12_goOn_82 : decode cX12_goOn 82 = .ok (.getfield 131, 3) := by decide +kernel
theorem dX12_goOn_85 : decode cX12_goOn 85 = .ok (.if_icmp .lt 27, 3) := by decide +kernel
theorem dX12_goOn_88 : decode cX12_goOn 88 = .ok (.aload_n 0, 1) := by decide +kernel
theorem dX12_goOn_89 : decode cX12_goOn 89 = .ok (.iconst 0, 1) := by decide +kernel
theorem dX12_goOn_90 : decode cX12_goOn 90 = .ok (.putfield 169, 3) := by decide +kernel
theorem dX12_goOn_93 : decode cX12_goOn 93 = .ok (.aload_n 0, 1) := by decide +kernel
theorem dX12_goOn_94 : decode cX12_goOn 94 = .ok (.aload_n 0, 1) := by decide +kernel
theorem dX12_goOn_95 : decode cX12_goOn 95 = .ok (.getfield 131, 3) := by decide +kernel
theorem dX12_goOn_98 : decode cX12_goOn 98 = .ok (.putfield 162, 3) := by decide +kernel
theorem dX12_goOn_101 : decode cX12_goOn 101 = .ok (.aload_n 0, 1) := by decide +kernel
theorem dX12_goOn_102 : decode cX12_goOn 102 = .ok (.aload_n 0, 1) := by decide +kernel
theorem dX12_goOn_103 : decode cX12_goOn 103 = .ok (.getfield 131, 3) := by decide +kernel
theorem dX12_goOn_106 : decode cX12_goOn 106 = .ok (.putfield 159, 3) := by decide +kernel
theorem dX12_goOn_109 : decode cX12_goOn 109 = .ok (.goto 267, 3) := by decide +kernel
theorem dX12_goOn_112 : decode cX12_goOn 112 = .ok (.iload_n 1, 1) := by decide +kernel
theorem dX12_goOn_113 : decode cX12_goOn 113 = .ok (.invokestatic 172, 3) := by decide +kernel
theorem dX12_goOn_116 : decode cX12_goOn 116 = .ok (.ifCond .eq 123, 3) := by decide +kernel
theorem dX12_goOn_119 : decode cX12_goOn 119 = .ok (.aload_n 0, 1) := by decide +kernel
theorem dX12_goOn_120 : decode cX12_goOn 120 = .ok (.aload_n 0, 1) := by decide +kernel
theorem dX12_goOn_121 : decode cX12_goOn 121 = .ok (.getfield 159, 3) := by decide +kernel
theorem dX12_goOn_124 : decode cX12_goOn 124 = .ok (.invokevirtual 165, 3) := by decide +kernel
theorem dX12_goOn_127 : decode cX12_goOn 127 = .ok (.invokestatic 172, 3) := by decide +kernel
theorem dX12_goOn_130 : decode cX12_goOn 130 = .ok (.ifCond .eq 16, 3) := by decide +kernel
theorem dX12_goOn_133 : decode cX12_goOn 133 = .ok (.aload_n 0, 1) := by decide +kernel
theorem dX12_goOn_134 : decode cX12_goOn 134 = .ok (.dup, 1) := by decide +kernel
theorem dX12_goOn_135 : decode cX12_goOn 135 = .ok (.getfield 159, 3) := by decide +kernel
theorem dX12_goOn_138 : decode cX12_goOn 138 = .ok (.iconst 1, 1) := by decide +kernel
theorem dX12_goOn_139 : decode cX12_goOn 139 = .ok (.iadd, 1) := by decide +kernel
theorem dX12_goOn_140 : decode cX12_goOn 140 = .ok (.putfield 159, 3) := by decide +kernel
theorem dX12_goOn_143 : decode cX12_goOn 143 = .ok (.goto (-24), 3) := by decide +kernel
theorem dX12_goOn_146 : decode cX12_goOn 146 = .ok (.aload_n 0, 1) := by decide +kernel
theorem dX12_goOn_147 : decode cX12_goOn 147 = .ok (.lconst 0, 1) := by decide +kernel
theorem dX12_goOn_148 : decode cX12_goOn 148 = .ok (.putfield 176, 3) := by decide +kernel
theorem dX12_goOn_151 : decode cX12_goOn 151 = .ok (.aload_n 0, 1) := by decide +kernel
theorem dX12_goOn_152 : decode cX12_goOn 152 = .ok (.getfield 162, 3) := by decide +kernel
theorem dX12_goOn_155 : decode cX12_goOn 155 = .ok (.istore_n 2, 1) := by decide +kernel
theorem dX12_goOn_156 : decode cX12_goOn 156 = .ok (.iload_n 2, 1) := by decide +kernel
theorem dX12_goOn_157 : decode cX12_goOn 157 = .ok (.aload_n 0, 1) := by decide +kernel
theorem dX12_goOn_158 : decode cX12_goOn 158 = .ok (.getfield 159, 3) := by decide +kernel
theorem dX12_goOn_161 : decode cX12_goOn 161 = .ok (.if_icmp .ge 38, 3) := by decide +kernel
theorem dX12_goOn_164 : decode cX12_goOn 164 = .ok (.iload_n 2, 1) := by decide +kernel
theorem dX12_goOn_165 : decode cX12_goOn 165 = .ok (.aload_n 0, 1) := by decide +kernel
theorem dX12_goOn_166 : decode cX12_goOn 166 = .ok (.getfield 162, 3) := by decide +kernel
theorem dX12_goOn_169 : decode cX12_goOn 169 = .ok (.bipush 8, 2) := by decide +kernel
theorem dX12_goOn_171 : decode cX12_goOn 171 = .ok (.iadd, 1) := by decide +kernel
theorem dX12_goOn_172 : decode cX12_goOn 172 = .ok (.if_icmp .ge 27, 3) := by decide +kernel
theorem dX12_goOn_175 : decode cX12_goOn 175 = .ok (.aload_n 0, 1) := by decide +kernel
theorem dX12_goOn_176 : decode cX12_goOn 176 = .ok (.aload_n 0, 1) := by decide +kernel
theorem dX12_goOn_177 : decode cX12_goOn 177 = .ok (.getfield 176, 3) := by decide +kernel
theorem dX12_goOn_180 : decode cX12_goOn 180 = .ok (.bipush 8, 2) := by decide +kernel
theorem dX12_goOn_182 : decode cX12_goOn 182 = .ok (.lshl, 1) := by decide +kernel
theorem dX12_goOn_183 : decode cX12_goOn 183 = .ok (.aload_n 0, 1) := by decide +kernel
theorem dX12_goOn_184 : decode cX12_goOn 184 = .ok (.iload_n 2, 1) := by decide +kernel
theorem dX12_goOn_185 : decode cX12_goOn 185 = .ok (.invokevirtual 165, 3) := by decide +kernel
theorem dX12_goOn_188 : decode cX12_goOn 188 = .ok (.i2l, 1) := by decide +kernel
theorem dX12_goOn_189 : decode cX12_goOn 189 = .ok (.lor, 1) := by decide +kernel
theorem dX12_goOn_190 : decode cX12_goOn 190 = .ok (.putfield 176, 3) := by decide +kernel
theorem dX12_goOn_193 : decode cX12_goOn 193 = .ok (.iinc 2 1, 3) := by decide +kernel
theorem dX12_goOn_196 : decode cX12_goOn 196 = .ok (.goto (-40), 3) := by decide +kernel
theorem dX12_goOn_199 : decode cX12_goOn 199 = .ok (.aload_n 0, 1) := by decide +kernel
theorem dX12_goOn_200 : decode cX12_goOn 200 = .ok (.aload_n 0, 1) := by decide +kernel
theorem dX12_goOn_201 : decode cX12_goOn 201 = .ok (.getfield 159, 3) := by decide +kernel
theorem dX12_goOn_204 : decode cX12_goOn 204 = .ok (.aload_n 0, 1) := by decide +kernel
theorem dX12_goOn_205 : decode cX12_goOn 205 = .ok (.getfield 162, 3) := by decide +kernel
theorem dX12_goOn_208 : decode cX12_goOn 208 = .ok (.isub, 1) := by decide +kernel
theorem dX12_goOn_209 : decode cX12_goOn 209 = .ok (.bipush 8, 2) := by decide +kernel
theorem dX12_goOn_211 : decode cX12_goOn 211 = .ok (.if_icmp .le 7, 3) := by decide +kernel
theorem dX12_goOn_214 : decode cX12_goOn 214 = .ok (.iconst 1, 1) := by decide +kernel
theorem dX12_goOn_215 : decode cX12_goOn 215 = .ok (.goto 18, 3) := by decide +kernel
theorem dX12_goOn_218 : decode cX12_goOn 218 = .ok (.aload_n 0, 1) := by decide +kernel
theorem dX12_goOn_219 : decode cX12_goOn 219 = .ok (.getfield 176, 3) := by decide +kernel
theorem dX12_goOn_222 : decode cX12_goOn 222 = .ok (.invokestatic 180, 3) := by decide +kernel
theorem dX12_goOn_225 : decode cX12_goOn 225 = .ok (.ifCond .eq 7, 3) := by decide +kernel
theorem dX12_goOn_228 : decode cX12_goOn 228 = .ok (.iconst 3, 1) := by decide +kernel
theorem dX12_goOn_229 : decode cX12_goOn 229 = .ok (.goto 4, 3) := by decide +kernel
theorem dX12_goOn_232 : decode cX12_goOn 232 = .ok (.iconst 2, 1) := by decide +kernel
theorem dX12_goOn_233 : decode cX12_goOn 233 = .ok (.putfield 169, 3) := by decide +kernel
theorem dX12_goOn_236 : decode cX12_goOn 236 = .ok (.goto 140, 3) := by decide +kernel
theorem dX12_goOn_239 : decode cX12_goOn 239 = .ok (.iload_n 1, 1) := by decide +kernel
theorem dX12_goOn_240 : decode cX12_goOn 240 = .ok (.invokestatic 184, 3) := by decide +kernel
theorem dX12_goOn_243 : decode cX12_goOn 243 = .ok (.ifCond .eq 118, 3) := by decide +kernel
theorem dX12_goOn_246 : decode cX12_goOn 246 = .ok (.aload_n 0, 1) := by decide +kernel
theorem dX12_goOn_247 : decode cX12_goOn 247 = .ok (.iconst 0, 1) := by decide +kernel
theorem dX12_goOn_248 : decode cX12_goOn 248 = .ok (.putfield 187, 3) := by decide +kernel
theorem dX12_goOn_251 : decode cX12_goOn 251 = .ok (.aload_n 0, 1) := by decide +kernel
theorem dX12_goOn_252 : decode cX12_goOn 252 = .ok (.aload_n 0, 1) := by decide +kernel
theorem dX12_goOn_253 : decode cX12_goOn 253 = .ok (.getfield 162, 3) := by decide +kernel
theorem dX12_goOn_256 : decode cX12_goOn 256 = .ok (.putfield 159, 3) := by decide +kernel
theorem dX12_goOn_259 : decode cX12_goOn 259 = .ok (.aload_n 0, 1) := by decide +kernel
theorem dX12_goOn_260 : decode cX12_goOn 260 = .ok (.aload_n 0, 1) := by decide +kernel
theorem dX12_goOn_261 : decode cX12_goOn 261 = .ok (.getfield 159, 3) := by decide +kernel
theorem dX12_goOn_264 : decode cX12_goOn 264 = .ok (.invokevirtual 165, 3) := by decide +kernel
theorem dX12_goOn_267 : decode cX12_goOn 267 = .ok (.invokestatic 184, 3) := by decide +kernel
theorem dX12_goOn_270 : decode cX12_goOn 270 = .ok (.ifCond .eq 52, 3) := by decide +kernel
theorem dX12_goOn_273 : decode cX12_goOn 273 = .ok (.aload_n 0, 1) := by decide +kernel
theorem dX12_goOn_274 : decode cX12_goOn 274 = .ok (.getfield 159, 3) := by decide +kernel
theorem dX12_goOn_277 : decode cX12_goOn 277 = .ok (.aload_n 0, 1) := by decide +kernel
theorem dX12_goOn_278 : decode cX12_goOn 278 = .ok (.getfield 162, 3) := by decide +kernel
theorem dX12_goOn_281 : decode cX12_goOn 281 = .ok (.isub, 1) := by decide +kernel
theorem dX12_goOn_282 : decode cX12_goOn 282 = .ok (.iconst 4, 1) := by decide +kernel
theorem dX12_goOn_283 : decode cX12_goOn 283 = .ok (.if_icmp .ge 26, 3) := by decide +kernel
theorem dX12_goOn_286 : decode cX12_goOn 286 = .ok (.aload_n 0, 1) := by decide +kernel
theorem dX12_goOn_287 : decode cX12_goOn 287 = .ok (.bipush 10, 2) := by decide +kernel
theorem dX12_goOn_289 : decode cX12_goOn 289 = .ok (.aload_n 0, 1) := by decide +kernel
theorem dX12_goOn_290 : decode cX12_goOn 290 = .ok (.getfield 187, 3) := by decide +kernel
theorem dX12_goOn_293 : decode cX12_goOn 293 = .ok (.imul, 1) := by decide +kernel
theorem dX12_goOn_294 : decode cX12_goOn 294 = .ok (.aload_n 0, 1) := by decide +kernel
theorem dX12_goOn_295 : decode cX12_goOn 295 = .ok (.aload_n 0, 1) := by decide +kernel
theorem dX12_goOn_296 : decode cX12_goOn 296 = .ok (.getfield 159, 3) := by decide +kernel
theorem dX12_goOn_299 : decode cX12_goOn 299 = .ok (.invokevirtual 165, 3) := by decide +kernel
theorem dX12_goOn_302 : decode cX12_goOn 302 = .ok (.iadd, 1) := by decide +kernel
theorem dX12_goOn_303 : decode cX12_goOn 303 = .ok (.bipush 48, 2) := by decide +kernel
theorem dX12_goOn_305 : decode cX12_goOn 305 = .ok (.isub, 1) := by decide +kernel
theorem dX12_goOn_306 : decode cX12_goOn 306 = .ok (.putfield 187, 3) := by decide +kernel
theorem dX12_goOn_309 : decode cX12_goOn 309 = .ok (.aload_n 0, 1) := by decide +kernel
theorem dX12_goOn_310 : decode cX12_goOn 310 = .ok (.dup, 1) := by decide +kernel
theorem dX12_goOn_311 : decode cX12_goOn 311 = .ok (.getfield 159, 3) := by decide +kernel
theorem dX12_goOn_314 : decode cX12_goOn 314 = .ok (.iconst 1, 1) := by decide +kernel
theorem dX12_goOn_315 : decode cX12_goOn 315 = .ok (.iadd, 1) := by decide +kernel
theorem dX12_goOn_316 : decode cX12_goOn 316 = .ok (.putfield 159, 3) := by decide +kernel
theorem dX12_goOn_319 : decode cX12_goOn 319 = .ok (.goto (-60), 3) := by decide +kernel
theorem dX12_goOn_322 : decode cX12_goOn 322 = .ok (.aload_n 0, 1) := by decide +kernel
theorem dX12_goOn_323 : decode cX12_goOn 323 = .ok (.aload_n 0, 1) := by decide +kernel
theorem dX12_goOn_324 : decode cX12_goOn 324 = .ok (.getfield 159, 3) := by decide +kernel
theorem dX12_goOn_327 : decode cX12_goOn 327 = .ok (.aload_n 0, 1) := by decide +kernel
theorem dX12_goOn_328 : decode cX12_goOn 328 = .ok (.getfield 162, 3) := by decide +kernel
theorem dX12_goOn_331 : decode cX12_goOn 331 = .ok (.isub, 1) := by decide +kernel
theorem dX12_goOn_332 : decode cX12_goOn 332 = .ok (.iconst 4, 1) := by decide +kernel
theorem dX12_goOn_333 : decode cX12_goOn 333 = .ok (.if_icmp .gt 17, 3) := by decide +kernel
theorem dX12_goOn_336 : decode cX12_goOn 336 = .ok (.aload_n 0, 1) := by decide +kernel
theorem dX12_goOn_337 : decode cX12_goOn 337 = .ok (.aload_n 0, 1) := by decide +kernel
theorem dX12_goOn_338 : decode cX12_goOn 338 = .ok (.getfield 159, 3) := by decide +kernel
theorem dX12_goOn_341 : decode cX12_goOn 341 = .ok (.invokevirtual 165, 3) := by decide +kernel
theorem dX12_goOn_344 : decode cX12_goOn 344 = .ok (.invokestatic 172, 3) := by decide +kernel
theorem dX12_goOn_347 : decode cX12_goOn 347 = .ok (.ifCond .eq 7, 3) := by decide +kernel
theorem dX12_goOn_350 : decode cX12_goOn 350 = .ok (.iconst 1, 1) := by decide +kernel
theorem dX12_goOn_351 : decode cX12_goOn 351 = .ok (.goto 4, 3) := by decide +kernel
theorem dX12_goOn_354 : decode cX12_goOn 354 = .ok (.iconst 4, 1) := by decide +kernel
theorem dX12_goOn_355 : decode cX12_goOn 355 = .ok (.putfield 169, 3) := by decide +kernel
theorem dX12_goOn_358 : decode cX12_goOn 358 = .ok (.goto 18, 3) := by decide +kernel
theorem dX12_goOn_361 : decode cX12_goOn 361 = .ok (.aload_n 0, 1) := by decide +kernel
theorem dX12_goOn_362 : decode cX12_goOn 362 = .ok (.iload_n 1, 1) := by decide +kernel
theorem dX12_goOn_363 : decode cX12_goOn 363 = .ok (.bipush 59, 2) := by decide +kernel
theorem dX12_goOn_365 : decode cX12_goOn 365 = .ok (.if_icmp .ne 7, 3) := by decide +kernel
theorem dX12_goOn_368 : decode cX12_goOn 368 = .ok (.iconst 5, 1) := by decide +kernel
theorem dX12_goOn_369 : decode cX12_goOn 369 = .ok (.goto 4, 3) := by decide +kernel
theorem dX12_goOn_372 : decode cX12_goOn 372 = .ok (.iconst 1, 1) := by decide +kernel
theorem dX12_goOn_373 : decode cX12_goOn 373 = .ok (.putfield 169, 3) := by decide +kernel
theorem dX12_goOn_376 : decode cX12_goOn 376 = .ok (.return_, 1) := by decide +kernel
def rm_X12_goOn : Room := { frames := 1, cells := 0, slots := 0, locals := 21 }
abbrev wS_X12_goOn : List (Nat × Nat) := [(13, 7), (13, 8), (13, 9), (13, 10), (13, 11)]
set_option maxRecDepth 100000 in
set_option maxHeartbeats 4000000 in
theorem c_X12_goOn (l : Launch) (E : zE) (hV : zV E) (H0 : Heap) (hT0 : HT E H0) (h0 : Nat) (kh0 : eK E h0 = 13) (e0 : Int32) (s_e0 : sl H0 h0 (zix E 13 8) = some (.int e0)) (e0_lo : 0 ≤ e0.toInt) (e0_hi : e0.toInt ≤ 1600) (sz : Int32) (s_sz : sl H0 h0 (zix E 13 4) = some (.int sz)) (pr_0 : e0.toInt ≤ sz.toInt) : Met l yX12_goOn (zws yX12_goOn cX12_goOn 3 none) rm_X12_goOn (zP E H0 [.ref h0]) (zQV E E wS_X12_goOn (fun H1 => ∃ e1 : Int32, sl H1 h0 (zix E 13 8) = some (.int e1) ∧ 0 ≤ e1.toInt ∧ e1.toInt ≤ 1600 ∧ (e0.toInt ≤ e1.toInt) ∧ (e1.toInt ≤ sz.toInt) ∧ ∃ t1 : Int32, sl H1 h0 (zix E 13 9) = some (.int t1) ∧ 0 ≤ t1.toInt ∧ t1.toInt ≤ 5 ∧ (e0.toInt < e1.toInt ∨ t1.toInt ≤ 1 ∨ t1.toInt = 4))) 0 0 (zfr E) := by
  refine zEnt (by decide) (Nat.le_of_ble_eq_true rfl) (fun p e s m args below meth c ls Q B hr hlk hh hQ hl => ?_)
  have hx := B.1
  have hb := B.2.1
  have hG0 : zG E wS_X12_goOn H0 H0 [] := zG.rf hT0
  have hl : lv_has ls 3 [(0, .ref h0)] := hl
  have bd_sz := HT.bdI hT0 kh0 rfl (j := 4) (by decide) rfl s_sz
  have b259 : ∀ (n259 : Nat) (H259 : Heap) (lc259 : List Loc) (ls : Array Slot) (u259_h0_7 : Int32) (u259_h0_10 : Int32) (u259_h0_8 : Int32), sz.toInt - u259_h0_8.toInt < (n259 : Int) → zG E wS_X12_goOn H0 H259 lc259 → lv_has ls 3 [(0, .ref h0)] → 1 ≤ sz.toInt → 0 ≤ u259_h0_7.toInt → u259_h0_7.toInt ≤ 1600 → 0 ≤ u259_h0_8.toInt → u259_h0_8.toInt ≤ 1600 → sl H259 h0 (zix E 13 4) = some (.int sz) → sl H259 h0 (zix E 13 7) = some (.int u259_h0_7) → sl H259 h0 (zix E 13 10) = some (.int u259_h0_10) → sl H259 h0 (zix E 13 8) = some (.int u259_h0_8) → e0.toInt ≤ u259_h0_7.toInt → u259_h0_7.toInt ≤ u259_h0_8.toInt → u259_h0_8.toInt ≤ sz.toInt → W p l e rm_X12_goOn s m args below meth c H259 lc259 0 0 Q (F0 m 259 ls []) := by
    intro n259
    induction n259 with
    | zero =>
      intro H259 lc259 ls u259_h0_7 u259_h0_10 u259_h0_8 hm259 gH259 hl f259_1 f259_2 f259_3 f259_4 f259_5 s259_u259_h0_4 s259_u259_h0_7 s259_u259_h0_10 s259_u259_h0_8 f259_6 f259_7 f259_8
      exact absurd hm259 (by omega)
    | succ n259 ih259 =>
      intro H259 lc259 ls u259_h0_7 u259_h0_10 u259_h0_8 hm259 gH259 hl f259_1 f259_2 f259_3 f259_4 f259_5 s259_u259_h0_4 s259_u259_h0_7 s259_u259_h0_10 s259_u259_h0_8 f259_6 f259_7 f259_8
      have b309 : ∀ (H309 : Heap) (lc309 : List Loc) (ls : Array Slot) (u309_h0_10 : Int32), zG E wS_X12_goOn H0 H309 lc309 → lv_has ls 3 [(0, .ref h0)] → u259_h0_8.toInt ≤ 1599 → sl H309 h0 (zix E 13 4) = some (.int sz) → sl H309 h0 (zix E 13 7) = some (.int u259_h0_7) → sl H309 h0 (zix E 13 10) = some (.int u309_h0_10) → sl H309 h0 (zix E 13 8) = some (.int u259_h0_8) → e0.toInt ≤ u259_h0_7.toInt → u259_h0_7.toInt ≤ u259_h0_8.toInt → u259_h0_8.toInt < sz.toInt → W p l e rm_X12_goOn s m args below meth c H309 lc309 0 0 Q (F0 m 309 ls []) := by
        intro H309 lc309 ls u309_h0_10 gH309 hl f309_1 s309_u309_h0_4 s309_u309_h0_7 s309_u309_h0_10 s309_u309_h0_8 f309_2 f309_3 f309_4
        refine lv_aload_n hx hb dX12_goOn_309 rfl (lv_at hl 0 rfl) ?_
        refine lv_dup hx hb dX12_goOn_310 rfl ?_
        refine g_get B fl_RX12_159 gH309.1 kh0 rfl rfl rfl dX12_goOn_311 s309_u309_h0_8 ?_
        refine lv_iconst (v := 1) hx hb dX12_goOn_314 (by decide) ?_
        refine lv_iadd hx hb dX12_goOn_315 ?_
        refine lv_topi (fun x_1 e_1 => ?_)
        have t_1 := z_add e_1 rfl kl_1 (by omega) (by omega)
        refine g_putI B fp_RX12_159 hV gH309 kh0 rfl rfl rfl rfl rfl (by omega) (by omega) rfl dX12_goOn_316 (fun H2 lc2 gH2 uH2 => ?_)
        have s_3 := uH2.keep (Or.inr (j_ne hV rfl rfl rfl rfl)) s309_u309_h0_4
        have s_4 := uH2.keep (Or.inr (j_ne hV rfl rfl rfl rfl)) s309_u309_h0_7
        have s_5 := uH2.keep (Or.inr (j_ne hV rfl rfl rfl rfl)) s309_u309_h0_10
        refine lv_goto (tgt := 259) hx hb dX12_goOn_319 (by decide) ?_
        exact ih259 H2 lc2 ls u259_h0_7 u309_h0_10 x_1 (by omega) gH2 (lv_sub hl [0] rfl) (by omega) (by omega) (by omega) (by omega) (by omega) s_3 s_4 s_5 uH2.2.1 (by omega) (by omega) (by omega)
      refine lv_aload_n hx hb dX12_goOn_259 rfl (lv_at hl 0 rfl) ?_
      refine lv_aload_n hx hb dX12_goOn_260 rfl (lv_at hl 0 rfl) ?_
      refine g_get B fl_RX12_159 gH259.1 kh0 rfl rfl rfl dX12_goOn_261 s259_u259_h0_8 ?_
      refine zkPI (zrV (rest := []) B (c_X12_sign l E hV H259 gH259.1 h0 kh0 u259_h0_8 (by omega) (by omega) sz s259_u259_h0_4) cl_RX12_165 gH259.1 kh0 rfl rfl rfl rfl hl.1 rfl (Nat.le_of_ble_eq_true rfl) dX12_goOn_264 rfl rfl ⟨rfl, rfl⟩ ⟨Nat.zero_le _, Nat.zero_le _⟩ (zO.of gH259 hh)) (fun x_6 hp_6 => ?_)
      obtain ⟨hp_6_1, hp_6_2, hp_6_3⟩ := hp_6
      refine zkPI (zrS (rest := []) B (c_X12_isDigit l E hV H259 gH259.1 x_6) cs_RX12_184 rfl hl.1 rfl (Nat.le_of_ble_eq_true rfl) dX12_goOn_267 rfl rfl ⟨rfl, rfl⟩ ⟨Nat.zero_le _, Nat.zero_le _⟩ (zO.of gH259 hh)) (fun x_7 hp_7 => ?_)
      obtain ⟨hp_7_1, hp_7_2, hp_7_3⟩ := hp_7
      refine lv_if_eq (tgt := 322) hx hb dX12_goOn_270 (by decide) (fun c_8 => ?_) (fun c_8 => ?_)
      · have f_8 := z_eq c_8 rfl kl_0
        refine lv_aload_n hx hb dX12_goOn_322 rfl (lv_at hl 0 rfl) ?_
        refine lv_aload_n hx hb dX12_goOn_323 rfl (lv_at hl 0 rfl) ?_
        refine g_get B fl_RX12_159 gH259.1 kh0 rfl rfl rfl dX12_goOn_324 s259_u259_h0_8 ?_
        refine lv_aload_n hx hb dX12_goOn_327 rfl (lv_at hl 0 rfl) ?_
        refine g_get B fl_RX12_162 gH259.1 kh0 rfl rfl rfl dX12_goOn_328 s259_u259_h0_7 ?_
        refine lv_isub hx hb dX12_goOn_331 ?_
        refine lv_topi (fun x_9 e_9 => ?_)
        have t_9 := z_sub e_9 rfl rfl (by omega) (by omega)
        refine lv_iconst (v := 4) hx hb dX12_goOn_332 (by decide) ?_
        refine lv_icmp_gt (tgt := 350) hx hb dX12_goOn_333 (by decide) (fun c_10 => ?_) (fun c_10 => ?_)
        · have f_10 := z_lt c_10 kl_4 rfl
          refine lv_iconst (v := 1) hx hb dX12_goOn_350 (by decide) ?_
          refine lv_goto (tgt := 355) hx hb dX12_goOn_351 (by decide) ?_
          have := kl_1
          refine g_putI B fp_RX12_169 hV gH259 kh0 rfl rfl rfl rfl rfl (by omega) (by omega) rfl dX12_goOn_355 (fun H11 lc11 gH11 uH11 => ?_)
          have s_12 := uH11.keep (Or.inr (j_ne hV rfl rfl rfl rfl)) s259_u259_h0_4
          have s_13 := uH11.keep (Or.inr (j_ne hV rfl rfl rfl rfl)) s259_u259_h0_8
          refine lv_goto (tgt := 376) hx hb dX12_goOn_358 (by decide) ?_
          have := kl_1
          exact rtV B hr hlk hh hQ gH11 ⟨u259_h0_8, s_13, by omega, by omega, by omega, by omega, 1, uH11.2.1, by omega, by omega, by omega⟩ dX12_goOn_376
        · have f_10 := z_nlt c_10 kl_4 rfl
          refine lv_aload_n hx hb dX12_goOn_336 rfl (lv_at hl 0 rfl) ?_
          refine lv_aload_n hx hb dX12_goOn_337 rfl (lv_at hl 0 rfl) ?_
          refine g_get B fl_RX12_159 gH259.1 kh0 rfl rfl rfl dX12_goOn_338 s259_u259_h0_8 ?_
          refine zkPI (zrV (rest := [.ref h0]) B (c_X12_sign l E hV H259 gH259.1 h0 kh0 u259_h0_8 (by omega) (by omega) sz s259_u259_h0_4) cl_RX12_165 gH259.1 kh0 rfl rfl rfl rfl hl.1 rfl (Nat.le_of_ble_eq_true rfl) dX12_goOn_341 rfl rfl ⟨rfl, rfl⟩ ⟨Nat.zero_le _, Nat.zero_le _⟩ (zO.of gH259 hh)) (fun x_14 hp_14 => ?_)
          obtain ⟨hp_14_1, hp_14_2, hp_14_3⟩ := hp_14
          refine zkPI (zrS (rest := [.ref h0]) B (c_X12_isLetter l E hV H259 gH259.1 x_14) cs_RX12_172 rfl hl.1 rfl (Nat.le_of_ble_eq_true rfl) dX12_goOn_344 rfl rfl ⟨rfl, rfl⟩ ⟨Nat.zero_le _, Nat.zero_le _⟩ (zO.of gH259 hh)) (fun x_15 hp_15 => ?_)
          obtain ⟨hp_15_1, hp_15_2, hp_15_3⟩ := hp_15
          refine lv_if_eq (tgt := 354) hx hb dX12_goOn_347 (by decide) (fun c_16 => ?_) (fun c_16 => ?_)
          · have f_16 := z_eq c_16 rfl kl_0
            refine lv_iconst (v := 4) hx hb dX12_goOn_354 (by decide) ?_
            have := kl_4
            refine g_putI B fp_RX12_169 hV gH259 kh0 rfl rfl rfl rfl rfl (by omega) (by omega) rfl dX12_goOn_355 (fun H17 lc17 gH17 uH17 => ?_)
            have s_18 := uH17.keep (Or.inr (j_ne hV rfl rfl rfl rfl)) s259_u259_h0_4
            have s_19 := uH17.keep (Or.inr (j_ne hV rfl rfl rfl rfl)) s259_u259_h0_8
            refine lv_goto (tgt := 376) hx hb dX12_goOn_358 (by decide) ?_
            have := kl_4
            exact rtV B hr hlk hh hQ gH17 ⟨u259_h0_8, s_19, by omega, by omega, by omega, by omega, 4, uH17.2.1, by omega, by omega, by omega⟩ dX12_goOn_376
          · have f_16 := z_ne c_16 rfl kl_0
            refine lv_iconst (v := 1) hx hb dX12_goOn_350 (by decide) ?_
            refine lv_goto (tgt := 355) hx hb dX12_goOn_351 (by decide) ?_
            have := kl_1
            refine g_putI B fp_RX12_169 hV gH259 kh0 rfl rfl rfl rfl rfl (by omega) (by omega) rfl dX12_goOn_355 (fun H20 lc20 gH20 uH20 => ?_)
            have s_21 := uH20.keep (Or.inr (j_ne hV rfl rfl rfl rfl)) s259_u259_h0_4
            have s_22 := uH20.keep (Or.inr (j_ne hV rfl rfl rfl rfl)) s259_u259_h0_8
            refine lv_goto (tgt := 376) hx hb dX12_goOn_358 (by decide) ?_
            have := kl_1
            exact rtV B hr hlk hh hQ gH20 ⟨u259_h0_8, s_22, by omega, by omega, by omega, by omega, 1, uH20.2.1, by omega, by omega, by omega⟩ dX12_goOn_376
      · have f_8 := z_ne c_8 rfl kl_0
        refine lv_aload_n hx hb dX12_goOn_273 rfl (lv_at hl 0 rfl) ?_
        refine g_get B fl_RX12_159 gH259.1 kh0 rfl rfl rfl dX12_goOn_274 s259_u259_h0_8 ?_
        refine lv_aload_n hx hb dX12_goOn_277 rfl (lv_at hl 0 rfl) ?_
        refine g_get B fl_RX12_162 gH259.1 kh0 rfl rfl rfl dX12_goOn_278 s259_u259_h0_7 ?_
        refine lv_isub hx hb dX12_goOn_281 ?_
        refine lv_topi (fun x_23 e_23 => ?_)
        have t_23 := z_sub e_23 rfl rfl (by omega) (by omega)
        refine lv_iconst (v := 4) hx hb dX12_goOn_282 (by decide) ?_
        refine lv_icmp_ge (tgt := 309) hx hb dX12_goOn_283 (by decide) (fun c_24 => ?_) (fun c_24 => ?_)
        · have f_24 := z_le c_24 kl_4 rfl
          exact b309 H259 lc259 ls u259_h0_10 gH259 (lv_sub hl [0] rfl) (by omega) s259_u259_h0_4 s259_u259_h0_7 s259_u259_h0_10 s259_u259_h0_8 (by omega) (by omega) (by omega)
        · have f_24 := z_nle c_24 kl_4 rfl
          refine lv_aload_n hx hb dX12_goOn_286 rfl (lv_at hl 0 rfl) ?_
          refine lv_bipush (v := 10) hx hb dX12_goOn_287 (by decide) ?_
          refine lv_aload_n hx hb dX12_goOn_289 rfl (lv_at hl 0 rfl) ?_
          refine g_get B fl_RX12_187 gH259.1 kh0 rfl rfl rfl dX12_goOn_290 s259_u259_h0_10 ?_
          refine lv_imul hx hb dX12_goOn_293 ?_
          refine lv_topi (fun x_25 e_25 => ?_)
          refine lv_aload_n hx hb dX12_goOn_294 rfl (lv_at hl 0 rfl) ?_
          refine lv_aload_n hx hb dX12_goOn_295 rfl (lv_at hl 0 rfl) ?_
          refine g_get B fl_RX12_159 gH259.1 kh0 rfl rfl rfl dX12_goOn_296 s259_u259_h0_8 ?_
          refine zkPI (zrV (rest := [.int x_25, .ref h0]) B (c_X12_sign l E hV H259 gH259.1 h0 kh0 u259_h0_8 (by omega) (by omega) sz s259_u259_h0_4) cl_RX12_165 gH259.1 kh0 rfl rfl rfl rfl hl.1 rfl (Nat.le_of_ble_eq_true rfl) dX12_goOn_299 rfl rfl ⟨rfl, rfl⟩ ⟨Nat.zero_le _, Nat.zero_le _⟩ (zO.of gH259 hh)) (fun x_26 hp_26 => ?_)
          obtain ⟨hp_26_1, hp_26_2, hp_26_3⟩ := hp_26
          refine lv_iadd hx hb dX12_goOn_302 ?_
          refine lv_topi (fun x_27 e_27 => ?_)
          refine lv_bipush (v := 48) hx hb dX12_goOn_303 (by decide) ?_
          refine lv_isub hx hb dX12_goOn_305 ?_
          refine lv_topi (fun x_28 e_28 => ?_)
          refine g_putI B fp_RX12_187 hV gH259 kh0 rfl rfl rfl rfl rfl (z_rng _).1 (z_rng _).2 rfl dX12_goOn_306 (fun H29 lc29 gH29 uH29 => ?_)
          have s_30 := uH29.keep (Or.inr (j_ne hV rfl rfl rfl rfl)) s259_u259_h0_4
          have s_31 := uH29.keep (Or.inr (j_ne hV rfl rfl rfl rfl)) s259_u259_h0_7
          have s_32 := uH29.keep (Or.inr (j_ne hV rfl rfl rfl rfl)) s259_u259_h0_8
          exact b309 H29 lc29 ls x_28 gH29 (lv_sub hl [0] rfl) (by omega) s_30 s_31 uH29.2.1 s_32 (by omega) (by omega) (by omega)
  have b199 : ∀ (H199 : Heap) (lc199 : List Loc) (ls : Array Slot) (u199_h0_7 : Int32) (u199_h0_8 : Int32) (u199_h0_11 : Int64), zG E wS_X12_goOn H0 H199 lc199 → lv_has ls 3 [(0, .ref h0)] → 1 ≤ sz.toInt → 0 ≤ u199_h0_7.toInt → u199_h0_7.toInt ≤ 1600 → 0 ≤ u199_h0_8.toInt → u199_h0_8.toInt ≤ 1600 → sl H199 h0 (zix E 13 4) = some (.int sz) → sl H199 h0 (zix E 13 7) = some (.int u199_h0_7) → sl H199 h0 (zix E 13 8) = some (.int u199_h0_8) → sl H199 h0 (zix E 13 11) = some (.long u199_h0_11) → e0.toInt < u199_h0_8.toInt → u199_h0_8.toInt ≤ sz.toInt → W p l e rm_X12_goOn s m args below meth c H199 lc199 0 0 Q (F0 m 199 ls []) := by
    intro H199 lc199 ls u199_h0_7 u199_h0_8 u199_h0_11 gH199 hl f199_1 f199_2 f199_3 f199_4 f199_5 s199_u199_h0_4 s199_u199_h0_7 s199_u199_h0_8 s199_u199_h0_11 f199_6 f199_7
    refine lv_aload_n hx hb dX12_goOn_199 rfl (lv_at hl 0 rfl) ?_
    refine lv_aload_n hx hb dX12_goOn_200 rfl (lv_at hl 0 rfl) ?_
    refine g_get B fl_RX12_159 gH199.1 kh0 rfl rfl rfl dX12_goOn_201 s199_u199_h0_8 ?_
    refine lv_aload_n hx hb dX12_goOn_204 rfl (lv_at hl 0 rfl) ?_
    refine g_get B fl_RX12_162 gH199.1 kh0 rfl rfl rfl dX12_goOn_205 s199_u199_h0_7 ?_
    refine lv_isub hx hb dX12_goOn_208 ?_
    refine lv_topi (fun x_33 e_33 => ?_)
    have t_33 := z_sub e_33 rfl rfl (by omega) (by omega)
    refine lv_bipush (v := 8) hx hb dX12_goOn_209 (by decide) ?_
    refine lv_icmp_le (tgt := 218) hx hb dX12_goOn_211 (by decide) (fun c_34 => ?_) (fun c_34 => ?_)
    · have f_34 := z_le c_34 rfl kl_8
      refine lv_aload_n hx hb dX12_goOn_218 rfl (lv_at hl 0 rfl) ?_
      refine g_get B fl_RX12_176 gH199.1 kh0 rfl rfl rfl dX12_goOn_219 s199_u199_h0_11 ?_
      refine zkPI (zrS (rest := [.ref h0]) B (c_X12_isKept l E hV H199 gH199.1 u199_h0_11) cs_RX12_180 rfl hl.1 rfl (Nat.le_of_ble_eq_true rfl) dX12_goOn_222 rfl rfl ⟨rfl, rfl⟩ ⟨Nat.zero_le _, Nat.zero_le _⟩ (zO.of gH199 hh)) (fun x_35 hp_35 => ?_)
      obtain ⟨hp_35_1, hp_35_2⟩ := hp_35
      refine lv_if_eq (tgt := 232) hx hb dX12_goOn_225 (by decide) (fun c_36 => ?_) (fun c_36 => ?_)
      · have f_36 := z_eq c_36 rfl kl_0
        refine lv_iconst (v := 2) hx hb dX12_goOn_232 (by decide) ?_
        have := kl_2
        refine g_putI B fp_RX12_169 hV gH199 kh0 rfl rfl rfl rfl rfl (by omega) (by omega) rfl dX12_goOn_233 (fun H37 lc37 gH37 uH37 => ?_)
        have s_38 := uH37.keep (Or.inr (j_ne hV rfl rfl rfl rfl)) s199_u199_h0_4
        have s_39 := uH37.keep (Or.inr (j_ne hV rfl rfl rfl rfl)) s199_u199_h0_8
        refine lv_goto (tgt := 376) hx hb dX12_goOn_236 (by decide) ?_
        have := kl_2
        exact rtV B hr hlk hh hQ gH37 ⟨u199_h0_8, s_39, by omega, by omega, by omega, by omega, 2, uH37.2.1, by omega, by omega, by omega⟩ dX12_goOn_376
      · have f_36 := z_ne c_36 rfl kl_0
        refine lv_iconst (v := 3) hx hb dX12_goOn_228 (by decide) ?_
        refine lv_goto (tgt := 233) hx hb dX12_goOn_229 (by decide) ?_
        have := kl_3
        refine g_putI B fp_RX12_169 hV gH199 kh0 rfl rfl rfl rfl rfl (by omega) (by omega) rfl dX12_goOn_233 (fun H40 lc40 gH40 uH40 => ?_)
        have s_41 := uH40.keep (Or.inr (j_ne hV rfl rfl rfl rfl)) s199_u199_h0_4
        have s_42 := uH40.keep (Or.inr (j_ne hV rfl rfl rfl rfl)) s199_u199_h0_8
        refine lv_goto (tgt := 376) hx hb dX12_goOn_236 (by decide) ?_
        have := kl_3
        exact rtV B hr hlk hh hQ gH40 ⟨u199_h0_8, s_42, by omega, by omega, by omega, by omega, 3, uH40.2.1, by omega, by omega, by omega⟩ dX12_goOn_376
    · have f_34 := z_nle c_34 rfl kl_8
      refine lv_iconst (v := 1) hx hb dX12_goOn_214 (by decide) ?_
      refine lv_goto (tgt := 233) hx hb dX12_goOn_215 (by decide) ?_
      have := kl_1
      refine g_putI B fp_RX12_169 hV gH199 kh0 rfl rfl rfl rfl rfl (by omega) (by omega) rfl dX12_goOn_233 (fun H43 lc43 gH43 uH43 => ?_)
      have s_44 := uH43.keep (Or.inr (j_ne hV rfl rfl rfl rfl)) s199_u199_h0_4
      have s_45 := uH43.keep (Or.inr (j_ne hV rfl rfl rfl rfl)) s199_u199_h0_8
      refine lv_goto (tgt := 376) hx hb dX12_goOn_236 (by decide) ?_
      have := kl_1
      exact rtV B hr hlk hh hQ gH43 ⟨u199_h0_8, s_45, by omega, by omega, by omega, by omega, 1, uH43.2.1, by omega, by omega, by omega⟩ dX12_goOn_376
  have b156 : ∀ (n156 : Nat) (H156 : Heap) (lc156 : List Loc) (ls : Array Slot) (v156_2 : Int32) (u156_h0_7 : Int32) (u156_h0_8 : Int32) (u156_h0_11 : Int64), 1600 - v156_2.toInt < (n156 : Int) → zG E wS_X12_goOn H0 H156 lc156 → lv_has ls 3 [(0, .ref h0), (2, .int v156_2)] → 0 ≤ v156_2.toInt → v156_2.toInt ≤ 1600 → 1 ≤ sz.toInt → 0 ≤ u156_h0_7.toInt → u156_h0_7.toInt ≤ 1600 → 0 ≤ u156_h0_8.toInt → u156_h0_8.toInt ≤ 1600 → sl H156 h0 (zix E 13 4) = some (.int sz) → sl H156 h0 (zix E 13 7) = some (.int u156_h0_7) → sl H156 h0 (zix E 13 8) = some (.int u156_h0_8) → sl H156 h0 (zix E 13 11) = some (.long u156_h0_11) → e0.toInt < u156_h0_8.toInt → u156_h0_8.toInt ≤ sz.toInt → W p l e rm_X12_goOn s m args below meth c H156 lc156 0 0 Q (F0 m 156 ls []) := by
    intro n156
    induction n156 with
    | zero =>
      intro H156 lc156 ls v156_2 u156_h0_7 u156_h0_8 u156_h0_11 hm156 gH156 hl f156_1 f156_2 f156_3 f156_4 f156_5 f156_6 f156_7 s156_u156_h0_4 s156_u156_h0_7 s156_u156_h0_8 s156_u156_h0_11 f156_8 f156_9
      exact absurd hm156 (by omega)
    | succ n156 ih156 =>
      intro H156 lc156 ls v156_2 u156_h0_7 u156_h0_8 u156_h0_11 hm156 gH156 hl f156_1 f156_2 f156_3 f156_4 f156_5 f156_6 f156_7 s156_u156_h0_4 s156_u156_h0_7 s156_u156_h0_8 s156_u156_h0_11 f156_8 f156_9
      refine lv_iload_n hx hb dX12_goOn_156 rfl (lv_at hl 1 rfl) ?_
      refine lv_aload_n hx hb dX12_goOn_157 rfl (lv_at hl 0 rfl) ?_
      refine g_get B fl_RX12_159 gH156.1 kh0 rfl rfl rfl dX12_goOn_158 s156_u156_h0_8 ?_
      refine lv_icmp_ge (tgt := 199) hx hb dX12_goOn_161 (by decide) (fun c_46 => ?_) (fun c_46 => ?_)
      · have f_46 := z_le c_46 rfl rfl
        exact b199 H156 lc156 ls u156_h0_7 u156_h0_8 u156_h0_11 gH156 (lv_sub hl [0] rfl) (by omega) (by omega) (by omega) (by omega) (by omega) s156_u156_h0_4 s156_u156_h0_7 s156_u156_h0_8 s156_u156_h0_11 (by omega) (by omega)
      · have f_46 := z_nle c_46 rfl rfl
        refine lv_iload_n hx hb dX12_goOn_164 rfl (lv_at hl 1 rfl) ?_
        refine lv_aload_n hx hb dX12_goOn_165 rfl (lv_at hl 0 rfl) ?_
        refine g_get B fl_RX12_162 gH156.1 kh0 rfl rfl rfl dX12_goOn_166 s156_u156_h0_7 ?_
        refine lv_bipush (v := 8) hx hb dX12_goOn_169 (by decide) ?_
        refine lv_iadd hx hb dX12_goOn_171 ?_
        refine lv_topi (fun x_47 e_47 => ?_)
        have t_47 := z_add e_47 rfl kl_8 (by omega) (by omega)
        refine lv_icmp_ge (tgt := 199) hx hb dX12_goOn_172 (by decide) (fun c_48 => ?_) (fun c_48 => ?_)
        · have f_48 := z_le c_48 rfl rfl
          exact b199 H156 lc156 ls u156_h0_7 u156_h0_8 u156_h0_11 gH156 (lv_sub hl [0] rfl) (by omega) (by omega) (by omega) (by omega) (by omega) s156_u156_h0_4 s156_u156_h0_7 s156_u156_h0_8 s156_u156_h0_11 (by omega) (by omega)
        · have f_48 := z_nle c_48 rfl rfl
          refine lv_aload_n hx hb dX12_goOn_175 rfl (lv_at hl 0 rfl) ?_
          refine lv_aload_n hx hb dX12_goOn_176 rfl (lv_at hl 0 rfl) ?_
          refine g_get B fl_RX12_176 gH156.1 kh0 rfl rfl rfl dX12_goOn_177 s156_u156_h0_11 ?_
          refine lv_bipush (v := 8) hx hb dX12_goOn_180 (by decide) ?_
          refine lv_lshl hx hb dX12_goOn_182 rfl ?_
          refine lv_topl (fun y_49 e_49 => ?_)
          refine lv_aload_n hx hb dX12_goOn_183 rfl (lv_at hl 0 rfl) ?_
          refine lv_iload_n hx hb dX12_goOn_184 rfl (lv_at hl 1 rfl) ?_
          refine zkPI (zrV (rest := [.long y_49, .ref h0]) B (c_X12_sign l E hV H156 gH156.1 h0 kh0 v156_2 (by omega) (by omega) sz s156_u156_h0_4) cl_RX12_165 gH156.1 kh0 rfl rfl rfl rfl hl.1 rfl (Nat.le_of_ble_eq_true rfl) dX12_goOn_185 rfl rfl ⟨rfl, rfl⟩ ⟨Nat.zero_le _, Nat.zero_le _⟩ (zO.of gH156 hh)) (fun x_50 hp_50 => ?_)
          obtain ⟨hp_50_1, hp_50_2, hp_50_3⟩ := hp_50
          refine lv_i2l hx hb dX12_goOn_188 rfl ?_
          refine lv_topl (fun y_51 e_51 => ?_)
          refine lv_lor hx hb dX12_goOn_189 ?_
          refine lv_topl (fun y_52 e_52 => ?_)
          refine g_putL B fp_RX12_176 hV gH156 kh0 rfl rfl rfl rfl rfl rfl dX12_goOn_190 (fun H53 lc53 gH53 uH53 => ?_)
          have s_54 := uH53.keep (Or.inr (j_ne hV rfl rfl rfl rfl)) s156_u156_h0_4
          have s_55 := uH53.keep (Or.inr (j_ne hV rfl rfl rfl rfl)) s156_u156_h0_7
          have s_56 := uH53.keep (Or.inr (j_ne hV rfl rfl rfl rfl)) s156_u156_h0_8
          obtain ⟨x_57, e_57⟩ : ∃ y : Int32, (v156_2 : Int32) + Int32.ofInt 1 = y := ⟨_, rfl⟩
          refine lv_iinc (v := x_57) (lv' := [(2, .int x_57), (0, .ref h0)]) hx hb dX12_goOn_193 hl (k := 1) rfl e_57 (by decide) rfl (fun ls hl => ?_)
          have t_57 := z_inc2 e_57 rfl (by decide) (by omega) (by omega)
          refine lv_goto (tgt := 156) hx hb dX12_goOn_196 (by decide) ?_
          exact ih156 H53 lc53 ls x_57 u156_h0_7 u156_h0_8 y_52 (by omega) gH53 (lv_sub hl [1, 0] rfl) (by omega) (by omega) (by omega) (by omega) (by omega) (by omega) (by omega) s_54 s_55 s_56 uH53.2.1 (by omega) (by omega)
  have b119 : ∀ (n119 : Nat) (H119 : Heap) (lc119 : List Loc) (ls : Array Slot) (u119_h0_7 : Int32) (u119_h0_8 : Int32), sz.toInt - u119_h0_8.toInt < (n119 : Int) → zG E wS_X12_goOn H0 H119 lc119 → lv_has ls 3 [(0, .ref h0)] → 1 ≤ sz.toInt → 0 ≤ u119_h0_7.toInt → u119_h0_7.toInt ≤ 1599 → 0 ≤ u119_h0_8.toInt → u119_h0_8.toInt ≤ 1600 → sl H119 h0 (zix E 13 4) = some (.int sz) → sl H119 h0 (zix E 13 7) = some (.int u119_h0_7) → sl H119 h0 (zix E 13 8) = some (.int u119_h0_8) → e0.toInt ≤ u119_h0_7.toInt → u119_h0_7.toInt < u119_h0_8.toInt → u119_h0_8.toInt ≤ sz.toInt → W p l e rm_X12_goOn s m args below meth c H119 lc119 0 0 Q (F0 m 119 ls []) := by
    intro n119
    induction n119 with
    | zero =>
      intro H119 lc119 ls u119_h0_7 u119_h0_8 hm119 gH119 hl f119_1 f119_2 f119_3 f119_4 f119_5 s119_u119_h0_4 s119_u119_h0_7 s119_u119_h0_8 f119_6 f119_7 f119_8
      exact absurd hm119 (by omega)
    | succ n119 ih119 =>
      intro H119 lc119 ls u119_h0_7 u119_h0_8 hm119 gH119 hl f119_1 f119_2 f119_3 f119_4 f119_5 s119_u119_h0_4 s119_u119_h0_7 s119_u119_h0_8 f119_6 f119_7 f119_8
      refine lv_aload_n hx hb dX12_goOn_119 rfl (lv_at hl 0 rfl) ?_
      refine lv_aload_n hx hb dX12_goOn_120 rfl (lv_at hl 0 rfl) ?_
      refine g_get B fl_RX12_159 gH119.1 kh0 rfl rfl rfl dX12_goOn_121 s119_u119_h0_8 ?_
      refine zkPI (zrV (rest := []) B (c_X12_sign l E hV H119 gH119.1 h0 kh0 u119_h0_8 (by omega) (by omega) sz s119_u119_h0_4) cl_RX12_165 gH119.1 kh0 rfl rfl rfl rfl hl.1 rfl (Nat.le_of_ble_eq_true rfl) dX12_goOn_124 rfl rfl ⟨rfl, rfl⟩ ⟨Nat.zero_le _, Nat.zero_le _⟩ (zO.of gH119 hh)) (fun x_58 hp_58 => ?_)
      obtain ⟨hp_58_1, hp_58_2, hp_58_3⟩ := hp_58
      refine zkPI (zrS (rest := []) B (c_X12_isLetter l E hV H119 gH119.1 x_58) cs_RX12_172 rfl hl.1 rfl (Nat.le_of_ble_eq_true rfl) dX12_goOn_127 rfl rfl ⟨rfl, rfl⟩ ⟨Nat.zero_le _, Nat.zero_le _⟩ (zO.of gH119 hh)) (fun x_59 hp_59 => ?_)
      obtain ⟨hp_59_1, hp_59_2, hp_59_3⟩ := hp_59
      refine lv_if_eq (tgt := 146) hx hb dX12_goOn_130 (by decide) (fun c_60 => ?_) (fun c_60 => ?_)
      · have f_60 := z_eq c_60 rfl kl_0
        refine lv_aload_n hx hb dX12_goOn_146 rfl (lv_at hl 0 rfl) ?_
        refine lv_lconst (v := 0) hx hb dX12_goOn_147 (by decide) ?_
        refine g_putL B fp_RX12_176 hV gH119 kh0 rfl rfl rfl rfl rfl rfl dX12_goOn_148 (fun H61 lc61 gH61 uH61 => ?_)
        have s_62 := uH61.keep (Or.inr (j_ne hV rfl rfl rfl rfl)) s119_u119_h0_4
        have s_63 := uH61.keep (Or.inr (j_ne hV rfl rfl rfl rfl)) s119_u119_h0_7
        have s_64 := uH61.keep (Or.inr (j_ne hV rfl rfl rfl rfl)) s119_u119_h0_8
        refine lv_aload_n hx hb dX12_goOn_151 rfl (lv_at hl 0 rfl) ?_
        refine g_get B fl_RX12_162 gH61.1 kh0 rfl rfl rfl dX12_goOn_152 s_63 ?_
        refine lv_istore_n (lv' := [(2, .int u119_h0_7), (0, .ref h0)]) hx hb dX12_goOn_155 rfl hl (by decide) rfl (fun ls hl => ?_)
        have := kL_0
        exact b156 1601 H61 lc61 ls u119_h0_7 u119_h0_7 u119_h0_8 (0 : Int64) (by omega) gH61 (lv_sub hl [1, 0] rfl) (by omega) (by omega) (by omega) (by omega) (by omega) (by omega) (by omega) s_62 s_63 s_64 uH61.2.1 (by omega) (by omega)
      · have f_60 := z_ne c_60 rfl kl_0
        refine lv_aload_n hx hb dX12_goOn_133 rfl (lv_at hl 0 rfl) ?_
        refine lv_dup hx hb dX12_goOn_134 rfl ?_
        refine g_get B fl_RX12_159 gH119.1 kh0 rfl rfl rfl dX12_goOn_135 s119_u119_h0_8 ?_
        refine lv_iconst (v := 1) hx hb dX12_goOn_138 (by decide) ?_
        refine lv_iadd hx hb dX12_goOn_139 ?_
        refine lv_topi (fun x_65 e_65 => ?_)
        have t_65 := z_add e_65 rfl kl_1 (by omega) (by omega)
        refine g_putI B fp_RX12_159 hV gH119 kh0 rfl rfl rfl rfl rfl (by omega) (by omega) rfl dX12_goOn_140 (fun H66 lc66 gH66 uH66 => ?_)
        have s_67 := uH66.keep (Or.inr (j_ne hV rfl rfl rfl rfl)) s119_u119_h0_4
        have s_68 := uH66.keep (Or.inr (j_ne hV rfl rfl rfl rfl)) s119_u119_h0_7
        refine lv_goto (tgt := 119) hx hb dX12_goOn_143 (by decide) ?_
        exact ih119 H66 lc66 ls u119_h0_7 x_65 (by omega) gH66 (lv_sub hl [0] rfl) (by omega) (by omega) (by omega) (by omega) (by omega) s_67 s_68 uH66.2.1 (by omega) (by omega) (by omega)
  have b58 : ∀ (H58 : Heap) (lc58 : List Loc) (ls : Array Slot) (u58_h0_7 : Int32), zG E wS_X12_goOn H0 H58 lc58 → lv_has ls 3 [(0, .ref h0)] → 0 ≤ u58_h0_7.toInt → u58_h0_7.toInt ≤ 1600 → sl H58 h0 (zix E 13 8) = some (.int e0) → sl H58 h0 (zix E 13 4) = some (.int sz) → sl H58 h0 (zix E 13 7) = some (.int u58_h0_7) → e0.toInt ≤ u58_h0_7.toInt → u58_h0_7.toInt ≤ sz.toInt → W p l e rm_X12_goOn s m args below meth c H58 lc58 0 0 Q (F0 m 58 ls []) := by
    intro H58 lc58 ls u58_h0_7 gH58 hl f58_1 f58_2 s58_u58_h0_8 s58_u58_h0_4 s58_u58_h0_7 f58_3 f58_4
    refine lv_aload_n hx hb dX12_goOn_58 rfl (lv_at hl 0 rfl) ?_
    refine lv_aload_n hx hb dX12_goOn_59 rfl (lv_at hl 0 rfl) ?_
    refine g_get B fl_RX12_162 gH58.1 kh0 rfl rfl rfl dX12_goOn_60 s58_u58_h0_7 ?_
    refine zkPI (zrV (rest := []) B (c_X12_sign l E hV H58 gH58.1 h0 kh0 u58_h0_7 (by omega) (by omega) sz s58_u58_h0_4) cl_RX12_165 gH58.1 kh0 rfl rfl rfl rfl hl.1 rfl (Nat.le_of_ble_eq_true rfl) dX12_goOn_63 rfl rfl ⟨rfl, rfl⟩ ⟨Nat.zero_le _, Nat.zero_le _⟩ (zO.of gH58 hh)) (fun x_69 hp_69 => ?_)
    obtain ⟨hp_69_1, hp_69_2, hp_69_3⟩ := hp_69
    refine lv_istore_n (lv' := [(1, .int x_69), (0, .ref h0)]) hx hb dX12_goOn_66 rfl hl (by decide) rfl (fun ls hl => ?_)
    refine lv_aload_n hx hb dX12_goOn_67 rfl (lv_at hl 1 rfl) ?_
    refine lv_aload_n hx hb dX12_goOn_68 rfl (lv_at hl 1 rfl) ?_
    refine g_get B fl_RX12_162 gH58.1 kh0 rfl rfl rfl dX12_goOn_69 s58_u58_h0_7 ?_
    refine lv_iconst (v := 1) hx hb dX12_goOn_72 (by decide) ?_
    refine lv_iadd hx hb dX12_goOn_73 ?_
    refine lv_topi (fun x_70 e_70 => ?_)
    have t_70 := z_add e_70 rfl kl_1 (by omega) (by omega)
    refine g_putI B fp_RX12_159 hV gH58 kh0 rfl rfl rfl rfl rfl (by omega) (by omega) rfl dX12_goOn_74 (fun H71 lc71 gH71 uH71 => ?_)
    have s_72 := uH71.keep (Or.inr (j_ne hV rfl rfl rfl rfl)) s58_u58_h0_4
    have s_73 := uH71.keep (Or.inr (j_ne hV rfl rfl rfl rfl)) s58_u58_h0_7
    refine lv_aload_n hx hb dX12_goOn_77 rfl (lv_at hl 1 rfl) ?_
    refine g_get B fl_RX12_162 gH71.1 kh0 rfl rfl rfl dX12_goOn_78 s_73 ?_
    refine lv_aload_n hx hb dX12_goOn_81 rfl (lv_at hl 1 rfl) ?_
    refine g_get B fl_RX12_131 gH71.1 kh0 rfl rfl rfl dX12_goOn_82 s_72 ?_
    refine lv_icmp_lt (tgt := 112) hx hb dX12_goOn_85 (by decide) (fun c_74 => ?_) (fun c_74 => ?_)
    · have f_74 := z_lt c_74 rfl rfl
      refine lv_iload_n hx hb dX12_goOn_112 rfl (lv_at hl 0 rfl) ?_
      refine zkPI (zrS (rest := []) B (c_X12_isLetter l E hV H71 gH71.1 x_69) cs_RX12_172 rfl hl.1 rfl (Nat.le_of_ble_eq_true rfl) dX12_goOn_113 rfl rfl ⟨rfl, rfl⟩ ⟨Nat.zero_le _, Nat.zero_le _⟩ (zO.of gH71 hh)) (fun x_75 hp_75 => ?_)
      obtain ⟨hp_75_1, hp_75_2, hp_75_3⟩ := hp_75
      refine lv_if_eq (tgt := 239) hx hb dX12_goOn_116 (by decide) (fun c_76 => ?_) (fun c_76 => ?_)
      · have f_76 := z_eq c_76 rfl kl_0
        refine lv_iload_n hx hb dX12_goOn_239 rfl (lv_at hl 0 rfl) ?_
        refine zkPI (zrS (rest := []) B (c_X12_isDigit l E hV H71 gH71.1 x_69) cs_RX12_184 rfl hl.1 rfl (Nat.le_of_ble_eq_true rfl) dX12_goOn_240 rfl rfl ⟨rfl, rfl⟩ ⟨Nat.zero_le _, Nat.zero_le _⟩ (zO.of gH71 hh)) (fun x_77 hp_77 => ?_)
        obtain ⟨hp_77_1, hp_77_2, hp_77_3⟩ := hp_77
        refine lv_if_eq (tgt := 361) hx hb dX12_goOn_243 (by decide) (fun c_78 => ?_) (fun c_78 => ?_)
        · have f_78 := z_eq c_78 rfl kl_0
          refine lv_aload_n hx hb dX12_goOn_361 rfl (lv_at hl 1 rfl) ?_
          refine lv_iload_n hx hb dX12_goOn_362 rfl (lv_at hl 0 rfl) ?_
          refine lv_bipush (v := 59) hx hb dX12_goOn_363 (by decide) ?_
          refine lv_icmp_ne (tgt := 372) hx hb dX12_goOn_365 (by decide) (fun c_79 => ?_) (fun c_79 => ?_)
          · have f_79 := z_ne c_79 rfl kl_59
            refine lv_iconst (v := 1) hx hb dX12_goOn_372 (by decide) ?_
            have := kl_1
            refine g_putI B fp_RX12_169 hV gH71 kh0 rfl rfl rfl rfl rfl (by omega) (by omega) rfl dX12_goOn_373 (fun H80 lc80 gH80 uH80 => ?_)
            have s_81 := uH80.keep (Or.inr (j_ne hV rfl rfl rfl rfl)) s_72
            have s_82 := uH80.keep (Or.inr (j_ne hV rfl rfl rfl rfl)) uH71.2.1
            have := kl_1
            exact rtV B hr hlk hh hQ gH80 ⟨x_70, s_82, by omega, by omega, by omega, by omega, 1, uH80.2.1, by omega, by omega, by omega⟩ dX12_goOn_376
          · have f_79 := z_eq c_79 rfl kl_59
            refine lv_iconst (v := 5) hx hb dX12_goOn_368 (by decide) ?_
            refine lv_goto (tgt := 373) hx hb dX12_goOn_369 (by decide) ?_
            have := kl_5
            refine g_putI B fp_RX12_169 hV gH71 kh0 rfl rfl rfl rfl rfl (by omega) (by omega) rfl dX12_goOn_373 (fun H83 lc83 gH83 uH83 => ?_)
            have s_84 := uH83.keep (Or.inr (j_ne hV rfl rfl rfl rfl)) s_72
            have s_85 := uH83.keep (Or.inr (j_ne hV rfl rfl rfl rfl)) uH71.2.1
            have := kl_5
            exact rtV B hr hlk hh hQ gH83 ⟨x_70, s_85, by omega, by omega, by omega, by omega, 5, uH83.2.1, by omega, by omega, by omega⟩ dX12_goOn_376
        · have f_78 := z_ne c_78 rfl kl_0
          refine lv_aload_n hx hb dX12_goOn_246 rfl (lv_at hl 1 rfl) ?_
          refine lv_iconst (v := 0) hx hb dX12_goOn_247 (by decide) ?_
          have := kl_0
          refine g_putI B fp_RX12_187 hV gH71 kh0 rfl rfl rfl rfl rfl (z_rng _).1 (z_rng _).2 rfl dX12_goOn_248 (fun H86 lc86 gH86 uH86 => ?_)
          have s_87 := uH86.keep (Or.inr (j_ne hV rfl rfl rfl rfl)) s_72
          have s_88 := uH86.keep (Or.inr (j_ne hV rfl rfl rfl rfl)) s_73
          have s_89 := uH86.keep (Or.inr (j_ne hV rfl rfl rfl rfl)) uH71.2.1
          refine lv_aload_n hx hb dX12_goOn_251 rfl (lv_at hl 1 rfl) ?_
          refine lv_aload_n hx hb dX12_goOn_252 rfl (lv_at hl 1 rfl) ?_
          refine g_get B fl_RX12_162 gH86.1 kh0 rfl rfl rfl dX12_goOn_253 s_88 ?_
          refine g_putI B fp_RX12_159 hV gH86 kh0 rfl rfl rfl rfl rfl (by omega) (by omega) rfl dX12_goOn_256 (fun H90 lc90 gH90 uH90 => ?_)
          have s_91 := uH90.keep (Or.inr (j_ne hV rfl rfl rfl rfl)) s_87
          have s_92 := uH90.keep (Or.inr (j_ne hV rfl rfl rfl rfl)) s_88
          have s_93 := uH90.keep (Or.inr (j_ne hV rfl rfl rfl rfl)) uH86.2.1
          have := kl_0
          exact b259 1601 H90 lc90 ls u58_h0_7 0 u58_h0_7 (by omega) gH90 (lv_sub hl [1] rfl) (by omega) (by omega) (by omega) (by omega) (by omega) s_91 s_92 s_93 uH90.2.1 (by omega) (by omega) (by omega)
      · have f_76 := z_ne c_76 rfl kl_0
        exact b119 1601 H71 lc71 ls u58_h0_7 x_70 (by omega) gH71 (lv_sub hl [1] rfl) (by omega) (by omega) (by omega) (by omega) (by omega) s_72 s_73 uH71.2.1 (by omega) (by omega) (by omega)
    · have f_74 := z_nlt c_74 rfl rfl
      refine lv_aload_n hx hb dX12_goOn_88 rfl (lv_at hl 1 rfl) ?_
      refine lv_iconst (v := 0) hx hb dX12_goOn_89 (by decide) ?_
      have := kl_0
      refine g_putI B fp_RX12_169 hV gH71 kh0 rfl rfl rfl rfl rfl (by omega) (by omega) rfl dX12_goOn_90 (fun H94 lc94 gH94 uH94 => ?_)
      have s_95 := uH94.keep (Or.inr (j_ne hV rfl rfl rfl rfl)) s_72
      have s_96 := uH94.keep (Or.inr (j_ne hV rfl rfl rfl rfl)) uH71.2.1
      refine lv_aload_n hx hb dX12_goOn_93 rfl (lv_at hl 1 rfl) ?_
      refine lv_aload_n hx hb dX12_goOn_94 rfl (lv_at hl 1 rfl) ?_
      refine g_get B fl_RX12_131 gH94.1 kh0 rfl rfl rfl dX12_goOn_95 s_95 ?_
      refine g_putI B fp_RX12_162 hV gH94 kh0 rfl rfl rfl rfl rfl (by omega) (by omega) rfl dX12_goOn_98 (fun H97 lc97 gH97 uH97 => ?_)
      have s_98 := uH97.keep (Or.inr (j_ne hV rfl rfl rfl rfl)) s_95
      have s_99 := uH97.keep (Or.inr (j_ne hV rfl rfl rfl rfl)) s_96
      have s_100 := uH97.keep (Or.inr (j_ne hV rfl rfl rfl rfl)) uH94.2.1
      refine lv_aload_n hx hb dX12_goOn_101 rfl (lv_at hl 1 rfl) ?_
      refine lv_aload_n hx hb dX12_goOn_102 rfl (lv_at hl 1 rfl) ?_
      refine g_get B fl_RX12_131 gH97.1 kh0 rfl rfl rfl dX12_goOn_103 s_98 ?_
      refine g_putI B fp_RX12_159 hV gH97 kh0 rfl rfl rfl rfl rfl (by omega) (by omega) rfl dX12_goOn_106 (fun H101 lc101 gH101 uH101 => ?_)
      have s_102 := uH101.keep (Or.inr (j_ne hV rfl rfl rfl rfl)) s_98
      have s_103 := uH101.keep (Or.inr (j_ne hV rfl rfl rfl rfl)) s_100
      refine lv_goto (tgt := 376) hx hb dX12_goOn_109 (by decide) ?_
      have := kl_0
      exact rtV B hr hlk hh hQ gH101 ⟨sz, uH101.2.1, by omega, by omega, by omega, by omega, 0, s_103, by omega, by omega, by omega⟩ dX12_goOn_376
  have b8 : ∀ (n8 : Nat) (H8 : Heap) (lc8 : List Loc) (ls : Array Slot) (u8_h0_7 : Int32), sz.toInt - u8_h0_7.toInt < (n8 : Int) → zG E wS_X12_goOn H0 H8 lc8 → lv_has ls 3 [(0, .ref h0)] → 0 ≤ u8_h0_7.toInt → u8_h0_7.toInt ≤ 1600 → sl H8 h0 (zix E 13 8) = some (.int e0) → sl H8 h0 (zix E 13 4) = some (.int sz) → sl H8 h0 (zix E 13 7) = some (.int u8_h0_7) → e0.toInt ≤ u8_h0_7.toInt → u8_h0_7.toInt ≤ sz.toInt → W p l e rm_X12_goOn s m args below meth c H8 lc8 0 0 Q (F0 m 8 ls []) := by
    intro n8
    induction n8 with
    | zero =>
      intro H8 lc8 ls u8_h0_7 hm8 gH8 hl f8_1 f8_2 s8_u8_h0_8 s8_u8_h0_4 s8_u8_h0_7 f8_3 f8_4
      exact absurd hm8 (by omega)
    | succ n8 ih8 =>
      intro H8 lc8 ls u8_h0_7 hm8 gH8 hl f8_1 f8_2 s8_u8_h0_8 s8_u8_h0_4 s8_u8_h0_7 f8_3 f8_4
      have b45 : ∀ (ls : Array Slot), lv_has ls 3 [(0, .ref h0)] → 1 ≤ sz.toInt → u8_h0_7.toInt ≤ 1599 → sl H8 h0 (zix E 13 8) = some (.int e0) → sl H8 h0 (zix E 13 4) = some (.int sz) → sl H8 h0 (zix E 13 7) = some (.int u8_h0_7) → e0.toInt ≤ u8_h0_7.toInt → u8_h0_7.toInt < sz.toInt → W p l e rm_X12_goOn s m args below meth c H8 lc8 0 0 Q (F0 m 45 ls []) := by
        intro ls hl f45_1 f45_2 s45_u45_h0_8 s45_u45_h0_4 s45_u45_h0_7 f45_3 f45_4
        refine lv_aload_n hx hb dX12_goOn_45 rfl (lv_at hl 0 rfl) ?_
        refine lv_dup hx hb dX12_goOn_46 rfl ?_
        refine g_get B fl_RX12_162 gH8.1 kh0 rfl rfl rfl dX12_goOn_47 s45_u45_h0_7 ?_
        refine lv_iconst (v := 1) hx hb dX12_goOn_50 (by decide) ?_
        refine lv_iadd hx hb dX12_goOn_51 ?_
        refine lv_topi (fun x_104 e_104 => ?_)
        have t_104 := z_add e_104 rfl kl_1 (by omega) (by omega)
        refine g_putI B fp_RX12_162 hV gH8 kh0 rfl rfl rfl rfl rfl (by omega) (by omega) rfl dX12_goOn_52 (fun H105 lc105 gH105 uH105 => ?_)
        have s_106 := uH105.keep (Or.inr (j_ne hV rfl rfl rfl rfl)) s45_u45_h0_8
        have s_107 := uH105.keep (Or.inr (j_ne hV rfl rfl rfl rfl)) s45_u45_h0_4
        refine lv_goto (tgt := 8) hx hb dX12_goOn_55 (by decide) ?_
        exact ih8 H105 lc105 ls x_104 (by omega) gH105 (lv_sub hl [0] rfl) (by omega) (by omega) s_106 s_107 uH105.2.1 (by omega) (by omega)
      refine lv_aload_n hx hb dX12_goOn_8 rfl (lv_at hl 0 rfl) ?_
      refine g_get B fl_RX12_162 gH8.1 kh0 rfl rfl rfl dX12_goOn_9 s8_u8_h0_7 ?_
      refine lv_aload_n hx hb dX12_goOn_12 rfl (lv_at hl 0 rfl) ?_
      refine g_get B fl_RX12_131 gH8.1 kh0 rfl rfl rfl dX12_goOn_13 s8_u8_h0_4 ?_
      refine lv_icmp_ge (tgt := 58) hx hb dX12_goOn_16 (by decide) (fun c_108 => ?_) (fun c_108 => ?_)
      · have f_108 := z_le c_108 rfl rfl
        exact b58 H8 lc8 ls u8_h0_7 gH8 (lv_sub hl [0] rfl) (by omega) (by omega) s8_u8_h0_8 s8_u8_h0_4 s8_u8_h0_7 (by omega) (by omega)
      · have f_108 := z_nle c_108 rfl rfl
        refine lv_aload_n hx hb dX12_goOn_19 rfl (lv_at hl 0 rfl) ?_
        refine lv_aload_n hx hb dX12_goOn_20 rfl (lv_at hl 0 rfl) ?_
        refine g_get B fl_RX12_162 gH8.1 kh0 rfl rfl rfl dX12_goOn_21 s8_u8_h0_7 ?_
        refine zkPI (zrV (rest := []) B (c_X12_sign l E hV H8 gH8.1 h0 kh0 u8_h0_7 (by omega) (by omega) sz s8_u8_h0_4) cl_RX12_165 gH8.1 kh0 rfl rfl rfl rfl hl.1 rfl (Nat.le_of_ble_eq_true rfl) dX12_goOn_24 rfl rfl ⟨rfl, rfl⟩ ⟨Nat.zero_le _, Nat.zero_le _⟩ (zO.of gH8 hh)) (fun x_109 hp_109 => ?_)
        obtain ⟨hp_109_1, hp_109_2, hp_109_3⟩ := hp_109
        refine lv_bipush (v := 32) hx hb dX12_goOn_27 (by decide) ?_
        refine lv_icmp_eq (tgt := 45) hx hb dX12_goOn_29 (by decide) (fun c_110 => ?_) (fun c_110 => ?_)
        · have f_110 := z_eq c_110 rfl kl_32
          exact b45 ls (lv_sub hl [0] rfl) (by omega) (by omega) s8_u8_h0_8 s8_u8_h0_4 s8_u8_h0_7 (by omega) (by omega)
        · have f_110 := z_ne c_110 rfl kl_32
          refine lv_aload_n hx hb dX12_goOn_32 rfl (lv_at hl 0 rfl) ?_
          refine lv_aload_n hx hb dX12_goOn_33 rfl (lv_at hl 0 rfl) ?_
          refine g_get B fl_RX12_162 gH8.1 kh0 rfl rfl rfl dX12_goOn_34 s8_u8_h0_7 ?_
          refine zkPI (zrV (rest := []) B (c_X12_sign l E hV H8 gH8.1 h0 kh0 u8_h0_7 (by omega) (by omega) sz s8_u8_h0_4) cl_RX12_165 gH8.1 kh0 rfl rfl rfl rfl hl.1 rfl (Nat.le_of_ble_eq_true rfl) dX12_goOn_37 rfl rfl ⟨rfl, rfl⟩ ⟨Nat.zero_le _, Nat.zero_le _⟩ (zO.of gH8 hh)) (fun x_111 hp_111 => ?_)
          obtain ⟨hp_111_1, hp_111_2, hp_111_3⟩ := hp_111
          refine lv_bipush (v := 10) hx hb dX12_goOn_40 (by decide) ?_
          refine lv_icmp_ne (tgt := 58) hx hb dX12_goOn_42 (by decide) (fun c_112 => ?_) (fun c_112 => ?_)
          · have f_112 := z_ne c_112 rfl kl_10
            exact b58 H8 lc8 ls u8_h0_7 gH8 (lv_sub hl [0] rfl) (by omega) (by omega) s8_u8_h0_8 s8_u8_h0_4 s8_u8_h0_7 (by omega) (by omega)
          · have f_112 := z_eq c_112 rfl kl_10
            exact b45 ls (lv_sub hl [0] rfl) (by omega) (by omega) s8_u8_h0_8 s8_u8_h0_4 s8_u8_h0_7 (by omega) (by omega)
  refine lv_aload_n hx hb dX12_goOn_0 rfl (lv_at hl 0 rfl) ?_
  refine lv_aload_n hx hb dX12_goOn_1 rfl (lv_at hl 0 rfl) ?_
  refine g_get B fl_RX12_159 hT0 kh0 rfl rfl rfl dX12_goOn_2 s_e0 ?_
  refine g_putI B fp_RX12_162 hV hG0 kh0 rfl rfl rfl rfl rfl (by omega) (by omega) rfl dX12_goOn_5 (fun H113 lc113 gH113 uH113 => ?_)
  have s_114 := uH113.keep (Or.inr (j_ne hV rfl rfl rfl rfl)) s_e0
  have s_115 := uH113.keep (Or.inr (j_ne hV rfl rfl rfl rfl)) s_sz
  exact b8 1601 H113 lc113 ls e0 (by omega) gH113 (lv_sub hl [0] rfl) (by omega) (by omega) s_114 s_115 uH113.2.1 (by omega) (by omega)

theorem dX12_must_0 : decode cX12_must 0 = .ok (.aload_n 0, 1) := by decide +kernel
theorem dX12_must_1 : decode cX12_must 1 = .ok (.invokevirtual 194, 3) := by decide +kernel
theorem dX12_must_4 : decode cX12_must 4 = .ok (.ifCond .ne 4, 3) := by decide +kernel
theorem dX12_must_7 : decode cX12_must 7 = .ok (.return_, 1) := by decide +kernel
theorem dX12_must_8 : decode cX12_must 8 = .ok (.iload_n 1, 1) := by decide +kernel
theorem dX12_must_9 : decode cX12_must 9 = .ok (.ifCond .eq 10, 3) := by decide +kernel
theorem dX12_must_12 : decode cX12_must 12 = .ok (.aload_n 0, 1) := by decide +kernel
theorem dX12_must_13 : decode cX12_must 13 = .ok (.invokevirtual 198, 3) := by decide +kernel
theorem dX12_must_16 : decode cX12_must 16 = .ok (.goto 7, 3) := by decide +kernel
theorem dX12_must_19 : decode cX12_must 19 = .ok (.aload_n 0, 1) := by decide +kernel
theorem dX12_must_20 : decode cX12_must 20 = .ok (.invokevirtual 201, 3) := by decide +kernel
theorem dX12_must_23 : decode cX12_must 23 = .ok (.return_, 1) := by decide +kernel
def rm_X12_must : Room := { frames := 2, cells := 0, slots := 0, locals := 43 }
abbrev wS_X12_must : List (Nat × Nat) := [(13, 5), (13, 6), (13, 7), (13, 8), (13, 9), (13, 10), (13, 11)]
set_option maxRecDepth 100000 in
set_option maxHeartbeats 4000000 in
theorem c_X12_must (l : Launch) (E : zE) (hV : zV E) (H0 : Heap) (hT0 : HT E H0) (h0 : Nat) (kh0 : eK E h0 = 13) (p0 : Int32) (p0_lo : 0 ≤ p0.toInt) (p0_hi : p0.toInt ≤ 1) (e0 : Int32) (s_e0 : sl H0 h0 (zix E 13 8) = some (.int e0)) (e0_lo : 0 ≤ e0.toInt) (e0_hi : e0.toInt ≤ 1600) (sz : Int32) (s_sz : sl H0 h0 (zix E 13 4) = some (.int sz)) (t0 : Int32) (s_t0 : sl H0 h0 (zix E 13 9) = some (.int t0)) (fk : Int32) (s_fk : sl H0 h0 (zix E 13 5) = some (.int fk)) (pr_0 : e0.toInt ≤ sz.toInt) : Met l yX12_must (zws yX12_must cX12_must 2 none) rm_X12_must (zP E H0 [.ref h0, .int p0]) (zQV E E wS_X12_must (fun H1 => ∃ e1 : Int32, sl H1 h0 (zix E 13 8) = some (.int e1) ∧ 0 ≤ e1.toInt ∧ e1.toInt ≤ 1600 ∧ (e0.toInt ≤ e1.toInt) ∧ (e1.toInt ≤ sz.toInt) ∧ ∃ t1 : Int32, sl H1 h0 (zix E 13 9) = some (.int t1) ∧ 0 ≤ t1.toInt ∧ t1.toInt ≤ 5 ∧ (e0.toInt < e1.toInt ∨ t1.toInt ≤ 1 ∨ t1.toInt = 4 ∨ (t1.toInt = t0.toInt ∧ e1.toInt = e0.toInt)) ∧ ∃ f1 : Int32, sl H1 h0 (zix E 13 5) = some (.int f1) ∧ 0 ≤ f1.toInt ∧ f1.toInt ≤ 5 ∧ (fk.toInt = 0 ∨ f1.toInt ≠ 0) ∧ (f1.toInt ≠ 0 ∨ p0.toInt ≠ 0))) 0 0 (zfr E) := by
  refine zEnt (by decide) (Nat.le_of_ble_eq_true rfl) (fun p e s m args below meth c ls Q B hr hlk hh hQ hl => ?_)
  have hx := B.1
  have hb := B.2.1
  have hG0 : zG E wS_X12_must H0 H0 [] := zG.rf hT0
  have hl : lv_has ls 2 [(0, .ref h0), (1, .int p0)] := hl
  have bd_sz := HT.bdI hT0 kh0 rfl (j := 4) (by decide) rfl s_sz
  have bd_t0 := HT.bdI hT0 kh0 rfl (j := 9) (by decide) rfl s_t0
  have bd_fk := HT.bdI hT0 kh0 rfl (j := 5) (by decide) rfl s_fk
  refine lv_aload_n hx hb dX12_must_0 rfl (lv_at hl 0 rfl) ?_
  refine zkPI (zrV (rest := []) B (c_X12_isGood l E hV H0 hT0 h0 kh0 fk s_fk) cl_RX12_194 hT0 kh0 rfl rfl rfl rfl hl.1 rfl (Nat.le_of_ble_eq_true rfl) dX12_must_1 rfl rfl ⟨rfl, rfl⟩ ⟨Nat.zero_le _, Nat.zero_le _⟩ (zO.of hG0 hh)) (fun x_1 hp_1 => ?_)
  obtain ⟨hp_1_1, hp_1_2, hp_1_3⟩ := hp_1
  refine lv_if_ne (tgt := 8) hx hb dX12_must_4 (by decide) (fun c_2 => ?_) (fun c_2 => ?_)
  · have f_2 := z_ne c_2 rfl kl_0
    refine lv_iload_n hx hb dX12_must_8 rfl (lv_at hl 1 rfl) ?_
    refine lv_if_eq (tgt := 19) hx hb dX12_must_9 (by decide) (fun c_3 => ?_) (fun c_3 => ?_)
    · have f_3 := z_eq c_3 rfl kl_0
      refine lv_aload_n hx hb dX12_must_19 rfl (lv_at hl 0 rfl) ?_
      refine zkV (zrV (rest := []) B (c_X12_misplaced l E hV H0 hT0 h0 kh0 fk s_fk) cl_RX12_201 hT0 kh0 rfl rfl rfl rfl hl.1 rfl (Nat.le_of_ble_eq_true rfl) dX12_must_20 rfl rfl ⟨rfl, rfl⟩ ⟨Nat.zero_le _, Nat.zero_le _⟩ (zO.of hG0 hh)) hG0 rfl (fun H4 lc4 hp_4 gH4 rH4 => ?_)
      have s_5 := rH4.keep hV kh0 rfl s_e0
      have s_6 := rH4.keep hV kh0 rfl s_sz
      have s_7 := rH4.keep hV kh0 rfl s_t0
      obtain ⟨k_8, sk_8, ak_8, bk_8⟩ := hp_4
      exact rtV B hr hlk hh hQ gH4 ⟨e0, s_5, by omega, by omega, by omega, by omega, t0, s_7, by omega, by omega, by omega, k_8, sk_8, by omega, by omega, by omega, by omega⟩ dX12_must_23
    · have f_3 := z_ne c_3 rfl kl_0
      refine lv_aload_n hx hb dX12_must_12 rfl (lv_at hl 0 rfl) ?_
      refine zkV (zrV (rest := []) B (c_X12_goOn l E hV H0 hT0 h0 kh0 e0 s_e0 (by omega) (by omega) sz s_sz (by omega)) cl_RX12_198 hT0 kh0 rfl rfl rfl rfl hl.1 rfl (Nat.le_of_ble_eq_true rfl) dX12_must_13 rfl rfl ⟨rfl, rfl⟩ ⟨Nat.zero_le _, Nat.zero_le _⟩ (zO.of hG0 hh)) hG0 rfl (fun H9 lc9 hp_9 gH9 rH9 => ?_)
      have s_10 := rH9.keep hV kh0 rfl s_sz
      have s_11 := rH9.keep hV kh0 rfl s_fk
      obtain ⟨k_12, sk_12, ak_12, bk_12, fk_12_0, fk_12_1, k_13, sk_13, ak_13, bk_13, fk_13_0⟩ := hp_9
      refine lv_goto (tgt := 23) hx hb dX12_must_16 (by decide) ?_
      exact rtV B hr hlk hh hQ gH9 ⟨k_12, sk_12, by omega, by omega, by omega, by omega, k_13, sk_13, by omega, by omega, by omega, fk, s_11, by omega, by omega, by omega, by omega⟩ dX12_must_23
  · have f_2 := z_eq c_2 rfl kl_0
    exact rtV B hr hlk hh hQ hG0 ⟨e0, s_e0, by omega, by omega, by omega, by omega, t0, s_t0, by omega, by omega, by omega, fk, s_fk, by omega, by omega, by omega, by omega⟩ dX12_must_7

theorem dX12_numeral_0 : decode cX12_numeral 0 = .ok (.aload_n 0, 1) := by decide +kernel
theorem dX12_numeral_1 : decode cX12_numeral 1 = .ok (.invokevirtual 194, 3) := by decide +kernel
theorem dX12_numeral_4 : decode cX12_numeral 4 = .ok (.ifCond .ne 5, 3) := by decide +kernel
theorem dX12_numeral_7 : decode cX12_numeral 7 = .ok (.iload_n 1, 1) := by decide +kernel
theorem dX12_numeral_8 : decode cX12_numeral 8 = .ok (.ireturn, 1) := by decide +kernel
theorem dX12_numeral_9 : decode cX12_numeral 9 = .ok (.aload_n 0, 1) := by decide +kernel
theorem dX12_numeral_10 : decode cX12_numeral 10 = .ok (.getfield 169, 3) := by decide +kernel
theorem dX12_numeral_13 : decode cX12_numeral 13 = .ok (.iconst 4, 1) := by decide +kernel
theorem dX12_numeral_14 : decode cX12_numeral 14 = .ok (.if_icmp .eq 7, 3) := by decide +kernel
theorem dX12_numeral_17 : decode cX12_numeral 17 = .ok (.aload_n 0, 1) := by decide +kernel
theorem dX12_numeral_18 : decode cX12_numeral 18 = .ok (.invokevirtual 201, 3) := by decide +kernel
theorem dX12_numeral_21 : decode cX12_numeral 21 = .ok (.aload_n 0, 1) := by decide +kernel
theorem dX12_numeral_22 : decode cX12_numeral 22 = .ok (.invokevirtual 194, 3) := by decide +kernel
theorem dX12_numeral_25 : decode cX12_numeral 25 = .ok (.ifCond .eq 28, 3) := by decide +kernel
theorem dX12_numeral_28 : decode cX12_numeral 28 = .ok (.aload_n 0, 1) := by decide +kernel
theorem dX12_numeral_29 : decode cX12_numeral 29 = .ok (.getfield 187, 3) := by decide +kernel
theorem dX12_numeral_32 : decode cX12_numeral 32 = .ok (.iload_n 1, 1) := by decide +kernel
theorem dX12_numeral_33 : decode cX12_numeral 33 = .ok (.if_icmp .lt 11, 3) := by decide +kernel
theorem dX12_numeral_36 : decode cX12_numeral 36 = .ok (.aload_n 0, 1) := by decide +kernel
theorem dX12_numeral_37 : decode cX12_numeral 37 = .ok (.getfield 187, 3) := by decide +kernel
theorem dX12_numeral_40 : decode cX12_numeral 40 = .ok (.iload_n 2, 1) := by decide +kernel
theorem dX12_numeral_41 : decode cX12_numeral 41 = .ok (.if_icmp .le 12, 3) := by decide +kernel
theorem dX12_numeral_44 : decode cX12_numeral 44 = .ok (.aload_n 0, 1) := by decide +kernel
theorem dX12_numeral_45 : decode cX12_numeral 45 = .ok (.iconst 4, 1) := by decide +kernel
theorem dX12_numeral_46 : decode cX12_numeral 46 = .ok (.aload_n 0, 1) := by decide +kernel
theorem dX12_numeral_47 : decode cX12_numeral 47 = .ok (.getfield 162, 3) := by decide +kernel
theorem dX12_numeral_50 : decode cX12_numeral 50 = .ok (.invokevirtual 190, 3) := by decide +kernel
theorem dX12_numeral_53 : decode cX12_numeral 53 = .ok (.aload_n 0, 1) := by decide +kernel
theorem dX12_numeral_54 : decode cX12_numeral 54 = .ok (.getfield 187, 3) := by decide +kernel
theorem dX12_numeral_57 : decode cX12_numeral 57 = .ok (.istore_n 3, 1) := by decide +kernel
theorem dX12_numeral_58 : decode cX12_numeral 58 = .ok (.aload_n 0, 1) := by decide +kernel
theorem dX12_numeral_59 : decode cX12_numeral 59 = .ok (.invokevirtual 194, 3) := by decide +kernel
theorem dX12_numeral_62 : decode cX12_numeral 62 = .ok (.ifCond .eq 7, 3) := by decide +kernel
theorem dX12_numeral_65 : decode cX12_numeral 65 = .ok (.aload_n 0, 1) := by decide +kernel
theorem dX12_numeral_66 : decode cX12_numeral 66 = .ok (.invokevirtual 198, 3) := by decide +kernel
theorem dX12_numeral_69 : decode cX12_numeral 69 = .ok (.aload_n 0, 1) := by decide +kernel
theorem dX12_numeral_70 : decode cX12_numeral 70 = .ok (.invokevirtual 194, 3) := by decide +kernel
theorem dX12_numeral_73 : decode cX12_numeral 73 = .ok (.ifCond .eq 7, 3) := by decide +kernel
theorem dX12_numeral_76 : decode cX12_numeral 76 = .ok (.iload_n 3, 1) := by decide +kernel
theorem dX12_numeral_77 : decode cX12_numeral 77 = .ok (.goto 4, 3) := by decide +kernel
theorem dX12_numeral_80 : decode cX12_numeral 80 = .ok (.iload_n 1, 1) := by decide +kernel
theorem dX12_numeral_81 : decode cX12_numeral 81 = .ok (.ireturn, 1) := by decide +kernel
def rm_X12_numeral : Room := { frames := 2, cells := 0, slots := 0, locals := 43 }
abbrev wS_X12_numeral : List (Nat × Nat) := [(13, 5), (13, 6), (13, 7), (13, 8), (13, 9), (13, 10), (13, 11)]
set_option maxRecDepth 100000 in
set_option maxHeartbeats 4000000 in
theorem c_X12_numeral (l : Launch) (E : zE) (hV : zV E) (H0 : Heap) (hT0 : HT E H0) (h0 : Nat) (kh0 : eK E h0 = 13) (p0 : Int32) (p0_lo : 0 ≤ p0.toInt) (p0_hi : p0.toInt ≤ 1) (p1 : Int32) (p1_lo : (-1) ≤ p1.toInt) (p1_hi : p1.toInt ≤ 999) (e0 : Int32) (s_e0 : sl H0 h0 (zix E 13 8) = some (.int e0)) (e0_lo : 0 ≤ e0.toInt) (e0_hi : e0.toInt ≤ 1600) (sz : Int32) (s_sz : sl H0 h0 (zix E 13 4) = some (.int sz)) (t0 : Int32) (s_t0 : sl H0 h0 (zix E 13 9) = some (.int t0)) (fk : Int32) (s_fk : sl H0 h0 (zix E 13 5) = some (.int fk)) (nu : Int32) (s_nu : sl H0 h0 (zix E 13 10) = some (.int nu)) (pr_0 : e0.toInt ≤ sz.toInt) : Met l yX12_numeral (zws yX12_numeral cX12_numeral 4 (some .int)) rm_X12_numeral (zP E H0 [.ref h0, .int p0, .int p1]) (zQI E E wS_X12_numeral (fun r H1 => 0 ≤ r.toInt ∧ r.toInt ≤ 999 ∧ (r.toInt = p0.toInt ∨ (p0.toInt ≤ r.toInt ∧ r.toInt ≤ p1.toInt)) ∧ ∃ e1 : Int32, sl H1 h0 (zix E 13 8) = some (.int e1) ∧ 0 ≤ e1.toInt ∧ e1.toInt ≤ 1600 ∧ (e0.toInt ≤ e1.toInt) ∧ (e1.toInt ≤ sz.toInt) ∧ ∃ t1 : Int32, sl H1 h0 (zix E 13 9) = some (.int t1) ∧ 0 ≤ t1.toInt ∧ t1.toInt ≤ 5 ∧ (e0.toInt < e1.toInt ∨ t1.toInt ≤ 1 ∨ t1.toInt = 4 ∨ (t1.toInt = t0.toInt ∧ e1.toInt = e0.toInt)) ∧ ∃ f1 : Int32, sl H1 h0 (zix E 13 5) = some (.int f1) ∧ 0 ≤ f1.toInt ∧ f1.toInt ≤ 5 ∧ (fk.toInt = 0 ∨ f1.toInt ≠ 0))) 0 0 (zfr E) := by
  refine zEnt (by decide) (Nat.le_of_ble_eq_true rfl) (fun p e s m args below meth c ls Q B hr hlk hh hQ hl => ?_)
  have hx := B.1
  have hb := B.2.1
  have hG0 : zG E wS_X12_numeral H0 H0 [] := zG.rf hT0
  have hl : lv_has ls 4 [(0, .ref h0), (1, .int p0), (2, .int p1)] := hl
  have bd_sz := HT.bdI hT0 kh0 rfl (j := 4) (by decide) rfl s_sz
  have bd_t0 := HT.bdI hT0 kh0 rfl (j := 9) (by decide) rfl s_t0
  have bd_fk := HT.bdI hT0 kh0 rfl (j := 5) (by decide) rfl s_fk
  have b69 : ∀ (H69 : Heap) (lc69 : List Loc) (ls : Array Slot) (u69_h0_8 : Int32) (u69_h0_9 : Int32) (u69_h0_5 : Int32), zG E wS_X12_numeral H0 H69 lc69 → lv_has ls 4 [(0, .ref h0), (1, .int p0), (3, .int nu)] → 0 ≤ u69_h0_8.toInt → u69_h0_8.toInt ≤ 1600 → 0 ≤ u69_h0_9.toInt → u69_h0_9.toInt ≤ 5 → 0 ≤ u69_h0_5.toInt → u69_h0_5.toInt ≤ 5 → sl H69 h0 (zix E 13 8) = some (.int u69_h0_8) → sl H69 h0 (zix E 13 4) = some (.int sz) → sl H69 h0 (zix E 13 9) = some (.int u69_h0_9) → sl H69 h0 (zix E 13 5) = some (.int u69_h0_5) → fk.toInt = 0 → u69_h0_5.toInt ≠ 0 ∨ (p0.toInt ≤ nu.toInt ∧ nu.toInt ≤ p1.toInt) → e0.toInt ≤ u69_h0_8.toInt → u69_h0_8.toInt ≤ sz.toInt → e0.toInt < u69_h0_8.toInt ∨ u69_h0_9.toInt ≤ 1 ∨ u69_h0_9.toInt = 4 ∨ (u69_h0_9.toInt = t0.toInt ∧ u69_h0_8.toInt = e0.toInt) → W p l e rm_X12_numeral s m args below meth c H69 lc69 0 0 Q (F0 m 69 ls []) := by
    intro H69 lc69 ls u69_h0_8 u69_h0_9 u69_h0_5 gH69 hl f69_1 f69_2 f69_3 f69_4 f69_5 f69_6 s69_u69_h0_8 s69_u69_h0_4 s69_u69_h0_9 s69_u69_h0_5 f69_7 f69_8 f69_9 f69_10 f69_11
    refine lv_aload_n hx hb dX12_numeral_69 rfl (lv_at hl 0 rfl) ?_
    refine zkPI (zrV (rest := []) B (c_X12_isGood l E hV H69 gH69.1 h0 kh0 u69_h0_5 s69_u69_h0_5) cl_RX12_194 gH69.1 kh0 rfl rfl rfl rfl hl.1 rfl (Nat.le_of_ble_eq_true rfl) dX12_numeral_70 rfl rfl ⟨rfl, rfl⟩ ⟨Nat.zero_le _, Nat.zero_le _⟩ (zO.of gH69 hh)) (fun x_1 hp_1 => ?_)
    obtain ⟨hp_1_1, hp_1_2, hp_1_3⟩ := hp_1
    refine lv_if_eq (tgt := 80) hx hb dX12_numeral_73 (by decide) (fun c_2 => ?_) (fun c_2 => ?_)
    · have f_2 := z_eq c_2 rfl kl_0
      refine lv_iload_n hx hb dX12_numeral_80 rfl (lv_at hl 1 rfl) ?_
      exact rtI (v := p0) B hr hlk hh hQ gH69 rfl ⟨by omega, by omega, by omega, u69_h0_8, s69_u69_h0_8, by omega, by omega, by omega, by omega, u69_h0_9, s69_u69_h0_9, by omega, by omega, by omega, u69_h0_5, s69_u69_h0_5, by omega, by omega, by omega⟩ dX12_numeral_81
    · have f_2 := z_ne c_2 rfl kl_0
      refine lv_iload_n hx hb dX12_numeral_76 rfl (lv_at hl 2 rfl) ?_
      refine lv_goto (tgt := 81) hx hb dX12_numeral_77 (by decide) ?_
      exact rtI (v := nu) B hr hlk hh hQ gH69 rfl ⟨by omega, by omega, by omega, u69_h0_8, s69_u69_h0_8, by omega, by omega, by omega, by omega, u69_h0_9, s69_u69_h0_9, by omega, by omega, by omega, u69_h0_5, s69_u69_h0_5, by omega, by omega, by omega⟩ dX12_numeral_81
  have b53 : ∀ (H53 : Heap) (lc53 : List Loc) (ls : Array Slot) (u53_h0_5 : Int32), zG E wS_X12_numeral H0 H53 lc53 → lv_has ls 4 [(0, .ref h0), (1, .int p0)] → 0 ≤ u53_h0_5.toInt → u53_h0_5.toInt ≤ 5 → sl H53 h0 (zix E 13 8) = some (.int e0) → sl H53 h0 (zix E 13 4) = some (.int sz) → sl H53 h0 (zix E 13 9) = some (.int t0) → sl H53 h0 (zix E 13 5) = some (.int u53_h0_5) → sl H53 h0 (zix E 13 10) = some (.int nu) → fk.toInt = 0 → u53_h0_5.toInt ≠ 0 ∨ (p0.toInt ≤ nu.toInt ∧ nu.toInt ≤ p1.toInt) → W p l e rm_X12_numeral s m args below meth c H53 lc53 0 0 Q (F0 m 53 ls []) := by
    intro H53 lc53 ls u53_h0_5 gH53 hl f53_1 f53_2 s53_u53_h0_8 s53_u53_h0_4 s53_u53_h0_9 s53_u53_h0_5 s53_u53_h0_10 f53_3 f53_4
    refine lv_aload_n hx hb dX12_numeral_53 rfl (lv_at hl 0 rfl) ?_
    refine g_get B fl_RX12_187 gH53.1 kh0 rfl rfl rfl dX12_numeral_54 s53_u53_h0_10 ?_
    refine lv_istore_n (lv' := [(3, .int nu), (0, .ref h0), (1, .int p0)]) hx hb dX12_numeral_57 rfl hl (by decide) rfl (fun ls hl => ?_)
    refine lv_aload_n hx hb dX12_numeral_58 rfl (lv_at hl 1 rfl) ?_
    refine zkPI (zrV (rest := []) B (c_X12_isGood l E hV H53 gH53.1 h0 kh0 u53_h0_5 s53_u53_h0_5) cl_RX12_194 gH53.1 kh0 rfl rfl rfl rfl hl.1 rfl (Nat.le_of_ble_eq_true rfl) dX12_numeral_59 rfl rfl ⟨rfl, rfl⟩ ⟨Nat.zero_le _, Nat.zero_le _⟩ (zO.of gH53 hh)) (fun x_3 hp_3 => ?_)
    obtain ⟨hp_3_1, hp_3_2, hp_3_3⟩ := hp_3
    refine lv_if_eq (tgt := 69) hx hb dX12_numeral_62 (by decide) (fun c_4 => ?_) (fun c_4 => ?_)
    · have f_4 := z_eq c_4 rfl kl_0
      exact b69 H53 lc53 ls e0 t0 u53_h0_5 gH53 (lv_sub hl [1, 2, 0] rfl) (by omega) (by omega) (by omega) (by omega) (by omega) (by omega) s53_u53_h0_8 s53_u53_h0_4 s53_u53_h0_9 s53_u53_h0_5 (by omega) (by omega) (by omega) (by omega) (by omega)
    · have f_4 := z_ne c_4 rfl kl_0
      refine lv_aload_n hx hb dX12_numeral_65 rfl (lv_at hl 1 rfl) ?_
      refine zkV (zrV (rest := []) B (c_X12_goOn l E hV H53 gH53.1 h0 kh0 e0 s53_u53_h0_8 (by omega) (by omega) sz s53_u53_h0_4 (by omega)) cl_RX12_198 gH53.1 kh0 rfl rfl rfl rfl hl.1 rfl (Nat.le_of_ble_eq_true rfl) dX12_numeral_66 rfl rfl ⟨rfl, rfl⟩ ⟨Nat.zero_le _, Nat.zero_le _⟩ (zO.of gH53 hh)) gH53 rfl (fun H5 lc5 hp_5 gH5 rH5 => ?_)
      have s_6 := rH5.keep hV kh0 rfl s53_u53_h0_4
      have s_7 := rH5.keep hV kh0 rfl s53_u53_h0_5
      obtain ⟨k_8, sk_8, ak_8, bk_8, fk_8_0, fk_8_1, k_9, sk_9, ak_9, bk_9, fk_9_0⟩ := hp_5
      exact b69 H5 lc5 ls k_8 k_9 u53_h0_5 gH5 (lv_sub hl [1, 2, 0] rfl) (by omega) (by omega) (by omega) (by omega) (by omega) (by omega) sk_8 s_6 sk_9 s_7 (by omega) (by omega) (by omega) (by omega) (by omega)
  have b44 : ∀ (H44 : Heap) (lc44 : List Loc) (ls : Array Slot) (u44_h0_5 : Int32), zG E wS_X12_numeral H0 H44 lc44 → lv_has ls 4 [(0, .ref h0), (1, .int p0)] → 0 ≤ u44_h0_5.toInt → u44_h0_5.toInt ≤ 0 → sl H44 h0 (zix E 13 8) = some (.int e0) → sl H44 h0 (zix E 13 4) = some (.int sz) → sl H44 h0 (zix E 13 9) = some (.int t0) → sl H44 h0 (zix E 13 5) = some (.int u44_h0_5) → sl H44 h0 (zix E 13 10) = some (.int nu) → fk.toInt = 0 → W p l e rm_X12_numeral s m args below meth c H44 lc44 0 0 Q (F0 m 44 ls []) := by
    intro H44 lc44 ls u44_h0_5 gH44 hl f44_1 f44_2 s44_u44_h0_8 s44_u44_h0_4 s44_u44_h0_9 s44_u44_h0_5 s44_u44_h0_10 f44_3
    refine lv_aload_n hx hb dX12_numeral_44 rfl (lv_at hl 0 rfl) ?_
    refine lv_iconst (v := 4) hx hb dX12_numeral_45 (by decide) ?_
    refine lv_aload_n hx hb dX12_numeral_46 rfl (lv_at hl 0 rfl) ?_
    refine g_getI B fl_RX12_162 gH44.1 kh0 rfl rfl rfl rfl rfl dX12_numeral_47 (fun x_10 s_10 a_10 b_10 => ?_)
    have := kl_4
    refine zkV (zrV (rest := []) B (c_X12_fails l E hV H44 gH44.1 h0 kh0 4 (by omega) (by omega) x_10 u44_h0_5 s44_u44_h0_5) cl_RX12_190 gH44.1 kh0 rfl rfl rfl rfl hl.1 rfl (Nat.le_of_ble_eq_true rfl) dX12_numeral_50 rfl rfl ⟨rfl, rfl⟩ ⟨Nat.zero_le _, Nat.zero_le _⟩ (zO.of gH44 hh)) gH44 rfl (fun H11 lc11 hp_11 gH11 rH11 => ?_)
    have s_12 := rH11.keep hV kh0 rfl s44_u44_h0_8
    have s_13 := rH11.keep hV kh0 rfl s44_u44_h0_4
    have s_14 := rH11.keep hV kh0 rfl s44_u44_h0_9
    have s_15 := rH11.keep hV kh0 rfl s44_u44_h0_10
    obtain ⟨k_16, sk_16, ak_16, bk_16⟩ := hp_11
    have := kl_4
    exact b53 H11 lc11 ls k_16 gH11 (lv_sub hl [0, 1] rfl) (by omega) (by omega) s_12 s_13 s_14 sk_16 s_15 (by omega) (by omega)
  have b21 : ∀ (H21 : Heap) (lc21 : List Loc) (ls : Array Slot) (u21_h0_5 : Int32), zG E wS_X12_numeral H0 H21 lc21 → lv_has ls 4 [(0, .ref h0), (1, .int p0), (2, .int p1)] → 0 ≤ u21_h0_5.toInt → u21_h0_5.toInt ≤ 5 → sl H21 h0 (zix E 13 8) = some (.int e0) → sl H21 h0 (zix E 13 4) = some (.int sz) → sl H21 h0 (zix E 13 9) = some (.int t0) → sl H21 h0 (zix E 13 5) = some (.int u21_h0_5) → sl H21 h0 (zix E 13 10) = some (.int nu) → fk.toInt = 0 → W p l e rm_X12_numeral s m args below meth c H21 lc21 0 0 Q (F0 m 21 ls []) := by
    intro H21 lc21 ls u21_h0_5 gH21 hl f21_1 f21_2 s21_u21_h0_8 s21_u21_h0_4 s21_u21_h0_9 s21_u21_h0_5 s21_u21_h0_10 f21_3
    refine lv_aload_n hx hb dX12_numeral_21 rfl (lv_at hl 0 rfl) ?_
    refine zkPI (zrV (rest := []) B (c_X12_isGood l E hV H21 gH21.1 h0 kh0 u21_h0_5 s21_u21_h0_5) cl_RX12_194 gH21.1 kh0 rfl rfl rfl rfl hl.1 rfl (Nat.le_of_ble_eq_true rfl) dX12_numeral_22 rfl rfl ⟨rfl, rfl⟩ ⟨Nat.zero_le _, Nat.zero_le _⟩ (zO.of gH21 hh)) (fun x_17 hp_17 => ?_)
    obtain ⟨hp_17_1, hp_17_2, hp_17_3⟩ := hp_17
    refine lv_if_eq (tgt := 53) hx hb dX12_numeral_25 (by decide) (fun c_18 => ?_) (fun c_18 => ?_)
    · have f_18 := z_eq c_18 rfl kl_0
      exact b53 H21 lc21 ls u21_h0_5 gH21 (lv_sub hl [0, 1] rfl) (by omega) (by omega) s21_u21_h0_8 s21_u21_h0_4 s21_u21_h0_9 s21_u21_h0_5 s21_u21_h0_10 (by omega) (by omega)
    · have f_18 := z_ne c_18 rfl kl_0
      refine lv_aload_n hx hb dX12_numeral_28 rfl (lv_at hl 0 rfl) ?_
      refine g_get B fl_RX12_187 gH21.1 kh0 rfl rfl rfl dX12_numeral_29 s21_u21_h0_10 ?_
      refine lv_iload_n hx hb dX12_numeral_32 rfl (lv_at hl 1 rfl) ?_
      refine lv_icmp_lt (tgt := 44) hx hb dX12_numeral_33 (by decide) (fun c_19 => ?_) (fun c_19 => ?_)
      · have f_19 := z_lt c_19 rfl rfl
        exact b44 H21 lc21 ls u21_h0_5 gH21 (lv_sub hl [0, 1] rfl) (by omega) (by omega) s21_u21_h0_8 s21_u21_h0_4 s21_u21_h0_9 s21_u21_h0_5 s21_u21_h0_10 (by omega)
      · have f_19 := z_nlt c_19 rfl rfl
        refine lv_aload_n hx hb dX12_numeral_36 rfl (lv_at hl 0 rfl) ?_
        refine g_get B fl_RX12_187 gH21.1 kh0 rfl rfl rfl dX12_numeral_37 s21_u21_h0_10 ?_
        refine lv_iload_n hx hb dX12_numeral_40 rfl (lv_at hl 2 rfl) ?_
        refine lv_icmp_le (tgt := 53) hx hb dX12_numeral_41 (by decide) (fun c_20 => ?_) (fun c_20 => ?_)
        · have f_20 := z_le c_20 rfl rfl
          exact b53 H21 lc21 ls u21_h0_5 gH21 (lv_sub hl [0, 1] rfl) (by omega) (by omega) s21_u21_h0_8 s21_u21_h0_4 s21_u21_h0_9 s21_u21_h0_5 s21_u21_h0_10 (by omega) (by omega)
        · have f_20 := z_nle c_20 rfl rfl
          exact b44 H21 lc21 ls u21_h0_5 gH21 (lv_sub hl [0, 1] rfl) (by omega) (by omega) s21_u21_h0_8 s21_u21_h0_4 s21_u21_h0_9 s21_u21_h0_5 s21_u21_h0_10 (by omega)
  refine lv_aload_n hx hb dX12_numeral_0 rfl (lv_at hl 0 rfl) ?_
  refine zkPI (zrV (rest := []) B (c_X12_isGood l E hV H0 hT0 h0 kh0 fk s_fk) cl_RX12_194 hT0 kh0 rfl rfl rfl rfl hl.1 rfl (Nat.le_of_ble_eq_true rfl) dX12_numeral_1 rfl rfl ⟨rfl, rfl⟩ ⟨Nat.zero_le _, Nat.zero_le _⟩ (zO.of hG0 hh)) (fun x_21 hp_21 => ?_)
  obtain ⟨hp_21_1, hp_21_2, hp_21_3⟩ := hp_21
  refine lv_if_ne (tgt := 9) hx hb dX12_numeral_4 (by decide) (fun c_22 => ?_) (fun c_22 => ?_)
  · have f_22 := z_ne c_22 rfl kl_0
    refine lv_aload_n hx hb dX12_numeral_9 rfl (lv_at hl 0 rfl) ?_
    refine g_get B fl_RX12_169 hT0 kh0 rfl rfl rfl dX12_numeral_10 s_t0 ?_
    refine lv_iconst (v := 4) hx hb dX12_numeral_13 (by decide) ?_
    refine lv_icmp_eq (tgt := 21) hx hb dX12_numeral_14 (by decide) (fun c_23 => ?_) (fun c_23 => ?_)
    · have f_23 := z_eq c_23 rfl kl_4
      exact b21 H0 [] ls fk hG0 (lv_sub hl [0, 1, 2] rfl) (by omega) (by omega) s_e0 s_sz s_t0 s_fk s_nu (by omega)
    · have f_23 := z_ne c_23 rfl kl_4
      refine lv_aload_n hx hb dX12_numeral_17 rfl (lv_at hl 0 rfl) ?_
      refine zkV (zrV (rest := []) B (c_X12_misplaced l E hV H0 hT0 h0 kh0 fk s_fk) cl_RX12_201 hT0 kh0 rfl rfl rfl rfl hl.1 rfl (Nat.le_of_ble_eq_true rfl) dX12_numeral_18 rfl rfl ⟨rfl, rfl⟩ ⟨Nat.zero_le _, Nat.zero_le _⟩ (zO.of hG0 hh)) hG0 rfl (fun H24 lc24 hp_24 gH24 rH24 => ?_)
      have s_25 := rH24.keep hV kh0 rfl s_e0
      have s_26 := rH24.keep hV kh0 rfl s_sz
      have s_27 := rH24.keep hV kh0 rfl s_t0
      have s_28 := rH24.keep hV kh0 rfl s_nu
      obtain ⟨k_29, sk_29, ak_29, bk_29⟩ := hp_24
      exact b21 H24 lc24 ls k_29 gH24 (lv_sub hl [0, 1, 2] rfl) (by omega) (by omega) s_25 s_26 s_27 sk_29 s_28 (by omega)
  · have f_22 := z_eq c_22 rfl kl_0
    refine lv_iload_n hx hb dX12_numeral_7 rfl (lv_at hl 1 rfl) ?_
    exact rtI (v := p0) B hr hlk hh hQ hG0 rfl ⟨by omega, by omega, by omega, e0, s_e0, by omega, by omega, by omega, by omega, t0, s_t0, by omega, by omega, by omega, fk, s_fk, by omega, by omega, by omega⟩ dX12_numeral_8

theorem dX12_isFull_0 : decode cX12_isFull 0 = .ok (.aload_n 0, 1) := by decide +kernel
theorem dX12_isFull_1 : decode cX12_isFull 1 = .ok (.ldc2_w 137, 3) := by decide +kernel
theorem dX12_isFull_4 : decode cX12_isFull 4 = .ok (.invokevirtual 226, 3) := by decide +kernel
theorem dX12_isFull_7 : decode cX12_isFull 7 = .ok (.ifCond .eq 21, 3) := by decide +kernel
theorem dX12_isFull_10 : decode cX12_isFull 10 = .ok (.aload_n 0, 1) := by decide +kernel
theorem dX12_isFull_11 : decode cX12_isFull 11 = .ok (.getfield 24, 3) := by decide +kernel
theorem dX12_isFull_14 : decode cX12_isFull 14 = .ok (.aload_n 0, 1) := by decide +kernel
theorem dX12_isFull_15 : decode cX12_isFull 15 = .ok (.getfield 204, 3) := by decide +kernel
theorem dX12_isFull_18 : decode cX12_isFull 18 = .ok (.iaload, 1) := by decide +kernel
theorem dX12_isFull_19 : decode cX12_isFull 19 = .ok (.ifCond .le 7, 3) := by decide +kernel
theorem dX12_isFull_22 : decode cX12_isFull 22 = .ok (.iconst 1, 1) := by decide +kernel
theorem dX12_isFull_23 : decode cX12_isFull 23 = .ok (.goto 4, 3) := by decide +kernel
theorem dX12_isFull_26 : decode cX12_isFull 26 = .ok (.iconst 0, 1) := by decide +kernel
theorem dX12_isFull_27 : decode cX12_isFull 27 = .ok (.ireturn, 1) := by decide +kernel
theorem dX12_isFull_28 : decode cX12_isFull 28 = .ok (.aload_n 0, 1) := by decide +kernel
theorem dX12_isFull_29 : decode cX12_isFull 29 = .ok (.getfield 24, 3) := by decide +kernel
theorem dX12_isFull_32 : decode cX12_isFull 32 = .ok (.aload_n 0, 1) := by decide +kernel
theorem dX12_isFull_33 : decode cX12_isFull 33 = .ok (.getfield 204, 3) := by decide +kernel
theorem dX12_isFull_36 : decode cX12_isFull 36 = .ok (.iaload, 1) := by decide +kernel
theorem dX12_isFull_37 : decode cX12_isFull 37 = .ok (.ifCond .ne 5, 3) := by decide +kernel
theorem dX12_isFull_40 : decode cX12_isFull 40 = .ok (.iconst 1, 1) := by decide +kernel
theorem dX12_isFull_41 : decode cX12_isFull 41 = .ok (.ireturn, 1) := by decide +kernel
theorem dX12_isFull_42 : decode cX12_isFull 42 = .ok (.aload_n 0, 1) := by decide +kernel
theorem dX12_isFull_43 : decode cX12_isFull 43 = .ok (.ldc2_w 141, 3) := by decide +kernel
theorem dX12_isFull_46 : decode cX12_isFull 46 = .ok (.invokevirtual 226, 3) := by decide +kernel
theorem dX12_isFull_49 : decode cX12_isFull 49 = .ok (.ifCond .eq 23, 3) := by decide +kernel
theorem dX12_isFull_52 : decode cX12_isFull 52 = .ok (.aload_n 0, 1) := by decide +kernel
theorem dX12_isFull_53 : decode cX12_isFull 53 = .ok (.getfield 30, 3) := by decide +kernel
theorem dX12_isFull_56 : decode cX12_isFull 56 = .ok (.aload_n 0, 1) := by decide +kernel
theorem dX12_isFull_57 : decode cX12_isFull 57 = .ok (.getfield 204, 3) := by decide +kernel
theorem dX12_isFull_60 : decode cX12_isFull 60 = .ok (.iaload, 1) := by decide +kernel
theorem dX12_isFull_61 : decode cX12_isFull 61 = .ok (.bipush 6, 2) := by decide +kernel
theorem dX12_isFull_63 : decode cX12_isFull 63 = .ok (.if_icmp .ne 7, 3) := by decide +kernel
theorem dX12_isFull_66 : decode cX12_isFull 66 = .ok (.iconst 1, 1) := by decide +kernel
theorem dX12_isFull_67 : decode cX12_isFull 67 = .ok (.goto 4, 3) := by decide +kernel
theorem dX12_isFull_70 : decode cX12_isFull 70 = .ok (.iconst 0, 1) := by decide +kernel
theorem dX12_isFull_71 : decode cX12_isFull 71 = .ok (.ireturn, 1) := by decide +kernel
theorem dX12_isFull_72 : decode cX12_isFull 72 = .ok (.aload_n 0, 1) := by decide +kernel
theorem dX12_isFull_73 : decode cX12_isFull 73 = .ok (.ldc2_w 157, 3) := by decide +kernel
theorem dX12_isFull_76 : decode cX12_isFull 76 = .ok (.invokevirtual 226, 3) := by decide +kernel
theorem dX12_isFull_79 : decode cX12_isFull 79 = .ok (.ifCond .eq 21, 3) := by decide +kernel
theorem dX12_isFull_82 : decode cX12_isFull 82 = .ok (.aload_n 0, 1) := by decide +kernel
theorem dX12_isFull_83 : decode cX12_isFull 83 = .ok (.getfield 36, 3) := by decide +kernel
theorem dX12_isFull_86 : decode cX12_isFull 86 = .ok (.aload_n 0, 1) := by decide +kernel
theorem dX12_isFull_87 : decode cX12_isFull 87 = .ok (.getfield 204, 3) := by decide +kernel
theorem dX12_isFull_90 : decode cX12_isFull 90 = .ok (.iaload, 1) := by decide +kernel
theorem dX12_isFull_91 : decode cX12_isFull 91 = .ok (.ifCond .le 7, 3) := by decide +kernel
theorem dX12_isFull_94 : decode cX12_isFull 94 = .ok (.iconst 1, 1) := by decide +kernel
theorem dX12_isFull_95 : decode cX12_isFull 95 = .ok (.goto 4, 3) := by decide +kernel
theorem dX12_isFull_98 : decode cX12_isFull 98 = .ok (.iconst 0, 1) := by decide +kernel
theorem dX12_isFull_99 : decode cX12_isFull 99 = .ok (.ireturn, 1) := by decide +kernel
theorem dX12_isFull_100 : decode cX12_isFull 100 = .ok (.aload_n 0, 1) := by decide +kernel
theorem dX12_isFull_101 : decode cX12_isFull 101 = .ok (.ldc2_w 151, 3) := by decide +kernel
theorem dX12_isFull_104 : decode cX12_isFull 104 = .ok (.invokevirtual 226, 3) := by decide +kernel
theorem dX12_isFull_107 : decode cX12_isFull 107 = .ok (.ifCond .ne 13, 3) := by decide +kernel
theorem dX12_isFull_110 : decode cX12_isFull 110 = .ok (.aload_n 0, 1) := by decide +kernel
theorem dX12_isFull_111 : decode cX12_isFull 111 = .ok (.ldc2_w 153, 3) := by decide +kernel
theorem dX12_isFull_114 : decode cX12_isFull 114 = .ok (.invokevirtual 226, 3) := by decide +kernel
theorem dX12_isFull_117 : decode cX12_isFull 117 = .ok (.ifCond .eq 17, 3) := by decide +kernel
theorem dX12_isFull_120 : decode cX12_isFull 120 = .ok (.aload_n 0, 1) := by decide +kernel
theorem dX12_isFull_121 : decode cX12_isFull 121 = .ok (.getfield 33, 3) := by decide +kernel
theorem dX12_isFull_124 : decode cX12_isFull 124 = .ok (.aload_n 0, 1) := by decide +kernel
theorem dX12_isFull_125 : decode cX12_isFull 125 = .ok (.getfield 204, 3) := by decide +kernel
theorem dX12_isFull_128 : decode cX12_isFull 128 = .ok (.iaload, 1) := by decide +kernel
theorem dX12_isFull_129 : decode cX12_isFull 129 = .ok (.bipush 12, 2) := by decide +kernel
theorem dX12_isFull_131 : decode cX12_isFull 131 = .ok (.if_icmp .ne 7, 3) := by decide +kernel
theorem dX12_isFull_134 : decode cX12_isFull 134 = .ok (.iconst 1, 1) := by decide +kernel
theorem dX12_isFull_135 : decode cX12_isFull 135 = .ok (.goto 4, 3) := by decide +kernel
theorem dX12_isFull_138 : decode cX12_isFull 138 = .ok (.iconst 0, 1) := by decide +kernel
theorem dX12_isFull_139 : decode cX12_isFull 139 = .ok (.ireturn, 1) := by decide +kernel
def rm_X12_isFull : Room := { frames := 1, cells := 0, slots := 0, locals := 22 }
set_option maxRecDepth 100000 in
set_option maxHeartbeats 4000000 in
theorem c_X12_isFull (l : Launch) (E : zE) (hV : zV E) (H0 : Heap) (hT0 : HT E H0) (h0 : Nat) (kh0 : eK E h0 = 13) (t0 : Int32) (s_t0 : sl H0 h0 (zix E 13 9) = some (.int t0)) (nm : Int64) (s_nm : sl H0 h0 (zix E 13 11) = some (.long nm)) (pa : Nat) (kpa : eK E pa = 63) (s_pa : sl H0 h0 (zix E 13 14) = some (.ref pa)) (rbv : Int32) (s_rbv : sl H0 h0 (zix E 13 27) = some (.int rbv)) (pcv : Int32) (s_pcv : sl H0 pa rbv.toNatClampNeg = some (.int pcv)) : Met l yX12_isFull (zws yX12_isFull cX12_isFull 1 (some .boolean)) rm_X12_isFull (zP E H0 [.ref h0]) (zPI (fun r => 0 ≤ r.toInt ∧ r.toInt ≤ 1 ∧ (r.toInt ≠ 0 ∨ t0.toInt ≠ 3 ∨ nm.toInt ≠ 482804589413 ∨ pcv.toInt ≤ 5))) 0 0 (fun _ => False) := by
  refine zEnt (by decide) (Nat.le_of_ble_eq_true rfl) (fun p e s m args below meth c ls Q B hr hlk hh hQ hl => ?_)
  have hx := B.1
  have hb := B.2.1
  have hl : lv_has ls 1 [(0, .ref h0)] := hl
  have bd_t0 := HT.bdI hT0 kh0 rfl (j := 9) (by decide) rfl s_t0
  have bd_rbv := HT.bdI hT0 kh0 rfl (j := 27) (by decide) rfl s_rbv
  have bd_pcv := HT.bdE (i := rbv) (N := 2) hT0 kpa rfl rfl rfl (by omega) (by omega) rfl s_pcv
  have b120 : ∀ (ls : Array Slot), lv_has ls 1 [(0, .ref h0)] → 3 ≤ t0.toInt → t0.toInt ≤ 3 → sl H0 h0 (zix E 13 9) = some (.int t0) → sl H0 h0 (zix E 13 11) = some (.long nm) → sl H0 h0 (zix E 13 14) = some (.ref pa) → sl H0 h0 (zix E 13 27) = some (.int rbv) → sl H0 pa rbv.toNatClampNeg = some (.int pcv) → t0.toInt ≠ 3 ∨ nm.toInt ≠ 482804589413 → W p l e rm_X12_isFull s m args below meth c H0 [] 0 0 Q (F0 m 120 ls []) := by
    intro ls hl f120_1 f120_2 s120_u120_h0_9 s120_u120_h0_11 s120_u120_h0_14 s120_u120_h0_27 s120_u120_pa_erbv f120_3
    refine lv_aload_n hx hb dX12_isFull_120 rfl (lv_at hl 0 rfl) ?_
    refine g_getR B fl_RX12_33 hT0 kh0 rfl rfl rfl rfl rfl dX12_isFull_121 (fun q_1 s_1 k_q_1 => ?_)
    refine lv_aload_n hx hb dX12_isFull_124 rfl (lv_at hl 0 rfl) ?_
    refine g_get B fl_RX12_204 hT0 kh0 rfl rfl rfl dX12_isFull_125 s120_u120_h0_27 ?_
    refine g_ialdI (i := rbv) (N := 2) B hT0 k_q_1 rfl rfl rfl rfl (by omega) (by omega) rfl dX12_isFull_128 (fun x_2 s_2 a_2 b_2 => ?_)
    refine lv_bipush (v := 12) hx hb dX12_isFull_129 (by decide) ?_
    refine lv_icmp_ne (tgt := 138) hx hb dX12_isFull_131 (by decide) (fun c_3 => ?_) (fun c_3 => ?_)
    · have f_3 := z_ne c_3 rfl kl_12
      refine lv_iconst (v := 0) hx hb dX12_isFull_138 (by decide) ?_
      have := kl_0
      have := kl_0
      exact rtPI (v := 0) B hr hlk hh hQ rfl ⟨by omega, by omega, by omega⟩ dX12_isFull_139
    · have f_3 := z_eq c_3 rfl kl_12
      refine lv_iconst (v := 1) hx hb dX12_isFull_134 (by decide) ?_
      refine lv_goto (tgt := 139) hx hb dX12_isFull_135 (by decide) ?_
      have := kl_1
      have := kl_1
      exact rtPI (v := 1) B hr hlk hh hQ rfl ⟨by omega, by omega, by omega⟩ dX12_isFull_139
  refine lv_aload_n hx hb dX12_isFull_0 rfl (lv_at hl 0 rfl) ?_
  refine lv_ldc2 hx hb B.2.2.2.1 (B.2.2.2.2.1 _ (mc_wsL_law_r25 _ (List.mem_of_getElem? (i := 20) rfl))) dX12_isFull_1 ?_
  refine zkPI (zrV (rest := []) B (c_X12_isWord l E hV H0 hT0 h0 kh0 (422775452260 : Int64) t0 s_t0 nm s_nm) cl_RX12_226 hT0 kh0 rfl rfl rfl rfl hl.1 rfl (Nat.le_of_ble_eq_true rfl) dX12_isFull_4 rfl rfl ⟨rfl, rfl⟩ ⟨Nat.zero_le _, Nat.zero_le _⟩ (zO.rf hh)) (fun x_4 hp_4 => ?_)
  obtain ⟨hp_4_1, hp_4_2, hp_4_3⟩ := hp_4
  have := kL_422775452260
  refine lv_if_eq (tgt := 28) hx hb dX12_isFull_7 (by decide) (fun c_5 => ?_) (fun c_5 => ?_)
  · have f_5 := z_eq c_5 rfl kl_0
    refine lv_aload_n hx hb dX12_isFull_28 rfl (lv_at hl 0 rfl) ?_
    refine g_getR B fl_RX12_24 hT0 kh0 rfl rfl rfl rfl rfl dX12_isFull_29 (fun q_6 s_6 k_q_6 => ?_)
    refine lv_aload_n hx hb dX12_isFull_32 rfl (lv_at hl 0 rfl) ?_
    refine g_get B fl_RX12_204 hT0 kh0 rfl rfl rfl dX12_isFull_33 s_rbv ?_
    refine g_ialdI (i := rbv) (N := 2) B hT0 k_q_6 rfl rfl rfl rfl (by omega) (by omega) rfl dX12_isFull_36 (fun x_7 s_7 a_7 b_7 => ?_)
    refine lv_if_ne (tgt := 42) hx hb dX12_isFull_37 (by decide) (fun c_8 => ?_) (fun c_8 => ?_)
    · have f_8 := z_ne c_8 rfl kl_0
      refine lv_aload_n hx hb dX12_isFull_42 rfl (lv_at hl 0 rfl) ?_
      refine lv_ldc2 hx hb B.2.2.2.1 (B.2.2.2.2.1 _ (mc_wsL_law_r25 _ (List.mem_of_getElem? (i := 22) rfl))) dX12_isFull_43 ?_
      refine zkPI (zrV (rest := []) B (c_X12_isWord l E hV H0 hT0 h0 kh0 (482804589413 : Int64) t0 s_t0 nm s_nm) cl_RX12_226 hT0 kh0 rfl rfl rfl rfl hl.1 rfl (Nat.le_of_ble_eq_true rfl) dX12_isFull_46 rfl rfl ⟨rfl, rfl⟩ ⟨Nat.zero_le _, Nat.zero_le _⟩ (zO.rf hh)) (fun x_9 hp_9 => ?_)
      obtain ⟨hp_9_1, hp_9_2, hp_9_3⟩ := hp_9
      have := kL_482804589413
      refine lv_if_eq (tgt := 72) hx hb dX12_isFull_49 (by decide) (fun c_10 => ?_) (fun c_10 => ?_)
      · have f_10 := z_eq c_10 rfl kl_0
        refine lv_aload_n hx hb dX12_isFull_72 rfl (lv_at hl 0 rfl) ?_
        refine lv_ldc2 hx hb B.2.2.2.1 (B.2.2.2.2.1 _ (mc_wsL_law_r26 _ (List.mem_of_getElem? (i := 6) rfl))) dX12_isFull_73 ?_
        refine zkPI (zrV (rest := []) B (c_X12_isWord l E hV H0 hT0 h0 kh0 (439904990056 : Int64) t0 s_t0 nm s_nm) cl_RX12_226 hT0 kh0 rfl rfl rfl rfl hl.1 rfl (Nat.le_of_ble_eq_true rfl) dX12_isFull_76 rfl rfl ⟨rfl, rfl⟩ ⟨Nat.zero_le _, Nat.zero_le _⟩ (zO.rf hh)) (fun x_11 hp_11 => ?_)
        obtain ⟨hp_11_1, hp_11_2, hp_11_3⟩ := hp_11
        have := kL_439904990056
        refine lv_if_eq (tgt := 100) hx hb dX12_isFull_79 (by decide) (fun c_12 => ?_) (fun c_12 => ?_)
        · have f_12 := z_eq c_12 rfl kl_0
          refine lv_aload_n hx hb dX12_isFull_100 rfl (lv_at hl 0 rfl) ?_
          refine lv_ldc2 hx hb B.2.2.2.1 (B.2.2.2.2.1 _ (mc_wsL_law_r26 _ (List.mem_of_getElem? (i := 3) rfl))) dX12_isFull_101 ?_
          refine zkPI (zrV (rest := []) B (c_X12_isWord l E hV H0 hT0 h0 kh0 (512852849765 : Int64) t0 s_t0 nm s_nm) cl_RX12_226 hT0 kh0 rfl rfl rfl rfl hl.1 rfl (Nat.le_of_ble_eq_true rfl) dX12_isFull_104 rfl rfl ⟨rfl, rfl⟩ ⟨Nat.zero_le _, Nat.zero_le _⟩ (zO.rf hh)) (fun x_13 hp_13 => ?_)
          obtain ⟨hp_13_1, hp_13_2, hp_13_3⟩ := hp_13
          have := kL_512852849765
          refine lv_if_ne (tgt := 120) hx hb dX12_isFull_107 (by decide) (fun c_14 => ?_) (fun c_14 => ?_)
          · have f_14 := z_ne c_14 rfl kl_0
            exact b120 ls (lv_sub hl [0] rfl) (by omega) (by omega) s_t0 s_nm s_pa s_rbv s_pcv (by omega)
          · have f_14 := z_eq c_14 rfl kl_0
            refine lv_aload_n hx hb dX12_isFull_110 rfl (lv_at hl 0 rfl) ?_
            refine lv_ldc2 hx hb B.2.2.2.1 (B.2.2.2.2.1 _ (mc_wsL_law_r26 _ (List.mem_of_getElem? (i := 4) rfl))) dX12_isFull_111 ?_
            refine zkPI (zrV (rest := []) B (c_X12_isWord l E hV H0 hT0 h0 kh0 (422725116779 : Int64) t0 s_t0 nm s_nm) cl_RX12_226 hT0 kh0 rfl rfl rfl rfl hl.1 rfl (Nat.le_of_ble_eq_true rfl) dX12_isFull_114 rfl rfl ⟨rfl, rfl⟩ ⟨Nat.zero_le _, Nat.zero_le _⟩ (zO.rf hh)) (fun x_15 hp_15 => ?_)
            obtain ⟨hp_15_1, hp_15_2, hp_15_3⟩ := hp_15
            have := kL_422725116779
            refine lv_if_eq (tgt := 134) hx hb dX12_isFull_117 (by decide) (fun c_16 => ?_) (fun c_16 => ?_)
            · have f_16 := z_eq c_16 rfl kl_0
              refine lv_iconst (v := 1) hx hb dX12_isFull_134 (by decide) ?_
              refine lv_goto (tgt := 139) hx hb dX12_isFull_135 (by decide) ?_
              have := kl_1
              have := kl_1
              exact rtPI (v := 1) B hr hlk hh hQ rfl ⟨by omega, by omega, by omega⟩ dX12_isFull_139
            · have f_16 := z_ne c_16 rfl kl_0
              exact b120 ls (lv_sub hl [0] rfl) (by omega) (by omega) s_t0 s_nm s_pa s_rbv s_pcv (by omega)
        · have f_12 := z_ne c_12 rfl kl_0
          refine lv_aload_n hx hb dX12_isFull_82 rfl (lv_at hl 0 rfl) ?_
          refine g_getR B fl_RX12_36 hT0 kh0 rfl rfl rfl rfl rfl dX12_isFull_83 (fun q_17 s_17 k_q_17 => ?_)
          refine lv_aload_n hx hb dX12_isFull_86 rfl (lv_at hl 0 rfl) ?_
          refine g_get B fl_RX12_204 hT0 kh0 rfl rfl rfl dX12_isFull_87 s_rbv ?_
          refine g_ialdI (i := rbv) (N := 2) B hT0 k_q_17 rfl rfl rfl rfl (by omega) (by omega) rfl dX12_isFull_90 (fun x_18 s_18 a_18 b_18 => ?_)
          refine lv_if_le (tgt := 98) hx hb dX12_isFull_91 (by decide) (fun c_19 => ?_) (fun c_19 => ?_)
          · have f_19 := z_le c_19 rfl kl_0
            refine lv_iconst (v := 0) hx hb dX12_isFull_98 (by decide) ?_
            have := kl_0
            have := kl_0
            exact rtPI (v := 0) B hr hlk hh hQ rfl ⟨by omega, by omega, by omega⟩ dX12_isFull_99
          · have f_19 := z_nle c_19 rfl kl_0
            refine lv_iconst (v := 1) hx hb dX12_isFull_94 (by decide) ?_
            refine lv_goto (tgt := 99) hx hb dX12_isFull_95 (by decide) ?_
            have := kl_1
            have := kl_1
            exact rtPI (v := 1) B hr hlk hh hQ rfl ⟨by omega, by omega, by omega⟩ dX12_isFull_99
      · have f_10 := z_ne c_10 rfl kl_0
        refine lv_aload_n hx hb dX12_isFull_52 rfl (lv_at hl 0 rfl) ?_
        refine g_get B fl_RX12_30 hT0 kh0 rfl rfl rfl dX12_isFull_53 s_pa ?_
        refine lv_aload_n hx hb dX12_isFull_56 rfl (lv_at hl 0 rfl) ?_
        refine g_get B fl_RX12_204 hT0 kh0 rfl rfl rfl dX12_isFull_57 s_rbv ?_
        refine g_iald (i := rbv) (N := 2) B hT0 kpa rfl rfl rfl rfl (by omega) (by omega) s_pcv dX12_isFull_60 ?_
        refine lv_bipush (v := 6) hx hb dX12_isFull_61 (by decide) ?_
        refine lv_icmp_ne (tgt := 70) hx hb dX12_isFull_63 (by decide) (fun c_20 => ?_) (fun c_20 => ?_)
        · have f_20 := z_ne c_20 rfl kl_6
          refine lv_iconst (v := 0) hx hb dX12_isFull_70 (by decide) ?_
          have := kl_0
          have := kl_0
          exact rtPI (v := 0) B hr hlk hh hQ rfl ⟨by omega, by omega, by omega⟩ dX12_isFull_71
        · have f_20 := z_eq c_20 rfl kl_6
          refine lv_iconst (v := 1) hx hb dX12_isFull_66 (by decide) ?_
          refine lv_goto (tgt := 71) hx hb dX12_isFull_67 (by decide) ?_
          have := kl_1
          have := kl_1
          exact rtPI (v := 1) B hr hlk hh hQ rfl ⟨by omega, by omega, by omega⟩ dX12_isFull_71
    · have f_8 := z_eq c_8 rfl kl_0
      refine lv_iconst (v := 1) hx hb dX12_isFull_40 (by decide) ?_
      have := kl_1
      have := kl_1
      exact rtPI (v := 1) B hr hlk hh hQ rfl ⟨by omega, by omega, by omega⟩ dX12_isFull_41
  · have f_5 := z_ne c_5 rfl kl_0
    refine lv_aload_n hx hb dX12_isFull_10 rfl (lv_at hl 0 rfl) ?_
    refine g_getR B fl_RX12_24 hT0 kh0 rfl rfl rfl rfl rfl dX12_isFull_11 (fun q_21 s_21 k_q_21 => ?_)
    refine lv_aload_n hx hb dX12_isFull_14 rfl (lv_at hl 0 rfl) ?_
    refine g_get B fl_RX12_204 hT0 kh0 rfl rfl rfl dX12_isFull_15 s_rbv ?_
    refine g_ialdI (i := rbv) (N := 2) B hT0 k_q_21 rfl rfl rfl rfl (by omega) (by omega) rfl dX12_isFull_18 (fun x_22 s_22 a_22 b_22 => ?_)
    refine lv_if_le (tgt := 26) hx hb dX12_isFull_19 (by decide) (fun c_23 => ?_) (fun c_23 => ?_)
    · have f_23 := z_le c_23 rfl kl_0
      refine lv_iconst (v := 0) hx hb dX12_isFull_26 (by decide) ?_
      have := kl_0
      have := kl_0
      exact rtPI (v := 0) B hr hlk hh hQ rfl ⟨by omega, by omega, by omega⟩ dX12_isFull_27
    · have f_23 := z_nle c_23 rfl kl_0
      refine lv_iconst (v := 1) hx hb dX12_isFull_22 (by decide) ?_
      refine lv_goto (tgt := 27) hx hb dX12_isFull_23 (by decide) ?_
      have := kl_1
      have := kl_1
      exact rtPI (v := 1) B hr hlk hh hQ rfl ⟨by omega, by omega, by omega⟩ dX12_isFull_27

theorem dX12_pieceHere_0 : decode cX12_pieceHere 0 = .ok (.iconst 0, 1) := by decide +kernel
theorem dX12_pieceHere_1 : decode cX12_pieceHere 1 = .ok (.istore_n 1, 1) := by decide +kernel
theorem dX12_pieceHere_2 : decode cX12_pieceHere 2 = .ok (.iload_n 1, 1) := by decide +kernel
theorem dX12_pieceHere_3 : decode cX12_pieceHere 3 = .ok (.aload_n 0, 1) := by decide +kernel
theorem dX12_pieceHere_4 : decode cX12_pieceHere 4 = .ok (.getfield 30, 3) := by decide +kernel
theorem dX12_pieceHere_7 : decode cX12_pieceHere 7 = .ok (.aload_n 0, 1) := by decide +kernel
theorem dX12_pieceHere_8 : decode cX12_pieceHere 8 = .ok (.getfield 204, 3) := by decide +kernel
theorem dX12_pieceHere_11 : decode cX12_pieceHere 11 = .ok (.iaload, 1) := by decide +kernel
theorem dX12_pieceHere_12 : decode cX12_pieceHere 12 = .ok (.if_icmp .ge 41, 3) := by decide +kernel
theorem dX12_pieceHere_15 : decode cX12_pieceHere 15 = .ok (.aload_n 0, 1) := by decide +kernel
theorem dX12_pieceHere_16 : decode cX12_pieceHere 16 = .ok (.getfield 169, 3) := by decide +kernel
theorem dX12_pieceHere_19 : decode cX12_pieceHere 19 = .ok (.iconst 2, 1) := by decide +kernel
theorem dX12_pieceHere_20 : decode cX12_pieceHere 20 = .ok (.if_icmp .ne 27, 3) := by decide +kernel
theorem dX12_pieceHere_23 : decode cX12_pieceHere 23 = .ok (.aload_n 0, 1) := by decide +kernel
theorem dX12_pieceHere_24 : decode cX12_pieceHere 24 = .ok (.getfield 64, 3) := by decide +kernel
theorem dX12_pieceHere_27 : decode cX12_pieceHere 27 = .ok (.bipush 6, 2) := by decide +kernel
theorem dX12_pieceHere_29 : decode cX12_pieceHere 29 = .ok (.aload_n 0, 1) := by decide +kernel
theorem dX12_pieceHere_30 : decode cX12_pieceHere 30 = .ok (.getfield 204, 3) := by decide +kernel
theorem dX12_pieceHere_33 : decode cX12_pieceHere 33 = .ok (.imul, 1) := by decide +kernel
theorem dX12_pieceHere_34 : decode cX12_pieceHere 34 = .ok (.iload_n 1, 1) := by decide +kernel
theorem dX12_pieceHere_35 : decode cX12_pieceHere 35 = .ok (.iadd, 1) := by decide +kernel
theorem dX12_pieceHere_36 : decode cX12_pieceHere 36 = .ok (.laload, 1) := by decide +kernel
theorem dX12_pieceHere_37 : decode cX12_pieceHere 37 = .ok (.aload_n 0, 1) := by decide +kernel
theorem dX12_pieceHere_38 : decode cX12_pieceHere 38 = .ok (.getfield 176, 3) := by decide +kernel
theorem dX12_pieceHere_41 : decode cX12_pieceHere 41 = .ok (.lcmp, 1) := by decide +kernel
theorem dX12_pieceHere_42 : decode cX12_pieceHere 42 = .ok (.ifCond .ne 5, 3) := by decide +kernel
theorem dX12_pieceHere_45 : decode cX12_pieceHere 45 = .ok (.iload_n 1, 1) := by decide +kernel
theorem dX12_pieceHere_46 : decode cX12_pieceHere 46 = .ok (.ireturn, 1) := by decide +kernel
theorem dX12_pieceHere_47 : decode cX12_pieceHere 47 = .ok (.iinc 1 1, 3) := by decide +kernel
theorem dX12_pieceHere_50 : decode cX12_pieceHere 50 = .ok (.goto (-48), 3) := by decide +kernel
theorem dX12_pieceHere_53 : decode cX12_pieceHere 53 = .ok (.iconst (-1), 1) := by decide +kernel
theorem dX12_pieceHere_54 : decode cX12_pieceHere 54 = .ok (.ireturn, 1) := by decide +kernel
def rm_X12_pieceHere : Room := { frames := 0, cells := 0, slots := 0, locals := 0 }
set_option maxRecDepth 100000 in
set_option maxHeartbeats 4000000 in
theorem c_X12_pieceHere (l : Launch) (E : zE) (hV : zV E) (H0 : Heap) (hT0 : HT E H0) (h0 : Nat) (kh0 : eK E h0 = 13) : Met l yX12_pieceHere (zws yX12_pieceHere cX12_pieceHere 2 (some .int)) rm_X12_pieceHere (zP E H0 [.ref h0]) (zPI (fun r => (-1) ≤ r.toInt ∧ r.toInt ≤ 5)) 0 0 (fun _ => False) := by
  refine zEnt (by decide) (Nat.le_of_ble_eq_true rfl) (fun p e s m args below meth c ls Q B hr hlk hh hQ hl => ?_)
  have hx := B.1
  have hb := B.2.1
  have hl : lv_has ls 2 [(0, .ref h0)] := hl
  have b2 : ∀ (n2 : Nat) (ls : Array Slot) (v2_1 : Int32), 6 - v2_1.toInt < (n2 : Int) → lv_has ls 2 [(0, .ref h0), (1, .int v2_1)] → 0 ≤ v2_1.toInt → v2_1.toInt ≤ 6 → W p l e rm_X12_pieceHere s m args below meth c H0 [] 0 0 Q (F0 m 2 ls []) := by
    intro n2
    induction n2 with
    | zero =>
      intro ls v2_1 hm2 hl f2_1 f2_2
      exact absurd hm2 (by omega)
    | succ n2 ih2 =>
      intro ls v2_1 hm2 hl f2_1 f2_2
      have b47 : ∀ (ls : Array Slot) (u47_h0_14 : Nat) (u47_h0_27 : Int32) (u47_h0_9 : Int32), lv_has ls 2 [(0, .ref h0), (1, .int v2_1)] → eK E u47_h0_14 = 63 → v2_1.toInt ≤ 5 → 0 ≤ u47_h0_27.toInt → u47_h0_27.toInt ≤ 1 → 0 ≤ u47_h0_9.toInt → u47_h0_9.toInt ≤ 5 → sl H0 h0 (zix E 13 14) = some (.ref u47_h0_14) → sl H0 h0 (zix E 13 27) = some (.int u47_h0_27) → sl H0 h0 (zix E 13 9) = some (.int u47_h0_9) → W p l e rm_X12_pieceHere s m args below meth c H0 [] 0 0 Q (F0 m 47 ls []) := by
        intro ls u47_h0_14 u47_h0_27 u47_h0_9 hl k_u47_h0_14 f47_1 f47_2 f47_3 f47_4 f47_5 s47_u47_h0_14 s47_u47_h0_27 s47_u47_h0_9
        obtain ⟨x_1, e_1⟩ : ∃ y : Int32, (v2_1 : Int32) + Int32.ofInt 1 = y := ⟨_, rfl⟩
        refine lv_iinc (v := x_1) (lv' := [(1, .int x_1), (0, .ref h0)]) hx hb dX12_pieceHere_47 hl (k := 1) rfl e_1 (by decide) rfl (fun ls hl => ?_)
        have t_1 := z_inc2 e_1 rfl (by decide) (by omega) (by omega)
        refine lv_goto (tgt := 2) hx hb dX12_pieceHere_50 (by decide) ?_
        exact ih2 ls x_1 (by omega) (lv_sub hl [1, 0] rfl) (by omega) (by omega)
      refine lv_iload_n hx hb dX12_pieceHere_2 rfl (lv_at hl 1 rfl) ?_
      refine lv_aload_n hx hb dX12_pieceHere_3 rfl (lv_at hl 0 rfl) ?_
      refine g_getR B fl_RX12_30 hT0 kh0 rfl rfl rfl rfl rfl dX12_pieceHere_4 (fun q_2 s_2 k_q_2 => ?_)
      refine lv_aload_n hx hb dX12_pieceHere_7 rfl (lv_at hl 0 rfl) ?_
      refine g_getI B fl_RX12_204 hT0 kh0 rfl rfl rfl rfl rfl dX12_pieceHere_8 (fun x_3 s_3 a_3 b_3 => ?_)
      refine g_ialdI (i := x_3) (N := 2) B hT0 k_q_2 rfl rfl rfl rfl (by omega) (by omega) rfl dX12_pieceHere_11 (fun x_4 s_4 a_4 b_4 => ?_)
      refine lv_icmp_ge (tgt := 53) hx hb dX12_pieceHere_12 (by decide) (fun c_5 => ?_) (fun c_5 => ?_)
      · have f_5 := z_le c_5 rfl rfl
        refine lv_iconst (v := (-1)) hx hb dX12_pieceHere_53 (by decide) ?_
        have := kl_m1
        have := kl_m1
        exact rtPI (v := (-1)) B hr hlk hh hQ rfl ⟨by omega, by omega⟩ dX12_pieceHere_54
      · have f_5 := z_nle c_5 rfl rfl
        refine lv_aload_n hx hb dX12_pieceHere_15 rfl (lv_at hl 0 rfl) ?_
        refine g_getI B fl_RX12_169 hT0 kh0 rfl rfl rfl rfl rfl dX12_pieceHere_16 (fun x_6 s_6 a_6 b_6 => ?_)
        refine lv_iconst (v := 2) hx hb dX12_pieceHere_19 (by decide) ?_
        refine lv_icmp_ne (tgt := 47) hx hb dX12_pieceHere_20 (by decide) (fun c_7 => ?_) (fun c_7 => ?_)
        · have f_7 := z_ne c_7 rfl kl_2
          exact b47 ls q_2 x_3 x_6 (lv_sub hl [0, 1] rfl) k_q_2 (by omega) (by omega) (by omega) (by omega) (by omega) s_2 s_3 s_6
        · have f_7 := z_eq c_7 rfl kl_2
          refine lv_aload_n hx hb dX12_pieceHere_23 rfl (lv_at hl 0 rfl) ?_
          refine g_getR B fl_RX12_64 hT0 kh0 rfl rfl rfl rfl rfl dX12_pieceHere_24 (fun q_8 s_8 k_q_8 => ?_)
          refine lv_bipush (v := 6) hx hb dX12_pieceHere_27 (by decide) ?_
          refine lv_aload_n hx hb dX12_pieceHere_29 rfl (lv_at hl 0 rfl) ?_
          refine g_get B fl_RX12_204 hT0 kh0 rfl rfl rfl dX12_pieceHere_30 s_3 ?_
          refine lv_imul hx hb dX12_pieceHere_33 ?_
          refine lv_topi (fun x_9 e_9 => ?_)
          have t_9 := z_mul e_9 kl_6 rfl (by omega) (by omega)
          refine lv_iload_n hx hb dX12_pieceHere_34 rfl (lv_at hl 1 rfl) ?_
          refine lv_iadd hx hb dX12_pieceHere_35 ?_
          refine lv_topi (fun x_10 e_10 => ?_)
          have t_10 := z_add e_10 rfl rfl (by omega) (by omega)
          refine g_laldI (i := x_10) (N := 12) B hT0 k_q_8 rfl rfl rfl rfl (by omega) (by omega) rfl dX12_pieceHere_36 (fun y_11 s_11 => ?_)
          refine lv_aload_n hx hb dX12_pieceHere_37 rfl (lv_at hl 0 rfl) ?_
          refine g_getL B fl_RX12_176 hT0 kh0 rfl rfl rfl rfl rfl dX12_pieceHere_38 (fun y_12 s_12 => ?_)
          refine W.lcmp hx hb dX12_pieceHere_41 ?_
          refine lv_topi (fun x_13 e_13 => ?_)
          have t_13 := z_lcmpI e_13
          refine lv_if_ne (tgt := 47) hx hb dX12_pieceHere_42 (by decide) (fun c_14 => ?_) (fun c_14 => ?_)
          · have f_14 := z_ne c_14 rfl kl_0
            exact b47 ls q_2 x_3 x_6 (lv_sub hl [0, 1] rfl) k_q_2 (by omega) (by omega) (by omega) (by omega) (by omega) s_2 s_3 s_6
          · have f_14 := z_eq c_14 rfl kl_0
            refine lv_iload_n hx hb dX12_pieceHere_45 rfl (lv_at hl 1 rfl) ?_
            exact rtPI (v := v2_1) B hr hlk hh hQ rfl ⟨by omega, by omega⟩ dX12_pieceHere_46
  refine lv_iconst (v := 0) hx hb dX12_pieceHere_0 (by decide) ?_
  refine lv_istore_n (lv' := [(1, .int 0), (0, .ref h0)]) hx hb dX12_pieceHere_1 rfl hl (by decide) rfl (fun ls hl => ?_)
  have := kl_0
  exact b2 7 ls 0 (by omega) (lv_sub hl [1, 0] rfl) (by omega) (by omega)

theorem dX12_readWay_0 : decode cX12_readWay 0 = .ok (.aload_n 0, 1) := by decide +kernel
theorem dX12_readWay_1 : decode cX12_readWay 1 = .ok (.ldc2_w 149, 3) := by decide +kernel
theorem dX12_readWay_4 : decode cX12_readWay 4 = .ok (.invokevirtual 226, 3) := by decide +kernel
theorem dX12_readWay_7 : decode cX12_readWay 7 = .ok (.ifCond .eq 35, 3) := by decide +kernel
theorem dX12_readWay_10 : decode cX12_readWay 10 = .ok (.aload_n 0, 1) := by decide +kernel
theorem dX12_readWay_11 : decode cX12_readWay 11 = .ok (.getfield 55, 3) := by decide +kernel
theorem dX12_readWay_14 : decode cX12_readWay 14 = .ok (.iload_n 1, 1) := by decide +kernel
theorem dX12_readWay_15 : decode cX12_readWay 15 = .ok (.baload, 1) := by decide +kernel
theorem dX12_readWay_16 : decode cX12_readWay 16 = .ok (.ifCond .eq 7, 3) := by decide +kernel
theorem dX12_readWay_19 : decode cX12_readWay 19 = .ok (.aload_n 0, 1) := by decide +kernel
theorem dX12_readWay_20 : decode cX12_readWay 20 = .ok (.invokevirtual 201, 3) := by decide +kernel
theorem dX12_readWay_23 : decode cX12_readWay 23 = .ok (.aload_n 0, 1) := by decide +kernel
theorem dX12_readWay_24 : decode cX12_readWay 24 = .ok (.getfield 55, 3) := by decide +kernel
theorem dX12_readWay_27 : decode cX12_readWay 27 = .ok (.iload_n 1, 1) := by decide +kernel
theorem dX12_readWay_28 : decode cX12_readWay 28 = .ok (.iconst 1, 1) := by decide +kernel
theorem dX12_readWay_29 : decode cX12_readWay 29 = .ok (.bastore, 1) := by decide +kernel
theorem dX12_readWay_30 : decode cX12_readWay 30 = .ok (.aload_n 0, 1) := by decide +kernel
theorem dX12_readWay_31 : decode cX12_readWay 31 = .ok (.invokevirtual 194, 3) := by decide +kernel
theorem dX12_readWay_34 : decode cX12_readWay 34 = .ok (.ifCond .eq 7, 3) := by decide +kernel
theorem dX12_readWay_37 : decode cX12_readWay 37 = .ok (.aload_n 0, 1) := by decide +kernel
theorem dX12_readWay_38 : decode cX12_readWay 38 = .ok (.invokevirtual 198, 3) := by decide +kernel
theorem dX12_readWay_41 : decode cX12_readWay 41 = .ok (.return_, 1) := by decide +kernel
theorem dX12_readWay_42 : decode cX12_readWay 42 = .ok (.aload_n 0, 1) := by decide +kernel
theorem dX12_readWay_43 : decode cX12_readWay 43 = .ok (.getfield 42, 3) := by decide +kernel
theorem dX12_readWay_46 : decode cX12_readWay 46 = .ok (.iload_n 1, 1) := by decide +kernel
theorem dX12_readWay_47 : decode cX12_readWay 47 = .ok (.iaload, 1) := by decide +kernel
theorem dX12_readWay_48 : decode cX12_readWay 48 = .ok (.bipush 6, 2) := by decide +kernel
theorem dX12_readWay_50 : decode cX12_readWay 50 = .ok (.if_icmp .ne 7, 3) := by decide +kernel
theorem dX12_readWay_53 : decode cX12_readWay 53 = .ok (.aload_n 0, 1) := by decide +kernel
theorem dX12_readWay_54 : decode cX12_readWay 54 = .ok (.invokevirtual 201, 3) := by decide +kernel
theorem dX12_readWay_57 : decode cX12_readWay 57 = .ok (.aload_n 0, 1) := by decide +kernel
theorem dX12_readWay_58 : decode cX12_readWay 58 = .ok (.invokevirtual 194, 3) := by decide +kernel
theorem dX12_readWay_61 : decode cX12_readWay 61 = .ok (.ifCond .ne 4, 3) := by decide +kernel
theorem dX12_readWay_64 : decode cX12_readWay 64 = .ok (.return_, 1) := by decide +kernel
theorem dX12_readWay_65 : decode cX12_readWay 65 = .ok (.bipush 6, 2) := by decide +kernel
theorem dX12_readWay_67 : decode cX12_readWay 67 = .ok (.iload_n 1, 1) := by decide +kernel
theorem dX12_readWay_68 : decode cX12_readWay 68 = .ok (.imul, 1) := by decide +kernel
theorem dX12_readWay_69 : decode cX12_readWay 69 = .ok (.aload_n 0, 1) := by decide +kernel
theorem dX12_readWay_70 : decode cX12_readWay 70 = .ok (.getfield 42, 3) := by decide +kernel
theorem dX12_readWay_73 : decode cX12_readWay 73 = .ok (.iload_n 1, 1) := by decide +kernel
theorem dX12_readWay_74 : decode cX12_readWay 74 = .ok (.iaload, 1) := by decide +kernel
theorem dX12_readWay_75 : decode cX12_readWay 75 = .ok (.iadd, 1) := by decide +kernel
theorem dX12_readWay_76 : decode cX12_readWay 76 = .ok (.istore_n 2, 1) := by decide +kernel
theorem dX12_readWay_77 : decode cX12_readWay 77 = .ok (.aload_n 0, 1) := by decide +kernel
theorem dX12_readWay_78 : decode cX12_readWay 78 = .ok (.getfield 58, 3) := by decide +kernel
theorem dX12_readWay_81 : decode cX12_readWay 81 = .ok (.iload_n 2, 1) := by decide +kernel
theorem dX12_readWay_82 : decode cX12_readWay 82 = .ok (.aload_n 0, 1) := by decide +kernel
theorem dX12_readWay_83 : decode cX12_readWay 83 = .ok (.ldc2_w 147, 3) := by decide +kernel
theorem dX12_readWay_86 : decode cX12_readWay 86 = .ok (.invokevirtual 226, 3) := by decide +kernel
theorem dX12_readWay_89 : decode cX12_readWay 89 = .ok (.bastore, 1) := by decide +kernel
theorem dX12_readWay_90 : decode cX12_readWay 90 = .ok (.aload_n 0, 1) := by decide +kernel
theorem dX12_readWay_91 : decode cX12_readWay 91 = .ok (.invokevirtual 198, 3) := by decide +kernel
theorem dX12_readWay_94 : decode cX12_readWay 94 = .ok (.aload_n 0, 1) := by decide +kernel
theorem dX12_readWay_95 : decode cX12_readWay 95 = .ok (.getfield 45, 3) := by decide +kernel
theorem dX12_readWay_98 : decode cX12_readWay 98 = .ok (.iload_n 2, 1) := by decide +kernel
theorem dX12_readWay_99 : decode cX12_readWay 99 = .ok (.aload_n 0, 1) := by decide +kernel
theorem dX12_readWay_100 : decode cX12_readWay 100 = .ok (.iconst 0, 1) := by decide +kernel
theorem dX12_readWay_101 : decode cX12_readWay 101 = .ok (.iconst 4, 1) := by decide +kernel
theorem dX12_readWay_102 : decode cX12_readWay 102 = .ok (.invokevirtual 232, 3) := by decide +kernel
theorem dX12_readWay_105 : decode cX12_readWay 105 = .ok (.iastore, 1) := by decide +kernel
theorem dX12_readWay_106 : decode cX12_readWay 106 = .ok (.aload_n 0, 1) := by decide +kernel
theorem dX12_readWay_107 : decode cX12_readWay 107 = .ok (.getfield 48, 3) := by decide +kernel
theorem dX12_readWay_110 : decode cX12_readWay 110 = .ok (.iload_n 2, 1) := by decide +kernel
theorem dX12_readWay_111 : decode cX12_readWay 111 = .ok (.aload_n 0, 1) := by decide +kernel
theorem dX12_readWay_112 : decode cX12_readWay 112 = .ok (.aload_n 0, 1) := by decide +kernel
theorem dX12_readWay_113 : decode cX12_readWay 113 = .ok (.getfield 45, 3) := by decide +kernel
theorem dX12_readWay_116 : decode cX12_readWay 116 = .ok (.iload_n 2, 1) := by decide +kernel
theorem dX12_readWay_117 : decode cX12_readWay 117 = .ok (.iaload, 1) := by decide +kernel
theorem dX12_readWay_118 : decode cX12_readWay 118 = .ok (.ifCond .ne 7, 3) := by decide +kernel
theorem dX12_readWay_121 : decode cX12_readWay 121 = .ok (.iconst 1, 1) := by decide +kernel
theorem dX12_readWay_122 : decode cX12_readWay 122 = .ok (.goto 4, 3) := by decide +kernel
theorem dX12_readWay_125 : decode cX12_readWay 125 = .ok (.iconst 0, 1) := by decide +kernel
theorem dX12_readWay_126 : decode cX12_readWay 126 = .ok (.iconst 4, 1) := by decide +kernel
theorem dX12_readWay_127 : decode cX12_readWay 127 = .ok (.invokevirtual 232, 3) := by decide +kernel
theorem dX12_readWay_130 : decode cX12_readWay 130 = .ok (.iastore, 1) := by decide +kernel
theorem dX12_readWay_131 : decode cX12_readWay 131 = .ok (.aload_n 0, 1) := by decide +kernel
theorem dX12_readWay_132 : decode cX12_readWay 132 = .ok (.getfield 42, 3) := by decide +kernel
theorem dX12_readWay_135 : decode cX12_readWay 135 = .ok (.iload_n 1, 1) := by decide +kernel
theorem dX12_readWay_136 : decode cX12_readWay 136 = .ok (.dup2, 1) := by decide +kernel
theorem dX12_readWay_137 : decode cX12_readWay 137 = .ok (.iaload, 1) := by decide +kernel
theorem dX12_readWay_138 : decode cX12_readWay 138 = .ok (.iconst 1, 1) := by decide +kernel
theorem dX12_readWay_139 : decode cX12_readWay 139 = .ok (.iadd, 1) := by decide +kernel
theorem dX12_readWay_140 : decode cX12_readWay 140 = .ok (.iastore, 1) := by decide +kernel
theorem dX12_readWay_141 : decode cX12_readWay 141 = .ok (.return_, 1) := by decide +kernel
def rm_X12_readWay : Room := { frames := 3, cells := 0, slots := 0, locals := 66 }
abbrev wS_X12_readWay : List (Nat × Nat) := [(13, 5), (13, 6), (13, 7), (13, 8), (13, 9), (13, 10), (13, 11), (67, 99), (68, 99), (69, 99), (71, 99), (72, 99)]
set_option maxRecDepth 100000 in
set_option maxHeartbeats 4000000 in
theorem c_X12_readWay (l : Launch) (E : zE) (hV : zV E) (H0 : Heap) (hT0 : HT E H0) (h0 : Nat) (kh0 : eK E h0 = 13) (p0 : Int32) (p0_lo : 0 ≤ p0.toInt) (p0_hi : p0.toInt ≤ 11) (e0 : Int32) (s_e0 : sl H0 h0 (zix E 13 8) = some (.int e0)) (e0_lo : 0 ≤ e0.toInt) (e0_hi : e0.toInt ≤ 1600) (sz : Int32) (s_sz : sl H0 h0 (zix E 13 4) = some (.int sz)) (t0 : Int32) (s_t0 : sl H0 h0 (zix E 13 9) = some (.int t0)) (fk : Int32) (s_fk : sl H0 h0 (zix E 13 5) = some (.int fk)) (wa : Nat) (kwa : eK E wa = 67) (s_wa : sl H0 h0 (zix E 13 18) = some (.ref wa)) (wv : Int32) (s_wv : sl H0 wa p0.toNatClampNeg = some (.int wv)) (pr_0 : e0.toInt ≤ sz.toInt) : Met l yX12_readWay (zws yX12_readWay cX12_readWay 3 none) rm_X12_readWay (zP E H0 [.ref h0, .int p0]) (zQV E E wS_X12_readWay (fun H1 => ∃ e1 : Int32, sl H1 h0 (zix E 13 8) = some (.int e1) ∧ 0 ≤ e1.toInt ∧ e1.toInt ≤ 1600 ∧ (e0.toInt ≤ e1.toInt) ∧ (e1.toInt ≤ sz.toInt) ∧ ∃ f1 : Int32, sl H1 h0 (zix E 13 5) = some (.int f1) ∧ 0 ≤ f1.toInt ∧ f1.toInt ≤ 5 ∧ (fk.toInt = 0 ∨ f1.toInt ≠ 0) ∧ ∃ t1 : Int32, sl H1 h0 (zix E 13 9) = some (.int t1) ∧ 0 ≤ t1.toInt ∧ t1.toInt ≤ 5 ∧ (e0.toInt < e1.toInt ∨ t1.toInt ≤ 1 ∨ t1.toInt = 4 ∨ (t1.toInt = t0.toInt ∧ e1.toInt = e0.toInt)) ∧ (f1.toInt ≠ 0 ∨ e0.toInt < e1.toInt ∨ t1.toInt ≤ 1 ∨ t1.toInt = 4))) 0 0 (zfr E) := by
  refine zEnt (by decide) (Nat.le_of_ble_eq_true rfl) (fun p e s m args below meth c ls Q B hr hlk hh hQ hl => ?_)
  have hx := B.1
  have hb := B.2.1
  have hG0 : zG E wS_X12_readWay H0 H0 [] := zG.rf hT0
  have hl : lv_has ls 3 [(0, .ref h0), (1, .int p0)] := hl
  have bd_sz := HT.bdI hT0 kh0 rfl (j := 4) (by decide) rfl s_sz
  have bd_t0 := HT.bdI hT0 kh0 rfl (j := 9) (by decide) rfl s_t0
  have bd_fk := HT.bdI hT0 kh0 rfl (j := 5) (by decide) rfl s_fk
  have bd_wv := HT.bdE (i := p0) (N := 12) hT0 kwa rfl rfl rfl (by omega) (by omega) rfl s_wv
  have b126 : ∀ (H126 : Heap) (lc126 : List Loc) (ls : Array Slot) (w126_0 : Int32) (w126_2 : Int32) (w126_3 : Nat) (u126_h0_8 : Int32) (u126_h0_9 : Int32) (u126_h0_5 : Int32), zG E wS_X12_readWay H0 H126 lc126 → lv_has ls 3 [(0, .ref h0), (1, .int p0)] → eK E w126_3 = 69 → 0 ≤ w126_0.toInt → w126_0.toInt ≤ 1 → 0 ≤ w126_2.toInt → w126_2.toInt ≤ 72 → 0 ≤ u126_h0_8.toInt → u126_h0_8.toInt ≤ 1600 → 0 ≤ u126_h0_9.toInt → u126_h0_9.toInt ≤ 5 → 0 ≤ u126_h0_5.toInt → u126_h0_5.toInt ≤ 5 → sl H126 h0 (zix E 13 4) = some (.int sz) → sl H126 h0 (zix E 13 18) = some (.ref wa) → sl H126 wa p0.toNatClampNeg = some (.int wv) → sl H126 h0 (zix E 13 8) = some (.int u126_h0_8) → sl H126 h0 (zix E 13 9) = some (.int u126_h0_9) → sl H126 h0 (zix E 13 5) = some (.int u126_h0_5) → fk.toInt = 0 ∨ u126_h0_5.toInt ≠ 0 → e0.toInt ≤ u126_h0_8.toInt → u126_h0_8.toInt ≤ sz.toInt → e0.toInt < u126_h0_8.toInt ∨ u126_h0_9.toInt ≤ 1 ∨ u126_h0_9.toInt = 4 ∨ (u126_h0_9.toInt = t0.toInt ∧ u126_h0_8.toInt = e0.toInt) → u126_h0_5.toInt ≠ 0 ∨ e0.toInt < u126_h0_8.toInt ∨ u126_h0_9.toInt ≤ 1 ∨ u126_h0_9.toInt = 4 → wv.toInt ≤ 5 → w126_2.toInt ≤ 71 → W p l e rm_X12_readWay s m args below meth c H126 lc126 0 0 Q (F0 m 126 ls [.int w126_0, .ref h0, .int w126_2, .ref w126_3]) := by
    intro H126 lc126 ls w126_0 w126_2 w126_3 u126_h0_8 u126_h0_9 u126_h0_5 gH126 hl k_w126_3 f126_1 f126_2 f126_3 f126_4 f126_5 f126_6 f126_7 f126_8 f126_9 f126_10 s126_u126_h0_4 s126_u126_h0_18 s126_u126_wa_ep0 s126_u126_h0_8 s126_u126_h0_9 s126_u126_h0_5 f126_11 f126_12 f126_13 f126_14 f126_15 f126_16 f126_17
    refine lv_iconst (v := 4) hx hb dX12_readWay_126 (by decide) ?_
    have := kl_4
    obtain ⟨x_1, s_1, a_1, b_1⟩ := HT.atI gH126.1 kh0 rfl (j := 10) (by decide) rfl
    have := kl_4
    refine zkI (zrV (rest := [.int w126_2, .ref w126_3]) B (c_X12_numeral l E hV H126 gH126.1 h0 kh0 w126_0 (by omega) (by omega) 4 (by omega) (by omega) u126_h0_8 s126_u126_h0_8 (by omega) (by omega) sz s126_u126_h0_4 u126_h0_9 s126_u126_h0_9 u126_h0_5 s126_u126_h0_5 x_1 s_1 (by omega)) cl_RX12_232 gH126.1 kh0 rfl rfl rfl rfl hl.1 rfl (Nat.le_of_ble_eq_true rfl) dX12_readWay_127 rfl rfl ⟨rfl, rfl⟩ ⟨Nat.zero_le _, Nat.zero_le _⟩ (zO.of gH126 hh)) gH126 rfl (fun x_2 H2 lc2 hp_2 gH2 rH2 => ?_)
    have s_3 := rH2.keep hV kh0 rfl s126_u126_h0_4
    have s_4 := rH2.keep hV kh0 rfl s126_u126_h0_18
    have s_5 := rH2.keepA kwa rfl s126_u126_wa_ep0
    obtain ⟨hp_2_1, hp_2_2, hp_2_3, k_6, sk_6, ak_6, bk_6, fk_6_0, fk_6_1, k_7, sk_7, ak_7, bk_7, fk_7_0, k_8, sk_8, ak_8, bk_8, fk_8_0⟩ := hp_2
    have := kl_4
    refine g_iastI (i := w126_2) (N := 72) B hV gH2 k_w126_3 rfl rfl rfl rfl (by omega) (by omega) rfl (by omega) (by omega) rfl dX12_readWay_130 (fun H9 lc9 gH9 uH9 => ?_)
    have s_10 := uH9.keep (Or.inl (k_ne kh0 k_w126_3 rfl)) s_3
    have s_11 := uH9.keep (Or.inl (k_ne kh0 k_w126_3 rfl)) s_4
    have s_12 := uH9.keep (Or.inl (k_ne kwa k_w126_3 rfl)) s_5
    have s_13 := uH9.keep (Or.inl (k_ne kh0 k_w126_3 rfl)) sk_6
    have s_14 := uH9.keep (Or.inl (k_ne kh0 k_w126_3 rfl)) sk_7
    have s_15 := uH9.keep (Or.inl (k_ne kh0 k_w126_3 rfl)) sk_8
    refine lv_aload_n hx hb dX12_readWay_131 rfl (lv_at hl 0 rfl) ?_
    refine g_get B fl_RX12_42 gH9.1 kh0 rfl rfl rfl dX12_readWay_132 s_11 ?_
    refine lv_iload_n hx hb dX12_readWay_135 rfl (lv_at hl 1 rfl) ?_
    refine lv_dup2_11 hx hb dX12_readWay_136 rfl rfl ?_
    refine g_iald (i := p0) (N := 12) B gH9.1 kwa rfl rfl rfl rfl (by omega) (by omega) s_12 dX12_readWay_137 ?_
    refine lv_iconst (v := 1) hx hb dX12_readWay_138 (by decide) ?_
    refine lv_iadd hx hb dX12_readWay_139 ?_
    refine lv_topi (fun x_16 e_16 => ?_)
    have t_16 := z_add e_16 rfl kl_1 (by omega) (by omega)
    refine g_iastI (i := p0) (N := 12) B hV gH9 kwa rfl rfl rfl rfl (by omega) (by omega) rfl (by omega) (by omega) rfl dX12_readWay_140 (fun H17 lc17 gH17 uH17 => ?_)
    have s_18 := uH17.keep (Or.inl (k_ne kh0 kwa rfl)) s_10
    have s_19 := uH17.keep (Or.inl (k_ne kh0 kwa rfl)) s_11
    have s_20 := uH17.keep (Or.inl (k_ne kh0 kwa rfl)) s_13
    have s_21 := uH17.keep (Or.inl (k_ne kh0 kwa rfl)) s_14
    have s_22 := uH17.keep (Or.inl (k_ne kh0 kwa rfl)) s_15
    exact rtV B hr hlk hh hQ gH17 ⟨k_6, s_20, by omega, by omega, by omega, by omega, k_8, s_22, by omega, by omega, by omega, k_7, s_21, by omega, by omega, by omega, by omega⟩ dX12_readWay_141
  have b57 : ∀ (H57 : Heap) (lc57 : List Loc) (ls : Array Slot) (u57_h0_5 : Int32), zG E wS_X12_readWay H0 H57 lc57 → lv_has ls 3 [(0, .ref h0), (1, .int p0)] → 0 ≤ u57_h0_5.toInt → u57_h0_5.toInt ≤ 5 → sl H57 h0 (zix E 13 8) = some (.int e0) → sl H57 h0 (zix E 13 4) = some (.int sz) → sl H57 h0 (zix E 13 9) = some (.int t0) → sl H57 h0 (zix E 13 5) = some (.int u57_h0_5) → sl H57 h0 (zix E 13 18) = some (.ref wa) → sl H57 wa p0.toNatClampNeg = some (.int wv) → fk.toInt = 0 ∨ u57_h0_5.toInt ≠ 0 → wv.toInt ≤ 5 ∨ u57_h0_5.toInt ≠ 0 → W p l e rm_X12_readWay s m args below meth c H57 lc57 0 0 Q (F0 m 57 ls []) := by
    intro H57 lc57 ls u57_h0_5 gH57 hl f57_1 f57_2 s57_u57_h0_8 s57_u57_h0_4 s57_u57_h0_9 s57_u57_h0_5 s57_u57_h0_18 s57_u57_wa_ep0 f57_3 f57_4
    refine lv_aload_n hx hb dX12_readWay_57 rfl (lv_at hl 0 rfl) ?_
    refine zkPI (zrV (rest := []) B (c_X12_isGood l E hV H57 gH57.1 h0 kh0 u57_h0_5 s57_u57_h0_5) cl_RX12_194 gH57.1 kh0 rfl rfl rfl rfl hl.1 rfl (Nat.le_of_ble_eq_true rfl) dX12_readWay_58 rfl rfl ⟨rfl, rfl⟩ ⟨Nat.zero_le _, Nat.zero_le _⟩ (zO.of gH57 hh)) (fun x_23 hp_23 => ?_)
    obtain ⟨hp_23_1, hp_23_2, hp_23_3⟩ := hp_23
    refine lv_if_ne (tgt := 65) hx hb dX12_readWay_61 (by decide) (fun c_24 => ?_) (fun c_24 => ?_)
    · have f_24 := z_ne c_24 rfl kl_0
      refine lv_bipush (v := 6) hx hb dX12_readWay_65 (by decide) ?_
      refine lv_iload_n hx hb dX12_readWay_67 rfl (lv_at hl 1 rfl) ?_
      refine lv_imul hx hb dX12_readWay_68 ?_
      refine lv_topi (fun x_25 e_25 => ?_)
      have t_25 := z_mul e_25 kl_6 rfl (by omega) (by omega)
      refine lv_aload_n hx hb dX12_readWay_69 rfl (lv_at hl 0 rfl) ?_
      refine g_get B fl_RX12_42 gH57.1 kh0 rfl rfl rfl dX12_readWay_70 s57_u57_h0_18 ?_
      refine lv_iload_n hx hb dX12_readWay_73 rfl (lv_at hl 1 rfl) ?_
      refine g_iald (i := p0) (N := 12) B gH57.1 kwa rfl rfl rfl rfl (by omega) (by omega) s57_u57_wa_ep0 dX12_readWay_74 ?_
      refine lv_iadd hx hb dX12_readWay_75 ?_
      refine lv_topi (fun x_26 e_26 => ?_)
      have t_26 := z_add e_26 rfl rfl (by omega) (by omega)
      refine lv_istore_n (lv' := [(2, .int x_26), (0, .ref h0), (1, .int p0)]) hx hb dX12_readWay_76 rfl hl (by decide) rfl (fun ls hl => ?_)
      refine lv_aload_n hx hb dX12_readWay_77 rfl (lv_at hl 1 rfl) ?_
      refine g_getR B fl_RX12_58 gH57.1 kh0 rfl rfl rfl rfl rfl dX12_readWay_78 (fun q_27 s_27 k_q_27 => ?_)
      refine lv_iload_n hx hb dX12_readWay_81 rfl (lv_at hl 0 rfl) ?_
      refine lv_aload_n hx hb dX12_readWay_82 rfl (lv_at hl 1 rfl) ?_
      refine lv_ldc2 hx hb B.2.2.2.1 (B.2.2.2.2.1 _ (mc_wsL_law_r26 _ (List.mem_of_getElem? (i := 1) rfl))) dX12_readWay_83 ?_
      obtain ⟨y_28, s_28⟩ := HT.atL gH57.1 kh0 rfl (j := 11) (by decide) rfl
      refine zkPI (zrV (rest := [.int x_26, .ref q_27]) B (c_X12_isWord l E hV H57 gH57.1 h0 kh0 (1919509605 : Int64) t0 s57_u57_h0_9 y_28 s_28) cl_RX12_226 gH57.1 kh0 rfl rfl rfl rfl hl.1 rfl (Nat.le_of_ble_eq_true rfl) dX12_readWay_86 rfl rfl ⟨rfl, rfl⟩ ⟨Nat.zero_le _, Nat.zero_le _⟩ (zO.of gH57 hh)) (fun x_29 hp_29 => ?_)
      obtain ⟨hp_29_1, hp_29_2, hp_29_3⟩ := hp_29
      have := kL_1919509605
      refine g_zastI (i := x_26) (N := 72) B hV gH57 k_q_27 rfl rfl rfl rfl (by omega) (by omega) rfl (by omega) (by omega) rfl dX12_readWay_89 (fun H30 lc30 gH30 uH30 => ?_)
      have s_31 := uH30.keep (Or.inl (k_ne kh0 k_q_27 rfl)) s57_u57_h0_8
      have s_32 := uH30.keep (Or.inl (k_ne kh0 k_q_27 rfl)) s57_u57_h0_4
      have s_33 := uH30.keep (Or.inl (k_ne kh0 k_q_27 rfl)) s57_u57_h0_9
      have s_34 := uH30.keep (Or.inl (k_ne kh0 k_q_27 rfl)) s57_u57_h0_5
      have s_35 := uH30.keep (Or.inl (k_ne kh0 k_q_27 rfl)) s57_u57_h0_18
      have s_36 := uH30.keep (Or.inl (k_ne kwa k_q_27 rfl)) s57_u57_wa_ep0
      refine lv_aload_n hx hb dX12_readWay_90 rfl (lv_at hl 1 rfl) ?_
      refine zkV (zrV (rest := []) B (c_X12_goOn l E hV H30 gH30.1 h0 kh0 e0 s_31 (by omega) (by omega) sz s_32 (by omega)) cl_RX12_198 gH30.1 kh0 rfl rfl rfl rfl hl.1 rfl (Nat.le_of_ble_eq_true rfl) dX12_readWay_91 rfl rfl ⟨rfl, rfl⟩ ⟨Nat.zero_le _, Nat.zero_le _⟩ (zO.of gH30 hh)) gH30 rfl (fun H37 lc37 hp_37 gH37 rH37 => ?_)
      have s_38 := rH37.keep hV kh0 rfl s_32
      have s_39 := rH37.keep hV kh0 rfl s_34
      have s_40 := rH37.keep hV kh0 rfl s_35
      have s_41 := rH37.keepA kwa rfl s_36
      have s_42 := rH37.keepA k_q_27 rfl uH30.2.1
      obtain ⟨k_43, sk_43, ak_43, bk_43, fk_43_0, fk_43_1, k_44, sk_44, ak_44, bk_44, fk_44_0⟩ := hp_37
      refine lv_aload_n hx hb dX12_readWay_94 rfl (lv_at hl 1 rfl) ?_
      refine g_getR B fl_RX12_45 gH37.1 kh0 rfl rfl rfl rfl rfl dX12_readWay_95 (fun q_45 s_45 k_q_45 => ?_)
      refine lv_iload_n hx hb dX12_readWay_98 rfl (lv_at hl 0 rfl) ?_
      refine lv_aload_n hx hb dX12_readWay_99 rfl (lv_at hl 1 rfl) ?_
      refine lv_iconst (v := 0) hx hb dX12_readWay_100 (by decide) ?_
      refine lv_iconst (v := 4) hx hb dX12_readWay_101 (by decide) ?_
      have := kl_0
      have := kl_4
      obtain ⟨x_46, s_46, a_46, b_46⟩ := HT.atI gH37.1 kh0 rfl (j := 10) (by decide) rfl
      have := kl_0
      have := kl_4
      refine zkI (zrV (rest := [.int x_26, .ref q_45]) B (c_X12_numeral l E hV H37 gH37.1 h0 kh0 0 (by omega) (by omega) 4 (by omega) (by omega) k_43 sk_43 (by omega) (by omega) sz s_38 k_44 sk_44 u57_h0_5 s_39 x_46 s_46 (by omega)) cl_RX12_232 gH37.1 kh0 rfl rfl rfl rfl hl.1 rfl (Nat.le_of_ble_eq_true rfl) dX12_readWay_102 rfl rfl ⟨rfl, rfl⟩ ⟨Nat.zero_le _, Nat.zero_le _⟩ (zO.of gH37 hh)) gH37 rfl (fun x_47 H47 lc47 hp_47 gH47 rH47 => ?_)
      have s_48 := rH47.keep hV kh0 rfl s_38
      have s_49 := rH47.keep hV kh0 rfl s_40
      have s_50 := rH47.keepA kwa rfl s_41
      have s_51 := rH47.keepA k_q_27 rfl s_42
      have s_52 := rH47.keep hV kh0 rfl s_45
      obtain ⟨hp_47_1, hp_47_2, hp_47_3, k_53, sk_53, ak_53, bk_53, fk_53_0, fk_53_1, k_54, sk_54, ak_54, bk_54, fk_54_0, k_55, sk_55, ak_55, bk_55, fk_55_0⟩ := hp_47
      have := kl_0
      have := kl_4
      refine g_iastI (i := x_26) (N := 72) B hV gH47 k_q_45 rfl rfl rfl rfl (by omega) (by omega) rfl (by omega) (by omega) rfl dX12_readWay_105 (fun H56 lc56 gH56 uH56 => ?_)
      have s_57 := uH56.keep (Or.inl (k_ne kh0 k_q_45 rfl)) s_48
      have s_58 := uH56.keep (Or.inl (k_ne kh0 k_q_45 rfl)) s_49
      have s_59 := uH56.keep (Or.inl (k_ne kwa k_q_45 rfl)) s_50
      have s_60 := uH56.keep (Or.inl (k_ne k_q_27 k_q_45 rfl)) s_51
      have s_61 := uH56.keep (Or.inl (k_ne kh0 k_q_45 rfl)) s_52
      have s_62 := uH56.keep (Or.inl (k_ne kh0 k_q_45 rfl)) sk_53
      have s_63 := uH56.keep (Or.inl (k_ne kh0 k_q_45 rfl)) sk_54
      have s_64 := uH56.keep (Or.inl (k_ne kh0 k_q_45 rfl)) sk_55
      refine lv_aload_n hx hb dX12_readWay_106 rfl (lv_at hl 1 rfl) ?_
      refine g_getR B fl_RX12_48 gH56.1 kh0 rfl rfl rfl rfl rfl dX12_readWay_107 (fun q_65 s_65 k_q_65 => ?_)
      refine lv_iload_n hx hb dX12_readWay_110 rfl (lv_at hl 0 rfl) ?_
      refine lv_aload_n hx hb dX12_readWay_111 rfl (lv_at hl 1 rfl) ?_
      refine lv_aload_n hx hb dX12_readWay_112 rfl (lv_at hl 1 rfl) ?_
      refine g_get B fl_RX12_45 gH56.1 kh0 rfl rfl rfl dX12_readWay_113 s_61 ?_
      refine lv_iload_n hx hb dX12_readWay_116 rfl (lv_at hl 0 rfl) ?_
      refine g_iald (i := x_26) (N := 72) B gH56.1 k_q_45 rfl rfl rfl rfl (by omega) (by omega) uH56.2.1 dX12_readWay_117 ?_
      refine lv_if_ne (tgt := 125) hx hb dX12_readWay_118 (by decide) (fun c_66 => ?_) (fun c_66 => ?_)
      · have f_66 := z_ne c_66 rfl kl_0
        refine lv_iconst (v := 0) hx hb dX12_readWay_125 (by decide) ?_
        have := kl_0
        exact b126 H56 lc56 ls 0 x_26 q_65 k_53 k_54 k_55 gH56 (lv_sub hl [1, 2] rfl) k_q_65 (by omega) (by omega) (by omega) (by omega) (by omega) (by omega) (by omega) (by omega) (by omega) (by omega) s_57 s_58 s_59 s_62 s_63 s_64 (by omega) (by omega) (by omega) (by omega) (by omega) (by omega) (by omega)
      · have f_66 := z_eq c_66 rfl kl_0
        refine lv_iconst (v := 1) hx hb dX12_readWay_121 (by decide) ?_
        refine lv_goto (tgt := 126) hx hb dX12_readWay_122 (by decide) ?_
        have := kl_1
        exact b126 H56 lc56 ls 1 x_26 q_65 k_53 k_54 k_55 gH56 (lv_sub hl [1, 2] rfl) k_q_65 (by omega) (by omega) (by omega) (by omega) (by omega) (by omega) (by omega) (by omega) (by omega) (by omega) s_57 s_58 s_59 s_62 s_63 s_64 (by omega) (by omega) (by omega) (by omega) (by omega) (by omega) (by omega)
    · have f_24 := z_eq c_24 rfl kl_0
      exact rtV B hr hlk hh hQ gH57 ⟨e0, s57_u57_h0_8, by omega, by omega, by omega, by omega, u57_h0_5, s57_u57_h0_5, by omega, by omega, by omega, t0, s57_u57_h0_9, by omega, by omega, by omega, by omega⟩ dX12_readWay_64
  have b23 : ∀ (H23 : Heap) (lc23 : List Loc) (ls : Array Slot) (u23_h0_5 : Int32) (u23_h0_22 : Nat), zG E wS_X12_readWay H0 H23 lc23 → lv_has ls 3 [(0, .ref h0), (1, .int p0)] → eK E u23_h0_22 = 71 → 3 ≤ t0.toInt → t0.toInt ≤ 3 → 0 ≤ u23_h0_5.toInt → u23_h0_5.toInt ≤ 5 → sl H23 h0 (zix E 13 8) = some (.int e0) → sl H23 h0 (zix E 13 4) = some (.int sz) → sl H23 h0 (zix E 13 9) = some (.int t0) → sl H23 h0 (zix E 13 5) = some (.int u23_h0_5) → sl H23 h0 (zix E 13 18) = some (.ref wa) → sl H23 wa p0.toNatClampNeg = some (.int wv) → sl H23 h0 (zix E 13 22) = some (.ref u23_h0_22) → fk.toInt = 0 ∨ u23_h0_5.toInt ≠ 0 → W p l e rm_X12_readWay s m args below meth c H23 lc23 0 0 Q (F0 m 23 ls []) := by
    intro H23 lc23 ls u23_h0_5 u23_h0_22 gH23 hl k_u23_h0_22 f23_1 f23_2 f23_3 f23_4 s23_u23_h0_8 s23_u23_h0_4 s23_u23_h0_9 s23_u23_h0_5 s23_u23_h0_18 s23_u23_wa_ep0 s23_u23_h0_22 f23_5
    refine lv_aload_n hx hb dX12_readWay_23 rfl (lv_at hl 0 rfl) ?_
    refine g_get B fl_RX12_55 gH23.1 kh0 rfl rfl rfl dX12_readWay_24 s23_u23_h0_22 ?_
    refine lv_iload_n hx hb dX12_readWay_27 rfl (lv_at hl 1 rfl) ?_
    refine lv_iconst (v := 1) hx hb dX12_readWay_28 (by decide) ?_
    have := kl_1
    refine g_zastI (i := p0) (N := 12) B hV gH23 k_u23_h0_22 rfl rfl rfl rfl (by omega) (by omega) rfl (by omega) (by omega) rfl dX12_readWay_29 (fun H67 lc67 gH67 uH67 => ?_)
    have s_68 := uH67.keep (Or.inl (k_ne kh0 k_u23_h0_22 rfl)) s23_u23_h0_8
    have s_69 := uH67.keep (Or.inl (k_ne kh0 k_u23_h0_22 rfl)) s23_u23_h0_4
    have s_70 := uH67.keep (Or.inl (k_ne kh0 k_u23_h0_22 rfl)) s23_u23_h0_9
    have s_71 := uH67.keep (Or.inl (k_ne kh0 k_u23_h0_22 rfl)) s23_u23_h0_5
    have s_72 := uH67.keep (Or.inl (k_ne kh0 k_u23_h0_22 rfl)) s23_u23_h0_18
    have s_73 := uH67.keep (Or.inl (k_ne kwa k_u23_h0_22 rfl)) s23_u23_wa_ep0
    refine lv_aload_n hx hb dX12_readWay_30 rfl (lv_at hl 0 rfl) ?_
    refine zkPI (zrV (rest := []) B (c_X12_isGood l E hV H67 gH67.1 h0 kh0 u23_h0_5 s_71) cl_RX12_194 gH67.1 kh0 rfl rfl rfl rfl hl.1 rfl (Nat.le_of_ble_eq_true rfl) dX12_readWay_31 rfl rfl ⟨rfl, rfl⟩ ⟨Nat.zero_le _, Nat.zero_le _⟩ (zO.of gH67 hh)) (fun x_74 hp_74 => ?_)
    obtain ⟨hp_74_1, hp_74_2, hp_74_3⟩ := hp_74
    refine lv_if_eq (tgt := 41) hx hb dX12_readWay_34 (by decide) (fun c_75 => ?_) (fun c_75 => ?_)
    · have f_75 := z_eq c_75 rfl kl_0
      exact rtV B hr hlk hh hQ gH67 ⟨e0, s_68, by omega, by omega, by omega, by omega, u23_h0_5, s_71, by omega, by omega, by omega, t0, s_70, by omega, by omega, by omega, by omega⟩ dX12_readWay_41
    · have f_75 := z_ne c_75 rfl kl_0
      refine lv_aload_n hx hb dX12_readWay_37 rfl (lv_at hl 0 rfl) ?_
      refine zkV (zrV (rest := []) B (c_X12_goOn l E hV H67 gH67.1 h0 kh0 e0 s_68 (by omega) (by omega) sz s_69 (by omega)) cl_RX12_198 gH67.1 kh0 rfl rfl rfl rfl hl.1 rfl (Nat.le_of_ble_eq_true rfl) dX12_readWay_38 rfl rfl ⟨rfl, rfl⟩ ⟨Nat.zero_le _, Nat.zero_le _⟩ (zO.of gH67 hh)) gH67 rfl (fun H76 lc76 hp_76 gH76 rH76 => ?_)
      have s_77 := rH76.keep hV kh0 rfl s_69
      have s_78 := rH76.keep hV kh0 rfl s_71
      have s_79 := rH76.keep hV kh0 rfl s_72
      have s_80 := rH76.keepA kwa rfl s_73
      obtain ⟨k_81, sk_81, ak_81, bk_81, fk_81_0, fk_81_1, k_82, sk_82, ak_82, bk_82, fk_82_0⟩ := hp_76
      exact rtV B hr hlk hh hQ gH76 ⟨k_81, sk_81, by omega, by omega, by omega, by omega, u23_h0_5, s_78, by omega, by omega, by omega, k_82, sk_82, by omega, by omega, by omega, by omega⟩ dX12_readWay_41
  refine lv_aload_n hx hb dX12_readWay_0 rfl (lv_at hl 0 rfl) ?_
  refine lv_ldc2 hx hb B.2.2.2.1 (B.2.2.2.2.1 _ (mc_wsL_law_r26 _ (List.mem_of_getElem? (i := 2) rfl))) dX12_readWay_1 ?_
  obtain ⟨y_83, s_83⟩ := HT.atL hT0 kh0 rfl (j := 11) (by decide) rfl
  refine zkPI (zrV (rest := []) B (c_X12_isWord l E hV H0 hT0 h0 kh0 (28832985044316772 : Int64) t0 s_t0 y_83 s_83) cl_RX12_226 hT0 kh0 rfl rfl rfl rfl hl.1 rfl (Nat.le_of_ble_eq_true rfl) dX12_readWay_4 rfl rfl ⟨rfl, rfl⟩ ⟨Nat.zero_le _, Nat.zero_le _⟩ (zO.of hG0 hh)) (fun x_84 hp_84 => ?_)
  obtain ⟨hp_84_1, hp_84_2, hp_84_3⟩ := hp_84
  have := kL_28832985044316772
  refine lv_if_eq (tgt := 42) hx hb dX12_readWay_7 (by decide) (fun c_85 => ?_) (fun c_85 => ?_)
  · have f_85 := z_eq c_85 rfl kl_0
    refine lv_aload_n hx hb dX12_readWay_42 rfl (lv_at hl 0 rfl) ?_
    refine g_get B fl_RX12_42 hT0 kh0 rfl rfl rfl dX12_readWay_43 s_wa ?_
    refine lv_iload_n hx hb dX12_readWay_46 rfl (lv_at hl 1 rfl) ?_
    refine g_iald (i := p0) (N := 12) B hT0 kwa rfl rfl rfl rfl (by omega) (by omega) s_wv dX12_readWay_47 ?_
    refine lv_bipush (v := 6) hx hb dX12_readWay_48 (by decide) ?_
    refine lv_icmp_ne (tgt := 57) hx hb dX12_readWay_50 (by decide) (fun c_86 => ?_) (fun c_86 => ?_)
    · have f_86 := z_ne c_86 rfl kl_6
      exact b57 H0 [] ls fk hG0 (lv_sub hl [0, 1] rfl) (by omega) (by omega) s_e0 s_sz s_t0 s_fk s_wa s_wv (by omega) (by omega)
    · have f_86 := z_eq c_86 rfl kl_6
      refine lv_aload_n hx hb dX12_readWay_53 rfl (lv_at hl 0 rfl) ?_
      refine zkV (zrV (rest := []) B (c_X12_misplaced l E hV H0 hT0 h0 kh0 fk s_fk) cl_RX12_201 hT0 kh0 rfl rfl rfl rfl hl.1 rfl (Nat.le_of_ble_eq_true rfl) dX12_readWay_54 rfl rfl ⟨rfl, rfl⟩ ⟨Nat.zero_le _, Nat.zero_le _⟩ (zO.of hG0 hh)) hG0 rfl (fun H87 lc87 hp_87 gH87 rH87 => ?_)
      have s_88 := rH87.keep hV kh0 rfl s_e0
      have s_89 := rH87.keep hV kh0 rfl s_sz
      have s_90 := rH87.keep hV kh0 rfl s_t0
      have s_91 := rH87.keep hV kh0 rfl s_wa
      have s_92 := rH87.keepA kwa rfl s_wv
      obtain ⟨k_93, sk_93, ak_93, bk_93⟩ := hp_87
      exact b57 H87 lc87 ls k_93 gH87 (lv_sub hl [0, 1] rfl) (by omega) (by omega) s_88 s_89 s_90 sk_93 s_91 s_92 (by omega) (by omega)
  · have f_85 := z_ne c_85 rfl kl_0
    refine lv_aload_n hx hb dX12_readWay_10 rfl (lv_at hl 0 rfl) ?_
    refine g_getR B fl_RX12_55 hT0 kh0 rfl rfl rfl rfl rfl dX12_readWay_11 (fun q_94 s_94 k_q_94 => ?_)
    refine lv_iload_n hx hb dX12_readWay_14 rfl (lv_at hl 1 rfl) ?_
    refine g_zaldI (i := p0) (N := 12) B hT0 k_q_94 rfl rfl rfl rfl (by omega) (by omega) rfl dX12_readWay_15 (fun x_95 s_95 a_95 b_95 => ?_)
    refine lv_if_eq (tgt := 23) hx hb dX12_readWay_16 (by decide) (fun c_96 => ?_) (fun c_96 => ?_)
    · have f_96 := z_eq c_96 rfl kl_0
      exact b23 H0 [] ls fk q_94 hG0 (lv_sub hl [0, 1] rfl) k_q_94 (by omega) (by omega) (by omega) (by omega) s_e0 s_sz s_t0 s_fk s_wa s_wv s_94 (by omega)
    · have f_96 := z_ne c_96 rfl kl_0
      refine lv_aload_n hx hb dX12_readWay_19 rfl (lv_at hl 0 rfl) ?_
      refine zkV (zrV (rest := []) B (c_X12_misplaced l E hV H0 hT0 h0 kh0 fk s_fk) cl_RX12_201 hT0 kh0 rfl rfl rfl rfl hl.1 rfl (Nat.le_of_ble_eq_true rfl) dX12_readWay_20 rfl rfl ⟨rfl, rfl⟩ ⟨Nat.zero_le _, Nat.zero_le _⟩ (zO.of hG0 hh)) hG0 rfl (fun H97 lc97 hp_97 gH97 rH97 => ?_)
      have s_98 := rH97.keep hV kh0 rfl s_e0
      have s_99 := rH97.keep hV kh0 rfl s_sz
      have s_100 := rH97.keep hV kh0 rfl s_t0
      have s_101 := rH97.keep hV kh0 rfl s_wa
      have s_102 := rH97.keepA kwa rfl s_wv
      have s_103 := rH97.keep hV kh0 rfl s_94
      obtain ⟨k_104, sk_104, ak_104, bk_104⟩ := hp_97
      exact b23 H97 lc97 ls k_104 q_94 gH97 (lv_sub hl [0, 1] rfl) k_q_94 (by omega) (by omega) (by omega) (by omega) s_98 s_99 s_100 sk_104 s_101 s_102 s_103 (by omega)

theorem dX12_readPiece_0 : decode cX12_readPiece 0 = .ok (.bipush 6, 2) := by decide +kernel
theorem dX12_readPiece_2 : decode cX12_readPiece 2 = .ok (.aload_n 0, 1) := by decide +kernel
theorem dX12_readPiece_3 : decode cX12_readPiece 3 = .ok (.getfield 204, 3) := by decide +kernel
theorem dX12_readPiece_6 : decode cX12_readPiece 6 = .ok (.imul, 1) := by decide +kernel
theorem dX12_readPiece_7 : decode cX12_readPiece 7 = .ok (.aload_n 0, 1) := by decide +kernel
theorem dX12_readPiece_8 : decode cX12_readPiece 8 = .ok (.getfield 30, 3) := by decide +kernel
theorem dX12_readPiece_11 : decode cX12_readPiece 11 = .ok (.aload_n 0, 1) := by decide +kernel
theorem dX12_readPiece_12 : decode cX12_readPiece 12 = .ok (.getfield 204, 3) := by decide +kernel
theorem dX12_readPiece_15 : decode cX12_readPiece 15 = .ok (.iaload, 1) := by decide +kernel
theorem dX12_readPiece_16 : decode cX12_readPiece 16 = .ok (.iadd, 1) := by decide +kernel
theorem dX12_readPiece_17 : decode cX12_readPiece 17 = .ok (.istore_n 1, 1) := by decide +kernel
theorem dX12_readPiece_18 : decode cX12_readPiece 18 = .ok (.aload_n 0, 1) := by decide +kernel
theorem dX12_readPiece_19 : decode cX12_readPiece 19 = .ok (.getfield 169, 3) := by decide +kernel
theorem dX12_readPiece_22 : decode cX12_readPiece 22 = .ok (.iconst 2, 1) := by decide +kernel
theorem dX12_readPiece_23 : decode cX12_readPiece 23 = .ok (.if_icmp .eq 10, 3) := by decide +kernel
theorem dX12_readPiece_26 : decode cX12_readPiece 26 = .ok (.aload_n 0, 1) := by decide +kernel
theorem dX12_readPiece_27 : decode cX12_readPiece 27 = .ok (.invokevirtual 201, 3) := by decide +kernel
theorem dX12_readPiece_30 : decode cX12_readPiece 30 = .ok (.goto 19, 3) := by decide +kernel
theorem dX12_readPiece_33 : decode cX12_readPiece 33 = .ok (.aload_n 0, 1) := by decide +kernel
theorem dX12_readPiece_34 : decode cX12_readPiece 34 = .ok (.invokevirtual 250, 3) := by decide +kernel
theorem dX12_readPiece_37 : decode cX12_readPiece 37 = .ok (.ifCond .lt 12, 3) := by decide +kernel
theorem dX12_readPiece_40 : decode cX12_readPiece 40 = .ok (.aload_n 0, 1) := by decide +kernel
theorem dX12_readPiece_41 : decode cX12_readPiece 41 = .ok (.iconst 3, 1) := by decide +kernel
theorem dX12_readPiece_42 : decode cX12_readPiece 42 = .ok (.aload_n 0, 1) := by decide +kernel
theorem dX12_readPiece_43 : decode cX12_readPiece 43 = .ok (.getfield 162, 3) := by decide +kernel
theorem dX12_readPiece_46 : decode cX12_readPiece 46 = .ok (.invokevirtual 190, 3) := by decide +kernel
theorem dX12_readPiece_49 : decode cX12_readPiece 49 = .ok (.aload_n 0, 1) := by decide +kernel
theorem dX12_readPiece_50 : decode cX12_readPiece 50 = .ok (.invokevirtual 194, 3) := by decide +kernel
theorem dX12_readPiece_53 : decode cX12_readPiece 53 = .ok (.ifCond .ne 4, 3) := by decide +kernel
theorem dX12_readPiece_56 : decode cX12_readPiece 56 = .ok (.return_, 1) := by decide +kernel
theorem dX12_readPiece_57 : decode cX12_readPiece 57 = .ok (.aload_n 0, 1) := by decide +kernel
theorem dX12_readPiece_58 : decode cX12_readPiece 58 = .ok (.getfield 64, 3) := by decide +kernel
theorem dX12_readPiece_61 : decode cX12_readPiece 61 = .ok (.iload_n 1, 1) := by decide +kernel
theorem dX12_readPiece_62 : decode cX12_readPiece 62 = .ok (.aload_n 0, 1) := by decide +kernel
theorem dX12_readPiece_63 : decode cX12_readPiece 63 = .ok (.getfield 176, 3) := by decide +kernel
theorem dX12_readPiece_66 : decode cX12_readPiece 66 = .ok (.lastore, 1) := by decide +kernel
theorem dX12_readPiece_67 : decode cX12_readPiece 67 = .ok (.aload_n 0, 1) := by decide +kernel
theorem dX12_readPiece_68 : decode cX12_readPiece 68 = .ok (.invokevirtual 198, 3) := by decide +kernel
theorem dX12_readPiece_71 : decode cX12_readPiece 71 = .ok (.aload_n 0, 1) := by decide +kernel
theorem dX12_readPiece_72 : decode cX12_readPiece 72 = .ok (.getfield 51, 3) := by decide +kernel
theorem dX12_readPiece_75 : decode cX12_readPiece 75 = .ok (.iload_n 1, 1) := by decide +kernel
theorem dX12_readPiece_76 : decode cX12_readPiece 76 = .ok (.aload_n 0, 1) := by decide +kernel
theorem dX12_readPiece_77 : decode cX12_readPiece 77 = .ok (.ldc2_w 143, 3) := by decide +kernel
theorem dX12_readPiece_80 : decode cX12_readPiece 80 = .ok (.invokevirtual 226, 3) := by decide +kernel
theorem dX12_readPiece_83 : decode cX12_readPiece 83 = .ok (.bastore, 1) := by decide +kernel
theorem dX12_readPiece_84 : decode cX12_readPiece 84 = .ok (.aload_n 0, 1) := by decide +kernel
theorem dX12_readPiece_85 : decode cX12_readPiece 85 = .ok (.getfield 51, 3) := by decide +kernel
theorem dX12_readPiece_88 : decode cX12_readPiece 88 = .ok (.iload_n 1, 1) := by decide +kernel
theorem dX12_readPiece_89 : decode cX12_readPiece 89 = .ok (.baload, 1) := by decide +kernel
theorem dX12_readPiece_90 : decode cX12_readPiece 90 = .ok (.ifCond .eq 7, 3) := by decide +kernel
theorem dX12_readPiece_93 : decode cX12_readPiece 93 = .ok (.aload_n 0, 1) := by decide +kernel
theorem dX12_readPiece_94 : decode cX12_readPiece 94 = .ok (.invokevirtual 198, 3) := by decide +kernel
theorem dX12_readPiece_97 : decode cX12_readPiece 97 = .ok (.aload_n 0, 1) := by decide +kernel
theorem dX12_readPiece_98 : decode cX12_readPiece 98 = .ok (.getfield 55, 3) := by decide +kernel
theorem dX12_readPiece_101 : decode cX12_readPiece 101 = .ok (.iload_n 1, 1) := by decide +kernel
theorem dX12_readPiece_102 : decode cX12_readPiece 102 = .ok (.iconst 0, 1) := by decide +kernel
theorem dX12_readPiece_103 : decode cX12_readPiece 103 = .ok (.bastore, 1) := by decide +kernel
theorem dX12_readPiece_104 : decode cX12_readPiece 104 = .ok (.aload_n 0, 1) := by decide +kernel
theorem dX12_readPiece_105 : decode cX12_readPiece 105 = .ok (.getfield 42, 3) := by decide +kernel
theorem dX12_readPiece_108 : decode cX12_readPiece 108 = .ok (.iload_n 1, 1) := by decide +kernel
theorem dX12_readPiece_109 : decode cX12_readPiece 109 = .ok (.iconst 0, 1) := by decide +kernel
theorem dX12_readPiece_110 : decode cX12_readPiece 110 = .ok (.iastore, 1) := by decide +kernel
theorem dX12_readPiece_111 : decode cX12_readPiece 111 = .ok (.aload_n 0, 1) := by decide +kernel
theorem dX12_readPiece_112 : decode cX12_readPiece 112 = .ok (.invokevirtual 194, 3) := by decide +kernel
theorem dX12_readPiece_115 : decode cX12_readPiece 115 = .ok (.ifCond .eq 41, 3) := by decide +kernel
theorem dX12_readPiece_118 : decode cX12_readPiece 118 = .ok (.aload_n 0, 1) := by decide +kernel
theorem dX12_readPiece_119 : decode cX12_readPiece 119 = .ok (.ldc2_w 145, 3) := by decide +kernel
theorem dX12_readPiece_122 : decode cX12_readPiece 122 = .ok (.invokevirtual 226, 3) := by decide +kernel
theorem dX12_readPiece_125 : decode cX12_readPiece 125 = .ok (.ifCond .ne 23, 3) := by decide +kernel
theorem dX12_readPiece_128 : decode cX12_readPiece 128 = .ok (.aload_n 0, 1) := by decide +kernel
theorem dX12_readPiece_129 : decode cX12_readPiece 129 = .ok (.ldc2_w 147, 3) := by decide +kernel
theorem dX12_readPiece_132 : decode cX12_readPiece 132 = .ok (.invokevirtual 226, 3) := by decide +kernel
theorem dX12_readPiece_135 : decode cX12_readPiece 135 = .ok (.ifCond .ne 13, 3) := by decide +kernel
theorem dX12_readPiece_138 : decode cX12_readPiece 138 = .ok (.aload_n 0, 1) := by decide +kernel
theorem dX12_readPiece_139 : decode cX12_readPiece 139 = .ok (.ldc2_w 149, 3) := by decide +kernel
theorem dX12_readPiece_142 : decode cX12_readPiece 142 = .ok (.invokevirtual 226, 3) := by decide +kernel
theorem dX12_readPiece_145 : decode cX12_readPiece 145 = .ok (.ifCond .eq 11, 3) := by decide +kernel
theorem dX12_readPiece_148 : decode cX12_readPiece 148 = .ok (.aload_n 0, 1) := by decide +kernel
theorem dX12_readPiece_149 : decode cX12_readPiece 149 = .ok (.iload_n 1, 1) := by decide +kernel
theorem dX12_readPiece_150 : decode cX12_readPiece 150 = .ok (.invokevirtual 254, 3) := by decide +kernel
theorem dX12_readPiece_153 : decode cX12_readPiece 153 = .ok (.goto (-42), 3) := by decide +kernel
theorem dX12_readPiece_156 : decode cX12_readPiece 156 = .ok (.aload_n 0, 1) := by decide +kernel
theorem dX12_readPiece_157 : decode cX12_readPiece 157 = .ok (.getfield 30, 3) := by decide +kernel
theorem dX12_readPiece_160 : decode cX12_readPiece 160 = .ok (.aload_n 0, 1) := by decide +kernel
theorem dX12_readPiece_161 : decode cX12_readPiece 161 = .ok (.getfield 204, 3) := by decide +kernel
theorem dX12_readPiece_164 : decode cX12_readPiece 164 = .ok (.dup2, 1) := by decide +kernel
theorem dX12_readPiece_165 : decode cX12_readPiece 165 = .ok (.iaload, 1) := by decide +kernel
theorem dX12_readPiece_166 : decode cX12_readPiece 166 = .ok (.iconst 1, 1) := by decide +kernel
theorem dX12_readPiece_167 : decode cX12_readPiece 167 = .ok (.iadd, 1) := by decide +kernel
theorem dX12_readPiece_168 : decode cX12_readPiece 168 = .ok (.iastore, 1) := by decide +kernel
theorem dX12_readPiece_169 : decode cX12_readPiece 169 = .ok (.return_, 1) := by decide +kernel
def rm_X12_readPiece : Room := { frames := 4, cells := 0, slots := 0, locals := 88 }
abbrev wS_X12_readPiece : List (Nat × Nat) := [(13, 5), (13, 6), (13, 7), (13, 8), (13, 9), (13, 10), (13, 11), (63, 99), (67, 99), (68, 99), (69, 99), (70, 99), (71, 99), (72, 99), (74, 99)]
set_option maxRecDepth 100000 in
set_option maxHeartbeats 4000000 in
theorem c_X12_readPiece (l : Launch) (E : zE) (hV : zV E) (H0 : Heap) (hT0 : HT E H0) (h0 : Nat) (kh0 : eK E h0 = 13) (e0 : Int32) (s_e0 : sl H0 h0 (zix E 13 8) = some (.int e0)) (e0_lo : 0 ≤ e0.toInt) (e0_hi : e0.toInt ≤ 1600) (sz : Int32) (s_sz : sl H0 h0 (zix E 13 4) = some (.int sz)) (t0 : Int32) (s_t0 : sl H0 h0 (zix E 13 9) = some (.int t0)) (fk : Int32) (s_fk : sl H0 h0 (zix E 13 5) = some (.int fk)) (rbv : Int32) (s_rbv : sl H0 h0 (zix E 13 27) = some (.int rbv)) (pa : Nat) (kpa : eK E pa = 63) (s_pa : sl H0 h0 (zix E 13 14) = some (.ref pa)) (pcv : Int32) (s_pcv : sl H0 pa rbv.toNatClampNeg = some (.int pcv)) (pcv_lo : 0 ≤ pcv.toInt) (pcv_hi : pcv.toInt ≤ 5) (pr_0 : e0.toInt ≤ sz.toInt) : Met l yX12_readPiece (zws yX12_readPiece cX12_readPiece 2 none) rm_X12_readPiece (zP E H0 [.ref h0]) (zQV E E wS_X12_readPiece (fun H1 => ∃ e1 : Int32, sl H1 h0 (zix E 13 8) = some (.int e1) ∧ 0 ≤ e1.toInt ∧ e1.toInt ≤ 1600 ∧ (e0.toInt ≤ e1.toInt) ∧ (e1.toInt ≤ sz.toInt) ∧ ∃ t1 : Int32, sl H1 h0 (zix E 13 9) = some (.int t1) ∧ 0 ≤ t1.toInt ∧ t1.toInt ≤ 5 ∧ (e0.toInt < e1.toInt ∨ t1.toInt ≤ 1 ∨ t1.toInt = 4 ∨ (t1.toInt = t0.toInt ∧ e1.toInt = e0.toInt)) ∧ ∃ f1 : Int32, sl H1 h0 (zix E 13 5) = some (.int f1) ∧ 0 ≤ f1.toInt ∧ f1.toInt ≤ 5 ∧ (fk.toInt = 0 ∨ f1.toInt ≠ 0))) 0 0 (zfr E) := by
  refine zEnt (by decide) (Nat.le_of_ble_eq_true rfl) (fun p e s m args below meth c ls Q B hr hlk hh hQ hl => ?_)
  have hx := B.1
  have hb := B.2.1
  have hG0 : zG E wS_X12_readPiece H0 H0 [] := zG.rf hT0
  have hl : lv_has ls 2 [(0, .ref h0)] := hl
  have bd_sz := HT.bdI hT0 kh0 rfl (j := 4) (by decide) rfl s_sz
  have bd_t0 := HT.bdI hT0 kh0 rfl (j := 9) (by decide) rfl s_t0
  have bd_fk := HT.bdI hT0 kh0 rfl (j := 5) (by decide) rfl s_fk
  have bd_rbv := HT.bdI hT0 kh0 rfl (j := 27) (by decide) rfl s_rbv
  have b156 : ∀ (H156 : Heap) (lc156 : List Loc) (ls : Array Slot) (u156_h0_5 : Int32) (u156_h0_8 : Int32) (u156_h0_9 : Int32), zG E wS_X12_readPiece H0 H156 lc156 → lv_has ls 2 [(0, .ref h0)] → 0 ≤ u156_h0_5.toInt → u156_h0_5.toInt ≤ 5 → 0 ≤ u156_h0_8.toInt → u156_h0_8.toInt ≤ 1600 → 0 ≤ u156_h0_9.toInt → u156_h0_9.toInt ≤ 5 → sl H156 h0 (zix E 13 4) = some (.int sz) → sl H156 h0 (zix E 13 5) = some (.int u156_h0_5) → sl H156 h0 (zix E 13 27) = some (.int rbv) → sl H156 h0 (zix E 13 14) = some (.ref pa) → sl H156 pa rbv.toNatClampNeg = some (.int pcv) → sl H156 h0 (zix E 13 8) = some (.int u156_h0_8) → sl H156 h0 (zix E 13 9) = some (.int u156_h0_9) → fk.toInt = 0 ∨ u156_h0_5.toInt ≠ 0 → e0.toInt ≤ u156_h0_8.toInt → u156_h0_8.toInt ≤ sz.toInt → e0.toInt < u156_h0_8.toInt ∨ u156_h0_9.toInt ≤ 1 ∨ u156_h0_9.toInt = 4 ∨ (u156_h0_9.toInt = t0.toInt ∧ u156_h0_8.toInt = e0.toInt) → W p l e rm_X12_readPiece s m args below meth c H156 lc156 0 0 Q (F0 m 156 ls []) := by
    intro H156 lc156 ls u156_h0_5 u156_h0_8 u156_h0_9 gH156 hl f156_1 f156_2 f156_3 f156_4 f156_5 f156_6 s156_u156_h0_4 s156_u156_h0_5 s156_u156_h0_27 s156_u156_h0_14 s156_u156_pa_erbv s156_u156_h0_8 s156_u156_h0_9 f156_7 f156_8 f156_9 f156_10
    refine lv_aload_n hx hb dX12_readPiece_156 rfl (lv_at hl 0 rfl) ?_
    refine g_get B fl_RX12_30 gH156.1 kh0 rfl rfl rfl dX12_readPiece_157 s156_u156_h0_14 ?_
    refine lv_aload_n hx hb dX12_readPiece_160 rfl (lv_at hl 0 rfl) ?_
    refine g_get B fl_RX12_204 gH156.1 kh0 rfl rfl rfl dX12_readPiece_161 s156_u156_h0_27 ?_
    refine lv_dup2_11 hx hb dX12_readPiece_164 rfl rfl ?_
    refine g_iald (i := rbv) (N := 2) B gH156.1 kpa rfl rfl rfl rfl (by omega) (by omega) s156_u156_pa_erbv dX12_readPiece_165 ?_
    refine lv_iconst (v := 1) hx hb dX12_readPiece_166 (by decide) ?_
    refine lv_iadd hx hb dX12_readPiece_167 ?_
    refine lv_topi (fun x_1 e_1 => ?_)
    have t_1 := z_add e_1 rfl kl_1 (by omega) (by omega)
    refine g_iastI (i := rbv) (N := 2) B hV gH156 kpa rfl rfl rfl rfl (by omega) (by omega) rfl (by omega) (by omega) rfl dX12_readPiece_168 (fun H2 lc2 gH2 uH2 => ?_)
    have s_3 := uH2.keep (Or.inl (k_ne kh0 kpa rfl)) s156_u156_h0_4
    have s_4 := uH2.keep (Or.inl (k_ne kh0 kpa rfl)) s156_u156_h0_5
    have s_5 := uH2.keep (Or.inl (k_ne kh0 kpa rfl)) s156_u156_h0_27
    have s_6 := uH2.keep (Or.inl (k_ne kh0 kpa rfl)) s156_u156_h0_14
    have s_7 := uH2.keep (Or.inl (k_ne kh0 kpa rfl)) s156_u156_h0_8
    have s_8 := uH2.keep (Or.inl (k_ne kh0 kpa rfl)) s156_u156_h0_9
    exact rtV B hr hlk hh hQ gH2 ⟨u156_h0_8, s_7, by omega, by omega, by omega, by omega, u156_h0_9, s_8, by omega, by omega, by omega, u156_h0_5, s_4, by omega, by omega, by omega⟩ dX12_readPiece_169
  have b111 : ∀ (n111 : Nat) (H111 : Heap) (lc111 : List Loc) (ls : Array Slot) (v111_1 : Int32) (u111_h0_5 : Int32) (u111_h0_8 : Int32) (u111_h0_9 : Int32), (2 * (sz.toInt - u111_h0_8.toInt) < (n111 : Int) ∧ (u111_h0_5.toInt ≠ 0 ∨ u111_h0_9.toInt ≠ 3 ∨ 2 * (sz.toInt - u111_h0_8.toInt) + 1 < (n111 : Int))) → zG E wS_X12_readPiece H0 H111 lc111 → lv_has ls 2 [(0, .ref h0), (1, .int v111_1)] → 0 ≤ v111_1.toInt → v111_1.toInt ≤ 11 → 0 ≤ u111_h0_5.toInt → u111_h0_5.toInt ≤ 5 → 0 ≤ u111_h0_8.toInt → u111_h0_8.toInt ≤ 1600 → 0 ≤ u111_h0_9.toInt → u111_h0_9.toInt ≤ 5 → sl H111 h0 (zix E 13 4) = some (.int sz) → sl H111 h0 (zix E 13 5) = some (.int u111_h0_5) → sl H111 h0 (zix E 13 27) = some (.int rbv) → sl H111 h0 (zix E 13 14) = some (.ref pa) → sl H111 pa rbv.toNatClampNeg = some (.int pcv) → sl H111 h0 (zix E 13 8) = some (.int u111_h0_8) → sl H111 h0 (zix E 13 9) = some (.int u111_h0_9) → fk.toInt = 0 ∨ u111_h0_5.toInt ≠ 0 → e0.toInt ≤ u111_h0_8.toInt → u111_h0_8.toInt ≤ sz.toInt → e0.toInt < u111_h0_8.toInt ∨ u111_h0_9.toInt ≤ 1 ∨ u111_h0_9.toInt = 4 ∨ (u111_h0_9.toInt = t0.toInt ∧ u111_h0_8.toInt = e0.toInt) → W p l e rm_X12_readPiece s m args below meth c H111 lc111 0 0 Q (F0 m 111 ls []) := by
    intro n111
    induction n111 with
    | zero =>
      intro H111 lc111 ls v111_1 u111_h0_5 u111_h0_8 u111_h0_9 hm111 gH111 hl f111_1 f111_2 f111_3 f111_4 f111_5 f111_6 f111_7 f111_8 s111_u111_h0_4 s111_u111_h0_5 s111_u111_h0_27 s111_u111_h0_14 s111_u111_pa_erbv s111_u111_h0_8 s111_u111_h0_9 f111_9 f111_10 f111_11 f111_12
      exact False.elim (by omega)
    | succ n111 ih111 =>
      intro H111 lc111 ls v111_1 u111_h0_5 u111_h0_8 u111_h0_9 hm111 gH111 hl f111_1 f111_2 f111_3 f111_4 f111_5 f111_6 f111_7 f111_8 s111_u111_h0_4 s111_u111_h0_5 s111_u111_h0_27 s111_u111_h0_14 s111_u111_pa_erbv s111_u111_h0_8 s111_u111_h0_9 f111_9 f111_10 f111_11 f111_12
      have b148 : ∀ (ls : Array Slot), lv_has ls 2 [(0, .ref h0), (1, .int v111_1)] → u111_h0_5.toInt ≤ 0 → 3 ≤ u111_h0_9.toInt → u111_h0_9.toInt ≤ 3 → sl H111 h0 (zix E 13 4) = some (.int sz) → sl H111 h0 (zix E 13 5) = some (.int u111_h0_5) → sl H111 h0 (zix E 13 27) = some (.int rbv) → sl H111 h0 (zix E 13 14) = some (.ref pa) → sl H111 pa rbv.toNatClampNeg = some (.int pcv) → sl H111 h0 (zix E 13 8) = some (.int u111_h0_8) → sl H111 h0 (zix E 13 9) = some (.int u111_h0_9) → W p l e rm_X12_readPiece s m args below meth c H111 lc111 0 0 Q (F0 m 148 ls []) := by
        intro ls hl f148_1 f148_2 f148_3 s148_u148_h0_4 s148_u148_h0_5 s148_u148_h0_27 s148_u148_h0_14 s148_u148_pa_erbv s148_u148_h0_8 s148_u148_h0_9
        refine lv_aload_n hx hb dX12_readPiece_148 rfl (lv_at hl 0 rfl) ?_
        refine lv_iload_n hx hb dX12_readPiece_149 rfl (lv_at hl 1 rfl) ?_
        obtain ⟨q_9, s_9, k_q_9⟩ := HT.atR gH111.1 kh0 rfl (j := 18) (by decide) rfl
        obtain ⟨x_10, s_10, a_10, b_10⟩ := HT.elI (i := v111_1) (N := 12) gH111.1 k_q_9 rfl rfl rfl (by omega) (by omega) rfl
        refine zkV (zrV (rest := []) B (c_X12_readWay l E hV H111 gH111.1 h0 kh0 v111_1 (by omega) (by omega) u111_h0_8 s148_u148_h0_8 (by omega) (by omega) sz s148_u148_h0_4 u111_h0_9 s148_u148_h0_9 u111_h0_5 s148_u148_h0_5 q_9 k_q_9 s_9 x_10 s_10 (by omega)) cl_RX12_254 gH111.1 kh0 rfl rfl rfl rfl hl.1 rfl (Nat.le_of_ble_eq_true rfl) dX12_readPiece_150 rfl rfl ⟨rfl, rfl⟩ ⟨Nat.zero_le _, Nat.zero_le _⟩ (zO.of gH111 hh)) gH111 rfl (fun H11 lc11 hp_11 gH11 rH11 => ?_)
        have s_12 := rH11.keep hV kh0 rfl s148_u148_h0_4
        have s_13 := rH11.keep hV kh0 rfl s148_u148_h0_27
        have s_14 := rH11.keep hV kh0 rfl s148_u148_h0_14
        have s_15 := rH11.keepA kpa rfl s148_u148_pa_erbv
        obtain ⟨k_16, sk_16, ak_16, bk_16, fk_16_0, fk_16_1, k_17, sk_17, ak_17, bk_17, fk_17_0, k_18, sk_18, ak_18, bk_18, fk_18_0, fk_18_1⟩ := hp_11
        refine lv_goto (tgt := 111) hx hb dX12_readPiece_153 (by decide) ?_
        exact ih111 H11 lc11 ls v111_1 k_17 k_16 k_18 (by omega) gH11 (lv_sub hl [0, 1] rfl) (by omega) (by omega) (by omega) (by omega) (by omega) (by omega) (by omega) (by omega) s_12 sk_17 s_13 s_14 s_15 sk_16 sk_18 (by omega) (by omega) (by omega) (by omega)
      refine lv_aload_n hx hb dX12_readPiece_111 rfl (lv_at hl 0 rfl) ?_
      refine zkPI (zrV (rest := []) B (c_X12_isGood l E hV H111 gH111.1 h0 kh0 u111_h0_5 s111_u111_h0_5) cl_RX12_194 gH111.1 kh0 rfl rfl rfl rfl hl.1 rfl (Nat.le_of_ble_eq_true rfl) dX12_readPiece_112 rfl rfl ⟨rfl, rfl⟩ ⟨Nat.zero_le _, Nat.zero_le _⟩ (zO.of gH111 hh)) (fun x_19 hp_19 => ?_)
      obtain ⟨hp_19_1, hp_19_2, hp_19_3⟩ := hp_19
      refine lv_if_eq (tgt := 156) hx hb dX12_readPiece_115 (by decide) (fun c_20 => ?_) (fun c_20 => ?_)
      · have f_20 := z_eq c_20 rfl kl_0
        exact b156 H111 lc111 ls u111_h0_5 u111_h0_8 u111_h0_9 gH111 (lv_sub hl [0] rfl) (by omega) (by omega) (by omega) (by omega) (by omega) (by omega) s111_u111_h0_4 s111_u111_h0_5 s111_u111_h0_27 s111_u111_h0_14 s111_u111_pa_erbv s111_u111_h0_8 s111_u111_h0_9 (by omega) (by omega) (by omega) (by omega)
      · have f_20 := z_ne c_20 rfl kl_0
        refine lv_aload_n hx hb dX12_readPiece_118 rfl (lv_at hl 0 rfl) ?_
        refine lv_ldc2 hx hb B.2.2.2.1 (B.2.2.2.2.1 _ (mc_wsL_law_r26 _ (List.mem_of_getElem? (i := 0) rfl))) dX12_readPiece_119 ?_
        obtain ⟨y_21, s_21⟩ := HT.atL gH111.1 kh0 rfl (j := 11) (by decide) rfl
        refine zkPI (zrV (rest := []) B (c_X12_isWord l E hV H111 gH111.1 h0 kh0 (1818583408 : Int64) u111_h0_9 s111_u111_h0_9 y_21 s_21) cl_RX12_226 gH111.1 kh0 rfl rfl rfl rfl hl.1 rfl (Nat.le_of_ble_eq_true rfl) dX12_readPiece_122 rfl rfl ⟨rfl, rfl⟩ ⟨Nat.zero_le _, Nat.zero_le _⟩ (zO.of gH111 hh)) (fun x_22 hp_22 => ?_)
        obtain ⟨hp_22_1, hp_22_2, hp_22_3⟩ := hp_22
        have := kL_1818583408
        refine lv_if_ne (tgt := 148) hx hb dX12_readPiece_125 (by decide) (fun c_23 => ?_) (fun c_23 => ?_)
        · have f_23 := z_ne c_23 rfl kl_0
          exact b148 ls (lv_sub hl [0, 1] rfl) (by omega) (by omega) (by omega) s111_u111_h0_4 s111_u111_h0_5 s111_u111_h0_27 s111_u111_h0_14 s111_u111_pa_erbv s111_u111_h0_8 s111_u111_h0_9
        · have f_23 := z_eq c_23 rfl kl_0
          refine lv_aload_n hx hb dX12_readPiece_128 rfl (lv_at hl 0 rfl) ?_
          refine lv_ldc2 hx hb B.2.2.2.1 (B.2.2.2.2.1 _ (mc_wsL_law_r26 _ (List.mem_of_getElem? (i := 1) rfl))) dX12_readPiece_129 ?_
          refine zkPI (zrV (rest := []) B (c_X12_isWord l E hV H111 gH111.1 h0 kh0 (1919509605 : Int64) u111_h0_9 s111_u111_h0_9 y_21 s_21) cl_RX12_226 gH111.1 kh0 rfl rfl rfl rfl hl.1 rfl (Nat.le_of_ble_eq_true rfl) dX12_readPiece_132 rfl rfl ⟨rfl, rfl⟩ ⟨Nat.zero_le _, Nat.zero_le _⟩ (zO.of gH111 hh)) (fun x_24 hp_24 => ?_)
          obtain ⟨hp_24_1, hp_24_2, hp_24_3⟩ := hp_24
          have := kL_1919509605
          refine lv_if_ne (tgt := 148) hx hb dX12_readPiece_135 (by decide) (fun c_25 => ?_) (fun c_25 => ?_)
          · have f_25 := z_ne c_25 rfl kl_0
            exact b148 ls (lv_sub hl [0, 1] rfl) (by omega) (by omega) (by omega) s111_u111_h0_4 s111_u111_h0_5 s111_u111_h0_27 s111_u111_h0_14 s111_u111_pa_erbv s111_u111_h0_8 s111_u111_h0_9
          · have f_25 := z_eq c_25 rfl kl_0
            refine lv_aload_n hx hb dX12_readPiece_138 rfl (lv_at hl 0 rfl) ?_
            refine lv_ldc2 hx hb B.2.2.2.1 (B.2.2.2.2.1 _ (mc_wsL_law_r26 _ (List.mem_of_getElem? (i := 2) rfl))) dX12_readPiece_139 ?_
            refine zkPI (zrV (rest := []) B (c_X12_isWord l E hV H111 gH111.1 h0 kh0 (28832985044316772 : Int64) u111_h0_9 s111_u111_h0_9 y_21 s_21) cl_RX12_226 gH111.1 kh0 rfl rfl rfl rfl hl.1 rfl (Nat.le_of_ble_eq_true rfl) dX12_readPiece_142 rfl rfl ⟨rfl, rfl⟩ ⟨Nat.zero_le _, Nat.zero_le _⟩ (zO.of gH111 hh)) (fun x_26 hp_26 => ?_)
            obtain ⟨hp_26_1, hp_26_2, hp_26_3⟩ := hp_26
            have := kL_28832985044316772
            refine lv_if_eq (tgt := 156) hx hb dX12_readPiece_145 (by decide) (fun c_27 => ?_) (fun c_27 => ?_)
            · have f_27 := z_eq c_27 rfl kl_0
              exact b156 H111 lc111 ls u111_h0_5 u111_h0_8 u111_h0_9 gH111 (lv_sub hl [0] rfl) (by omega) (by omega) (by omega) (by omega) (by omega) (by omega) s111_u111_h0_4 s111_u111_h0_5 s111_u111_h0_27 s111_u111_h0_14 s111_u111_pa_erbv s111_u111_h0_8 s111_u111_h0_9 (by omega) (by omega) (by omega) (by omega)
            · have f_27 := z_ne c_27 rfl kl_0
              exact b148 ls (lv_sub hl [0, 1] rfl) (by omega) (by omega) (by omega) s111_u111_h0_4 s111_u111_h0_5 s111_u111_h0_27 s111_u111_h0_14 s111_u111_pa_erbv s111_u111_h0_8 s111_u111_h0_9
  have b97 : ∀ (H97 : Heap) (lc97 : List Loc) (ls : Array Slot) (v97_1 : Int32) (u97_h0_5 : Int32) (u97_h0_8 : Int32) (u97_h0_9 : Int32), zG E wS_X12_readPiece H0 H97 lc97 → lv_has ls 2 [(0, .ref h0), (1, .int v97_1)] → 0 ≤ v97_1.toInt → v97_1.toInt ≤ 11 → 0 ≤ u97_h0_5.toInt → u97_h0_5.toInt ≤ 0 → 0 ≤ u97_h0_8.toInt → u97_h0_8.toInt ≤ 1600 → 0 ≤ u97_h0_9.toInt → u97_h0_9.toInt ≤ 5 → sl H97 h0 (zix E 13 4) = some (.int sz) → sl H97 h0 (zix E 13 5) = some (.int u97_h0_5) → sl H97 h0 (zix E 13 27) = some (.int rbv) → sl H97 h0 (zix E 13 14) = some (.ref pa) → sl H97 pa rbv.toNatClampNeg = some (.int pcv) → sl H97 h0 (zix E 13 8) = some (.int u97_h0_8) → sl H97 h0 (zix E 13 9) = some (.int u97_h0_9) → fk.toInt = 0 ∨ u97_h0_5.toInt ≠ 0 → e0.toInt ≤ u97_h0_8.toInt → u97_h0_8.toInt ≤ sz.toInt → e0.toInt < u97_h0_8.toInt ∨ u97_h0_9.toInt ≤ 1 ∨ u97_h0_9.toInt = 4 ∨ (u97_h0_9.toInt = t0.toInt ∧ u97_h0_8.toInt = e0.toInt) → W p l e rm_X12_readPiece s m args below meth c H97 lc97 0 0 Q (F0 m 97 ls []) := by
    intro H97 lc97 ls v97_1 u97_h0_5 u97_h0_8 u97_h0_9 gH97 hl f97_1 f97_2 f97_3 f97_4 f97_5 f97_6 f97_7 f97_8 s97_u97_h0_4 s97_u97_h0_5 s97_u97_h0_27 s97_u97_h0_14 s97_u97_pa_erbv s97_u97_h0_8 s97_u97_h0_9 f97_9 f97_10 f97_11 f97_12
    refine lv_aload_n hx hb dX12_readPiece_97 rfl (lv_at hl 0 rfl) ?_
    refine g_getR B fl_RX12_55 gH97.1 kh0 rfl rfl rfl rfl rfl dX12_readPiece_98 (fun q_28 s_28 k_q_28 => ?_)
    refine lv_iload_n hx hb dX12_readPiece_101 rfl (lv_at hl 1 rfl) ?_
    refine lv_iconst (v := 0) hx hb dX12_readPiece_102 (by decide) ?_
    have := kl_0
    refine g_zastI (i := v97_1) (N := 12) B hV gH97 k_q_28 rfl rfl rfl rfl (by omega) (by omega) rfl (by omega) (by omega) rfl dX12_readPiece_103 (fun H29 lc29 gH29 uH29 => ?_)
    have s_30 := uH29.keep (Or.inl (k_ne kh0 k_q_28 rfl)) s97_u97_h0_4
    have s_31 := uH29.keep (Or.inl (k_ne kh0 k_q_28 rfl)) s97_u97_h0_5
    have s_32 := uH29.keep (Or.inl (k_ne kh0 k_q_28 rfl)) s97_u97_h0_27
    have s_33 := uH29.keep (Or.inl (k_ne kh0 k_q_28 rfl)) s97_u97_h0_14
    have s_34 := uH29.keep (Or.inl (k_ne kpa k_q_28 rfl)) s97_u97_pa_erbv
    have s_35 := uH29.keep (Or.inl (k_ne kh0 k_q_28 rfl)) s97_u97_h0_8
    have s_36 := uH29.keep (Or.inl (k_ne kh0 k_q_28 rfl)) s97_u97_h0_9
    refine lv_aload_n hx hb dX12_readPiece_104 rfl (lv_at hl 0 rfl) ?_
    refine g_getR B fl_RX12_42 gH29.1 kh0 rfl rfl rfl rfl rfl dX12_readPiece_105 (fun q_37 s_37 k_q_37 => ?_)
    refine lv_iload_n hx hb dX12_readPiece_108 rfl (lv_at hl 1 rfl) ?_
    refine lv_iconst (v := 0) hx hb dX12_readPiece_109 (by decide) ?_
    have := kl_0
    refine g_iastI (i := v97_1) (N := 12) B hV gH29 k_q_37 rfl rfl rfl rfl (by omega) (by omega) rfl (by omega) (by omega) rfl dX12_readPiece_110 (fun H38 lc38 gH38 uH38 => ?_)
    have s_39 := uH38.keep (Or.inl (k_ne kh0 k_q_37 rfl)) s_30
    have s_40 := uH38.keep (Or.inl (k_ne kh0 k_q_37 rfl)) s_31
    have s_41 := uH38.keep (Or.inl (k_ne kh0 k_q_37 rfl)) s_32
    have s_42 := uH38.keep (Or.inl (k_ne kh0 k_q_37 rfl)) s_33
    have s_43 := uH38.keep (Or.inl (k_ne kpa k_q_37 rfl)) s_34
    have s_44 := uH38.keep (Or.inl (k_ne kh0 k_q_37 rfl)) s_35
    have s_45 := uH38.keep (Or.inl (k_ne kh0 k_q_37 rfl)) s_36
    have s_46 := uH38.keep (Or.inl (k_ne k_q_28 k_q_37 rfl)) uH29.2.1
    exact b111 3300 H38 lc38 ls v97_1 u97_h0_5 u97_h0_8 u97_h0_9 (by omega) gH38 (lv_sub hl [0, 1] rfl) (by omega) (by omega) (by omega) (by omega) (by omega) (by omega) (by omega) (by omega) s_39 s_40 s_41 s_42 s_43 s_44 s_45 (by omega) (by omega) (by omega) (by omega)
  have b49 : ∀ (H49 : Heap) (lc49 : List Loc) (ls : Array Slot) (v49_1 : Int32) (u49_h0_5 : Int32), zG E wS_X12_readPiece H0 H49 lc49 → lv_has ls 2 [(0, .ref h0), (1, .int v49_1)] → 0 ≤ v49_1.toInt → v49_1.toInt ≤ 11 → 0 ≤ u49_h0_5.toInt → u49_h0_5.toInt ≤ 5 → sl H49 h0 (zix E 13 8) = some (.int e0) → sl H49 h0 (zix E 13 4) = some (.int sz) → sl H49 h0 (zix E 13 9) = some (.int t0) → sl H49 h0 (zix E 13 5) = some (.int u49_h0_5) → sl H49 h0 (zix E 13 27) = some (.int rbv) → sl H49 h0 (zix E 13 14) = some (.ref pa) → sl H49 pa rbv.toNatClampNeg = some (.int pcv) → fk.toInt = 0 ∨ u49_h0_5.toInt ≠ 0 → W p l e rm_X12_readPiece s m args below meth c H49 lc49 0 0 Q (F0 m 49 ls []) := by
    intro H49 lc49 ls v49_1 u49_h0_5 gH49 hl f49_1 f49_2 f49_3 f49_4 s49_u49_h0_8 s49_u49_h0_4 s49_u49_h0_9 s49_u49_h0_5 s49_u49_h0_27 s49_u49_h0_14 s49_u49_pa_erbv f49_5
    refine lv_aload_n hx hb dX12_readPiece_49 rfl (lv_at hl 0 rfl) ?_
    refine zkPI (zrV (rest := []) B (c_X12_isGood l E hV H49 gH49.1 h0 kh0 u49_h0_5 s49_u49_h0_5) cl_RX12_194 gH49.1 kh0 rfl rfl rfl rfl hl.1 rfl (Nat.le_of_ble_eq_true rfl) dX12_readPiece_50 rfl rfl ⟨rfl, rfl⟩ ⟨Nat.zero_le _, Nat.zero_le _⟩ (zO.of gH49 hh)) (fun x_47 hp_47 => ?_)
    obtain ⟨hp_47_1, hp_47_2, hp_47_3⟩ := hp_47
    refine lv_if_ne (tgt := 57) hx hb dX12_readPiece_53 (by decide) (fun c_48 => ?_) (fun c_48 => ?_)
    · have f_48 := z_ne c_48 rfl kl_0
      refine lv_aload_n hx hb dX12_readPiece_57 rfl (lv_at hl 0 rfl) ?_
      refine g_getR B fl_RX12_64 gH49.1 kh0 rfl rfl rfl rfl rfl dX12_readPiece_58 (fun q_49 s_49 k_q_49 => ?_)
      refine lv_iload_n hx hb dX12_readPiece_61 rfl (lv_at hl 1 rfl) ?_
      refine lv_aload_n hx hb dX12_readPiece_62 rfl (lv_at hl 0 rfl) ?_
      refine g_getL B fl_RX12_176 gH49.1 kh0 rfl rfl rfl rfl rfl dX12_readPiece_63 (fun y_50 s_50 => ?_)
      refine g_lastI (i := v49_1) (N := 12) B hV gH49 k_q_49 rfl rfl rfl rfl (by omega) (by omega) rfl rfl dX12_readPiece_66 (fun H51 lc51 gH51 uH51 => ?_)
      have s_52 := uH51.keep (Or.inl (k_ne kh0 k_q_49 rfl)) s49_u49_h0_8
      have s_53 := uH51.keep (Or.inl (k_ne kh0 k_q_49 rfl)) s49_u49_h0_4
      have s_54 := uH51.keep (Or.inl (k_ne kh0 k_q_49 rfl)) s49_u49_h0_9
      have s_55 := uH51.keep (Or.inl (k_ne kh0 k_q_49 rfl)) s49_u49_h0_5
      have s_56 := uH51.keep (Or.inl (k_ne kh0 k_q_49 rfl)) s49_u49_h0_27
      have s_57 := uH51.keep (Or.inl (k_ne kh0 k_q_49 rfl)) s49_u49_h0_14
      have s_58 := uH51.keep (Or.inl (k_ne kpa k_q_49 rfl)) s49_u49_pa_erbv
      refine lv_aload_n hx hb dX12_readPiece_67 rfl (lv_at hl 0 rfl) ?_
      refine zkV (zrV (rest := []) B (c_X12_goOn l E hV H51 gH51.1 h0 kh0 e0 s_52 (by omega) (by omega) sz s_53 (by omega)) cl_RX12_198 gH51.1 kh0 rfl rfl rfl rfl hl.1 rfl (Nat.le_of_ble_eq_true rfl) dX12_readPiece_68 rfl rfl ⟨rfl, rfl⟩ ⟨Nat.zero_le _, Nat.zero_le _⟩ (zO.of gH51 hh)) gH51 rfl (fun H59 lc59 hp_59 gH59 rH59 => ?_)
      have s_60 := rH59.keep hV kh0 rfl s_53
      have s_61 := rH59.keep hV kh0 rfl s_55
      have s_62 := rH59.keep hV kh0 rfl s_56
      have s_63 := rH59.keep hV kh0 rfl s_57
      have s_64 := rH59.keepA kpa rfl s_58
      have s_65 := rH59.keepA k_q_49 rfl uH51.2.1
      obtain ⟨k_66, sk_66, ak_66, bk_66, fk_66_0, fk_66_1, k_67, sk_67, ak_67, bk_67, fk_67_0⟩ := hp_59
      refine lv_aload_n hx hb dX12_readPiece_71 rfl (lv_at hl 0 rfl) ?_
      refine g_getR B fl_RX12_51 gH59.1 kh0 rfl rfl rfl rfl rfl dX12_readPiece_72 (fun q_68 s_68 k_q_68 => ?_)
      refine lv_iload_n hx hb dX12_readPiece_75 rfl (lv_at hl 1 rfl) ?_
      refine lv_aload_n hx hb dX12_readPiece_76 rfl (lv_at hl 0 rfl) ?_
      refine lv_ldc2 hx hb B.2.2.2.1 (B.2.2.2.2.1 _ (mc_wsL_law_r25 _ (List.mem_of_getElem? (i := 23) rfl))) dX12_readPiece_77 ?_
      obtain ⟨y_69, s_69⟩ := HT.atL gH59.1 kh0 rfl (j := 11) (by decide) rfl
      refine zkPI (zrV (rest := [.int v49_1, .ref q_68]) B (c_X12_isWord l E hV H59 gH59.1 h0 kh0 (1802071655 : Int64) k_67 sk_67 y_69 s_69) cl_RX12_226 gH59.1 kh0 rfl rfl rfl rfl hl.1 rfl (Nat.le_of_ble_eq_true rfl) dX12_readPiece_80 rfl rfl ⟨rfl, rfl⟩ ⟨Nat.zero_le _, Nat.zero_le _⟩ (zO.of gH59 hh)) (fun x_70 hp_70 => ?_)
      obtain ⟨hp_70_1, hp_70_2, hp_70_3⟩ := hp_70
      have := kL_1802071655
      refine g_zastI (i := v49_1) (N := 12) B hV gH59 k_q_68 rfl rfl rfl rfl (by omega) (by omega) rfl (by omega) (by omega) rfl dX12_readPiece_83 (fun H71 lc71 gH71 uH71 => ?_)
      have s_72 := uH71.keep (Or.inl (k_ne kh0 k_q_68 rfl)) s_60
      have s_73 := uH71.keep (Or.inl (k_ne kh0 k_q_68 rfl)) s_61
      have s_74 := uH71.keep (Or.inl (k_ne kh0 k_q_68 rfl)) s_62
      have s_75 := uH71.keep (Or.inl (k_ne kh0 k_q_68 rfl)) s_63
      have s_76 := uH71.keep (Or.inl (k_ne kpa k_q_68 rfl)) s_64
      have s_77 := uH71.keep (Or.inl (k_ne k_q_49 k_q_68 rfl)) s_65
      have s_78 := uH71.keep (Or.inl (k_ne kh0 k_q_68 rfl)) sk_66
      have s_79 := uH71.keep (Or.inl (k_ne kh0 k_q_68 rfl)) sk_67
      have s_80 := uH71.keep (Or.inl (k_ne kh0 k_q_68 rfl)) s_68
      refine lv_aload_n hx hb dX12_readPiece_84 rfl (lv_at hl 0 rfl) ?_
      refine g_get B fl_RX12_51 gH71.1 kh0 rfl rfl rfl dX12_readPiece_85 s_80 ?_
      refine lv_iload_n hx hb dX12_readPiece_88 rfl (lv_at hl 1 rfl) ?_
      refine g_zald (i := v49_1) (N := 12) B gH71.1 k_q_68 rfl rfl rfl rfl (by omega) (by omega) uH71.2.1 dX12_readPiece_89 ?_
      refine lv_if_eq (tgt := 97) hx hb dX12_readPiece_90 (by decide) (fun c_81 => ?_) (fun c_81 => ?_)
      · have f_81 := z_eq c_81 rfl kl_0
        exact b97 H71 lc71 ls v49_1 u49_h0_5 k_66 k_67 gH71 (lv_sub hl [0, 1] rfl) (by omega) (by omega) (by omega) (by omega) (by omega) (by omega) (by omega) (by omega) s_72 s_73 s_74 s_75 s_76 s_78 s_79 (by omega) (by omega) (by omega) (by omega)
      · have f_81 := z_ne c_81 rfl kl_0
        refine lv_aload_n hx hb dX12_readPiece_93 rfl (lv_at hl 0 rfl) ?_
        refine zkV (zrV (rest := []) B (c_X12_goOn l E hV H71 gH71.1 h0 kh0 k_66 s_78 (by omega) (by omega) sz s_72 (by omega)) cl_RX12_198 gH71.1 kh0 rfl rfl rfl rfl hl.1 rfl (Nat.le_of_ble_eq_true rfl) dX12_readPiece_94 rfl rfl ⟨rfl, rfl⟩ ⟨Nat.zero_le _, Nat.zero_le _⟩ (zO.of gH71 hh)) gH71 rfl (fun H82 lc82 hp_82 gH82 rH82 => ?_)
        have s_83 := rH82.keep hV kh0 rfl s_72
        have s_84 := rH82.keep hV kh0 rfl s_73
        have s_85 := rH82.keep hV kh0 rfl s_74
        have s_86 := rH82.keep hV kh0 rfl s_75
        have s_87 := rH82.keepA kpa rfl s_76
        have s_88 := rH82.keepA k_q_49 rfl s_77
        have s_89 := rH82.keepA k_q_68 rfl uH71.2.1
        obtain ⟨k_90, sk_90, ak_90, bk_90, fk_90_0, fk_90_1, k_91, sk_91, ak_91, bk_91, fk_91_0⟩ := hp_82
        exact b97 H82 lc82 ls v49_1 u49_h0_5 k_90 k_91 gH82 (lv_sub hl [0, 1] rfl) (by omega) (by omega) (by omega) (by omega) (by omega) (by omega) (by omega) (by omega) s_83 s_84 s_85 s_86 s_87 sk_90 sk_91 (by omega) (by omega) (by omega) (by omega)
    · have f_48 := z_eq c_48 rfl kl_0
      exact rtV B hr hlk hh hQ gH49 ⟨e0, s49_u49_h0_8, by omega, by omega, by omega, by omega, t0, s49_u49_h0_9, by omega, by omega, by omega, u49_h0_5, s49_u49_h0_5, by omega, by omega, by omega⟩ dX12_readPiece_56
  refine lv_bipush (v := 6) hx hb dX12_readPiece_0 (by decide) ?_
  refine lv_aload_n hx hb dX12_readPiece_2 rfl (lv_at hl 0 rfl) ?_
  refine g_get B fl_RX12_204 hT0 kh0 rfl rfl rfl dX12_readPiece_3 s_rbv ?_
  refine lv_imul hx hb dX12_readPiece_6 ?_
  refine lv_topi (fun x_92 e_92 => ?_)
  have t_92 := z_mul e_92 kl_6 rfl (by omega) (by omega)
  refine lv_aload_n hx hb dX12_readPiece_7 rfl (lv_at hl 0 rfl) ?_
  refine g_get B fl_RX12_30 hT0 kh0 rfl rfl rfl dX12_readPiece_8 s_pa ?_
  refine lv_aload_n hx hb dX12_readPiece_11 rfl (lv_at hl 0 rfl) ?_
  refine g_get B fl_RX12_204 hT0 kh0 rfl rfl rfl dX12_readPiece_12 s_rbv ?_
  refine g_iald (i := rbv) (N := 2) B hT0 kpa rfl rfl rfl rfl (by omega) (by omega) s_pcv dX12_readPiece_15 ?_
  refine lv_iadd hx hb dX12_readPiece_16 ?_
  refine lv_topi (fun x_93 e_93 => ?_)
  have t_93 := z_add e_93 rfl rfl (by omega) (by omega)
  refine lv_istore_n (lv' := [(1, .int x_93), (0, .ref h0)]) hx hb dX12_readPiece_17 rfl hl (by decide) rfl (fun ls hl => ?_)
  refine lv_aload_n hx hb dX12_readPiece_18 rfl (lv_at hl 1 rfl) ?_
  refine g_get B fl_RX12_169 hT0 kh0 rfl rfl rfl dX12_readPiece_19 s_t0 ?_
  refine lv_iconst (v := 2) hx hb dX12_readPiece_22 (by decide) ?_
  refine lv_icmp_eq (tgt := 33) hx hb dX12_readPiece_23 (by decide) (fun c_94 => ?_) (fun c_94 => ?_)
  · have f_94 := z_eq c_94 rfl kl_2
    refine lv_aload_n hx hb dX12_readPiece_33 rfl (lv_at hl 1 rfl) ?_
    refine zkPI (zrV (rest := []) B (c_X12_pieceHere l E hV H0 hT0 h0 kh0) cl_RX12_250 hT0 kh0 rfl rfl rfl rfl hl.1 rfl (Nat.le_of_ble_eq_true rfl) dX12_readPiece_34 rfl rfl ⟨rfl, rfl⟩ ⟨Nat.zero_le _, Nat.zero_le _⟩ (zO.of hG0 hh)) (fun x_95 hp_95 => ?_)
    obtain ⟨hp_95_1, hp_95_2⟩ := hp_95
    refine lv_if_lt (tgt := 49) hx hb dX12_readPiece_37 (by decide) (fun c_96 => ?_) (fun c_96 => ?_)
    · have f_96 := z_lt c_96 rfl kl_0
      exact b49 H0 [] ls x_93 fk hG0 (lv_sub hl [1, 0] rfl) (by omega) (by omega) (by omega) (by omega) s_e0 s_sz s_t0 s_fk s_rbv s_pa s_pcv (by omega)
    · have f_96 := z_nlt c_96 rfl kl_0
      refine lv_aload_n hx hb dX12_readPiece_40 rfl (lv_at hl 1 rfl) ?_
      refine lv_iconst (v := 3) hx hb dX12_readPiece_41 (by decide) ?_
      refine lv_aload_n hx hb dX12_readPiece_42 rfl (lv_at hl 1 rfl) ?_
      refine g_getI B fl_RX12_162 hT0 kh0 rfl rfl rfl rfl rfl dX12_readPiece_43 (fun x_97 s_97 a_97 b_97 => ?_)
      have := kl_3
      refine zkV (zrV (rest := []) B (c_X12_fails l E hV H0 hT0 h0 kh0 3 (by omega) (by omega) x_97 fk s_fk) cl_RX12_190 hT0 kh0 rfl rfl rfl rfl hl.1 rfl (Nat.le_of_ble_eq_true rfl) dX12_readPiece_46 rfl rfl ⟨rfl, rfl⟩ ⟨Nat.zero_le _, Nat.zero_le _⟩ (zO.of hG0 hh)) hG0 rfl (fun H98 lc98 hp_98 gH98 rH98 => ?_)
      have s_99 := rH98.keep hV kh0 rfl s_e0
      have s_100 := rH98.keep hV kh0 rfl s_sz
      have s_101 := rH98.keep hV kh0 rfl s_t0
      have s_102 := rH98.keep hV kh0 rfl s_rbv
      have s_103 := rH98.keep hV kh0 rfl s_pa
      have s_104 := rH98.keepA kpa rfl s_pcv
      obtain ⟨k_105, sk_105, ak_105, bk_105⟩ := hp_98
      have := kl_3
      exact b49 H98 lc98 ls x_93 k_105 gH98 (lv_sub hl [1, 0] rfl) (by omega) (by omega) (by omega) (by omega) s_99 s_100 s_101 sk_105 s_102 s_103 s_104 (by omega)
  · have f_94 := z_ne c_94 rfl kl_2
    refine lv_aload_n hx hb dX12_readPiece_26 rfl (lv_at hl 1 rfl) ?_
    refine zkV (zrV (rest := []) B (c_X12_misplaced l E hV H0 hT0 h0 kh0 fk s_fk) cl_RX12_201 hT0 kh0 rfl rfl rfl rfl hl.1 rfl (Nat.le_of_ble_eq_true rfl) dX12_readPiece_27 rfl rfl ⟨rfl, rfl⟩ ⟨Nat.zero_le _, Nat.zero_le _⟩ (zO.of hG0 hh)) hG0 rfl (fun H106 lc106 hp_106 gH106 rH106 => ?_)
    have s_107 := rH106.keep hV kh0 rfl s_e0
    have s_108 := rH106.keep hV kh0 rfl s_sz
    have s_109 := rH106.keep hV kh0 rfl s_t0
    have s_110 := rH106.keep hV kh0 rfl s_rbv
    have s_111 := rH106.keep hV kh0 rfl s_pa
    have s_112 := rH106.keepA kpa rfl s_pcv
    obtain ⟨k_113, sk_113, ak_113, bk_113⟩ := hp_106
    refine lv_goto (tgt := 49) hx hb dX12_readPiece_30 (by decide) ?_
    exact b49 H106 lc106 ls x_93 k_113 gH106 (lv_sub hl [1, 0] rfl) (by omega) (by omega) (by omega) (by omega) s_107 s_108 s_109 sk_113 s_110 s_111 s_112 (by omega)
