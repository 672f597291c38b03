theorem dL_law_0 : decode cL_law 0 = .ok (.new 7, 3) := by decide +kernel
theorem dL_law_11 : decode cL_law 11 = .ok (.dup, 1) := by decide +kernel
theorem dL_law_12 : decode cL_law 12 = .ok (.invokespecial 12, 3) := by decide +kernel
theorem dL_law_15 : decode cL_law 15 = .ok (.astore_n 2, 1) := by decide +kernel
theorem dL_law_16 : decode cL_law 16 = .ok (.iconst 0, 1) := by decide +kernel
theorem dL_law_17 : decode cL_law 17 = .ok (.istore_n 3, 1) := by decide +kernel
theorem dL_law_27 : decode cL_law 27 = .ok (.aload_n 0, 1) := by decide +kernel
theorem dL_law_28 : decode cL_law 28 = .ok (.iload_n 3, 1) := by decide +kernel
theorem dL_law_29 : decode cL_law 29 = .ok (.iaload, 1) := by decide +kernel
theorem dL_law_3 : decode cL_law 3 = .ok (.dup, 1) := by decide +kernel
theorem dL_law_30 : decode cL_law 30 = .ok (.bipush 31, 2) := by decide +kernel
theorem dL_law_32 : decode cL_law 32 = .ok (.iand, 1) := by decide +kernel
theorem dL_law_4 : decode cL_law 4 = .ok (.invokespecial 9, 3) := by decide +kernel
theorem dL_law_7 : decode cL_law 7 = .ok (.astore_n 1, 1) := by decide +kernel
theorem dL_law_8 : decode cL_law 8 = .ok (.new 10, 3) := by decide +kernel
theorem fsX11 : ∀ j, j < 12 → defaultValue (tyX11 j) = vp_V [.null, .int 0, .null, .null, .null, .null, .null, .null, .null, .null, .null, .null] j := fun j hj => match j, hj with
  | 0, _ => rfl
  | 1, _ => rfl
  | 2, _ => rfl
  | 3, _ => rfl
  | 4, _ => rfl
  | 5, _ => rfl
  | 6, _ => rfl
  | 7, _ => rfl
  | 8, _ => rfl
  | 9, _ => rfl
  | 10, _ => rfl
  | 11, _ => rfl
  | j + 12, h => absurd h (by omega)
theorem fsX12 : ∀ j, j < 55 → defaultValue (tyX12 j) = vp_V [.null, .null, .null, .int 0, .int 0, .int 0, .int 0, .int 0, .int 0, .int 0, .int 0, .long 0, .null, .null, .null, .null, .null, .null, .null, .null, .null, .null, .null, .null, .null, .null, .int 0, .int 0, .int 0, .int 0, .null, .null, .int 0, .null, .null, .null, .null, .int 0, .int 0, .int 0, .null, .null, .null, .null, .null, .null, .null, .int 0, .int 0, .null, .null, .null, .null, .null, .null] j := fun j hj => match j, hj with
  | 0, _ => rfl
  | 1, _ => rfl
  | 2, _ => rfl
  | 3, _ => rfl
  | 4, _ => rfl
  | 5, _ => rfl
  | 6, _ => rfl
  | 7, _ => rfl
  | 8, _ => rfl
  | 9, _ => rfl
  | 10, _ => rfl
  | 11, _ => rfl
  | 12, _ => rfl
  | 13, _ => rfl
  | 14, _ => rfl
  | 15, _ => rfl
  | 16, _ => rfl
  | 17, _ => rfl
  | 18, _ => rfl
  | 19, _ => rfl
  | 20, _ => rfl
  | 21, _ => rfl
  | 22, _ => rfl
  | 23, _ => rfl
  | 24, _ => rfl
  | 25, _ => rfl
  | 26, _ => rfl
  | 27, _ => rfl
  | 28, _ => rfl
  | 29, _ => rfl
  | 30, _ => rfl
  | 31, _ => rfl
  | 32, _ => rfl
  | 33, _ => rfl
  | 34, _ => rfl
  | 35, _ => rfl
  | 36, _ => rfl
  | 37, _ => rfl
  | 38, _ => rfl
  | 39, _ => rfl
  | 40, _ => rfl
  | 41, _ => rfl
  | 42, _ => rfl
  | 43, _ => rfl
  | 44, _ => rfl
  | 45, _ => rfl
  | 46, _ => rfl
  | 47, _ => rfl
  | 48, _ => rfl
  | 49, _ => rfl
  | 50, _ => rfl
  | 51, _ => rfl
  | 52, _ => rfl
  | 53, _ => rfl
  | 54, _ => rfl
  | j + 55, h => absurd h (by omega)
set_option maxHeartbeats 8000000 in
set_option maxRecDepth 100000 in
theorem whole_start {p : Program} {e : Env} {s : State} {m : MethodId} {below : List Frame} {meth : Method} {c : Code} (l : Launch) {b L : Nat} {xs : Nat → Int32} (hL : L ≤ 6) (C0 : lw_At p s m meth c b L xs) : W p l e room_1 s m #[Value.ref b] below meth c s.heap [] 0 0 (lw_Z below #[Value.ref b] s) (entryFrame m ([Value.ref b] : List Value).toArray 4) := by
  obtain ⟨hx, hb, hr, hml, hown0, hts0, hX, hbl, hlocks, hgv⟩ := id C0
  have hown : s.vm.findClass RL = some m.cls := hown0
  have hts : ∀ w ∈ wsL_law, w.before #[Value.ref b] s = true := fun w h => hts0 w (wsL_law_in w h)
  obtain ⟨A, hAe⟩ : ∃ A : Nat → Prop, A = (fun q : Nat => s.heap.size ≤ q) := ⟨_, rfl⟩
  have hA : ∀ q : Nat, s.heap.size ≤ q → A q := by rw [hAe]; exact fun _ h => h
  have hbA : ¬ A b := by rw [hAe]; exact Nat.not_le.mpr hbl
  obtain ⟨c0, i0, hKn0⟩ := u_known (C := RX0) (T := TX0) (N := 7) (n := 7) hts inlX0 (hts (.instantiable RX0 7) (mL_wsL_law_r2 _ (List.mem_of_getElem? (i := 17) rfl)))
  obtain ⟨c1, i1, hKn1⟩ := u_known (C := RX1) (T := TX1) (N := 7) (n := 7) hts inlX1 (hts (.instantiable RX1 7) (mL_wsL_law_r2 _ (List.mem_of_getElem? (i := 13) rfl)))
  obtain ⟨c2, i2, hKn2⟩ := u_known (C := RX2) (T := TX2) (N := 12) (n := 12) hts inlX2 (hts (.instantiable RX2 12) (mL_wsL_law_r2 _ (List.mem_of_getElem? (i := 1) rfl)))
  obtain ⟨c3, i3, hKn3⟩ := u_known (C := RX3) (T := TX3) (N := 9) (n := 9) hts inlX3 (hts (.instantiable RX3 9) (mL_wsL_law_r2 _ (List.mem_of_getElem? (i := 9) rfl)))
  obtain ⟨c4, i4, hKn4⟩ := u_known (C := RX4) (T := TX4) (N := 7) (n := 7) hts inlX4 (hts (.instantiable RX4 7) (mL_wsL_law_r3 _ (List.mem_of_getElem? (i := 22) rfl)))
  obtain ⟨c5, i5, hKn5⟩ := u_known (C := RX5) (T := TX5) (N := 10) (n := 10) hts inlX5 (hts (.instantiable RX5 10) (mL_wsL_law_r1 _ (List.mem_of_getElem? (i := 21) rfl)))
  obtain ⟨c6, i6, hKn6⟩ := u_known (C := RX6) (T := TX6) (N := 3) (n := 3) hts inlX6 (hts (.instantiable RX6 3) (mL_wsL_law_r2 _ (List.mem_of_getElem? (i := 5) rfl)))
  obtain ⟨c7, i7, hKn7⟩ := u_known (C := RX7) (T := TX7) (N := 8) (n := 8) hts inlX7 (hts (.instantiable RX7 8) (mL_wsL_law_r2 _ (List.mem_of_getElem? (i := 21) rfl)))
  obtain ⟨c8, i8, hKn8⟩ := u_known (C := RX8) (T := TX8) (N := 10) (n := 10) hts inlX8 (hts (.instantiable RX8 10) (mL_wsL_law_r3 _ (List.mem_of_getElem? (i := 1) rfl)))
  obtain ⟨c9, i9, hKn9⟩ := u_known (C := RX9) (T := TX9) (N := 5) (n := 5) hts inlX9 (hts (.instantiable RX9 5) (mL_wsL_law_r5 _ (List.mem_of_getElem? (i := 0) rfl)))
  obtain ⟨c10, i10, hKn10⟩ := u_known (C := RX10) (T := TX10) (N := 13) (n := 13) hts inlX10 (hts (.instantiable RX10 13) (mL_wsL_law_r1 _ (List.mem_of_getElem? (i := 16) rfl)))
  obtain ⟨c11, i11, hKn11⟩ := u_known (C := RX11) (T := TX11) (N := 12) (n := 12) hts inlX11 (hts (.instantiable RX11 12) (mL_wsL_law_r1 _ (List.mem_of_getElem? (i := 1) rfl)))
  obtain ⟨c12, i12, hKn12⟩ := u_known (C := RX12) (T := TX12) (N := 55) (n := 55) hts inlX12 (hts (.instantiable RX12 55) (mL_wsL_law_r1 _ (List.mem_of_getElem? (i := 4) rfl)))
  obtain ⟨D, hKc⟩ : ∃ D : va_G, ∀ (k : Nat) (q : vw_C), vwCl[k]? = some q → u_Kn s q.1 q.2.1 q.2.2 (D.1 k) (D.2 k) := by
    refine ⟨((fun k => match k with | 0 => c0 | 1 => c1 | 2 => c2 | 3 => c3 | 4 => c4 | 5 => c5 | 6 => c6 | 7 => c7 | 8 => c8 | 9 => c9 | 10 => c10 | 11 => c11 | _ => c12), (fun k => match k with | 0 => i0 | 1 => i1 | 2 => i2 | 3 => i3 | 4 => i4 | 5 => i5 | 6 => i6 | 7 => i7 | 8 => i8 | 9 => i9 | 10 => i10 | 11 => i11 | _ => i12)), ?_⟩
    intro k q hq
    match k, hq with
    | 0, hq => cases hq; exact hKn0
    | 1, hq => cases hq; exact hKn1
    | 2, hq => cases hq; exact hKn2
    | 3, hq => cases hq; exact hKn3
    | 4, hq => cases hq; exact hKn4
    | 5, hq => cases hq; exact hKn5
    | 6, hq => cases hq; exact hKn6
    | 7, hq => cases hq; exact hKn7
    | 8, hq => cases hq; exact hKn8
    | 9, hq => cases hq; exact hKn9
    | 10, hq => cases hq; exact hKn10
    | 11, hq => cases hq; exact hKn11
    | 12, hq => cases hq; exact hKn12
    | k + 13, hq => simp [vwCl] at hq
  have hS : va_S A s.heap s.heap [] := va_S.rf
  have hK : va_K D vwCl [] s := ⟨hKc, fun k q h => by simp at h⟩
  have hP : va_P D vwCl [] s.heap := fun k q h => by simp at h
  have hD : va_D A [] := ⟨fun i j p q h => by simp at h, fun k q h => by simp at h⟩
  have hN : zN s := zN_of hts0
  have hl := lv_entry ([.ref b]) (n := 4) (Nat.le_of_ble_eq_true rfl)
  rw [lg_entry_eq]
  generalize (lg_sl ([.ref b]) ++ List.replicate (4 - (lg_sl ([.ref b])).length) Slot.unset).toArray = ls at hl ⊢
  have hl : lv_has ls 4 [(0, .ref b)] := hl
  refine va_new (ci := 11) (fs := [.null, .int 0, .null, .null, .null, .null, .null, .null, .null, .null, .null, .null]) (C := RX11) (T := TX11) (N := 12) hx hb hts iuL_law_X11 tyX11 tyX11_ok hown (hts (.classLink RL 7 RX11) (List.mem_of_getElem? (i := 0) rfl)) (hts (.instantiable RX11 12) (List.mem_of_getElem? (i := 1) rfl)) (hts (.initialized RX11) (List.mem_of_getElem? (i := 2) rfl)) hK hP hD hS hA rfl fsX11 (Nat.le_of_ble_eq_true rfl) (Nat.le_of_ble_eq_true rfl) dL_law_0 (fun qa_349 H hP hD hS => ?_)
  have hP : va_P D vwCl [(qa_349, .inr (11, [.null, .int 0, .null, .null, .null, .null, .null, .null, .null, .null, .null, .null]))] H := hP
  have hD : va_D A [(qa_349, .inr (11, [.null, .int 0, .null, .null, .null, .null, .null, .null, .null, .null, .null, .null]))] := hD
  refine W.widen (k := 1) (n := 12) (Nat.le_of_ble_eq_true rfl) (Nat.le_of_ble_eq_true rfl) ?_
  refine lv_dup hx hb dL_law_3 rfl ?_
  refine zA_v (zR_I (As := []) (rest := [.ref qa_349]) ⟨hx, hb, hml, hown, hts⟩ (zX11_init_1 l D qa_349 _) (cwI 0 hts gL_law_X11_init rfl rfl rfl (hts (.initialized RX11) (List.mem_of_getElem? (i := 2) rfl)) (hts (.methodLink RL 9 yX11_init) (List.mem_of_getElem? (i := 6) rfl)) (hts (.instanceMethod yX11_init) (List.mem_of_getElem? (i := 7) rfl)) rfl (by decide +kernel) ⟨(Nat.le_of_ble_eq_true rfl), (Nat.le_of_ble_eq_true rfl)⟩) hP hD hK hN [0] [] rfl (by decide) rfl rfl hl.1 rfl (Nat.le_of_ble_eq_true rfl) dL_law_4 ⟨(Nat.le_of_ble_eq_true rfl), (Nat.le_of_ble_eq_true rfl)⟩) hP hD hK hS hA [0] [] rfl rfl (by decide) (by decide) (fun u H locs hw hP hD hK hS => ?_)
  obtain ⟨qb_125, qb_126, qb_127, qb_128, qb_129, qb_130, qb_131, qb_132, qb_133, qb_134, qb_135, qb_136, qb_137, qb_138, qb_139, qb_140, qb_141, qb_142, qb_143, qb_144, qb_145, qb_146, qb_147, qb_148, qb_149, qb_150, qb_151, qb_152, qb_153, qb_154, qb_155, qb_156, qb_157, qb_158, qb_159, qb_160, qb_161, qb_162, qb_163, qb_164, qb_165, qb_166, qb_167, qb_168, qb_169, qb_170, qb_171, qb_172, qb_173, qb_174, qb_175, qb_176, qb_177, qb_178, qb_179, qb_180, qb_181, qb_182, qb_183, qb_184, qb_185, qb_186, qb_187, qb_188, qb_189, qb_190, qb_191, qb_192, qb_193, cm_35, cm_36, cm_37, cm_38, cm_39, cm_40, cm_41, cm_42, cm_43, cm_44, cm_45, cm_46, cm_47, cm_48, ff_366, ff_367, ff_368, ff_369, ff_370, ff_371, ff_372⟩ := u
  have hK : va_K D vwCl [(cm_35, .byte), (cm_36, .byte), (cm_37, .int), (cm_38, .int), (cm_39, .object RX4), (cm_40, .int), (cm_41, .int), (cm_42, .boolean), (cm_43, .boolean), (cm_44, .object RX4), (cm_45, .int), (cm_46, .object RX4), (cm_47, .object RX4), (cm_48, .object RX4)] s := hK
  have hP : va_P D vwCl [(qa_349, .inr (11, [.ref qb_125, .int 0, .ref qb_150, .ref qb_126, .ref qb_128, .ref qb_149, .ref qb_132, .ref qb_153, .ref qb_141, .ref qb_158, .ref qb_159, .ref qb_144])), (qb_125, .inl (cm_35, 1600, .inl (fun _ => 0))), (qb_126, .inr (10, [.int 0, .int 0, .int 0, .int 0, .int 0, .ref qb_160, .ref qb_161, .ref qb_162, .ref qb_163, .ref qb_164, .ref qb_165, .ref qb_166, .ref qb_127])), (qb_127, .inr (4, [.int 0, .int 0, .int 0, .int 0, .int 0, .int 0, .int 0])), (qb_128, .inr (5, [.int 0, .int (-1), .ref qb_129, .ref qb_126, .int 0, .int 0, .int 0, .int 0, .int 0, .ref qb_167])), (qb_129, .inr (9, [.int 0, .ref qb_130, .ref qb_131, .ref qb_125, .int 0])), (qb_130, .inl (cm_36, 1601, .inl (fun _ => 0))), (qb_131, .inl (cm_37, 1601, .inl (fun _ => 0))), (qb_132, .inr (6, [.ref qb_149, .ref qb_133, .int 0])), (qb_133, .inl (cm_39, 5, .inr (.inr (.inr (.inr ff_366))))), (qb_134, .inr (4, [.int 0, .int 0, .int 0, .int 0, .int 0, .int 0, .int 0])), (qb_135, .inl (cm_40, 240, .inl (fun _ => 0))), (qb_136, .inl (cm_41, 240, .inl (fun _ => 0))), (qb_137, .inl (cm_42, 240, .inl (fun _ => 0))), (qb_138, .inl (cm_43, 60, .inl (fun _ => 0))), (qb_139, .inr (4, [.int 0, .int 0, .int 0, .int 0, .int 0, .int 0, .int 0])), (qb_140, .inr (4, [.int 0, .int 0, .int 0, .int 0, .int 0, .int 0, .int 0])), (qb_141, .inr (1, [.ref qb_149, .ref qb_153, .ref qb_142, .ref qb_168, .int 0, .int 0, .ref qb_169])), (qb_142, .inl (cm_46, 64, .inr (.inr (.inr (.inr ff_367))))), (qb_143, .inr (4, [.int 0, .int 0, .int 0, .int 0, .int 0, .int 0, .int 0])), (qb_144, .inr (8, [.int 0, .int 0, .int 0, .int (-1), .ref qb_149, .ref qb_153, .ref qb_159, .ref qb_145, .ref qb_146, .int 0])), (qb_145, .inl (cm_47, 11, .inr (.inr (.inr (.inr ff_368))))), (qb_146, .inl (cm_48, 11, .inr (.inr (.inr (.inr ff_369))))), (qb_147, .inr (4, [.int 0, .int 0, .int 0, .int 0, .int 0, .int 0, .int 0])), (qb_148, .inr (4, [.int 0, .int 0, .int 0, .int 0, .int 0, .int 0, .int 0])), (qb_149, .inr (2, [.int 0, .int 0, .int 0, .int 0, .int 0, .ref qb_152, .ref qb_170, .ref qb_171, .ref qb_172, .ref qb_173, .ref qb_174, .ref qb_175])), (qb_150, .inr (10, [.int 0, .int 0, .int 0, .int 0, .int 0, .ref qb_176, .ref qb_177, .ref qb_178, .ref qb_179, .ref qb_180, .ref qb_181, .ref qb_182, .ref qb_151])), (qb_151, .inr (4, [.int 0, .int 0, .int 0, .int 0, .int 0, .int 0, .int 0])), (qb_152, .inl (cm_38, 180, .inl ff_370)), (qb_153, .inr (3, [.int 0, .int 0, .ref qb_135, .ref qb_136, .ref qb_137, .ref qb_138, .ref qb_149, .ref qb_154, .ref qb_157])), (qb_154, .inl (cm_44, 122, .inr (.inr (.inr (.inr ff_371))))), (qb_155, .inr (4, [.int 0, .int 0, .int 0, .int 0, .int 0, .int 0, .int 0])), (qb_156, .inr (4, [.int 0, .int 0, .int 0, .int 0, .int 0, .int 0, .int 0])), (qb_157, .inl (cm_45, 3, .inl ff_372)), (qb_158, .inr (0, [.int 0, .int 0, .ref qb_183, .ref qb_184, .ref qb_185, .ref qb_186, .ref qb_187])), (qb_159, .inr (7, [.int 0, .int 0, .ref qb_188, .ref qb_189, .ref qb_190, .ref qb_191, .ref qb_192, .ref qb_193]))] H := hP
  have hD : va_D A [(qa_349, .inr (11, [.ref qb_125, .int 0, .ref qb_150, .ref qb_126, .ref qb_128, .ref qb_149, .ref qb_132, .ref qb_153, .ref qb_141, .ref qb_158, .ref qb_159, .ref qb_144])), (qb_125, .inl (cm_35, 1600, .inl (fun _ => 0))), (qb_126, .inr (10, [.int 0, .int 0, .int 0, .int 0, .int 0, .ref qb_160, .ref qb_161, .ref qb_162, .ref qb_163, .ref qb_164, .ref qb_165, .ref qb_166, .ref qb_127])), (qb_127, .inr (4, [.int 0, .int 0, .int 0, .int 0, .int 0, .int 0, .int 0])), (qb_128, .inr (5, [.int 0, .int (-1), .ref qb_129, .ref qb_126, .int 0, .int 0, .int 0, .int 0, .int 0, .ref qb_167])), (qb_129, .inr (9, [.int 0, .ref qb_130, .ref qb_131, .ref qb_125, .int 0])), (qb_130, .inl (cm_36, 1601, .inl (fun _ => 0))), (qb_131, .inl (cm_37, 1601, .inl (fun _ => 0))), (qb_132, .inr (6, [.ref qb_149, .ref qb_133, .int 0])), (qb_133, .inl (cm_39, 5, .inr (.inr (.inr (.inr ff_366))))), (qb_134, .inr (4, [.int 0, .int 0, .int 0, .int 0, .int 0, .int 0, .int 0])), (qb_135, .inl (cm_40, 240, .inl (fun _ => 0))), (qb_136, .inl (cm_41, 240, .inl (fun _ => 0))), (qb_137, .inl (cm_42, 240, .inl (fun _ => 0))), (qb_138, .inl (cm_43, 60, .inl (fun _ => 0))), (qb_139, .inr (4, [.int 0, .int 0, .int 0, .int 0, .int 0, .int 0, .int 0])), (qb_140, .inr (4, [.int 0, .int 0, .int 0, .int 0, .int 0, .int 0, .int 0])), (qb_141, .inr (1, [.ref qb_149, .ref qb_153, .ref qb_142, .ref qb_168, .int 0, .int 0, .ref qb_169])), (qb_142, .inl (cm_46, 64, .inr (.inr (.inr (.inr ff_367))))), (qb_143, .inr (4, [.int 0, .int 0, .int 0, .int 0, .int 0, .int 0, .int 0])), (qb_144, .inr (8, [.int 0, .int 0, .int 0, .int (-1), .ref qb_149, .ref qb_153, .ref qb_159, .ref qb_145, .ref qb_146, .int 0])), (qb_145, .inl (cm_47, 11, .inr (.inr (.inr (.inr ff_368))))), (qb_146, .inl (cm_48, 11, .inr (.inr (.inr (.inr ff_369))))), (qb_147, .inr (4, [.int 0, .int 0, .int 0, .int 0, .int 0, .int 0, .int 0])), (qb_148, .inr (4, [.int 0, .int 0, .int 0, .int 0, .int 0, .int 0, .int 0])), (qb_149, .inr (2, [.int 0, .int 0, .int 0, .int 0, .int 0, .ref qb_152, .ref qb_170, .ref qb_171, .ref qb_172, .ref qb_173, .ref qb_174, .ref qb_175])), (qb_150, .inr (10, [.int 0, .int 0, .int 0, .int 0, .int 0, .ref qb_176, .ref qb_177, .ref qb_178, .ref qb_179, .ref qb_180, .ref qb_181, .ref qb_182, .ref qb_151])), (qb_151, .inr (4, [.int 0, .int 0, .int 0, .int 0, .int 0, .int 0, .int 0])), (qb_152, .inl (cm_38, 180, .inl ff_370)), (qb_153, .inr (3, [.int 0, .int 0, .ref qb_135, .ref qb_136, .ref qb_137, .ref qb_138, .ref qb_149, .ref qb_154, .ref qb_157])), (qb_154, .inl (cm_44, 122, .inr (.inr (.inr (.inr ff_371))))), (qb_155, .inr (4, [.int 0, .int 0, .int 0, .int 0, .int 0, .int 0, .int 0])), (qb_156, .inr (4, [.int 0, .int 0, .int 0, .int 0, .int 0, .int 0, .int 0])), (qb_157, .inl (cm_45, 3, .inl ff_372)), (qb_158, .inr (0, [.int 0, .int 0, .ref qb_183, .ref qb_184, .ref qb_185, .ref qb_186, .ref qb_187])), (qb_159, .inr (7, [.int 0, .int 0, .ref qb_188, .ref qb_189, .ref qb_190, .ref qb_191, .ref qb_192, .ref qb_193]))] := hD
  refine W.widen (k := 339) (n := 9341) (Nat.le_of_ble_eq_true rfl) (Nat.le_of_ble_eq_true rfl) ?_
  have hf_1253 : ff_366 0 = some qb_134 := hw.1
  have hf_1254 : ff_367 0 = some qb_143 := hw.2.1
  have hf_1255 : ff_368 0 = some qb_147 := hw.2.2.1
  have hf_1256 : ff_369 0 = some qb_148 := hw.2.2.2.1
  have hf_1257 : ff_371 0 = some qb_155 := hw.2.2.2.2.1
  have hf_1258 : ff_371 1 = some qb_156 := hw.2.2.2.2.2.1
  have hf_1259 : ff_371 2 = some qb_139 := hw.2.2.2.2.2.2.1
  have hf_1260 : ff_371 3 = some qb_140 := hw.2.2.2.2.2.2.2.1
  have hf_1261 : ff_372 0 = (-1) := hw.2.2.2.2.2.2.2.2.1
  have hf_1262 : ff_372 1 = (-1) := hw.2.2.2.2.2.2.2.2.2.1
  have hf_1263 : ff_372 2 = (-1) := hw.2.2.2.2.2.2.2.2.2.2
  refine lv_astore_n (lv' := [(1, .ref qa_349), (0, .ref b)]) hx hb dL_law_7 rfl hl (by decide) rfl (fun ls hl => ?_)
  refine va_new (ci := 12) (fs := [.null, .null, .null, .int 0, .int 0, .int 0, .int 0, .int 0, .int 0, .int 0, .int 0, .long 0, .null, .null, .null, .null, .null, .null, .null, .null, .null, .null, .null, .null, .null, .null, .int 0, .int 0, .int 0, .int 0, .null, .null, .int 0, .null, .null, .null, .null, .int 0, .int 0, .int 0, .null, .null, .null, .null, .null, .null, .null, .int 0, .int 0, .null, .null, .null, .null, .null, .null]) (C := RX12) (T := TX12) (N := 55) hx hb hts iuL_law_X12 tyX12 tyX12_ok hown (hts (.classLink RL 10 RX12) (List.mem_of_getElem? (i := 3) rfl)) (hts (.instantiable RX12 55) (List.mem_of_getElem? (i := 4) rfl)) (hts (.initialized RX12) (List.mem_of_getElem? (i := 5) rfl)) hK hP hD hS hA rfl fsX12 (Nat.le_of_ble_eq_true rfl) (Nat.le_of_ble_eq_true rfl) dL_law_8 (fun qa_350 H hP hD hS => ?_)
  have hP : va_P D vwCl [(qa_349, .inr (11, [.ref qb_125, .int 0, .ref qb_150, .ref qb_126, .ref qb_128, .ref qb_149, .ref qb_132, .ref qb_153, .ref qb_141, .ref qb_158, .ref qb_159, .ref qb_144])), (qb_125, .inl (cm_35, 1600, .inl (fun _ => 0))), (qb_126, .inr (10, [.int 0, .int 0, .int 0, .int 0, .int 0, .ref qb_160, .ref qb_161, .ref qb_162, .ref qb_163, .ref qb_164, .ref qb_165, .ref qb_166, .ref qb_127])), (qb_127, .inr (4, [.int 0, .int 0, .int 0, .int 0, .int 0, .int 0, .int 0])), (qb_128, .inr (5, [.int 0, .int (-1), .ref qb_129, .ref qb_126, .int 0, .int 0, .int 0, .int 0, .int 0, .ref qb_167])), (qb_129, .inr (9, [.int 0, .ref qb_130, .ref qb_131, .ref qb_125, .int 0])), (qb_130, .inl (cm_36, 1601, .inl (fun _ => 0))), (qb_131, .inl (cm_37, 1601, .inl (fun _ => 0))), (qb_132, .inr (6, [.ref qb_149, .ref qb_133, .int 0])), (qb_133, .inl (cm_39, 5, .inr (.inr (.inr (.inr ff_366))))), (qb_134, .inr (4, [.int 0, .int 0, .int 0, .int 0, .int 0, .int 0, .int 0])), (qb_135, .inl (cm_40, 240, .inl (fun _ => 0))), (qb_136, .inl (cm_41, 240, .inl (fun _ => 0))), (qb_137, .inl (cm_42, 240, .inl (fun _ => 0))), (qb_138, .inl (cm_43, 60, .inl (fun _ => 0))), (qb_139, .inr (4, [.int 0, .int 0, .int 0, .int 0, .int 0, .int 0, .int 0])), (qb_140, .inr (4, [.int 0, .int 0, .int 0, .int 0, .int 0, .int 0, .int 0])), (qb_141, .inr (1, [.ref qb_149, .ref qb_153, .ref qb_142, .ref qb_168, .int 0, .int 0, .ref qb_169])), (qb_142, .inl (cm_46, 64, .inr (.inr (.inr (.inr ff_367))))), (qb_143, .inr (4, [.int 0, .int 0, .int 0, .int 0, .int 0, .int 0, .int 0])), (qb_144, .inr (8, [.int 0, .int 0, .int 0, .int (-1), .ref qb_149, .ref qb_153, .ref qb_159, .ref qb_145, .ref qb_146, .int 0])), (qb_145, .inl (cm_47, 11, .inr (.inr (.inr (.inr ff_368))))), (qb_146, .inl (cm_48, 11, .inr (.inr (.inr (.inr ff_369))))), (qb_147, .inr (4, [.int 0, .int 0, .int 0, .int 0, .int 0, .int 0, .int 0])), (qb_148, .inr (4, [.int 0, .int 0, .int 0, .int 0, .int 0, .int 0, .int 0])), (qb_149, .inr (2, [.int 0, .int 0, .int 0, .int 0, .int 0, .ref qb_152, .ref qb_170, .ref qb_171, .ref qb_172, .ref qb_173, .ref qb_174, .ref qb_175])), (qb_150, .inr (10, [.int 0, .int 0, .int 0, .int 0, .int 0, .ref qb_176, .ref qb_177, .ref qb_178, .ref qb_179, .ref qb_180, .ref qb_181, .ref qb_182, .ref qb_151])), (qb_151, .inr (4, [.int 0, .int 0, .int 0, .int 0, .int 0, .int 0, .int 0])), (qb_152, .inl (cm_38, 180, .inl ff_370)), (qb_153, .inr (3, [.int 0, .int 0, .ref qb_135, .ref qb_136, .ref qb_137, .ref qb_138, .ref qb_149, .ref qb_154, .ref qb_157])), (qb_154, .inl (cm_44, 122, .inr (.inr (.inr (.inr ff_371))))), (qb_155, .inr (4, [.int 0, .int 0, .int 0, .int 0, .int 0, .int 0, .int 0])), (qb_156, .inr (4, [.int 0, .int 0, .int 0, .int 0, .int 0, .int 0, .int 0])), (qb_157, .inl (cm_45, 3, .inl ff_372)), (qb_158, .inr (0, [.int 0, .int 0, .ref qb_183, .ref qb_184, .ref qb_185, .ref qb_186, .ref qb_187])), (qb_159, .inr (7, [.int 0, .int 0, .ref qb_188, .ref qb_189, .ref qb_190, .ref qb_191, .ref qb_192, .ref qb_193])), (qa_350, .inr (12, [.null, .null, .null, .int 0, .int 0, .int 0, .int 0, .int 0, .int 0, .int 0, .int 0, .long 0, .null, .null, .null, .null, .null, .null, .null, .null, .null, .null, .null, .null, .null, .null, .int 0, .int 0, .int 0, .int 0, .null, .null, .int 0, .null, .null, .null, .null, .int 0, .int 0, .int 0, .null, .null, .null, .null, .null, .null, .null, .int 0, .int 0, .null, .null, .null, .null, .null, .null]))] H := hP
  have hD : va_D A [(qa_349, .inr (11, [.ref qb_125, .int 0, .ref qb_150, .ref qb_126, .ref qb_128, .ref qb_149, .ref qb_132, .ref qb_153, .ref qb_141, .ref qb_158, .ref qb_159, .ref qb_144])), (qb_125, .inl (cm_35, 1600, .inl (fun _ => 0))), (qb_126, .inr (10, [.int 0, .int 0, .int 0, .int 0, .int 0, .ref qb_160, .ref qb_161, .ref qb_162, .ref qb_163, .ref qb_164, .ref qb_165, .ref qb_166, .ref qb_127])), (qb_127, .inr (4, [.int 0, .int 0, .int 0, .int 0, .int 0, .int 0, .int 0])), (qb_128, .inr (5, [.int 0, .int (-1), .ref qb_129, .ref qb_126, .int 0, .int 0, .int 0, .int 0, .int 0, .ref qb_167])), (qb_129, .inr (9, [.int 0, .ref qb_130, .ref qb_131, .ref qb_125, .int 0])), (qb_130, .inl (cm_36, 1601, .inl (fun _ => 0))), (qb_131, .inl (cm_37, 1601, .inl (fun _ => 0))), (qb_132, .inr (6, [.ref qb_149, .ref qb_133, .int 0])), (qb_133, .inl (cm_39, 5, .inr (.inr (.inr (.inr ff_366))))), (qb_134, .inr (4, [.int 0, .int 0, .int 0, .int 0, .int 0, .int 0, .int 0])), (qb_135, .inl (cm_40, 240, .inl (fun _ => 0))), (qb_136, .inl (cm_41, 240, .inl (fun _ => 0))), (qb_137, .inl (cm_42, 240, .inl (fun _ => 0))), (qb_138, .inl (cm_43, 60, .inl (fun _ => 0))), (qb_139, .inr (4, [.int 0, .int 0, .int 0, .int 0, .int 0, .int 0, .int 0])), (qb_140, .inr (4, [.int 0, .int 0, .int 0, .int 0, .int 0, .int 0, .int 0])), (qb_141, .inr (1, [.ref qb_149, .ref qb_153, .ref qb_142, .ref qb_168, .int 0, .int 0, .ref qb_169])), (qb_142, .inl (cm_46, 64, .inr (.inr (.inr (.inr ff_367))))), (qb_143, .inr (4, [.int 0, .int 0, .int 0, .int 0, .int 0, .int 0, .int 0])), (qb_144, .inr (8, [.int 0, .int 0, .int 0, .int (-1), .ref qb_149, .ref qb_153, .ref qb_159, .ref qb_145, .ref qb_146, .int 0])), (qb_145, .inl (cm_47, 11, .inr (.inr (.inr (.inr ff_368))))), (qb_146, .inl (cm_48, 11, .inr (.inr (.inr (.inr ff_369))))), (qb_147, .inr (4, [.int 0, .int 0, .int 0, .int 0, .int 0, .int 0, .int 0])), (qb_148, .inr (4, [.int 0, .int 0, .int 0, .int 0, .int 0, .int 0, .int 0])), (qb_149, .inr (2, [.int 0, .int 0, .int 0, .int 0, .int 0, .ref qb_152, .ref qb_170, .ref qb_171, .ref qb_172, .ref qb_173, .ref qb_174, .ref qb_175])), (qb_150, .inr (10, [.int 0, .int 0, .int 0, .int 0, .int 0, .ref qb_176, .ref qb_177, .ref qb_178, .ref qb_179, .ref qb_180, .ref qb_181, .ref qb_182, .ref qb_151])), (qb_151, .inr (4, [.int 0, .int 0, .int 0, .int 0, .int 0, .int 0, .int 0])), (qb_152, .inl (cm_38, 180, .inl ff_370)), (qb_153, .inr (3, [.int 0, .int 0, .ref qb_135, .ref qb_136, .ref qb_137, .ref qb_138, .ref qb_149, .ref qb_154, .ref qb_157])), (qb_154, .inl (cm_44, 122, .inr (.inr (.inr (.inr ff_371))))), (qb_155, .inr (4, [.int 0, .int 0, .int 0, .int 0, .int 0, .int 0, .int 0])), (qb_156, .inr (4, [.int 0, .int 0, .int 0, .int 0, .int 0, .int 0, .int 0])), (qb_157, .inl (cm_45, 3, .inl ff_372)), (qb_158, .inr (0, [.int 0, .int 0, .ref qb_183, .ref qb_184, .ref qb_185, .ref qb_186, .ref qb_187])), (qb_159, .inr (7, [.int 0, .int 0, .ref qb_188, .ref qb_189, .ref qb_190, .ref qb_191, .ref qb_192, .ref qb_193])), (qa_350, .inr (12, [.null, .null, .null, .int 0, .int 0, .int 0, .int 0, .int 0, .int 0, .int 0, .int 0, .long 0, .null, .null, .null, .null, .null, .null, .null, .null, .null, .null, .null, .null, .null, .null, .int 0, .int 0, .int 0, .int 0, .null, .null, .int 0, .null, .null, .null, .null, .int 0, .int 0, .int 0, .null, .null, .null, .null, .null, .null, .null, .int 0, .int 0, .null, .null, .null, .null, .null, .null]))] := hD
  refine W.widen (k := 340) (n := 9396) (Nat.le_of_ble_eq_true rfl) (Nat.le_of_ble_eq_true rfl) ?_
  refine lv_dup hx hb dL_law_11 rfl ?_
  refine zA_v (zR_I (As := []) (rest := [.ref qa_350]) ⟨hx, hb, hml, hown, hts⟩ (zX12_init_1 l D qa_350 _) (cwI 0 hts gL_law_X12_init rfl rfl rfl (hts (.initialized RX12) (List.mem_of_getElem? (i := 5) rfl)) (hts (.methodLink RL 12 yX12_init) (List.mem_of_getElem? (i := 280) rfl)) (hts (.instanceMethod yX12_init) (List.mem_of_getElem? (i := 281) rfl)) rfl (by decide +kernel) ⟨(Nat.le_of_ble_eq_true rfl), (Nat.le_of_ble_eq_true rfl)⟩) hP hD hK hN [36] [] rfl (by decide) rfl rfl hl.1 rfl (Nat.le_of_ble_eq_true rfl) dL_law_12 ⟨(Nat.le_of_ble_eq_true rfl), (Nat.le_of_ble_eq_true rfl)⟩) hP hD hK hS hA [36] [0, 1, 2, 3, 4, 5, 6, 7, 8, 9, 10, 11, 12, 13, 14, 15, 16, 17, 18, 19, 20, 21, 22, 23, 24, 25, 26, 27, 28, 29, 30, 31, 32, 33, 34, 35] rfl rfl (by decide) (by decide) (fun u H locs hw hP hD hK hS => ?_)
  obtain ⟨qb_194, qb_195, qb_196, qb_197, qb_198, qb_199, qb_200, qb_201, qb_202, qb_203, qb_204, qb_205, qb_206, qb_207, qb_208, qb_209, qb_210, qb_211, qb_212, qb_213, qb_214, qb_215, qb_216, qb_217, qb_218, qb_219, qb_220, qb_221, qb_222, qb_223, qb_224, qb_225, qb_226, qb_227, qb_228, qb_229, cm_49, cm_50, cm_51, cm_52, cm_53, cm_54, cm_55, cm_56, cm_57, cm_58, cm_59, cm_60, cm_61, cm_62, cm_63, ff_373⟩ := u
  have hK : va_K D vwCl [(cm_35, .byte), (cm_36, .byte), (cm_37, .int), (cm_38, .int), (cm_39, .object RX4), (cm_40, .int), (cm_41, .int), (cm_42, .boolean), (cm_43, .boolean), (cm_44, .object RX4), (cm_45, .int), (cm_46, .object RX4), (cm_47, .object RX4), (cm_48, .object RX4), (cm_49, .byte), (cm_50, .int), (cm_51, .int), (cm_52, .int), (cm_53, .int), (cm_54, .int), (cm_55, .int), (cm_56, .boolean), (cm_57, .int), (cm_58, .int), (cm_59, .boolean), (cm_60, .boolean), (cm_61, .int), (cm_62, .int), (cm_63, .int)] s := hK
  have hP : va_P D vwCl [(qa_349, .inr (11, [.ref qb_125, .int 0, .ref qb_150, .ref qb_126, .ref qb_128, .ref qb_149, .ref qb_132, .ref qb_153, .ref qb_141, .ref qb_158, .ref qb_159, .ref qb_144])), (qb_125, .inl (cm_35, 1600, .inl (fun _ => 0))), (qb_126, .inr (10, [.int 0, .int 0, .int 0, .int 0, .int 0, .ref qb_160, .ref qb_161, .ref qb_162, .ref qb_163, .ref qb_164, .ref qb_165, .ref qb_166, .ref qb_127])), (qb_127, .inr (4, [.int 0, .int 0, .int 0, .int 0, .int 0, .int 0, .int 0])), (qb_128, .inr (5, [.int 0, .int (-1), .ref qb_129, .ref qb_126, .int 0, .int 0, .int 0, .int 0, .int 0, .ref qb_167])), (qb_129, .inr (9, [.int 0, .ref qb_130, .ref qb_131, .ref qb_125, .int 0])), (qb_130, .inl (cm_36, 1601, .inl (fun _ => 0))), (qb_131, .inl (cm_37, 1601, .inl (fun _ => 0))), (qb_132, .inr (6, [.ref qb_149, .ref qb_133, .int 0])), (qb_133, .inl (cm_39, 5, .inr (.inr (.inr (.inr ff_366))))), (qb_134, .inr (4, [.int 0, .int 0, .int 0, .int 0, .int 0, .int 0, .int 0])), (qb_135, .inl (cm_40, 240, .inl (fun _ => 0))), (qb_136, .inl (cm_41, 240, .inl (fun _ => 0))), (qb_137, .inl (cm_42, 240, .inl (fun _ => 0))), (qb_138, .inl (cm_43, 60, .inl (fun _ => 0))), (qb_139, .inr (4, [.int 0, .int 0, .int 0, .int 0, .int 0, .int 0, .int 0])), (qb_140, .inr (4, [.int 0, .int 0, .int 0, .int 0, .int 0, .int 0, .int 0])), (qb_141, .inr (1, [.ref qb_149, .ref qb_153, .ref qb_142, .ref qb_168, .int 0, .int 0, .ref qb_169])), (qb_142, .inl (cm_46, 64, .inr (.inr (.inr (.inr ff_367))))), (qb_143, .inr (4, [.int 0, .int 0, .int 0, .int 0, .int 0, .int 0, .int 0])), (qb_144, .inr (8, [.int 0, .int 0, .int 0, .int (-1), .ref qb_149, .ref qb_153, .ref qb_159, .ref qb_145, .ref qb_146, .int 0])), (qb_145, .inl (cm_47, 11, .inr (.inr (.inr (.inr ff_368))))), (qb_146, .inl (cm_48, 11, .inr (.inr (.inr (.inr ff_369))))), (qb_147, .inr (4, [.int 0, .int 0, .int 0, .int 0, .int 0, .int 0, .int 0])), (qb_148, .inr (4, [.int 0, .int 0, .int 0, .int 0, .int 0, .int 0, .int 0])), (qb_149, .inr (2, [.int 0, .int 0, .int 0, .int 0, .int 0, .ref qb_152, .ref qb_170, .ref qb_171, .ref qb_172, .ref qb_173, .ref qb_174, .ref qb_175])), (qb_150, .inr (10, [.int 0, .int 0, .int 0, .int 0, .int 0, .ref qb_176, .ref qb_177, .ref qb_178, .ref qb_179, .ref qb_180, .ref qb_181, .ref qb_182, .ref qb_151])), (qb_151, .inr (4, [.int 0, .int 0, .int 0, .int 0, .int 0, .int 0, .int 0])), (qb_152, .inl (cm_38, 180, .inl ff_370)), (qb_153, .inr (3, [.int 0, .int 0, .ref qb_135, .ref qb_136, .ref qb_137, .ref qb_138, .ref qb_149, .ref qb_154, .ref qb_157])), (qb_154, .inl (cm_44, 122, .inr (.inr (.inr (.inr ff_371))))), (qb_155, .inr (4, [.int 0, .int 0, .int 0, .int 0, .int 0, .int 0, .int 0])), (qb_156, .inr (4, [.int 0, .int 0, .int 0, .int 0, .int 0, .int 0, .int 0])), (qb_157, .inl (cm_45, 3, .inl ff_372)), (qb_158, .inr (0, [.int 0, .int 0, .ref qb_183, .ref qb_184, .ref qb_185, .ref qb_186, .ref qb_187])), (qb_159, .inr (7, [.int 0, .int 0, .ref qb_188, .ref qb_189, .ref qb_190, .ref qb_191, .ref qb_192, .ref qb_193])), (qa_350, .inr (12, [.ref qb_194, .ref qb_209, .ref qb_207, .int 0, .int 0, .int 0, .int (-1), .int 0, .int 0, .int 0, .int 0, .long 0, .ref qb_201, .ref qb_202, .ref qb_203, .ref qb_204, .ref qb_205, .ref qb_210, .ref qb_211, .ref qb_212, .ref qb_213, .ref qb_214, .ref qb_215, .ref qb_216, .ref qb_206, .ref qb_217, .int 0, .int 0, .int 0, .int 0, .ref qb_218, .ref qb_219, .int 0, .ref qb_195, .ref qb_196, .ref qb_197, .ref qb_198, .int 0, .int 0, .int 0, .ref qb_199, .ref qb_220, .ref qb_221, .ref qb_222, .ref qb_223, .ref qb_224, .ref qb_225, .int 0, .int 0, .ref qb_208, .ref qb_200, .ref qb_226, .ref qb_227, .ref qb_228, .ref qb_229])), (qb_194, .inl (cm_49, 1620, .inl (fun _ => 0))), (qb_195, .inl (cm_57, 60, .inl (fun _ => 0))), (qb_196, .inl (cm_58, 60, .inl (fun _ => 0))), (qb_197, .inl (cm_59, 60, .inl (fun _ => 0))), (qb_198, .inl (cm_60, 60, .inl (fun _ => 0))), (qb_199, .inl (cm_61, 26637, .inl (fun _ => 0))), (qb_200, .inl (cm_63, 11346, .inl (fun _ => 0))), (qb_201, .inl (cm_51, 2, .inl (fun _ => 0))), (qb_202, .inl (cm_52, 2, .inl (fun _ => 0))), (qb_203, .inl (cm_53, 2, .inl (fun _ => 0))), (qb_204, .inl (cm_54, 2, .inl (fun _ => 0))), (qb_205, .inl (cm_55, 2, .inl (fun _ => 0))), (qb_206, .inl (cm_56, 4, .inl (fun _ => 0))), (qb_207, .inl (cm_50, 6076, .inl ff_373)), (qb_208, .inl (cm_62, 3, .inl (upd (upd (upd (fun _ => 0) 0 (-1)) 1 (-1)) 2 (-1))))] H := hP
  have hD : va_D A [(qa_349, .inr (11, [.ref qb_125, .int 0, .ref qb_150, .ref qb_126, .ref qb_128, .ref qb_149, .ref qb_132, .ref qb_153, .ref qb_141, .ref qb_158, .ref qb_159, .ref qb_144])), (qb_125, .inl (cm_35, 1600, .inl (fun _ => 0))), (qb_126, .inr (10, [.int 0, .int 0, .int 0, .int 0, .int 0, .ref qb_160, .ref qb_161, .ref qb_162, .ref qb_163, .ref qb_164, .ref qb_165, .ref qb_166, .ref qb_127])), (qb_127, .inr (4, [.int 0, .int 0, .int 0, .int 0, .int 0, .int 0, .int 0])), (qb_128, .inr (5, [.int 0, .int (-1), .ref qb_129, .ref qb_126, .int 0, .int 0, .int 0, .int 0, .int 0, .ref qb_167])), (qb_129, .inr (9, [.int 0, .ref qb_130, .ref qb_131, .ref qb_125, .int 0])), (qb_130, .inl (cm_36, 1601, .inl (fun _ => 0))), (qb_131, .inl (cm_37, 1601, .inl (fun _ => 0))), (qb_132, .inr (6, [.ref qb_149, .ref qb_133, .int 0])), (qb_133, .inl (cm_39, 5, .inr (.inr (.inr (.inr ff_366))))), (qb_134, .inr (4, [.int 0, .int 0, .int 0, .int 0, .int 0, .int 0, .int 0])), (qb_135, .inl (cm_40, 240, .inl (fun _ => 0))), (qb_136, .inl (cm_41, 240, .inl (fun _ => 0))), (qb_137, .inl (cm_42, 240, .inl (fun _ => 0))), (qb_138, .inl (cm_43, 60, .inl (fun _ => 0))), (qb_139, .inr (4, [.int 0, .int 0, .int 0, .int 0, .int 0, .int 0, .int 0])), (qb_140, .inr (4, [.int 0, .int 0, .int 0, .int 0, .int 0, .int 0, .int 0])), (qb_141, .inr (1, [.ref qb_149, .ref qb_153, .ref qb_142, .ref qb_168, .int 0, .int 0, .ref qb_169])), (qb_142, .inl (cm_46, 64, .inr (.inr (.inr (.inr ff_367))))), (qb_143, .inr (4, [.int 0, .int 0, .int 0, .int 0, .int 0, .int 0, .int 0])), (qb_144, .inr (8, [.int 0, .int 0, .int 0, .int (-1), .ref qb_149, .ref qb_153, .ref qb_159, .ref qb_145, .ref qb_146, .int 0])), (qb_145, .inl (cm_47, 11, .inr (.inr (.inr (.inr ff_368))))), (qb_146, .inl (cm_48, 11, .inr (.inr (.inr (.inr ff_369))))), (qb_147, .inr (4, [.int 0, .int 0, .int 0, .int 0, .int 0, .int 0, .int 0])), (qb_148, .inr (4, [.int 0, .int 0, .int 0, .int 0, .int 0, .int 0, .int 0])), (qb_149, .inr (2, [.int 0, .int 0, .int 0, .int 0, .int 0, .ref qb_152, .ref qb_170, .ref qb_171, .ref qb_172, .ref qb_173, .ref qb_174, .ref qb_175])), (qb_150, .inr (10, [.int 0, .int 0, .int 0, .int 0, .int 0, .ref qb_176, .ref qb_177, .ref qb_178, .ref qb_179, .ref qb_180, .ref qb_181, .ref qb_182, .ref qb_151])), (qb_151, .inr (4, [.int 0, .int 0, .int 0, .int 0, .int 0, .int 0, .int 0])), (qb_152, .inl (cm_38, 180, .inl ff_370)), (qb_153, .inr (3, [.int 0, .int 0, .ref qb_135, .ref qb_136, .ref qb_137, .ref qb_138, .ref qb_149, .ref qb_154, .ref qb_157])), (qb_154, .inl (cm_44, 122, .inr (.inr (.inr (.inr ff_371))))), (qb_155, .inr (4, [.int 0, .int 0, .int 0, .int 0, .int 0, .int 0, .int 0])), (qb_156, .inr (4, [.int 0, .int 0, .int 0, .int 0, .int 0, .int 0, .int 0])), (qb_157, .inl (cm_45, 3, .inl ff_372)), (qb_158, .inr (0, [.int 0, .int 0, .ref qb_183, .ref qb_184, .ref qb_185, .ref qb_186, .ref qb_187])), (qb_159, .inr (7, [.int 0, .int 0, .ref qb_188, .ref qb_189, .ref qb_190, .ref qb_191, .ref qb_192, .ref qb_193])), (qa_350, .inr (12, [.ref qb_194, .ref qb_209, .ref qb_207, .int 0, .int 0, .int 0, .int (-1), .int 0, .int 0, .int 0, .int 0, .long 0, .ref qb_201, .ref qb_202, .ref qb_203, .ref qb_204, .ref qb_205, .ref qb_210, .ref qb_211, .ref qb_212, .ref qb_213, .ref qb_214, .ref qb_215, .ref qb_216, .ref qb_206, .ref qb_217, .int 0, .int 0, .int 0, .int 0, .ref qb_218, .ref qb_219, .int 0, .ref qb_195, .ref qb_196, .ref qb_197, .ref qb_198, .int 0, .int 0, .int 0, .ref qb_199, .ref qb_220, .ref qb_221, .ref qb_222, .ref qb_223, .ref qb_224, .ref qb_225, .int 0, .int 0, .ref qb_208, .ref qb_200, .ref qb_226, .ref qb_227, .ref qb_228, .ref qb_229])), (qb_194, .inl (cm_49, 1620, .inl (fun _ => 0))), (qb_195, .inl (cm_57, 60, .inl (fun _ => 0))), (qb_196, .inl (cm_58, 60, .inl (fun _ => 0))), (qb_197, .inl (cm_59, 60, .inl (fun _ => 0))), (qb_198, .inl (cm_60, 60, .inl (fun _ => 0))), (qb_199, .inl (cm_61, 26637, .inl (fun _ => 0))), (qb_200, .inl (cm_63, 11346, .inl (fun _ => 0))), (qb_201, .inl (cm_51, 2, .inl (fun _ => 0))), (qb_202, .inl (cm_52, 2, .inl (fun _ => 0))), (qb_203, .inl (cm_53, 2, .inl (fun _ => 0))), (qb_204, .inl (cm_54, 2, .inl (fun _ => 0))), (qb_205, .inl (cm_55, 2, .inl (fun _ => 0))), (qb_206, .inl (cm_56, 4, .inl (fun _ => 0))), (qb_207, .inl (cm_50, 6076, .inl ff_373)), (qb_208, .inl (cm_62, 3, .inl (upd (upd (upd (fun _ => 0) 0 (-1)) 1 (-1)) 2 (-1))))] := hD
  refine W.widen (k := 376) (n := 58132) (Nat.le_of_ble_eq_true rfl) (Nat.le_of_ble_eq_true rfl) ?_
  have hf_1264 : ff_373 6044 = 0 := hw.1
  have hf_1265 : ff_373 61 = 0 := hw.2.1
  have hf_1266 : ff_373 30 = 0 := hw.2.2.1
  have hp_17 : ∀ j, j < 31 → ff_373 j = ff_373 (31 + j) := hw.2.2.2
  refine lv_astore_n (lv' := [(2, .ref qa_350), (1, .ref qa_349), (0, .ref b)]) hx hb dL_law_15 rfl hl (by decide) rfl (fun ls hl => ?_)
  refine lv_iconst (v := 0) hx hb dL_law_16 (by decide) ?_
  refine lv_istore_n (lv' := [(3, .int 0), (2, .ref qa_350), (1, .ref qa_349), (0, .ref b)]) hx hb dL_law_17 rfl hl (by decide) rfl (fun ls hl => ?_)
  rcases Nat.lt_or_ge L 6 with hlt | hge
  · refine lv_iload_n hx hb dL_law_18 rfl (lv_at hl 0 rfl) ?_
    refine lv_aload_n hx hb dL_law_19 rfl (lv_at hl 3 rfl) ?_
    refine va_slen hx hb hX hbl hbA hS dL_law_20 ?_
    refine lv_bipush (v := 6) hx hb dL_law_21 (by decide) ?_
    refine lv_isub hx hb dL_law_23 ?_
    refine lv_icmp_gt (tgt := 953) hx hb dL_law_24 (by decide) (fun _ => ?_) (fun h9 => absurd (pk_sneg (a := L) (b := 6) (by decide) hlt) h9)
    refine lv_iconst (v := 1) hx hb dL_law_953 (by decide) ?_
    refine va_forget (fun q hq => by have h9 := hS.2.2 q hq; rw [hAe] at h9; exact h9) ?_
    refine W.widen (k := 600000) (n := 7302250) (Nat.le_of_ble_eq_true rfl) (Nat.le_of_ble_eq_true rfl) ?_
    exact lw_ret hx hb hr hlocks dL_law_954
  · obtain rfl : L = 6 := by omega
    refine lv_iload_n hx hb dL_law_18 rfl (lv_at hl 0 rfl) ?_
    refine lv_aload_n hx hb dL_law_19 rfl (lv_at hl 3 rfl) ?_
    refine va_slen hx hb hX hbl hbA hS dL_law_20 ?_
    refine z_top (y := 6) rfl ?_
    refine lv_bipush (v := 6) hx hb dL_law_21 (by decide) ?_
    refine lv_isub hx hb dL_law_23 ?_
    refine z_top (y := 0) (by decide) ?_
    refine lv_icmp_gt (tgt := 953) hx hb dL_law_24 (by decide) (fun h9 => absurd h9 (by decide)) (fun _ => ?_)
    refine lv_aload_n hx hb dL_law_27 rfl (lv_at hl 3 rfl) ?_
    refine lv_iload_n hx hb dL_law_28 rfl (lv_at hl 0 rfl) ?_
    refine va_sld hx hb hX hbl hbA hS (z_in (by decide)) dL_law_29 ?_
    refine z_top (y := (xs 0)) rfl ?_
    refine lv_bipush (v := 31) hx hb dL_law_30 (by decide) ?_
    refine lv_iand hx hb dL_law_32 ?_
    obtain ⟨j, hj, ej⟩ := pk_andE (xs 0) (m := 31) 5 (by decide)
    refine z_top (y := nI j) ej ?_
    subst hAe
    exact law_sw l C0 hN hK hP hD hS (hf_1253) (hf_1254) (hf_1255) (hf_1256) (hf_1257) (hf_1258) (hf_1259) (hf_1260) (hf_1261) (hf_1262) (hf_1263) (hf_1264) (hf_1265) (hf_1266) (hp_17) hl hj
