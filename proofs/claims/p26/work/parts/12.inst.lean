theorem dJ7_fill_53178_0 : decode cJ7_fill_53178 0 = .ok (.iconst 0, 1) := by decide +kernel
theorem dJ7_fill_53178_1 : decode cJ7_fill_53178 1 = .ok (.istore_n 2, 1) := by decide +kernel
theorem dJ7_fill_53178_2 : decode cJ7_fill_53178 2 = .ok (.aload_n 0, 1) := by decide +kernel
theorem dJ7_fill_53178_3 : decode cJ7_fill_53178 3 = .ok (.arraylength, 1) := by decide +kernel
theorem dJ7_fill_53178_4 : decode cJ7_fill_53178 4 = .ok (.istore_n 3, 1) := by decide +kernel
theorem dJ7_fill_53178_5 : decode cJ7_fill_53178 5 = .ok (.iload_n 2, 1) := by decide +kernel
theorem dJ7_fill_53178_6 : decode cJ7_fill_53178 6 = .ok (.iload_n 3, 1) := by decide +kernel
theorem dJ7_fill_53178_7 : decode cJ7_fill_53178 7 = .ok (.if_icmp .ge 13, 3) := by decide +kernel
theorem dJ7_fill_53178_10 : decode cJ7_fill_53178 10 = .ok (.aload_n 0, 1) := by decide +kernel
theorem dJ7_fill_53178_11 : decode cJ7_fill_53178 11 = .ok (.iload_n 2, 1) := by decide +kernel
theorem dJ7_fill_53178_12 : decode cJ7_fill_53178 12 = .ok (.iload_n 1, 1) := by decide +kernel
theorem dJ7_fill_53178_13 : decode cJ7_fill_53178 13 = .ok (.iastore, 1) := by decide +kernel
theorem dJ7_fill_53178_14 : decode cJ7_fill_53178 14 = .ok (.iinc 2 1, 3) := by decide +kernel
theorem dJ7_fill_53178_17 : decode cJ7_fill_53178 17 = .ok (.goto (-12), 3) := by decide +kernel
theorem dJ7_fill_53178_20 : decode cJ7_fill_53178 20 = .ok (.return_, 1) := by decide +kernel
def rm_J7_fill_53178_k26 : Room := { frames := 0, cells := 0, slots := 0, locals := 0 }
abbrev wS_J7_fill_53178_k26 : List (Nat × Nat) := [(26, 99)]
set_option maxRecDepth 100000 in
set_option maxHeartbeats 4000000 in
theorem c_J7_fill_53178_k26 (l : Launch) (E : zE) (hV : zV E) (H0 : Heap) (hT0 : HT E H0) (p0 : Nat) (kp0 : eK E p0 = 26) (p1 : Int32) : Met l yJ7_fill_53178 (zws yJ7_fill_53178 cJ7_fill_53178 4 none) rm_J7_fill_53178_k26 (zP E H0 [.ref p0, .int p1]) (zQV E E wS_J7_fill_53178_k26 (fun H1 => True)) 0 0 (zfr E) := by
  refine zEnt (by decide) (Nat.le_of_ble_eq_true rfl) (fun p e s m args below meth c ls Q B hr hlk hh hQ hl => ?_)
  have hx := B.1
  have hb := B.2.1
  have hG0 : zG E wS_J7_fill_53178_k26 H0 H0 [] := zG.rf hT0
  have hl : lv_has ls 4 [(0, .ref p0), (1, .int p1)] := hl
  have b5 : ∀ (n5 : Nat) (H5 : Heap) (lc5 : List Loc) (ls : Array Slot) (v5_2 : Int32), 180 - v5_2.toInt < (n5 : Int) → zG E wS_J7_fill_53178_k26 H0 H5 lc5 → lv_has ls 4 [(0, .ref p0), (1, .int p1), (2, .int v5_2), (3, .int 180)] → 0 ≤ v5_2.toInt → v5_2.toInt ≤ 180 → W p l e rm_J7_fill_53178_k26 s m args below meth c H5 lc5 0 0 Q (F0 m 5 ls []) := by
    intro n5
    induction n5 with
    | zero =>
      intro H5 lc5 ls v5_2 hm5 gH5 hl f5_1 f5_2
      exact absurd hm5 (by omega)
    | succ n5 ih5 =>
      intro H5 lc5 ls v5_2 hm5 gH5 hl f5_1 f5_2
      refine lv_iload_n hx hb dJ7_fill_53178_5 rfl (lv_at hl 2 rfl) ?_
      refine lv_iload_n hx hb dJ7_fill_53178_6 rfl (lv_at hl 3 rfl) ?_
      refine lv_icmp_ge (tgt := 20) hx hb dJ7_fill_53178_7 (by decide) (fun c_1 => ?_) (fun c_1 => ?_)
      · have f_1 := z_le c_1 kl_180 rfl
        exact rtV B hr hlk hh hQ gH5 trivial dJ7_fill_53178_20
      · have f_1 := z_nle c_1 kl_180 rfl
        refine lv_aload_n hx hb dJ7_fill_53178_10 rfl (lv_at hl 0 rfl) ?_
        refine lv_iload_n hx hb dJ7_fill_53178_11 rfl (lv_at hl 2 rfl) ?_
        refine lv_iload_n hx hb dJ7_fill_53178_12 rfl (lv_at hl 1 rfl) ?_
        refine g_iastI (i := v5_2) (N := 180) B hV gH5 kp0 rfl rfl rfl rfl (by omega) (by omega) rfl (z_rng _).1 (z_rng _).2 rfl dJ7_fill_53178_13 (fun H2 lc2 gH2 uH2 => ?_)
        obtain ⟨x_3, e_3⟩ : ∃ y : Int32, (v5_2 : Int32) + Int32.ofInt 1 = y := ⟨_, rfl⟩
        refine lv_iinc (v := x_3) (lv' := [(2, .int x_3), (0, .ref p0), (1, .int p1), (3, .int 180)]) hx hb dJ7_fill_53178_14 hl (k := 2) rfl e_3 (by decide) rfl (fun ls hl => ?_)
        have t_3 := z_inc2 e_3 rfl (by decide) (by omega) (by omega)
        refine lv_goto (tgt := 5) hx hb dJ7_fill_53178_17 (by decide) ?_
        have := kl_180
        exact ih5 H2 lc2 ls x_3 (by omega) gH2 (lv_sub hl [1, 2, 0, 3] rfl) (by omega) (by omega)
  refine lv_iconst (v := 0) hx hb dJ7_fill_53178_0 (by decide) ?_
  refine lv_istore_n (lv' := [(2, .int 0), (0, .ref p0), (1, .int p1)]) hx hb dJ7_fill_53178_1 rfl hl (by decide) rfl (fun ls hl => ?_)
  refine lv_aload_n hx hb dJ7_fill_53178_2 rfl (lv_at hl 1 rfl) ?_
  refine g_alen (n := 180) B hT0 kp0 rfl rfl rfl (by decide) dJ7_fill_53178_3 ?_
  refine lv_istore_n (lv' := [(3, .int 180), (2, .int 0), (0, .ref p0), (1, .int p1)]) hx hb dJ7_fill_53178_4 rfl hl (by decide) rfl (fun ls hl => ?_)
  have := kl_0
  have := kl_180
  exact b5 181 H0 [] ls 0 (by omega) hG0 (lv_sub hl [2, 3, 1, 0] rfl) (by omega) (by omega)

def rm_J7_fill_53178_k38 : Room := { frames := 0, cells := 0, slots := 0, locals := 0 }
abbrev wS_J7_fill_53178_k38 : List (Nat × Nat) := [(38, 99)]
set_option maxRecDepth 100000 in
set_option maxHeartbeats 4000000 in
theorem c_J7_fill_53178_k38 (l : Launch) (E : zE) (hV : zV E) (H0 : Heap) (hT0 : HT E H0) (p0 : Nat) (kp0 : eK E p0 = 38) (p1 : Int32) (p1_lo : (-1) ≤ p1.toInt) (p1_hi : p1.toInt ≤ 60) : Met l yJ7_fill_53178 (zws yJ7_fill_53178 cJ7_fill_53178 4 none) rm_J7_fill_53178_k38 (zP E H0 [.ref p0, .int p1]) (zQV E E wS_J7_fill_53178_k38 (fun H1 => True)) 0 0 (zfr E) := by
  refine zEnt (by decide) (Nat.le_of_ble_eq_true rfl) (fun p e s m args below meth c ls Q B hr hlk hh hQ hl => ?_)
  have hx := B.1
  have hb := B.2.1
  have hG0 : zG E wS_J7_fill_53178_k38 H0 H0 [] := zG.rf hT0
  have hl : lv_has ls 4 [(0, .ref p0), (1, .int p1)] := hl
  have b5 : ∀ (n5 : Nat) (H5 : Heap) (lc5 : List Loc) (ls : Array Slot) (v5_2 : Int32), 3 - v5_2.toInt < (n5 : Int) → zG E wS_J7_fill_53178_k38 H0 H5 lc5 → lv_has ls 4 [(0, .ref p0), (1, .int p1), (2, .int v5_2), (3, .int 3)] → 0 ≤ v5_2.toInt → v5_2.toInt ≤ 3 → W p l e rm_J7_fill_53178_k38 s m args below meth c H5 lc5 0 0 Q (F0 m 5 ls []) := by
    intro n5
    induction n5 with
    | zero =>
      intro H5 lc5 ls v5_2 hm5 gH5 hl f5_1 f5_2
      exact absurd hm5 (by omega)
    | succ n5 ih5 =>
      intro H5 lc5 ls v5_2 hm5 gH5 hl f5_1 f5_2
      refine lv_iload_n hx hb dJ7_fill_53178_5 rfl (lv_at hl 2 rfl) ?_
      refine lv_iload_n hx hb dJ7_fill_53178_6 rfl (lv_at hl 3 rfl) ?_
      refine lv_icmp_ge (tgt := 20) hx hb dJ7_fill_53178_7 (by decide) (fun c_1 => ?_) (fun c_1 => ?_)
      · have f_1 := z_le c_1 kl_3 rfl
        exact rtV B hr hlk hh hQ gH5 trivial dJ7_fill_53178_20
      · have f_1 := z_nle c_1 kl_3 rfl
        refine lv_aload_n hx hb dJ7_fill_53178_10 rfl (lv_at hl 0 rfl) ?_
        refine lv_iload_n hx hb dJ7_fill_53178_11 rfl (lv_at hl 2 rfl) ?_
        refine lv_iload_n hx hb dJ7_fill_53178_12 rfl (lv_at hl 1 rfl) ?_
        refine g_iastI (i := v5_2) (N := 3) B hV gH5 kp0 rfl rfl rfl rfl (by omega) (by omega) rfl (by omega) (by omega) rfl dJ7_fill_53178_13 (fun H2 lc2 gH2 uH2 => ?_)
        obtain ⟨x_3, e_3⟩ : ∃ y : Int32, (v5_2 : Int32) + Int32.ofInt 1 = y := ⟨_, rfl⟩
        refine lv_iinc (v := x_3) (lv' := [(2, .int x_3), (0, .ref p0), (1, .int p1), (3, .int 3)]) hx hb dJ7_fill_53178_14 hl (k := 2) rfl e_3 (by decide) rfl (fun ls hl => ?_)
        have t_3 := z_inc2 e_3 rfl (by decide) (by omega) (by omega)
        refine lv_goto (tgt := 5) hx hb dJ7_fill_53178_17 (by decide) ?_
        have := kl_3
        exact ih5 H2 lc2 ls x_3 (by omega) gH2 (lv_sub hl [1, 2, 0, 3] rfl) (by omega) (by omega)
  refine lv_iconst (v := 0) hx hb dJ7_fill_53178_0 (by decide) ?_
  refine lv_istore_n (lv' := [(2, .int 0), (0, .ref p0), (1, .int p1)]) hx hb dJ7_fill_53178_1 rfl hl (by decide) rfl (fun ls hl => ?_)
  refine lv_aload_n hx hb dJ7_fill_53178_2 rfl (lv_at hl 1 rfl) ?_
  refine g_alen (n := 3) B hT0 kp0 rfl rfl rfl (by decide) dJ7_fill_53178_3 ?_
  refine lv_istore_n (lv' := [(3, .int 3), (2, .int 0), (0, .ref p0), (1, .int p1)]) hx hb dJ7_fill_53178_4 rfl hl (by decide) rfl (fun ls hl => ?_)
  have := kl_0
  have := kl_3
  exact b5 4 H0 [] ls 0 (by omega) hG0 (lv_sub hl [2, 3, 1, 0] rfl) (by omega) (by omega)

theorem dX2_addRay_0 : decode cX2_addRay 0 = .ok (.iload_n 1, 1) := by decide +kernel
theorem dX2_addRay_1 : decode cX2_addRay 1 = .ok (.bipush 48, 2) := by decide +kernel
theorem dX2_addRay_3 : decode cX2_addRay 3 = .ok (.imul, 1) := by decide +kernel
theorem dX2_addRay_4 : decode cX2_addRay 4 = .ok (.istore 4, 2) := by decide +kernel
theorem dX2_addRay_6 : decode cX2_addRay 6 = .ok (.iload 4, 2) := by decide +kernel
theorem dX2_addRay_8 : decode cX2_addRay 8 = .ok (.istore 5, 2) := by decide +kernel
theorem dX2_addRay_10 : decode cX2_addRay 10 = .ok (.iload 5, 2) := by decide +kernel
theorem dX2_addRay_12 : decode cX2_addRay 12 = .ok (.iload 4, 2) := by decide +kernel
theorem dX2_addRay_14 : decode cX2_addRay 14 = .ok (.aload_n 0, 1) := by decide +kernel
theorem dX2_addRay_15 : decode cX2_addRay 15 = .ok (.getfield 42, 3) := by decide +kernel
theorem dX2_addRay_18 : decode cX2_addRay 18 = .ok (.iload_n 1, 1) := by decide +kernel
theorem dX2_addRay_19 : decode cX2_addRay 19 = .ok (.iaload, 1) := by decide +kernel
theorem dX2_addRay_20 : decode cX2_addRay 20 = .ok (.iadd, 1) := by decide +kernel
theorem dX2_addRay_21 : decode cX2_addRay 21 = .ok (.if_icmp .ge 32, 3) := by decide +kernel
theorem dX2_addRay_24 : decode cX2_addRay 24 = .ok (.aload_n 0, 1) := by decide +kernel
theorem dX2_addRay_25 : decode cX2_addRay 25 = .ok (.getfield 45, 3) := by decide +kernel
theorem dX2_addRay_28 : decode cX2_addRay 28 = .ok (.iload 5, 2) := by decide +kernel
theorem dX2_addRay_30 : decode cX2_addRay 30 = .ok (.iaload, 1) := by decide +kernel
theorem dX2_addRay_31 : decode cX2_addRay 31 = .ok (.iload_n 2, 1) := by decide +kernel
theorem dX2_addRay_32 : decode cX2_addRay 32 = .ok (.if_icmp .ne 15, 3) := by decide +kernel
theorem dX2_addRay_35 : decode cX2_addRay 35 = .ok (.aload_n 0, 1) := by decide +kernel
theorem dX2_addRay_36 : decode cX2_addRay 36 = .ok (.getfield 48, 3) := by decide +kernel
theorem dX2_addRay_39 : decode cX2_addRay 39 = .ok (.iload 5, 2) := by decide +kernel
theorem dX2_addRay_41 : decode cX2_addRay 41 = .ok (.iaload, 1) := by decide +kernel
theorem dX2_addRay_42 : decode cX2_addRay 42 = .ok (.iload_n 3, 1) := by decide +kernel
theorem dX2_addRay_43 : decode cX2_addRay 43 = .ok (.if_icmp .ne 4, 3) := by decide +kernel
theorem dX2_addRay_46 : decode cX2_addRay 46 = .ok (.return_, 1) := by decide +kernel
theorem dX2_addRay_47 : decode cX2_addRay 47 = .ok (.iinc 5 1, 3) := by decide +kernel
theorem dX2_addRay_50 : decode cX2_addRay 50 = .ok (.goto (-40), 3) := by decide +kernel
theorem dX2_addRay_53 : decode cX2_addRay 53 = .ok (.aload_n 0, 1) := by decide +kernel
theorem dX2_addRay_54 : decode cX2_addRay 54 = .ok (.getfield 42, 3) := by decide +kernel
theorem dX2_addRay_57 : decode cX2_addRay 57 = .ok (.iload_n 1, 1) := by decide +kernel
theorem dX2_addRay_58 : decode cX2_addRay 58 = .ok (.iaload, 1) := by decide +kernel
theorem dX2_addRay_59 : decode cX2_addRay 59 = .ok (.bipush 48, 2) := by decide +kernel
theorem dX2_addRay_61 : decode cX2_addRay 61 = .ok (.if_icmp .ge 43, 3) := by decide +kernel
theorem dX2_addRay_64 : decode cX2_addRay 64 = .ok (.aload_n 0, 1) := by decide +kernel
theorem dX2_addRay_65 : decode cX2_addRay 65 = .ok (.getfield 45, 3) := by decide +kernel
theorem dX2_addRay_68 : decode cX2_addRay 68 = .ok (.iload 4, 2) := by decide +kernel
theorem dX2_addRay_70 : decode cX2_addRay 70 = .ok (.aload_n 0, 1) := by decide +kernel
theorem dX2_addRay_71 : decode cX2_addRay 71 = .ok (.getfield 42, 3) := by decide +kernel
theorem dX2_addRay_74 : decode cX2_addRay 74 = .ok (.iload_n 1, 1) := by decide +kernel
theorem dX2_addRay_75 : decode cX2_addRay 75 = .ok (.iaload, 1) := by decide +kernel
theorem dX2_addRay_76 : decode cX2_addRay 76 = .ok (.iadd, 1) := by decide +kernel
theorem dX2_addRay_77 : decode cX2_addRay 77 = .ok (.iload_n 2, 1) := by decide +kernel
theorem dX2_addRay_78 : decode cX2_addRay 78 = .ok (.iastore, 1) := by decide +kernel
theorem dX2_addRay_79 : decode cX2_addRay 79 = .ok (.aload_n 0, 1) := by decide +kernel
theorem dX2_addRay_80 : decode cX2_addRay 80 = .ok (.getfield 48, 3) := by decide +kernel
theorem dX2_addRay_83 : decode cX2_addRay 83 = .ok (.iload 4, 2) := by decide +kernel
theorem dX2_addRay_85 : decode cX2_addRay 85 = .ok (.aload_n 0, 1) := by decide +kernel
theorem dX2_addRay_86 : decode cX2_addRay 86 = .ok (.getfield 42, 3) := by decide +kernel
theorem dX2_addRay_89 : decode cX2_addRay 89 = .ok (.iload_n 1, 1) := by decide +kernel
theorem dX2_addRay_90 : decode cX2_addRay 90 = .ok (.iaload, 1) := by decide +kernel
theorem dX2_addRay_91 : decode cX2_addRay 91 = .ok (.iadd, 1) := by decide +kernel
theorem dX2_addRay_92 : decode cX2_addRay 92 = .ok (.iload_n 3, 1) := by decide +kernel
theorem dX2_addRay_93 : decode cX2_addRay 93 = .ok (.iastore, 1) := by decide +kernel
theorem dX2_addRay_94 : decode cX2_addRay 94 = .ok (.aload_n 0, 1) := by decide +kernel
theorem dX2_addRay_95 : decode cX2_addRay 95 = .ok (.getfield 42, 3) := by decide +kernel
theorem dX2_addRay_98 : decode cX2_addRay 98 = .ok (.iload_n 1, 1) := by decide +kernel
theorem dX2_addRay_99 : decode cX2_addRay 99 = .ok (.dup2, 1) := by decide +kernel
theorem dX2_addRay_100 : decode cX2_addRay 100 = .ok (.iaload, 1) := by decide +kernel
theorem dX2_addRay_101 : decode cX2_addRay 101 = .ok (.iconst 1, 1) := by decide +kernel
theorem dX2_addRay_102 : decode cX2_addRay 102 = .ok (.iadd, 1) := by decide +kernel
theorem dX2_addRay_103 : decode cX2_addRay 103 = .ok (.iastore, 1) := by decide +kernel
theorem dX2_addRay_104 : decode cX2_addRay 104 = .ok (.return_, 1) := by decide +kernel
def rm_X2_addRay : Room := { frames := 0, cells := 0, slots := 0, locals := 0 }
abbrev wS_X2_addRay : List (Nat × Nat) := [(30, 99), (31, 99), (32, 99)]
set_option maxRecDepth 100000 in
set_option maxHeartbeats 4000000 in
theorem c_X2_addRay (l : Launch) (E : zE) (hV : zV E) (H0 : Heap) (hT0 : HT E H0) (h0 : Nat) (kh0 : eK E h0 = 3) (p0 : Int32) (p0_lo : 0 ≤ p0.toInt) (p0_hi : p0.toInt ≤ 5) (p1 : Int32) (p2 : Int32) : Met l yX2_addRay (zws yX2_addRay cX2_addRay 6 none) rm_X2_addRay (zP E H0 [.ref h0, .int p0, .int p1, .int p2]) (zQV E E wS_X2_addRay (fun H1 => True)) 0 0 (zfr E) := by
  refine zEnt (by decide) (Nat.le_of_ble_eq_true rfl) (fun p e s m args below meth c ls Q B hr hlk hh hQ hl => ?_)
  have hx := B.1
  have hb := B.2.1
  have hG0 : zG E wS_X2_addRay H0 H0 [] := zG.rf hT0
  have hl : lv_has ls 6 [(0, .ref h0), (1, .int p0), (2, .int p1), (3, .int p2)] := hl
  have b10 : ∀ (n10 : Nat) (ls : Array Slot) (v10_4 : Int32) (v10_5 : Int32), 288 - v10_5.toInt < (n10 : Int) → lv_has ls 6 [(0, .ref h0), (1, .int p0), (2, .int p1), (3, .int p2), (4, .int v10_4), (5, .int v10_5)] → 0 ≤ v10_4.toInt → v10_4.toInt ≤ 240 → 0 ≤ v10_5.toInt → v10_5.toInt ≤ 288 → W p l e rm_X2_addRay s m args below meth c H0 [] 0 0 Q (F0 m 10 ls []) := by
    intro n10
    induction n10 with
    | zero =>
      intro ls v10_4 v10_5 hm10 hl f10_1 f10_2 f10_3 f10_4
      exact absurd hm10 (by omega)
    | succ n10 ih10 =>
      intro ls v10_4 v10_5 hm10 hl f10_1 f10_2 f10_3 f10_4
      have b47 : ∀ (ls : Array Slot) (u47_h0_9 : Nat) (u47_h0_10 : Nat), lv_has ls 6 [(0, .ref h0), (1, .int p0), (2, .int p1), (3, .int p2), (4, .int v10_4), (5, .int v10_5)] → eK E u47_h0_9 = 30 → eK E u47_h0_10 = 31 → v10_5.toInt ≤ 287 → sl H0 h0 (zix E 3 9) = some (.ref u47_h0_9) → sl H0 h0 (zix E 3 10) = some (.ref u47_h0_10) → W p l e rm_X2_addRay s m args below meth c H0 [] 0 0 Q (F0 m 47 ls []) := by
        intro ls u47_h0_9 u47_h0_10 hl k_u47_h0_9 k_u47_h0_10 f47_1 s47_u47_h0_9 s47_u47_h0_10
        obtain ⟨x_1, e_1⟩ : ∃ y : Int32, (v10_5 : Int32) + Int32.ofInt 1 = y := ⟨_, rfl⟩
        refine lv_iinc (v := x_1) (lv' := [(5, .int x_1), (0, .ref h0), (1, .int p0), (2, .int p1), (3, .int p2), (4, .int v10_4)]) hx hb dX2_addRay_47 hl (k := 5) rfl e_1 (by decide) rfl (fun ls hl => ?_)
        have t_1 := z_inc2 e_1 rfl (by decide) (by omega) (by omega)
        refine lv_goto (tgt := 10) hx hb dX2_addRay_50 (by decide) ?_
        exact ih10 ls v10_4 x_1 (by omega) (lv_sub hl [1, 2, 3, 4, 5, 0] rfl) (by omega) (by omega) (by omega) (by omega)
      refine lv_iload hx hb dX2_addRay_10 (lv_at hl 5 rfl) ?_
      refine lv_iload hx hb dX2_addRay_12 (lv_at hl 4 rfl) ?_
      refine lv_aload_n hx hb dX2_addRay_14 rfl (lv_at hl 0 rfl) ?_
      refine g_getR B fl_RX2_42 hT0 kh0 rfl rfl rfl rfl rfl dX2_addRay_15 (fun q_2 s_2 k_q_2 => ?_)
      refine lv_iload_n hx hb dX2_addRay_18 rfl (lv_at hl 1 rfl) ?_
      refine g_ialdI (i := p0) (N := 6) B hT0 k_q_2 rfl rfl rfl rfl (by omega) (by omega) rfl dX2_addRay_19 (fun x_3 s_3 a_3 b_3 => ?_)
      refine lv_iadd hx hb dX2_addRay_20 ?_
      refine lv_topi (fun x_4 e_4 => ?_)
      have t_4 := z_add e_4 rfl rfl (by omega) (by omega)
      refine lv_icmp_ge (tgt := 53) hx hb dX2_addRay_21 (by decide) (fun c_5 => ?_) (fun c_5 => ?_)
      · have f_5 := z_le c_5 rfl rfl
        refine lv_aload_n hx hb dX2_addRay_53 rfl (lv_at hl 0 rfl) ?_
        refine g_get B fl_RX2_42 hT0 kh0 rfl rfl rfl dX2_addRay_54 s_2 ?_
        refine lv_iload_n hx hb dX2_addRay_57 rfl (lv_at hl 1 rfl) ?_
        refine g_iald (i := p0) (N := 6) B hT0 k_q_2 rfl rfl rfl rfl (by omega) (by omega) s_3 dX2_addRay_58 ?_
        refine lv_bipush (v := 48) hx hb dX2_addRay_59 (by decide) ?_
        refine lv_icmp_ge (tgt := 104) hx hb dX2_addRay_61 (by decide) (fun c_6 => ?_) (fun c_6 => ?_)
        · have f_6 := z_le c_6 kl_48 rfl
          exact rtV B hr hlk hh hQ hG0 trivial dX2_addRay_104
        · have f_6 := z_nle c_6 kl_48 rfl
          refine lv_aload_n hx hb dX2_addRay_64 rfl (lv_at hl 0 rfl) ?_
          refine g_getR B fl_RX2_45 hT0 kh0 rfl rfl rfl rfl rfl dX2_addRay_65 (fun q_7 s_7 k_q_7 => ?_)
          refine lv_iload hx hb dX2_addRay_68 (lv_at hl 4 rfl) ?_
          refine lv_aload_n hx hb dX2_addRay_70 rfl (lv_at hl 0 rfl) ?_
          refine g_get B fl_RX2_42 hT0 kh0 rfl rfl rfl dX2_addRay_71 s_2 ?_
          refine lv_iload_n hx hb dX2_addRay_74 rfl (lv_at hl 1 rfl) ?_
          refine g_iald (i := p0) (N := 6) B hT0 k_q_2 rfl rfl rfl rfl (by omega) (by omega) s_3 dX2_addRay_75 ?_
          refine lv_iadd hx hb dX2_addRay_76 ?_
          refine lv_topi (fun x_8 e_8 => ?_)
          have t_8 := z_add e_8 rfl rfl (by omega) (by omega)
          refine lv_iload_n hx hb dX2_addRay_77 rfl (lv_at hl 2 rfl) ?_
          refine g_iastI (i := x_8) (N := 288) B hV hG0 k_q_7 rfl rfl rfl rfl (by omega) (by omega) rfl (z_rng _).1 (z_rng _).2 rfl dX2_addRay_78 (fun H9 lc9 gH9 uH9 => ?_)
          have s_10 := uH9.keep (Or.inl (k_ne kh0 k_q_7 rfl)) s_2
          have s_11 := uH9.keep (Or.inl (k_ne k_q_2 k_q_7 rfl)) s_3
          refine lv_aload_n hx hb dX2_addRay_79 rfl (lv_at hl 0 rfl) ?_
          refine g_getR B fl_RX2_48 gH9.1 kh0 rfl rfl rfl rfl rfl dX2_addRay_80 (fun q_12 s_12 k_q_12 => ?_)
          refine lv_iload hx hb dX2_addRay_83 (lv_at hl 4 rfl) ?_
          refine lv_aload_n hx hb dX2_addRay_85 rfl (lv_at hl 0 rfl) ?_
          refine g_get B fl_RX2_42 gH9.1 kh0 rfl rfl rfl dX2_addRay_86 s_10 ?_
          refine lv_iload_n hx hb dX2_addRay_89 rfl (lv_at hl 1 rfl) ?_
          refine g_iald (i := p0) (N := 6) B gH9.1 k_q_2 rfl rfl rfl rfl (by omega) (by omega) s_11 dX2_addRay_90 ?_
          refine lv_iadd hx hb dX2_addRay_91 ?_
          refine lv_topi (fun x_13 e_13 => ?_)
          have t_13 := z_add e_13 rfl rfl (by omega) (by omega)
          refine lv_iload_n hx hb dX2_addRay_92 rfl (lv_at hl 3 rfl) ?_
          refine g_iastI (i := x_13) (N := 288) B hV gH9 k_q_12 rfl rfl rfl rfl (by omega) (by omega) rfl (z_rng _).1 (z_rng _).2 rfl dX2_addRay_93 (fun H14 lc14 gH14 uH14 => ?_)
          have s_15 := uH14.keep (Or.inl (k_ne kh0 k_q_12 rfl)) s_10
          have s_16 := uH14.keep (Or.inl (k_ne k_q_2 k_q_12 rfl)) s_11
          have s_17 := uH14.keep (Or.inl (k_ne k_q_7 k_q_12 rfl)) uH9.2.1
          refine lv_aload_n hx hb dX2_addRay_94 rfl (lv_at hl 0 rfl) ?_
          refine g_get B fl_RX2_42 gH14.1 kh0 rfl rfl rfl dX2_addRay_95 s_15 ?_
          refine lv_iload_n hx hb dX2_addRay_98 rfl (lv_at hl 1 rfl) ?_
          refine lv_dup2_11 hx hb dX2_addRay_99 rfl rfl ?_
          refine g_iald (i := p0) (N := 6) B gH14.1 k_q_2 rfl rfl rfl rfl (by omega) (by omega) s_16 dX2_addRay_100 ?_
          refine lv_iconst (v := 1) hx hb dX2_addRay_101 (by decide) ?_
          refine lv_iadd hx hb dX2_addRay_102 ?_
          refine lv_topi (fun x_18 e_18 => ?_)
          have t_18 := z_add e_18 rfl kl_1 (by omega) (by omega)
          refine g_iastI (i := p0) (N := 6) B hV gH14 k_q_2 rfl rfl rfl rfl (by omega) (by omega) rfl (by omega) (by omega) rfl dX2_addRay_103 (fun H19 lc19 gH19 uH19 => ?_)
          exact rtV B hr hlk hh hQ gH19 trivial dX2_addRay_104
      · have f_5 := z_nle c_5 rfl rfl
        refine lv_aload_n hx hb dX2_addRay_24 rfl (lv_at hl 0 rfl) ?_
        refine g_getR B fl_RX2_45 hT0 kh0 rfl rfl rfl rfl rfl dX2_addRay_25 (fun q_20 s_20 k_q_20 => ?_)
        refine lv_iload hx hb dX2_addRay_28 (lv_at hl 5 rfl) ?_
        refine g_ialdI (i := v10_5) (N := 288) B hT0 k_q_20 rfl rfl rfl rfl (by omega) (by omega) rfl dX2_addRay_30 (fun x_21 s_21 a_21 b_21 => ?_)
        refine lv_iload_n hx hb dX2_addRay_31 rfl (lv_at hl 2 rfl) ?_
        refine lv_icmp_ne (tgt := 47) hx hb dX2_addRay_32 (by decide) (fun c_22 => ?_) (fun c_22 => ?_)
        · have f_22 := z_ne c_22 rfl rfl
          exact b47 ls q_2 q_20 (lv_sub hl [0, 1, 2, 3, 4, 5] rfl) k_q_2 k_q_20 (by omega) s_2 s_20
        · have f_22 := z_eq c_22 rfl rfl
          refine lv_aload_n hx hb dX2_addRay_35 rfl (lv_at hl 0 rfl) ?_
          refine g_getR B fl_RX2_48 hT0 kh0 rfl rfl rfl rfl rfl dX2_addRay_36 (fun q_23 s_23 k_q_23 => ?_)
          refine lv_iload hx hb dX2_addRay_39 (lv_at hl 5 rfl) ?_
          refine g_ialdI (i := v10_5) (N := 288) B hT0 k_q_23 rfl rfl rfl rfl (by omega) (by omega) rfl dX2_addRay_41 (fun x_24 s_24 a_24 b_24 => ?_)
          refine lv_iload_n hx hb dX2_addRay_42 rfl (lv_at hl 3 rfl) ?_
          refine lv_icmp_ne (tgt := 47) hx hb dX2_addRay_43 (by decide) (fun c_25 => ?_) (fun c_25 => ?_)
          · have f_25 := z_ne c_25 rfl rfl
            exact b47 ls q_2 q_20 (lv_sub hl [0, 1, 2, 3, 4, 5] rfl) k_q_2 k_q_20 (by omega) s_2 s_20
          · have f_25 := z_eq c_25 rfl rfl
            exact rtV B hr hlk hh hQ hG0 trivial dX2_addRay_46
  refine lv_iload_n hx hb dX2_addRay_0 rfl (lv_at hl 1 rfl) ?_
  refine lv_bipush (v := 48) hx hb dX2_addRay_1 (by decide) ?_
  refine lv_imul hx hb dX2_addRay_3 ?_
  refine lv_topi (fun x_26 e_26 => ?_)
  have t_26 := z_mul e_26 rfl kl_48 (by omega) (by omega)
  refine lv_istore (lv' := [(4, .int x_26), (0, .ref h0), (1, .int p0), (2, .int p1), (3, .int p2)]) hx hb dX2_addRay_4 hl (by decide) rfl (fun ls hl => ?_)
  refine lv_iload hx hb dX2_addRay_6 (lv_at hl 0 rfl) ?_
  refine lv_istore (lv' := [(5, .int x_26), (4, .int x_26), (0, .ref h0), (1, .int p0), (2, .int p1), (3, .int p2)]) hx hb dX2_addRay_8 hl (by decide) rfl (fun ls hl => ?_)
  exact b10 289 ls x_26 x_26 (by omega) (lv_sub hl [2, 3, 4, 5, 1, 0] rfl) (by omega) (by omega) (by omega) (by omega)

theorem dX2_addLeap_0 : decode cX2_addLeap 0 = .ok (.iconst 0, 1) := by decide +kernel
theorem dX2_addLeap_1 : decode cX2_addLeap 1 = .ok (.istore 4, 2) := by decide +kernel
theorem dX2_addLeap_3 : decode cX2_addLeap 3 = .ok (.iload 4, 2) := by decide +kernel
theorem dX2_addLeap_5 : decode cX2_addLeap 5 = .ok (.aload_n 0, 1) := by decide +kernel
theorem dX2_addLeap_6 : decode cX2_addLeap 6 = .ok (.getfield 18, 3) := by decide +kernel
theorem dX2_addLeap_9 : decode cX2_addLeap 9 = .ok (.if_icmp .ge 62, 3) := by decide +kernel
theorem dX2_addLeap_12 : decode cX2_addLeap 12 = .ok (.iconst 0, 1) := by decide +kernel
theorem dX2_addLeap_13 : decode cX2_addLeap 13 = .ok (.istore 5, 2) := by decide +kernel
theorem dX2_addLeap_15 : decode cX2_addLeap 15 = .ok (.iload 5, 2) := by decide +kernel
theorem dX2_addLeap_17 : decode cX2_addLeap 17 = .ok (.aload_n 0, 1) := by decide +kernel
theorem dX2_addLeap_18 : decode cX2_addLeap 18 = .ok (.getfield 15, 3) := by decide +kernel
theorem dX2_addLeap_21 : decode cX2_addLeap 21 = .ok (.if_icmp .ge 44, 3) := by decide +kernel
theorem dX2_addLeap_24 : decode cX2_addLeap 24 = .ok (.aload_n 0, 1) := by decide +kernel
theorem dX2_addLeap_25 : decode cX2_addLeap 25 = .ok (.getfield 28, 3) := by decide +kernel
theorem dX2_addLeap_28 : decode cX2_addLeap 28 = .ok (.iload_n 1, 1) := by decide +kernel
theorem dX2_addLeap_29 : decode cX2_addLeap 29 = .ok (.bipush 30, 2) := by decide +kernel
theorem dX2_addLeap_31 : decode cX2_addLeap 31 = .ok (.imul, 1) := by decide +kernel
theorem dX2_addLeap_32 : decode cX2_addLeap 32 = .ok (.iload 5, 2) := by decide +kernel
theorem dX2_addLeap_34 : decode cX2_addLeap 34 = .ok (.iadd, 1) := by decide +kernel
theorem dX2_addLeap_35 : decode cX2_addLeap 35 = .ok (.aload_n 0, 1) := by decide +kernel
theorem dX2_addLeap_36 : decode cX2_addLeap 36 = .ok (.getfield 15, 3) := by decide +kernel
theorem dX2_addLeap_39 : decode cX2_addLeap 39 = .ok (.iload 4, 2) := by decide +kernel
theorem dX2_addLeap_41 : decode cX2_addLeap 41 = .ok (.imul, 1) := by decide +kernel
theorem dX2_addLeap_42 : decode cX2_addLeap 42 = .ok (.iadd, 1) := by decide +kernel
theorem dX2_addLeap_43 : decode cX2_addLeap 43 = .ok (.dup2, 1) := by decide +kernel
theorem dX2_addLeap_44 : decode cX2_addLeap 44 = .ok (.iaload, 1) := by decide +kernel
theorem dX2_addLeap_45 : decode cX2_addLeap 45 = .ok (.aload_n 0, 1) := by decide +kernel
theorem dX2_addLeap_46 : decode cX2_addLeap 46 = .ok (.iload 5, 2) := by decide +kernel
theorem dX2_addLeap_48 : decode cX2_addLeap 48 = .ok (.iload_n 2, 1) := by decide +kernel
theorem dX2_addLeap_49 : decode cX2_addLeap 49 = .ok (.iadd, 1) := by decide +kernel
theorem dX2_addLeap_50 : decode cX2_addLeap 50 = .ok (.iload 4, 2) := by decide +kernel
theorem dX2_addLeap_52 : decode cX2_addLeap 52 = .ok (.iload_n 3, 1) := by decide +kernel
theorem dX2_addLeap_53 : decode cX2_addLeap 53 = .ok (.iadd, 1) := by decide +kernel
theorem dX2_addLeap_54 : decode cX2_addLeap 54 = .ok (.invokevirtual 107, 3) := by decide +kernel
theorem dX2_addLeap_57 : decode cX2_addLeap 57 = .ok (.ior, 1) := by decide +kernel
theorem dX2_addLeap_58 : decode cX2_addLeap 58 = .ok (.iastore, 1) := by decide +kernel
theorem dX2_addLeap_59 : decode cX2_addLeap 59 = .ok (.iinc 5 1, 3) := by decide +kernel
theorem dX2_addLeap_62 : decode cX2_addLeap 62 = .ok (.goto (-47), 3) := by decide +kernel
theorem dX2_addLeap_65 : decode cX2_addLeap 65 = .ok (.iinc 4 1, 3) := by decide +kernel
theorem dX2_addLeap_68 : decode cX2_addLeap 68 = .ok (.goto (-65), 3) := by decide +kernel
theorem dX2_addLeap_71 : decode cX2_addLeap 71 = .ok (.return_, 1) := by decide +kernel
def rm_X2_addLeap : Room := { frames := 2, cells := 0, slots := 0, locals := 44 }
abbrev wS_X2_addLeap : List (Nat × Nat) := [(26, 99)]
set_option maxRecDepth 100000 in
set_option maxHeartbeats 4000000 in
theorem c_X2_addLeap (l : Launch) (E : zE) (hV : zV E) (H0 : Heap) (hT0 : HT E H0) (h0 : Nat) (kh0 : eK E h0 = 3) (p0 : Int32) (p0_lo : 0 ≤ p0.toInt) (p0_hi : p0.toInt ≤ 5) (p1 : Int32) (p2 : Int32) : Met l yX2_addLeap (zws yX2_addLeap cX2_addLeap 6 none) rm_X2_addLeap (zP E H0 [.ref h0, .int p0, .int p1, .int p2]) (zQV E E wS_X2_addLeap (fun H1 => True)) 0 0 (zfr E) := by
  refine zEnt (by decide) (Nat.le_of_ble_eq_true rfl) (fun p e s m args below meth c ls Q B hr hlk hh hQ hl => ?_)
  have hx := B.1
  have hb := B.2.1
  have hG0 : zG E wS_X2_addLeap H0 H0 [] := zG.rf hT0
  have hl : lv_has ls 6 [(0, .ref h0), (1, .int p0), (2, .int p1), (3, .int p2)] := hl
  have b3 : ∀ (n3 : Nat) (H3 : Heap) (lc3 : List Loc) (ls : Array Slot) (v3_4 : Int32), 6 - v3_4.toInt < (n3 : Int) → zG E wS_X2_addLeap H0 H3 lc3 → lv_has ls 6 [(0, .ref h0), (1, .int p0), (2, .int p1), (3, .int p2), (4, .int v3_4)] → 0 ≤ v3_4.toInt → v3_4.toInt ≤ 6 → W p l e rm_X2_addLeap s m args below meth c H3 lc3 0 0 Q (F0 m 3 ls []) := by
    intro n3
    induction n3 with
    | zero =>
      intro H3 lc3 ls v3_4 hm3 gH3 hl f3_1 f3_2
      exact absurd hm3 (by omega)
    | succ n3 ih3 =>
      intro H3 lc3 ls v3_4 hm3 gH3 hl f3_1 f3_2
      have b15 : ∀ (n15 : Nat) (H15 : Heap) (lc15 : List Loc) (ls : Array Slot) (v15_5 : Int32) (u15_h0_2 : Int32), 5 - v15_5.toInt < (n15 : Int) → zG E wS_X2_addLeap H0 H15 lc15 → lv_has ls 6 [(0, .ref h0), (1, .int p0), (2, .int p1), (3, .int p2), (4, .int v3_4), (5, .int v15_5)] → v3_4.toInt ≤ 5 → 0 ≤ v15_5.toInt → v15_5.toInt ≤ 5 → 1 ≤ u15_h0_2.toInt → u15_h0_2.toInt ≤ 6 → sl H15 h0 (zix E 3 2) = some (.int u15_h0_2) → W p l e rm_X2_addLeap s m args below meth c H15 lc15 0 0 Q (F0 m 15 ls []) := by
        intro n15
        induction n15 with
        | zero =>
          intro H15 lc15 ls v15_5 u15_h0_2 hm15 gH15 hl f15_1 f15_2 f15_3 f15_4 f15_5 s15_u15_h0_2
          exact absurd hm15 (by omega)
        | succ n15 ih15 =>
          intro H15 lc15 ls v15_5 u15_h0_2 hm15 gH15 hl f15_1 f15_2 f15_3 f15_4 f15_5 s15_u15_h0_2
          refine lv_iload hx hb dX2_addLeap_15 (lv_at hl 5 rfl) ?_
          refine lv_aload_n hx hb dX2_addLeap_17 rfl (lv_at hl 0 rfl) ?_
          refine g_getI B fl_RX2_15 gH15.1 kh0 rfl rfl rfl rfl rfl dX2_addLeap_18 (fun x_1 s_1 a_1 b_1 => ?_)
          refine lv_icmp_ge (tgt := 65) hx hb dX2_addLeap_21 (by decide) (fun c_2 => ?_) (fun c_2 => ?_)
          · have f_2 := z_le c_2 rfl rfl
            obtain ⟨x_3, e_3⟩ : ∃ y : Int32, (v3_4 : Int32) + Int32.ofInt 1 = y := ⟨_, rfl⟩
            refine lv_iinc (v := x_3) (lv' := [(4, .int x_3), (0, .ref h0), (1, .int p0), (2, .int p1), (3, .int p2), (5, .int v15_5)]) hx hb dX2_addLeap_65 hl (k := 4) rfl e_3 (by decide) rfl (fun ls hl => ?_)
            have t_3 := z_inc2 e_3 rfl (by decide) (by omega) (by omega)
            refine lv_goto (tgt := 3) hx hb dX2_addLeap_68 (by decide) ?_
            exact ih3 H15 lc15 ls x_3 (by omega) gH15 (lv_sub hl [1, 2, 3, 4, 0] rfl) (by omega) (by omega)
          · have f_2 := z_nle c_2 rfl rfl
            refine lv_aload_n hx hb dX2_addLeap_24 rfl (lv_at hl 0 rfl) ?_
            refine g_getR B fl_RX2_28 gH15.1 kh0 rfl rfl rfl rfl rfl dX2_addLeap_25 (fun q_4 s_4 k_q_4 => ?_)
            refine lv_iload_n hx hb dX2_addLeap_28 rfl (lv_at hl 1 rfl) ?_
            refine lv_bipush (v := 30) hx hb dX2_addLeap_29 (by decide) ?_
            refine lv_imul hx hb dX2_addLeap_31 ?_
            refine lv_topi (fun x_5 e_5 => ?_)
            have t_5 := z_mul e_5 rfl kl_30 (by omega) (by omega)
            refine lv_iload hx hb dX2_addLeap_32 (lv_at hl 5 rfl) ?_
            refine lv_iadd hx hb dX2_addLeap_34 ?_
            refine lv_topi (fun x_6 e_6 => ?_)
            have t_6 := z_add e_6 rfl rfl (by omega) (by omega)
            refine lv_aload_n hx hb dX2_addLeap_35 rfl (lv_at hl 0 rfl) ?_
            refine g_get B fl_RX2_15 gH15.1 kh0 rfl rfl rfl dX2_addLeap_36 s_1 ?_
            refine lv_iload hx hb dX2_addLeap_39 (lv_at hl 4 rfl) ?_
            refine lv_imul hx hb dX2_addLeap_41 ?_
            refine lv_topi (fun x_7 e_7 => ?_)
            have m_7 := z_mulB (a := x_1.toInt) (b := v3_4.toInt) (A := 5) (B := 5) (by omega) (by omega) (by omega) (by omega)
            have t_7 := z_mul e_7 rfl rfl (by omega) (by omega)
            refine lv_iadd hx hb dX2_addLeap_42 ?_
            refine lv_topi (fun x_8 e_8 => ?_)
            have t_8 := z_add e_8 rfl rfl (by omega) (by omega)
            refine lv_dup2_11 hx hb dX2_addLeap_43 rfl rfl ?_
            refine g_ialdI (i := x_8) (N := 180) B gH15.1 k_q_4 rfl rfl rfl rfl (by omega) (by omega) rfl dX2_addLeap_44 (fun x_9 s_9 a_9 b_9 => ?_)
            refine lv_aload_n hx hb dX2_addLeap_45 rfl (lv_at hl 0 rfl) ?_
            refine lv_iload hx hb dX2_addLeap_46 (lv_at hl 5 rfl) ?_
            refine lv_iload_n hx hb dX2_addLeap_48 rfl (lv_at hl 2 rfl) ?_
            refine lv_iadd hx hb dX2_addLeap_49 ?_
            refine lv_topi (fun x_10 e_10 => ?_)
            refine lv_iload hx hb dX2_addLeap_50 (lv_at hl 4 rfl) ?_
            refine lv_iload_n hx hb dX2_addLeap_52 rfl (lv_at hl 3 rfl) ?_
            refine lv_iadd hx hb dX2_addLeap_53 ?_
            refine lv_topi (fun x_11 e_11 => ?_)
            refine zkPI (zrV (rest := [.int x_9, .int x_8, .ref q_4]) B (c_X2_squareBit l E hV H15 gH15.1 h0 kh0 x_10 x_11) cl_RX2_107 gH15.1 kh0 rfl rfl rfl rfl hl.1 rfl (Nat.le_of_ble_eq_true rfl) dX2_addLeap_54 rfl rfl ⟨rfl, rfl⟩ ⟨Nat.zero_le _, Nat.zero_le _⟩ (zO.of gH15 hh)) (fun x_12 hp_12 => ?_)
            refine lv_ior hx hb dX2_addLeap_57 ?_
            refine lv_topi (fun x_13 e_13 => ?_)
            refine g_iastI (i := x_8) (N := 180) B hV gH15 k_q_4 rfl rfl rfl rfl (by omega) (by omega) rfl (z_rng _).1 (z_rng _).2 rfl dX2_addLeap_58 (fun H14 lc14 gH14 uH14 => ?_)
            have s_15 := uH14.keep (Or.inl (k_ne kh0 k_q_4 rfl)) s15_u15_h0_2
            have s_16 := uH14.keep (Or.inl (k_ne kh0 k_q_4 rfl)) s_1
            have s_17 := uH14.keep (Or.inl (k_ne kh0 k_q_4 rfl)) s_4
            obtain ⟨x_18, e_18⟩ : ∃ y : Int32, (v15_5 : Int32) + Int32.ofInt 1 = y := ⟨_, rfl⟩
            refine lv_iinc (v := x_18) (lv' := [(5, .int x_18), (0, .ref h0), (1, .int p0), (2, .int p1), (3, .int p2), (4, .int v3_4)]) hx hb dX2_addLeap_59 hl (k := 5) rfl e_18 (by decide) rfl (fun ls hl => ?_)
            have t_18 := z_inc2 e_18 rfl (by decide) (by omega) (by omega)
            refine lv_goto (tgt := 15) hx hb dX2_addLeap_62 (by decide) ?_
            exact ih15 H14 lc14 ls x_18 u15_h0_2 (by omega) gH14 (lv_sub hl [1, 2, 3, 4, 5, 0] rfl) (by omega) (by omega) (by omega) (by omega) (by omega) s_15
      refine lv_iload hx hb dX2_addLeap_3 (lv_at hl 4 rfl) ?_
      refine lv_aload_n hx hb dX2_addLeap_5 rfl (lv_at hl 0 rfl) ?_
      refine g_getI B fl_RX2_18 gH3.1 kh0 rfl rfl rfl rfl rfl dX2_addLeap_6 (fun x_19 s_19 a_19 b_19 => ?_)
      refine lv_icmp_ge (tgt := 71) hx hb dX2_addLeap_9 (by decide) (fun c_20 => ?_) (fun c_20 => ?_)
      · have f_20 := z_le c_20 rfl rfl
        exact rtV B hr hlk hh hQ gH3 trivial dX2_addLeap_71
      · have f_20 := z_nle c_20 rfl rfl
        refine lv_iconst (v := 0) hx hb dX2_addLeap_12 (by decide) ?_
        refine lv_istore (lv' := [(5, .int 0), (0, .ref h0), (1, .int p0), (2, .int p1), (3, .int p2), (4, .int v3_4)]) hx hb dX2_addLeap_13 hl (by decide) rfl (fun ls hl => ?_)
        have := kl_0
        exact b15 6 H3 lc3 ls 0 x_19 (by omega) gH3 (lv_sub hl [1, 2, 3, 4, 5, 0] rfl) (by omega) (by omega) (by omega) (by omega) (by omega) s_19
  refine lv_iconst (v := 0) hx hb dX2_addLeap_0 (by decide) ?_
  refine lv_istore (lv' := [(4, .int 0), (0, .ref h0), (1, .int p0), (2, .int p1), (3, .int p2)]) hx hb dX2_addLeap_1 hl (by decide) rfl (fun ls hl => ?_)
  have := kl_0
  exact b3 7 H0 [] ls 0 (by omega) hG0 (lv_sub hl [1, 2, 3, 4, 0] rfl) (by omega) (by omega)

theorem dX2_installForward_0 : decode cX2_installForward 0 = .ok (.aload_n 0, 1) := by decide +kernel
theorem dX2_installForward_1 : decode cX2_installForward 1 = .ok (.getfield 15, 3) := by decide +kernel
theorem dX2_installForward_4 : decode cX2_installForward 4 = .ok (.iconst 1, 1) := by decide +kernel
theorem dX2_installForward_5 : decode cX2_installForward 5 = .ok (.if_icmp .ge 4, 3) := by decide +kernel
theorem dX2_installForward_8 : decode cX2_installForward 8 = .ok (.return_, 1) := by decide +kernel
theorem dX2_installForward_9 : decode cX2_installForward 9 = .ok (.iload_n 1, 1) := by decide +kernel
theorem dX2_installForward_10 : decode cX2_installForward 10 = .ok (.aload_n 0, 1) := by decide +kernel
theorem dX2_installForward_11 : decode cX2_installForward 11 = .ok (.getfield 15, 3) := by decide +kernel
theorem dX2_installForward_14 : decode cX2_installForward 14 = .ok (.irem, 1) := by decide +kernel
theorem dX2_installForward_15 : decode cX2_installForward 15 = .ok (.istore_n 2, 1) := by decide +kernel
theorem dX2_installForward_16 : decode cX2_installForward 16 = .ok (.iload_n 1, 1) := by decide +kernel
theorem dX2_installForward_17 : decode cX2_installForward 17 = .ok (.aload_n 0, 1) := by decide +kernel
theorem dX2_installForward_18 : decode cX2_installForward 18 = .ok (.getfield 15, 3) := by decide +kernel
theorem dX2_installForward_21 : decode cX2_installForward 21 = .ok (.idiv, 1) := by decide +kernel
theorem dX2_installForward_22 : decode cX2_installForward 22 = .ok (.istore_n 3, 1) := by decide +kernel
theorem dX2_installForward_23 : decode cX2_installForward 23 = .ok (.iconst 0, 1) := by decide +kernel
theorem dX2_installForward_24 : decode cX2_installForward 24 = .ok (.istore 4, 2) := by decide +kernel
theorem dX2_installForward_26 : decode cX2_installForward 26 = .ok (.iload 4, 2) := by decide +kernel
theorem dX2_installForward_28 : decode cX2_installForward 28 = .ok (.iconst 1, 1) := by decide +kernel
theorem dX2_installForward_29 : decode cX2_installForward 29 = .ok (.if_icmp .gt 75, 3) := by decide +kernel
theorem dX2_installForward_32 : decode cX2_installForward 32 = .ok (.iload 4, 2) := by decide +kernel
theorem dX2_installForward_34 : decode cX2_installForward 34 = .ok (.ifCond .ne 9, 3) := by decide +kernel
theorem dX2_installForward_37 : decode cX2_installForward 37 = .ok (.iload_n 3, 1) := by decide +kernel
theorem dX2_installForward_38 : decode cX2_installForward 38 = .ok (.iconst 1, 1) := by decide +kernel
theorem dX2_installForward_39 : decode cX2_installForward 39 = .ok (.iadd, 1) := by decide +kernel
theorem dX2_installForward_40 : decode cX2_installForward 40 = .ok (.goto 6, 3) := by decide +kernel
theorem dX2_installForward_43 : decode cX2_installForward 43 = .ok (.iload_n 3, 1) := by decide +kernel
theorem dX2_installForward_44 : decode cX2_installForward 44 = .ok (.iconst 1, 1) := by decide +kernel
theorem dX2_installForward_45 : decode cX2_installForward 45 = .ok (.isub, 1) := by decide +kernel
theorem dX2_installForward_46 : decode cX2_installForward 46 = .ok (.istore 5, 2) := by decide +kernel
theorem dX2_installForward_48 : decode cX2_installForward 48 = .ok (.aload_n 0, 1) := by decide +kernel
theorem dX2_installForward_49 : decode cX2_installForward 49 = .ok (.getfield 36, 3) := by decide +kernel
theorem dX2_installForward_52 : decode cX2_installForward 52 = .ok (.iload 4, 2) := by decide +kernel
theorem dX2_installForward_54 : decode cX2_installForward 54 = .ok (.bipush 30, 2) := by decide +kernel
theorem dX2_installForward_56 : decode cX2_installForward 56 = .ok (.imul, 1) := by decide +kernel
theorem dX2_installForward_57 : decode cX2_installForward 57 = .ok (.iload_n 1, 1) := by decide +kernel
theorem dX2_installForward_58 : decode cX2_installForward 58 = .ok (.iadd, 1) := by decide +kernel
theorem dX2_installForward_59 : decode cX2_installForward 59 = .ok (.aload_n 0, 1) := by decide +kernel
theorem dX2_installForward_60 : decode cX2_installForward 60 = .ok (.iload_n 2, 1) := by decide +kernel
theorem dX2_installForward_61 : decode cX2_installForward 61 = .ok (.iload 5, 2) := by decide +kernel
theorem dX2_installForward_63 : decode cX2_installForward 63 = .ok (.invokevirtual 107, 3) := by decide +kernel
theorem dX2_installForward_66 : decode cX2_installForward 66 = .ok (.iastore, 1) := by decide +kernel
theorem dX2_installForward_67 : decode cX2_installForward 67 = .ok (.aload_n 0, 1) := by decide +kernel
theorem dX2_installForward_68 : decode cX2_installForward 68 = .ok (.getfield 39, 3) := by decide +kernel
theorem dX2_installForward_71 : decode cX2_installForward 71 = .ok (.iload 4, 2) := by decide +kernel
theorem dX2_installForward_73 : decode cX2_installForward 73 = .ok (.bipush 30, 2) := by decide +kernel
theorem dX2_installForward_75 : decode cX2_installForward 75 = .ok (.imul, 1) := by decide +kernel
theorem dX2_installForward_76 : decode cX2_installForward 76 = .ok (.iload_n 1, 1) := by decide +kernel
theorem dX2_installForward_77 : decode cX2_installForward 77 = .ok (.iadd, 1) := by decide +kernel
theorem dX2_installForward_78 : decode cX2_installForward 78 = .ok (.aload_n 0, 1) := by decide +kernel
theorem dX2_installForward_79 : decode cX2_installForward 79 = .ok (.iload_n 2, 1) := by decide +kernel
theorem dX2_installForward_80 : decode cX2_installForward 80 = .ok (.iconst 1, 1) := by decide +kernel
theorem dX2_installForward_81 : decode cX2_installForward 81 = .ok (.isub, 1) := by decide +kernel
theorem dX2_installForward_82 : decode cX2_installForward 82 = .ok (.iload 5, 2) := by decide +kernel
theorem dX2_installForward_84 : decode cX2_installForward 84 = .ok (.invokevirtual 107, 3) := by decide +kernel
theorem dX2_installForward_87 : decode cX2_installForward 87 = .ok (.aload_n 0, 1) := by decide +kernel
theorem dX2_installForward_88 : decode cX2_installForward 88 = .ok (.iload_n 2, 1) := by decide +kernel
theorem dX2_installForward_89 : decode cX2_installForward 89 = .ok (.iconst 1, 1) := by decide +kernel
theorem dX2_installForward_90 : decode cX2_installForward 90 = .ok (.iadd, 1) := by decide +kernel
theorem dX2_installForward_91 : decode cX2_installForward 91 = .ok (.iload 5, 2) := by decide +kernel
theorem dX2_installForward_93 : decode cX2_installForward 93 = .ok (.invokevirtual 107, 3) := by decide +kernel
theorem dX2_installForward_96 : decode cX2_installForward 96 = .ok (.ior, 1) := by decide +kernel
theorem dX2_installForward_97 : decode cX2_installForward 97 = .ok (.iastore, 1) := by decide +kernel
theorem dX2_installForward_98 : decode cX2_installForward 98 = .ok (.iinc 4 1, 3) := by decide +kernel
theorem dX2_installForward_101 : decode cX2_installForward 101 = .ok (.goto (-75), 3) := by decide +kernel
theorem dX2_installForward_104 : decode cX2_installForward 104 = .ok (.return_, 1) := by decide +kernel
def rm_X2_installForward : Room := { frames := 2, cells := 0, slots := 0, locals := 44 }
abbrev wS_X2_installForward : List (Nat × Nat) := [(28, 99), (29, 99)]
set_option maxRecDepth 100000 in
set_option maxHeartbeats 4000000 in
theorem c_X2_installForward (l : Launch) (E : zE) (hV : zV E) (H0 : Heap) (hT0 : HT E H0) (h0 : Nat) (kh0 : eK E h0 = 3) (p0 : Int32) (p0_lo : 0 ≤ p0.toInt) (p0_hi : p0.toInt ≤ 29) : Met l yX2_installForward (zws yX2_installForward cX2_installForward 6 none) rm_X2_installForward (zP E H0 [.ref h0, .int p0]) (zQV E E wS_X2_installForward (fun H1 => True)) 0 0 (zfr E) := by
  refine zEnt (by decide) (Nat.le_of_ble_eq_true rfl) (fun p e s m args below meth c ls Q B hr hlk hh hQ hl => ?_)
  have hx := B.1
  have hb := B.2.1
  have hG0 : zG E wS_X2_installForward H0 H0 [] := zG.rf hT0
  have hl : lv_has ls 6 [(0, .ref h0), (1, .int p0)] := hl
  have b26 : ∀ (n26 : Nat) (H26 : Heap) (lc26 : List Loc) (ls : Array Slot) (v26_2 : Int32) (v26_3 : Int32) (v26_4 : Int32), 2 - v26_4.toInt < (n26 : Int) → zG E wS_X2_installForward H0 H26 lc26 → lv_has ls 6 [(0, .ref h0), (1, .int p0), (2, .int v26_2), (3, .int v26_3), (4, .int v26_4)] → 0 ≤ v26_2.toInt → v26_2.toInt ≤ 4 → 0 ≤ v26_3.toInt → v26_3.toInt ≤ 29 → 0 ≤ v26_4.toInt → v26_4.toInt ≤ 2 → W p l e rm_X2_installForward s m args below meth c H26 lc26 0 0 Q (F0 m 26 ls []) := by
    intro n26
    induction n26 with
    | zero =>
      intro H26 lc26 ls v26_2 v26_3 v26_4 hm26 gH26 hl f26_1 f26_2 f26_3 f26_4 f26_5 f26_6
      exact absurd hm26 (by omega)
    | succ n26 ih26 =>
      intro H26 lc26 ls v26_2 v26_3 v26_4 hm26 gH26 hl f26_1 f26_2 f26_3 f26_4 f26_5 f26_6
      have b46 : ∀ (ls : Array Slot) (w46_0 : Int32), lv_has ls 6 [(0, .ref h0), (1, .int p0), (2, .int v26_2), (3, .int v26_3), (4, .int v26_4)] → v26_4.toInt ≤ 1 → (-1) ≤ w46_0.toInt → w46_0.toInt ≤ 30 → W p l e rm_X2_installForward s m args below meth c H26 lc26 0 0 Q (F0 m 46 ls [.int w46_0]) := by
        intro ls w46_0 hl f46_1 f46_2 f46_3
        refine lv_istore (lv' := [(5, .int w46_0), (0, .ref h0), (1, .int p0), (2, .int v26_2), (3, .int v26_3), (4, .int v26_4)]) hx hb dX2_installForward_46 hl (by decide) rfl (fun ls hl => ?_)
        refine lv_aload_n hx hb dX2_installForward_48 rfl (lv_at hl 1 rfl) ?_
        refine g_getR B fl_RX2_36 gH26.1 kh0 rfl rfl rfl rfl rfl dX2_installForward_49 (fun q_1 s_1 k_q_1 => ?_)
        refine lv_iload hx hb dX2_installForward_52 (lv_at hl 5 rfl) ?_
        refine lv_bipush (v := 30) hx hb dX2_installForward_54 (by decide) ?_
        refine lv_imul hx hb dX2_installForward_56 ?_
        refine lv_topi (fun x_2 e_2 => ?_)
        have t_2 := z_mul e_2 rfl kl_30 (by omega) (by omega)
        refine lv_iload_n hx hb dX2_installForward_57 rfl (lv_at hl 2 rfl) ?_
        refine lv_iadd hx hb dX2_installForward_58 ?_
        refine lv_topi (fun x_3 e_3 => ?_)
        have t_3 := z_add e_3 rfl rfl (by omega) (by omega)
        refine lv_aload_n hx hb dX2_installForward_59 rfl (lv_at hl 1 rfl) ?_
        refine lv_iload_n hx hb dX2_installForward_60 rfl (lv_at hl 3 rfl) ?_
        refine lv_iload hx hb dX2_installForward_61 (lv_at hl 0 rfl) ?_
        refine zkPI (zrV (rest := [.int x_3, .ref q_1]) B (c_X2_squareBit l E hV H26 gH26.1 h0 kh0 v26_2 w46_0) cl_RX2_107 gH26.1 kh0 rfl rfl rfl rfl hl.1 rfl (Nat.le_of_ble_eq_true rfl) dX2_installForward_63 rfl rfl ⟨rfl, rfl⟩ ⟨Nat.zero_le _, Nat.zero_le _⟩ (zO.of gH26 hh)) (fun x_4 hp_4 => ?_)
        refine g_iastI (i := x_3) (N := 60) B hV gH26 k_q_1 rfl rfl rfl rfl (by omega) (by omega) rfl (z_rng _).1 (z_rng _).2 rfl dX2_installForward_66 (fun H5 lc5 gH5 uH5 => ?_)
        have s_6 := uH5.keep (Or.inl (k_ne kh0 k_q_1 rfl)) s_1
        refine lv_aload_n hx hb dX2_installForward_67 rfl (lv_at hl 1 rfl) ?_
        refine g_getR B fl_RX2_39 gH5.1 kh0 rfl rfl rfl rfl rfl dX2_installForward_68 (fun q_7 s_7 k_q_7 => ?_)
        refine lv_iload hx hb dX2_installForward_71 (lv_at hl 5 rfl) ?_
        refine lv_bipush (v := 30) hx hb dX2_installForward_73 (by decide) ?_
        refine lv_imul hx hb dX2_installForward_75 ?_
        refine lv_topi (fun x_8 e_8 => ?_)
        have t_8 := z_mul e_8 rfl kl_30 (by omega) (by omega)
        refine lv_iload_n hx hb dX2_installForward_76 rfl (lv_at hl 2 rfl) ?_
        refine lv_iadd hx hb dX2_installForward_77 ?_
        refine lv_topi (fun x_9 e_9 => ?_)
        have t_9 := z_add e_9 rfl rfl (by omega) (by omega)
        refine lv_aload_n hx hb dX2_installForward_78 rfl (lv_at hl 1 rfl) ?_
        refine lv_iload_n hx hb dX2_installForward_79 rfl (lv_at hl 3 rfl) ?_
        refine lv_iconst (v := 1) hx hb dX2_installForward_80 (by decide) ?_
        refine lv_isub hx hb dX2_installForward_81 ?_
        refine lv_topi (fun x_10 e_10 => ?_)
        have t_10 := z_sub e_10 rfl kl_1 (by omega) (by omega)
        refine lv_iload hx hb dX2_installForward_82 (lv_at hl 0 rfl) ?_
        refine zkPI (zrV (rest := [.int x_9, .ref q_7]) B (c_X2_squareBit l E hV H5 gH5.1 h0 kh0 x_10 w46_0) cl_RX2_107 gH5.1 kh0 rfl rfl rfl rfl hl.1 rfl (Nat.le_of_ble_eq_true rfl) dX2_installForward_84 rfl rfl ⟨rfl, rfl⟩ ⟨Nat.zero_le _, Nat.zero_le _⟩ (zO.of gH5 hh)) (fun x_11 hp_11 => ?_)
        refine lv_aload_n hx hb dX2_installForward_87 rfl (lv_at hl 1 rfl) ?_
        refine lv_iload_n hx hb dX2_installForward_88 rfl (lv_at hl 3 rfl) ?_
        refine lv_iconst (v := 1) hx hb dX2_installForward_89 (by decide) ?_
        refine lv_iadd hx hb dX2_installForward_90 ?_
        refine lv_topi (fun x_12 e_12 => ?_)
        have t_12 := z_add e_12 rfl kl_1 (by omega) (by omega)
        refine lv_iload hx hb dX2_installForward_91 (lv_at hl 0 rfl) ?_
        refine zkPI (zrV (rest := [.int x_11, .int x_9, .ref q_7]) B (c_X2_squareBit l E hV H5 gH5.1 h0 kh0 x_12 w46_0) cl_RX2_107 gH5.1 kh0 rfl rfl rfl rfl hl.1 rfl (Nat.le_of_ble_eq_true rfl) dX2_installForward_93 rfl rfl ⟨rfl, rfl⟩ ⟨Nat.zero_le _, Nat.zero_le _⟩ (zO.of gH5 hh)) (fun x_13 hp_13 => ?_)
        refine lv_ior hx hb dX2_installForward_96 ?_
        refine lv_topi (fun x_14 e_14 => ?_)
        refine g_iastI (i := x_9) (N := 60) B hV gH5 k_q_7 rfl rfl rfl rfl (by omega) (by omega) rfl (z_rng _).1 (z_rng _).2 rfl dX2_installForward_97 (fun H15 lc15 gH15 uH15 => ?_)
        have s_16 := uH15.keep (Or.inl (k_ne kh0 k_q_7 rfl)) s_6
        have s_17 := uH15.keep (Or.inl (k_ne kh0 k_q_7 rfl)) s_7
        obtain ⟨x_18, e_18⟩ : ∃ y : Int32, (v26_4 : Int32) + Int32.ofInt 1 = y := ⟨_, rfl⟩
        refine lv_iinc (v := x_18) (lv' := [(4, .int x_18), (5, .int w46_0), (0, .ref h0), (1, .int p0), (2, .int v26_2), (3, .int v26_3)]) hx hb dX2_installForward_98 hl (k := 5) rfl e_18 (by decide) rfl (fun ls hl => ?_)
        have t_18 := z_inc2 e_18 rfl (by decide) (by omega) (by omega)
        refine lv_goto (tgt := 26) hx hb dX2_installForward_101 (by decide) ?_
        exact ih26 H15 lc15 ls v26_2 v26_3 x_18 (by omega) gH15 (lv_sub hl [2, 3, 4, 5, 0] rfl) (by omega) (by omega) (by omega) (by omega) (by omega) (by omega)
      refine lv_iload hx hb dX2_installForward_26 (lv_at hl 4 rfl) ?_
      refine lv_iconst (v := 1) hx hb dX2_installForward_28 (by decide) ?_
      refine lv_icmp_gt (tgt := 104) hx hb dX2_installForward_29 (by decide) (fun c_19 => ?_) (fun c_19 => ?_)
      · have f_19 := z_lt c_19 kl_1 rfl
        exact rtV B hr hlk hh hQ gH26 trivial dX2_installForward_104
      · have f_19 := z_nlt c_19 kl_1 rfl
        refine lv_iload hx hb dX2_installForward_32 (lv_at hl 4 rfl) ?_
        refine lv_if_ne (tgt := 43) hx hb dX2_installForward_34 (by decide) (fun c_20 => ?_) (fun c_20 => ?_)
        · have f_20 := z_ne c_20 rfl kl_0
          refine lv_iload_n hx hb dX2_installForward_43 rfl (lv_at hl 3 rfl) ?_
          refine lv_iconst (v := 1) hx hb dX2_installForward_44 (by decide) ?_
          refine lv_isub hx hb dX2_installForward_45 ?_
          refine lv_topi (fun x_21 e_21 => ?_)
          have t_21 := z_sub e_21 rfl kl_1 (by omega) (by omega)
          exact b46 ls x_21 (lv_sub hl [0, 1, 2, 3, 4] rfl) (by omega) (by omega) (by omega)
        · have f_20 := z_eq c_20 rfl kl_0
          refine lv_iload_n hx hb dX2_installForward_37 rfl (lv_at hl 3 rfl) ?_
          refine lv_iconst (v := 1) hx hb dX2_installForward_38 (by decide) ?_
          refine lv_iadd hx hb dX2_installForward_39 ?_
          refine lv_topi (fun x_22 e_22 => ?_)
          have t_22 := z_add e_22 rfl kl_1 (by omega) (by omega)
          refine lv_goto (tgt := 46) hx hb dX2_installForward_40 (by decide) ?_
          exact b46 ls x_22 (lv_sub hl [0, 1, 2, 3, 4] rfl) (by omega) (by omega) (by omega)
  refine lv_aload_n hx hb dX2_installForward_0 rfl (lv_at hl 0 rfl) ?_
  refine g_getI B fl_RX2_15 hT0 kh0 rfl rfl rfl rfl rfl dX2_installForward_1 (fun x_23 s_23 a_23 b_23 => ?_)
  refine lv_iconst (v := 1) hx hb dX2_installForward_4 (by decide) ?_
  refine lv_icmp_ge (tgt := 9) hx hb dX2_installForward_5 (by decide) (fun c_24 => ?_) (fun c_24 => ?_)
  · have f_24 := z_le c_24 kl_1 rfl
    refine lv_iload_n hx hb dX2_installForward_9 rfl (lv_at hl 1 rfl) ?_
    refine lv_aload_n hx hb dX2_installForward_10 rfl (lv_at hl 0 rfl) ?_
    refine g_get B fl_RX2_15 hT0 kh0 rfl rfl rfl dX2_installForward_11 s_23 ?_
    refine lv_irem hx hb dX2_installForward_14 (z_ne0 (by omega)) ?_
    refine lv_topi (fun x_25 e_25 => ?_)
    have t_25 := z_rem e_25 rfl rfl (by omega) (by omega)
    refine lv_istore_n (lv' := [(2, .int x_25), (0, .ref h0), (1, .int p0)]) hx hb dX2_installForward_15 rfl hl (by decide) rfl (fun ls hl => ?_)
    refine lv_iload_n hx hb dX2_installForward_16 rfl (lv_at hl 2 rfl) ?_
    refine lv_aload_n hx hb dX2_installForward_17 rfl (lv_at hl 1 rfl) ?_
    refine g_get B fl_RX2_15 hT0 kh0 rfl rfl rfl dX2_installForward_18 s_23 ?_
    refine lv_idiv hx hb dX2_installForward_21 (z_ne0 (by omega)) ?_
    refine lv_topi (fun x_26 e_26 => ?_)
    have t_26 := z_div e_26 rfl rfl (by omega) (by omega)
    refine lv_istore_n (lv' := [(3, .int x_26), (2, .int x_25), (0, .ref h0), (1, .int p0)]) hx hb dX2_installForward_22 rfl hl (by decide) rfl (fun ls hl => ?_)
    refine lv_iconst (v := 0) hx hb dX2_installForward_23 (by decide) ?_
    refine lv_istore (lv' := [(4, .int 0), (3, .int x_26), (2, .int x_25), (0, .ref h0), (1, .int p0)]) hx hb dX2_installForward_24 hl (by decide) rfl (fun ls hl => ?_)
    have := kl_0
    exact b26 3 H0 [] ls x_25 x_26 0 (by omega) hG0 (lv_sub hl [3, 4, 2, 1, 0] rfl) (by omega) (by omega) (by omega) (by omega) (by omega) (by omega)
  · have f_24 := z_nle c_24 kl_1 rfl
    exact rtV B hr hlk hh hQ hG0 trivial dX2_installForward_8

theorem dX2_installWay_0 : decode cX2_installWay 0 = .ok (.iconst 0, 1) := by decide +kernel
theorem dX2_installWay_1 : decode cX2_installWay 1 = .ok (.istore 4, 2) := by decide +kernel
theorem dX2_installWay_3 : decode cX2_installWay 3 = .ok (.iload 4, 2) := by decide +kernel
theorem dX2_installWay_5 : decode cX2_installWay 5 = .ok (.bipush 8, 2) := by decide +kernel
theorem dX2_installWay_7 : decode cX2_installWay 7 = .ok (.if_icmp .ge 131, 3) := by decide +kernel
theorem dX2_installWay_10 : decode cX2_installWay 10 = .ok (.iload 4, 2) := by decide +kernel
theorem dX2_installWay_12 : decode cX2_installWay 12 = .ok (.iconst 4, 1) := by decide +kernel
theorem dX2_installWay_13 : decode cX2_installWay 13 = .ok (.iand, 1) := by decide +kernel
theorem dX2_installWay_14 : decode cX2_installWay 14 = .ok (.ifCond .eq 7, 3) := by decide +kernel
theorem dX2_installWay_17 : decode cX2_installWay 17 = .ok (.iconst 1, 1) := by decide +kernel
theorem dX2_installWay_18 : decode cX2_installWay 18 = .ok (.goto 4, 3) := by decide +kernel
theorem dX2_installWay_21 : decode cX2_installWay 21 = .ok (.iconst 0, 1) := by decide +kernel
theorem dX2_installWay_22 : decode cX2_installWay 22 = .ok (.istore 5, 2) := by decide +kernel
theorem dX2_installWay_24 : decode cX2_installWay 24 = .ok (.iload 5, 2) := by decide +kernel
theorem dX2_installWay_26 : decode cX2_installWay 26 = .ok (.ifCond .eq 12, 3) := by decide +kernel
theorem dX2_installWay_29 : decode cX2_installWay 29 = .ok (.aload_n 1, 1) := by decide +kernel
theorem dX2_installWay_30 : decode cX2_installWay 30 = .ok (.getfield 91, 3) := by decide +kernel
theorem dX2_installWay_33 : decode cX2_installWay 33 = .ok (.iload_n 3, 1) := by decide +kernel
theorem dX2_installWay_34 : decode cX2_installWay 34 = .ok (.iaload, 1) := by decide +kernel
theorem dX2_installWay_35 : decode cX2_installWay 35 = .ok (.goto 9, 3) := by decide +kernel
theorem dX2_installWay_38 : decode cX2_installWay 38 = .ok (.aload_n 1, 1) := by decide +kernel
theorem dX2_installWay_39 : decode cX2_installWay 39 = .ok (.getfield 94, 3) := by decide +kernel
theorem dX2_installWay_42 : decode cX2_installWay 42 = .ok (.iload_n 3, 1) := by decide +kernel
theorem dX2_installWay_43 : decode cX2_installWay 43 = .ok (.iaload, 1) := by decide +kernel
theorem dX2_installWay_44 : decode cX2_installWay 44 = .ok (.istore 6, 2) := by decide +kernel
theorem dX2_installWay_46 : decode cX2_installWay 46 = .ok (.iload 5, 2) := by decide +kernel
theorem dX2_installWay_48 : decode cX2_installWay 48 = .ok (.ifCond .eq 12, 3) := by decide +kernel
theorem dX2_installWay_51 : decode cX2_installWay 51 = .ok (.aload_n 1, 1) := by decide +kernel
theorem dX2_installWay_52 : decode cX2_installWay 52 = .ok (.getfield 94, 3) := by decide +kernel
theorem dX2_installWay_55 : decode cX2_installWay 55 = .ok (.iload_n 3, 1) := by decide +kernel
theorem dX2_installWay_56 : decode cX2_installWay 56 = .ok (.iaload, 1) := by decide +kernel
theorem dX2_installWay_57 : decode cX2_installWay 57 = .ok (.goto 9, 3) := by decide +kernel
theorem dX2_installWay_60 : decode cX2_installWay 60 = .ok (.aload_n 1, 1) := by decide +kernel
theorem dX2_installWay_61 : decode cX2_installWay 61 = .ok (.getfield 91, 3) := by decide +kernel
theorem dX2_installWay_64 : decode cX2_installWay 64 = .ok (.iload_n 3, 1) := by decide +kernel
theorem dX2_installWay_65 : decode cX2_installWay 65 = .ok (.iaload, 1) := by decide +kernel
theorem dX2_installWay_66 : decode cX2_installWay 66 = .ok (.istore 7, 2) := by decide +kernel
theorem dX2_installWay_68 : decode cX2_installWay 68 = .ok (.iload 4, 2) := by decide +kernel
theorem dX2_installWay_70 : decode cX2_installWay 70 = .ok (.iconst 1, 1) := by decide +kernel
theorem dX2_installWay_71 : decode cX2_installWay 71 = .ok (.iand, 1) := by decide +kernel
theorem dX2_installWay_72 : decode cX2_installWay 72 = .ok (.ifCond .eq 9, 3) := by decide +kernel
theorem dX2_installWay_75 : decode cX2_installWay 75 = .ok (.iload 6, 2) := by decide +kernel
theorem dX2_installWay_77 : decode cX2_installWay 77 = .ok (.ineg, 1) := by decide +kernel
theorem dX2_installWay_78 : decode cX2_installWay 78 = .ok (.goto 5, 3) := by decide +kernel
theorem dX2_installWay_81 : decode cX2_installWay 81 = .ok (.iload 6, 2) := by decide +kernel
theorem dX2_installWay_83 : decode cX2_installWay 83 = .ok (.istore 6, 2) := by decide +kernel
theorem dX2_installWay_85 : decode cX2_installWay 85 = .ok (.iload 4, 2) := by decide +kernel
theorem dX2_installWay_87 : decode cX2_installWay 87 = .ok (.iconst 2, 1) := by decide +kernel
theorem dX2_installWay_88 : decode cX2_installWay 88 = .ok (.iand, 1) := by decide +kernel
theorem dX2_installWay_89 : decode cX2_installWay 89 = .ok (.ifCond .eq 9, 3) := by decide +kernel
theorem dX2_installWay_92 : decode cX2_installWay 92 = .ok (.iload 7, 2) := by decide +kernel
theorem dX2_installWay_94 : decode cX2_installWay 94 = .ok (.ineg, 1) := by decide +kernel
theorem dX2_installWay_95 : decode cX2_installWay 95 = .ok (.goto 5, 3) := by decide +kernel
theorem dX2_installWay_98 : decode cX2_installWay 98 = .ok (.iload 7, 2) := by decide +kernel
theorem dX2_installWay_100 : decode cX2_installWay 100 = .ok (.istore 7, 2) := by decide +kernel
theorem dX2_installWay_102 : decode cX2_installWay 102 = .ok (.aload_n 1, 1) := by decide +kernel
theorem dX2_installWay_103 : decode cX2_installWay 103 = .ok (.getfield 97, 3) := by decide +kernel
theorem dX2_installWay_106 : decode cX2_installWay 106 = .ok (.iload_n 3, 1) := by decide +kernel
theorem dX2_installWay_107 : decode cX2_installWay 107 = .ok (.baload, 1) := by decide +kernel
theorem dX2_installWay_108 : decode cX2_installWay 108 = .ok (.ifCond .eq 15, 3) := by decide +kernel
theorem dX2_installWay_111 : decode cX2_installWay 111 = .ok (.aload_n 0, 1) := by decide +kernel
theorem dX2_installWay_112 : decode cX2_installWay 112 = .ok (.iload_n 2, 1) := by decide +kernel
theorem dX2_installWay_113 : decode cX2_installWay 113 = .ok (.iload 6, 2) := by decide +kernel
theorem dX2_installWay_115 : decode cX2_installWay 115 = .ok (.iload 7, 2) := by decide +kernel
theorem dX2_installWay_117 : decode cX2_installWay 117 = .ok (.invokevirtual 100, 3) := by decide +kernel
theorem dX2_installWay_120 : decode cX2_installWay 120 = .ok (.goto 12, 3) := by decide +kernel
theorem dX2_installWay_123 : decode cX2_installWay 123 = .ok (.aload_n 0, 1) := by decide +kernel
theorem dX2_installWay_124 : decode cX2_installWay 124 = .ok (.iload_n 2, 1) := by decide +kernel
theorem dX2_installWay_125 : decode cX2_installWay 125 = .ok (.iload 6, 2) := by decide +kernel
theorem dX2_installWay_127 : decode cX2_installWay 127 = .ok (.iload 7, 2) := by decide +kernel
theorem dX2_installWay_129 : decode cX2_installWay 129 = .ok (.invokevirtual 104, 3) := by decide +kernel
theorem dX2_installWay_132 : decode cX2_installWay 132 = .ok (.iinc 4 1, 3) := by decide +kernel
theorem dX2_installWay_135 : decode cX2_installWay 135 = .ok (.goto (-132), 3) := by decide +kernel
theorem dX2_installWay_138 : decode cX2_installWay 138 = .ok (.return_, 1) := by decide +kernel
def rm_X2_installWay : Room := { frames := 3, cells := 0, slots := 0, locals := 69 }
abbrev wS_X2_installWay : List (Nat × Nat) := [(26, 99), (30, 99), (31, 99), (32, 99)]
set_option maxRecDepth 100000 in
set_option maxHeartbeats 4000000 in
theorem c_X2_installWay (l : Launch) (E : zE) (hV : zV E) (H0 : Heap) (hT0 : HT E H0) (h0 : Nat) (kh0 : eK E h0 = 3) (p0 : Nat) (kp0 : eK E p0 = 11) (p1 : Int32) (p1_lo : 0 ≤ p1.toInt) (p1_hi : p1.toInt ≤ 5) (p2 : Int32) (p2_lo : 0 ≤ p2.toInt) (p2_hi : p2.toInt ≤ 35) : Met l yX2_installWay (zws yX2_installWay cX2_installWay 8 none) rm_X2_installWay (zP E H0 [.ref h0, .ref p0, .int p1, .int p2]) (zQV E E wS_X2_installWay (fun H1 => True)) 0 0 (zfr E) := by
  refine zEnt (by decide) (Nat.le_of_ble_eq_true rfl) (fun p e s m args below meth c ls Q B hr hlk hh hQ hl => ?_)
  have hx := B.1
  have hb := B.2.1
  have hG0 : zG E wS_X2_installWay H0 H0 [] := zG.rf hT0
  have hl : lv_has ls 8 [(0, .ref h0), (1, .ref p0), (2, .int p1), (3, .int p2)] := hl
  have b3 : ∀ (n3 : Nat) (H3 : Heap) (lc3 : List Loc) (ls : Array Slot) (v3_4 : Int32), 8 - v3_4.toInt < (n3 : Int) → zG E wS_X2_installWay H0 H3 lc3 → lv_has ls 8 [(0, .ref h0), (1, .ref p0), (2, .int p1), (3, .int p2), (4, .int v3_4)] → 0 ≤ v3_4.toInt → v3_4.toInt ≤ 8 → W p l e rm_X2_installWay s m args below meth c H3 lc3 0 0 Q (F0 m 3 ls []) := by
    intro n3
    induction n3 with
    | zero =>
      intro H3 lc3 ls v3_4 hm3 gH3 hl f3_1 f3_2
      exact absurd hm3 (by omega)
    | succ n3 ih3 =>
      intro H3 lc3 ls v3_4 hm3 gH3 hl f3_1 f3_2
      have b132 : ∀ (H132 : Heap) (lc132 : List Loc) (ls : Array Slot) (u132_p0_8 : Nat), zG E wS_X2_installWay H0 H132 lc132 → lv_has ls 8 [(0, .ref h0), (1, .ref p0), (2, .int p1), (3, .int p2), (4, .int v3_4)] → eK E u132_p0_8 = 54 → v3_4.toInt ≤ 7 → sl H132 p0 (zix E 11 8) = some (.ref u132_p0_8) → W p l e rm_X2_installWay s m args below meth c H132 lc132 0 0 Q (F0 m 132 ls []) := by
        intro H132 lc132 ls u132_p0_8 gH132 hl k_u132_p0_8 f132_1 s132_u132_p0_8
        obtain ⟨x_1, e_1⟩ : ∃ y : Int32, (v3_4 : Int32) + Int32.ofInt 1 = y := ⟨_, rfl⟩
        refine lv_iinc (v := x_1) (lv' := [(4, .int x_1), (0, .ref h0), (1, .ref p0), (2, .int p1), (3, .int p2)]) hx hb dX2_installWay_132 hl (k := 4) rfl e_1 (by decide) rfl (fun ls hl => ?_)
        have t_1 := z_inc2 e_1 rfl (by decide) (by omega) (by omega)
        refine lv_goto (tgt := 3) hx hb dX2_installWay_135 (by decide) ?_
        exact ih3 H132 lc132 ls x_1 (by omega) gH132 (lv_sub hl [1, 2, 3, 4, 0] rfl) (by omega) (by omega)
      have b100 : ∀ (ls : Array Slot) (v100_6 : Int32) (w100_0 : Int32), lv_has ls 8 [(0, .ref h0), (1, .ref p0), (2, .int p1), (3, .int p2), (4, .int v3_4), (6, .int v100_6)] → v3_4.toInt ≤ 7 → W p l e rm_X2_installWay s m args below meth c H3 lc3 0 0 Q (F0 m 100 ls [.int w100_0]) := by
        intro ls v100_6 w100_0 hl f100_1
        refine lv_istore (lv' := [(7, .int w100_0), (0, .ref h0), (1, .ref p0), (2, .int p1), (3, .int p2), (4, .int v3_4), (6, .int v100_6)]) hx hb dX2_installWay_100 hl (by decide) rfl (fun ls hl => ?_)
        refine lv_aload_n hx hb dX2_installWay_102 rfl (lv_at hl 2 rfl) ?_
        refine g_getR B fl_RX2_97 gH3.1 kp0 rfl rfl rfl rfl rfl dX2_installWay_103 (fun q_2 s_2 k_q_2 => ?_)
        refine lv_iload_n hx hb dX2_installWay_106 rfl (lv_at hl 4 rfl) ?_
        refine g_zaldI (i := p2) (N := 36) B gH3.1 k_q_2 rfl rfl rfl rfl (by omega) (by omega) rfl dX2_installWay_107 (fun x_3 s_3 a_3 b_3 => ?_)
        refine lv_if_eq (tgt := 123) hx hb dX2_installWay_108 (by decide) (fun c_4 => ?_) (fun c_4 => ?_)
        · have f_4 := z_eq c_4 rfl kl_0
          refine lv_aload_n hx hb dX2_installWay_123 rfl (lv_at hl 1 rfl) ?_
          refine lv_iload_n hx hb dX2_installWay_124 rfl (lv_at hl 3 rfl) ?_
          refine lv_iload hx hb dX2_installWay_125 (lv_at hl 6 rfl) ?_
          refine lv_iload hx hb dX2_installWay_127 (lv_at hl 0 rfl) ?_
          refine zkV (zrV (rest := []) B (c_X2_addLeap l E hV H3 gH3.1 h0 kh0 p1 (by omega) (by omega) v100_6 w100_0) cl_RX2_104 gH3.1 kh0 rfl rfl rfl rfl hl.1 rfl (Nat.le_of_ble_eq_true rfl) dX2_installWay_129 rfl rfl ⟨rfl, rfl⟩ ⟨Nat.zero_le _, Nat.zero_le _⟩ (zO.of gH3 hh)) gH3 rfl (fun H5 lc5 hp_5 gH5 rH5 => ?_)
          have s_6 := rH5.keep hV kp0 rfl s_2
          have s_7 := rH5.keepA k_q_2 rfl s_3
          exact b132 H5 lc5 ls q_2 gH5 (lv_sub hl [1, 2, 3, 4, 5] rfl) k_q_2 (by omega) s_6
        · have f_4 := z_ne c_4 rfl kl_0
          refine lv_aload_n hx hb dX2_installWay_111 rfl (lv_at hl 1 rfl) ?_
          refine lv_iload_n hx hb dX2_installWay_112 rfl (lv_at hl 3 rfl) ?_
          refine lv_iload hx hb dX2_installWay_113 (lv_at hl 6 rfl) ?_
          refine lv_iload hx hb dX2_installWay_115 (lv_at hl 0 rfl) ?_
          refine zkV (zrV (rest := []) B (c_X2_addRay l E hV H3 gH3.1 h0 kh0 p1 (by omega) (by omega) v100_6 w100_0) cl_RX2_100 gH3.1 kh0 rfl rfl rfl rfl hl.1 rfl (Nat.le_of_ble_eq_true rfl) dX2_installWay_117 rfl rfl ⟨rfl, rfl⟩ ⟨Nat.zero_le _, Nat.zero_le _⟩ (zO.of gH3 hh)) gH3 rfl (fun H8 lc8 hp_8 gH8 rH8 => ?_)
          have s_9 := rH8.keep hV kp0 rfl s_2
          have s_10 := rH8.keepA k_q_2 rfl s_3
          refine lv_goto (tgt := 132) hx hb dX2_installWay_120 (by decide) ?_
          exact b132 H8 lc8 ls q_2 gH8 (lv_sub hl [1, 2, 3, 4, 5] rfl) k_q_2 (by omega) s_9
      have b83 : ∀ (ls : Array Slot) (v83_7 : Int32) (w83_0 : Int32), lv_has ls 8 [(0, .ref h0), (1, .ref p0), (2, .int p1), (3, .int p2), (4, .int v3_4), (7, .int v83_7)] → v3_4.toInt ≤ 7 → W p l e rm_X2_installWay s m args below meth c H3 lc3 0 0 Q (F0 m 83 ls [.int w83_0]) := by
        intro ls v83_7 w83_0 hl f83_1
        refine lv_istore (lv' := [(6, .int w83_0), (0, .ref h0), (1, .ref p0), (2, .int p1), (3, .int p2), (4, .int v3_4), (7, .int v83_7)]) hx hb dX2_installWay_83 hl (by decide) rfl (fun ls hl => ?_)
        refine lv_iload hx hb dX2_installWay_85 (lv_at hl 5 rfl) ?_
        refine lv_iconst (v := 2) hx hb dX2_installWay_87 (by decide) ?_
        refine lv_iand hx hb dX2_installWay_88 ?_
        refine lv_topi (fun x_11 e_11 => ?_)
        have t_11 := z_andR e_11 kl_2 (by omega)
        refine lv_if_eq (tgt := 98) hx hb dX2_installWay_89 (by decide) (fun c_12 => ?_) (fun c_12 => ?_)
        · have f_12 := z_eq c_12 rfl kl_0
          refine lv_iload hx hb dX2_installWay_98 (lv_at hl 6 rfl) ?_
          exact b100 ls w83_0 v83_7 (lv_sub hl [1, 2, 3, 4, 5, 0] rfl) (by omega)
        · have f_12 := z_ne c_12 rfl kl_0
          refine lv_iload hx hb dX2_installWay_92 (lv_at hl 6 rfl) ?_
          refine lv_ineg hx hb dX2_installWay_94 ?_
          refine lv_topi (fun x_13 e_13 => ?_)
          refine lv_goto (tgt := 100) hx hb dX2_installWay_95 (by decide) ?_
          exact b100 ls w83_0 x_13 (lv_sub hl [1, 2, 3, 4, 5, 0] rfl) (by omega)
      have b66 : ∀ (ls : Array Slot) (v66_6 : Int32) (w66_0 : Int32), lv_has ls 8 [(0, .ref h0), (1, .ref p0), (2, .int p1), (3, .int p2), (4, .int v3_4), (6, .int v66_6)] → v3_4.toInt ≤ 7 → W p l e rm_X2_installWay s m args below meth c H3 lc3 0 0 Q (F0 m 66 ls [.int w66_0]) := by
        intro ls v66_6 w66_0 hl f66_1
        refine lv_istore (lv' := [(7, .int w66_0), (0, .ref h0), (1, .ref p0), (2, .int p1), (3, .int p2), (4, .int v3_4), (6, .int v66_6)]) hx hb dX2_installWay_66 hl (by decide) rfl (fun ls hl => ?_)
        refine lv_iload hx hb dX2_installWay_68 (lv_at hl 5 rfl) ?_
        refine lv_iconst (v := 1) hx hb dX2_installWay_70 (by decide) ?_
        refine lv_iand hx hb dX2_installWay_71 ?_
        refine lv_topi (fun x_14 e_14 => ?_)
        have t_14 := z_andR e_14 kl_1 (by omega)
        refine lv_if_eq (tgt := 81) hx hb dX2_installWay_72 (by decide) (fun c_15 => ?_) (fun c_15 => ?_)
        · have f_15 := z_eq c_15 rfl kl_0
          refine lv_iload hx hb dX2_installWay_81 (lv_at hl 6 rfl) ?_
          exact b83 ls w66_0 v66_6 (lv_sub hl [1, 2, 3, 4, 5, 0] rfl) (by omega)
        · have f_15 := z_ne c_15 rfl kl_0
          refine lv_iload hx hb dX2_installWay_75 (lv_at hl 6 rfl) ?_
          refine lv_ineg hx hb dX2_installWay_77 ?_
          refine lv_topi (fun x_16 e_16 => ?_)
          refine lv_goto (tgt := 83) hx hb dX2_installWay_78 (by decide) ?_
          exact b83 ls w66_0 x_16 (lv_sub hl [1, 2, 3, 4, 5, 0] rfl) (by omega)
      have b44 : ∀ (ls : Array Slot) (v44_5 : Int32) (w44_0 : Int32), lv_has ls 8 [(0, .ref h0), (1, .ref p0), (2, .int p1), (3, .int p2), (4, .int v3_4), (5, .int v44_5)] → v3_4.toInt ≤ 7 → 0 ≤ v44_5.toInt → v44_5.toInt ≤ 1 → W p l e rm_X2_installWay s m args below meth c H3 lc3 0 0 Q (F0 m 44 ls [.int w44_0]) := by
        intro ls v44_5 w44_0 hl f44_1 f44_2 f44_3
        refine lv_istore (lv' := [(6, .int w44_0), (0, .ref h0), (1, .ref p0), (2, .int p1), (3, .int p2), (4, .int v3_4), (5, .int v44_5)]) hx hb dX2_installWay_44 hl (by decide) rfl (fun ls hl => ?_)
        refine lv_iload hx hb dX2_installWay_46 (lv_at hl 6 rfl) ?_
        refine lv_if_eq (tgt := 60) hx hb dX2_installWay_48 (by decide) (fun c_17 => ?_) (fun c_17 => ?_)
        · have f_17 := z_eq c_17 rfl kl_0
          refine lv_aload_n hx hb dX2_installWay_60 rfl (lv_at hl 2 rfl) ?_
          refine g_getR B fl_RX2_91 gH3.1 kp0 rfl rfl rfl rfl rfl dX2_installWay_61 (fun q_18 s_18 k_q_18 => ?_)
          refine lv_iload_n hx hb dX2_installWay_64 rfl (lv_at hl 4 rfl) ?_
          refine g_ialdI (i := p2) (N := 36) B gH3.1 k_q_18 rfl rfl rfl rfl (by omega) (by omega) rfl dX2_installWay_65 (fun x_19 s_19 a_19 b_19 => ?_)
          exact b66 ls w44_0 x_19 (lv_sub hl [1, 2, 3, 4, 5, 0] rfl) (by omega)
        · have f_17 := z_ne c_17 rfl kl_0
          refine lv_aload_n hx hb dX2_installWay_51 rfl (lv_at hl 2 rfl) ?_
          refine g_getR B fl_RX2_94 gH3.1 kp0 rfl rfl rfl rfl rfl dX2_installWay_52 (fun q_20 s_20 k_q_20 => ?_)
          refine lv_iload_n hx hb dX2_installWay_55 rfl (lv_at hl 4 rfl) ?_
          refine g_ialdI (i := p2) (N := 36) B gH3.1 k_q_20 rfl rfl rfl rfl (by omega) (by omega) rfl dX2_installWay_56 (fun x_21 s_21 a_21 b_21 => ?_)
          refine lv_goto (tgt := 66) hx hb dX2_installWay_57 (by decide) ?_
          exact b66 ls w44_0 x_21 (lv_sub hl [1, 2, 3, 4, 5, 0] rfl) (by omega)
      have b22 : ∀ (ls : Array Slot) (w22_0 : Int32), lv_has ls 8 [(0, .ref h0), (1, .ref p0), (2, .int p1), (3, .int p2), (4, .int v3_4)] → v3_4.toInt ≤ 7 → 0 ≤ w22_0.toInt → w22_0.toInt ≤ 1 → W p l e rm_X2_installWay s m args below meth c H3 lc3 0 0 Q (F0 m 22 ls [.int w22_0]) := by
        intro ls w22_0 hl f22_1 f22_2 f22_3
        refine lv_istore (lv' := [(5, .int w22_0), (0, .ref h0), (1, .ref p0), (2, .int p1), (3, .int p2), (4, .int v3_4)]) hx hb dX2_installWay_22 hl (by decide) rfl (fun ls hl => ?_)
        refine lv_iload hx hb dX2_installWay_24 (lv_at hl 0 rfl) ?_
        refine lv_if_eq (tgt := 38) hx hb dX2_installWay_26 (by decide) (fun c_22 => ?_) (fun c_22 => ?_)
        · have f_22 := z_eq c_22 rfl kl_0
          refine lv_aload_n hx hb dX2_installWay_38 rfl (lv_at hl 2 rfl) ?_
          refine g_getR B fl_RX2_94 gH3.1 kp0 rfl rfl rfl rfl rfl dX2_installWay_39 (fun q_23 s_23 k_q_23 => ?_)
          refine lv_iload_n hx hb dX2_installWay_42 rfl (lv_at hl 4 rfl) ?_
          refine g_ialdI (i := p2) (N := 36) B gH3.1 k_q_23 rfl rfl rfl rfl (by omega) (by omega) rfl dX2_installWay_43 (fun x_24 s_24 a_24 b_24 => ?_)
          exact b44 ls w22_0 x_24 (lv_sub hl [1, 2, 3, 4, 5, 0] rfl) (by omega) (by omega) (by omega)
        · have f_22 := z_ne c_22 rfl kl_0
          refine lv_aload_n hx hb dX2_installWay_29 rfl (lv_at hl 2 rfl) ?_
          refine g_getR B fl_RX2_91 gH3.1 kp0 rfl rfl rfl rfl rfl dX2_installWay_30 (fun q_25 s_25 k_q_25 => ?_)
          refine lv_iload_n hx hb dX2_installWay_33 rfl (lv_at hl 4 rfl) ?_
          refine g_ialdI (i := p2) (N := 36) B gH3.1 k_q_25 rfl rfl rfl rfl (by omega) (by omega) rfl dX2_installWay_34 (fun x_26 s_26 a_26 b_26 => ?_)
          refine lv_goto (tgt := 44) hx hb dX2_installWay_35 (by decide) ?_
          exact b44 ls w22_0 x_26 (lv_sub hl [1, 2, 3, 4, 5, 0] rfl) (by omega) (by omega) (by omega)
      refine lv_iload hx hb dX2_installWay_3 (lv_at hl 4 rfl) ?_
      refine lv_bipush (v := 8) hx hb dX2_installWay_5 (by decide) ?_
      refine lv_icmp_ge (tgt := 138) hx hb dX2_installWay_7 (by decide) (fun c_27 => ?_) (fun c_27 => ?_)
      · have f_27 := z_le c_27 kl_8 rfl
        exact rtV B hr hlk hh hQ gH3 trivial dX2_installWay_138
      · have f_27 := z_nle c_27 kl_8 rfl
        refine lv_iload hx hb dX2_installWay_10 (lv_at hl 4 rfl) ?_
        refine lv_iconst (v := 4) hx hb dX2_installWay_12 (by decide) ?_
        refine lv_iand hx hb dX2_installWay_13 ?_
        refine lv_topi (fun x_28 e_28 => ?_)
        have t_28 := z_andR e_28 kl_4 (by omega)
        refine lv_if_eq (tgt := 21) hx hb dX2_installWay_14 (by decide) (fun c_29 => ?_) (fun c_29 => ?_)
        · have f_29 := z_eq c_29 rfl kl_0
          refine lv_iconst (v := 0) hx hb dX2_installWay_21 (by decide) ?_
          have := kl_0
          exact b22 ls 0 (lv_sub hl [0, 1, 2, 3, 4] rfl) (by omega) (by omega) (by omega)
        · have f_29 := z_ne c_29 rfl kl_0
          refine lv_iconst (v := 1) hx hb dX2_installWay_17 (by decide) ?_
          refine lv_goto (tgt := 22) hx hb dX2_installWay_18 (by decide) ?_
          have := kl_1
          exact b22 ls 1 (lv_sub hl [0, 1, 2, 3, 4] rfl) (by omega) (by omega) (by omega)
  refine lv_iconst (v := 0) hx hb dX2_installWay_0 (by decide) ?_
  refine lv_istore (lv' := [(4, .int 0), (0, .ref h0), (1, .ref p0), (2, .int p1), (3, .int p2)]) hx hb dX2_installWay_1 hl (by decide) rfl (fun ls hl => ?_)
  have := kl_0
  exact b3 9 H0 [] ls 0 (by omega) hG0 (lv_sub hl [1, 2, 3, 4, 0] rfl) (by omega) (by omega)

theorem dX2_install_0 : decode cX2_install 0 = .ok (.aload_n 0, 1) := by decide +kernel
theorem dX2_install_1 : decode cX2_install 1 = .ok (.aload_n 1, 1) := by decide +kernel
theorem dX2_install_2 : decode cX2_install 2 = .ok (.getfield 51, 3) := by decide +kernel
theorem dX2_install_5 : decode cX2_install 5 = .ok (.putfield 15, 3) := by decide +kernel
theorem dX2_install_8 : decode cX2_install 8 = .ok (.aload_n 0, 1) := by decide +kernel
theorem dX2_install_9 : decode cX2_install 9 = .ok (.aload_n 1, 1) := by decide +kernel
theorem dX2_install_10 : decode cX2_install 10 = .ok (.getfield 54, 3) := by decide +kernel
theorem dX2_install_13 : decode cX2_install 13 = .ok (.putfield 18, 3) := by decide +kernel
theorem dX2_install_16 : decode cX2_install 16 = .ok (.aload_n 0, 1) := by decide +kernel
theorem dX2_install_17 : decode cX2_install 17 = .ok (.aload_n 0, 1) := by decide +kernel
theorem dX2_install_18 : decode cX2_install 18 = .ok (.getfield 15, 3) := by decide +kernel
theorem dX2_install_21 : decode cX2_install 21 = .ok (.aload_n 0, 1) := by decide +kernel
theorem dX2_install_22 : decode cX2_install 22 = .ok (.getfield 18, 3) := by decide +kernel
theorem dX2_install_25 : decode cX2_install 25 = .ok (.imul, 1) := by decide +kernel
theorem dX2_install_26 : decode cX2_install 26 = .ok (.putfield 9, 3) := by decide +kernel
theorem dX2_install_29 : decode cX2_install 29 = .ok (.aload_n 0, 1) := by decide +kernel
theorem dX2_install_30 : decode cX2_install 30 = .ok (.aload_n 1, 1) := by decide +kernel
theorem dX2_install_31 : decode cX2_install 31 = .ok (.getfield 55, 3) := by decide +kernel
theorem dX2_install_34 : decode cX2_install 34 = .ok (.getfield 59, 3) := by decide +kernel
theorem dX2_install_37 : decode cX2_install 37 = .ok (.aload_n 1, 1) := by decide +kernel
theorem dX2_install_38 : decode cX2_install 38 = .ok (.getfield 55, 3) := by decide +kernel
theorem dX2_install_41 : decode cX2_install 41 = .ok (.getfield 64, 3) := by decide +kernel
theorem dX2_install_44 : decode cX2_install 44 = .ok (.iand, 1) := by decide +kernel
theorem dX2_install_45 : decode cX2_install 45 = .ok (.ifCond .eq 7, 3) := by decide +kernel
theorem dX2_install_48 : decode cX2_install 48 = .ok (.iconst 1, 1) := by decide +kernel
theorem dX2_install_49 : decode cX2_install 49 = .ok (.goto 4, 3) := by decide +kernel
theorem dX2_install_52 : decode cX2_install 52 = .ok (.iconst 0, 1) := by decide +kernel
theorem dX2_install_53 : decode cX2_install 53 = .ok (.putfield 21, 3) := by decide +kernel
theorem dX2_install_56 : decode cX2_install 56 = .ok (.aload_n 0, 1) := by decide +kernel
theorem dX2_install_57 : decode cX2_install 57 = .ok (.aload_n 1, 1) := by decide +kernel
theorem dX2_install_58 : decode cX2_install 58 = .ok (.getfield 55, 3) := by decide +kernel
theorem dX2_install_61 : decode cX2_install 61 = .ok (.getfield 67, 3) := by decide +kernel
theorem dX2_install_64 : decode cX2_install 64 = .ok (.aload_n 1, 1) := by decide +kernel
theorem dX2_install_65 : decode cX2_install 65 = .ok (.getfield 55, 3) := by decide +kernel
theorem dX2_install_68 : decode cX2_install 68 = .ok (.getfield 64, 3) := by decide +kernel
theorem dX2_install_71 : decode cX2_install 71 = .ok (.iand, 1) := by decide +kernel
theorem dX2_install_72 : decode cX2_install 72 = .ok (.ifCond .eq 7, 3) := by decide +kernel
theorem dX2_install_75 : decode cX2_install 75 = .ok (.iconst 1, 1) := by decide +kernel
theorem dX2_install_76 : decode cX2_install 76 = .ok (.goto 4, 3) := by decide +kernel
theorem dX2_install_79 : decode cX2_install 79 = .ok (.iconst 0, 1) := by decide +kernel
theorem dX2_install_80 : decode cX2_install 80 = .ok (.putfield 25, 3) := by decide +kernel
theorem dX2_install_83 : decode cX2_install 83 = .ok (.aload_n 0, 1) := by decide +kernel
theorem dX2_install_84 : decode cX2_install 84 = .ok (.getfield 28, 3) := by decide +kernel
theorem dX2_install_87 : decode cX2_install 87 = .ok (.iconst 0, 1) := by decide +kernel
theorem dX2_install_88 : decode cX2_install 88 = .ok (.invokestatic 70, 3) := by decide +kernel
theorem dX2_install_91 : decode cX2_install 91 = .ok (.iconst 0, 1) := by decide +kernel
theorem dX2_install_92 : decode cX2_install 92 = .ok (.istore_n 2, 1) := by decide +kernel
theorem dX2_install_93 : decode cX2_install 93 = .ok (.iload_n 2, 1) := by decide +kernel
theorem dX2_install_94 : decode cX2_install 94 = .ok (.aload_n 1, 1) := by decide +kernel
theorem dX2_install_95 : decode cX2_install 95 = .ok (.getfield 76, 3) := by decide +kernel
theorem dX2_install_98 : decode cX2_install 98 = .ok (.if_icmp .ge 58, 3) := by decide +kernel
theorem dX2_install_101 : decode cX2_install 101 = .ok (.aload_n 0, 1) := by decide +kernel
theorem dX2_install_102 : decode cX2_install 102 = .ok (.getfield 32, 3) := by decide +kernel
theorem dX2_install_105 : decode cX2_install 105 = .ok (.iload_n 2, 1) := by decide +kernel
theorem dX2_install_106 : decode cX2_install 106 = .ok (.aload_n 1, 1) := by decide +kernel
theorem dX2_install_107 : decode cX2_install 107 = .ok (.getfield 79, 3) := by decide +kernel
theorem dX2_install_110 : decode cX2_install 110 = .ok (.iload_n 2, 1) := by decide +kernel
theorem dX2_install_111 : decode cX2_install 111 = .ok (.baload, 1) := by decide +kernel
theorem dX2_install_112 : decode cX2_install 112 = .ok (.bastore, 1) := by decide +kernel
theorem dX2_install_113 : decode cX2_install 113 = .ok (.aload_n 0, 1) := by decide +kernel
theorem dX2_install_114 : decode cX2_install 114 = .ok (.getfield 42, 3) := by decide +kernel
theorem dX2_install_117 : decode cX2_install 117 = .ok (.iload_n 2, 1) := by decide +kernel
theorem dX2_install_118 : decode cX2_install 118 = .ok (.iconst 0, 1) := by decide +kernel
theorem dX2_install_119 : decode cX2_install 119 = .ok (.iastore, 1) := by decide +kernel
theorem dX2_install_120 : decode cX2_install 120 = .ok (.iconst 0, 1) := by decide +kernel
theorem dX2_install_121 : decode cX2_install 121 = .ok (.istore_n 3, 1) := by decide +kernel
theorem dX2_install_122 : decode cX2_install 122 = .ok (.iload_n 3, 1) := by decide +kernel
theorem dX2_install_123 : decode cX2_install 123 = .ok (.aload_n 1, 1) := by decide +kernel
theorem dX2_install_124 : decode cX2_install 124 = .ok (.getfield 80, 3) := by decide +kernel
theorem dX2_install_127 : decode cX2_install 127 = .ok (.iload_n 2, 1) := by decide +kernel
theorem dX2_install_128 : decode cX2_install 128 = .ok (.iaload, 1) := by decide +kernel
theorem dX2_install_129 : decode cX2_install 129 = .ok (.if_icmp .ge 21, 3) := by decide +kernel
theorem dX2_install_132 : decode cX2_install 132 = .ok (.aload_n 0, 1) := by decide +kernel
theorem dX2_install_133 : decode cX2_install 133 = .ok (.aload_n 1, 1) := by decide +kernel
theorem dX2_install_134 : decode cX2_install 134 = .ok (.iload_n 2, 1) := by decide +kernel
theorem dX2_install_135 : decode cX2_install 135 = .ok (.iload_n 2, 1) := by decide +kernel
theorem dX2_install_136 : decode cX2_install 136 = .ok (.bipush 6, 2) := by decide +kernel
theorem dX2_install_138 : decode cX2_install 138 = .ok (.imul, 1) := by decide +kernel
theorem dX2_install_139 : decode cX2_install 139 = .ok (.iload_n 3, 1) := by decide +kernel
theorem dX2_install_140 : decode cX2_install 140 = .ok (.iadd, 1) := by decide +kernel
theorem dX2_install_141 : decode cX2_install 141 = .ok (.invokevirtual 83, 3) := by decide +kernel
theorem dX2_install_144 : decode cX2_install 144 = .ok (.iinc 3 1, 3) := by decide +kernel
theorem dX2_install_147 : decode cX2_install 147 = .ok (.goto (-25), 3) := by decide +kernel
theorem dX2_install_150 : decode cX2_install 150 = .ok (.iinc 2 1, 3) := by decide +kernel
theorem dX2_install_153 : decode cX2_install 153 = .ok (.goto (-60), 3) := by decide +kernel
theorem dX2_install_156 : decode cX2_install 156 = .ok (.iconst 0, 1) := by decide +kernel
theorem dX2_install_157 : decode cX2_install 157 = .ok (.istore_n 2, 1) := by decide +kernel
theorem dX2_install_158 : decode cX2_install 158 = .ok (.iload_n 2, 1) := by decide +kernel
theorem dX2_install_159 : decode cX2_install 159 = .ok (.aload_n 0, 1) := by decide +kernel
theorem dX2_install_160 : decode cX2_install 160 = .ok (.getfield 9, 3) := by decide +kernel
theorem dX2_install_163 : decode cX2_install 163 = .ok (.if_icmp .ge 14, 3) := by decide +kernel
theorem dX2_install_166 : decode cX2_install 166 = .ok (.aload_n 0, 1) := by decide +kernel
theorem dX2_install_167 : decode cX2_install 167 = .ok (.iload_n 2, 1) := by decide +kernel
theorem dX2_install_168 : decode cX2_install 168 = .ok (.invokevirtual 87, 3) := by decide +kernel
theorem dX2_install_171 : decode cX2_install 171 = .ok (.iinc 2 1, 3) := by decide +kernel
theorem dX2_install_174 : decode cX2_install 174 = .ok (.goto (-16), 3) := by decide +kernel
theorem dX2_install_177 : decode cX2_install 177 = .ok (.return_, 1) := by decide +kernel
def rm_X2_install : Room := { frames := 4, cells := 0, slots := 0, locals := 96 }
abbrev wS_X2_install : List (Nat × Nat) := [(3, 0), (3, 1), (3, 2), (3, 3), (3, 4), (26, 99), (27, 99), (28, 99), (29, 99), (30, 99), (31, 99), (32, 99)]
set_option maxRecDepth 100000 in
set_option maxHeartbeats 4000000 in
theorem c_X2_install (l : Launch) (E : zE) (hV : zV E) (H0 : Heap) (hT0 : HT E H0) (h0 : Nat) (kh0 : eK E h0 = 3) (p0 : Nat) (kp0 : eK E p0 = 11) : Met l yX2_install (zws yX2_install cX2_install 4 none) rm_X2_install (zP E H0 [.ref h0, .ref p0]) (zQV E E wS_X2_install (fun H1 => True)) 0 0 (zfr E) := by
  refine zEnt (by decide) (Nat.le_of_ble_eq_true rfl) (fun p e s m args below meth c ls Q B hr hlk hh hQ hl => ?_)
  have hx := B.1
  have hb := B.2.1
  have hG0 : zG E wS_X2_install H0 H0 [] := zG.rf hT0
  have hl : lv_has ls 4 [(0, .ref h0), (1, .ref p0)] := hl
  have b158 : ∀ (n158 : Nat) (H158 : Heap) (lc158 : List Loc) (ls : Array Slot) (v158_2 : Int32) (u158_h0_0 : Int32), 30 - v158_2.toInt < (n158 : Int) → zG E wS_X2_install H0 H158 lc158 → lv_has ls 4 [(0, .ref h0), (2, .int v158_2)] → 0 ≤ v158_2.toInt → v158_2.toInt ≤ 30 → 0 ≤ u158_h0_0.toInt → u158_h0_0.toInt ≤ 30 → sl H158 h0 (zix E 3 0) = some (.int u158_h0_0) → W p l e rm_X2_install s m args below meth c H158 lc158 0 0 Q (F0 m 158 ls []) := by
    intro n158
    induction n158 with
    | zero =>
      intro H158 lc158 ls v158_2 u158_h0_0 hm158 gH158 hl f158_1 f158_2 f158_3 f158_4 s158_u158_h0_0
      exact absurd hm158 (by omega)
    | succ n158 ih158 =>
      intro H158 lc158 ls v158_2 u158_h0_0 hm158 gH158 hl f158_1 f158_2 f158_3 f158_4 s158_u158_h0_0
      refine lv_iload_n hx hb dX2_install_158 rfl (lv_at hl 1 rfl) ?_
      refine lv_aload_n hx hb dX2_install_159 rfl (lv_at hl 0 rfl) ?_
      refine g_get B fl_RX2_9 gH158.1 kh0 rfl rfl rfl dX2_install_160 s158_u158_h0_0 ?_
      refine lv_icmp_ge (tgt := 177) hx hb dX2_install_163 (by decide) (fun c_1 => ?_) (fun c_1 => ?_)
      · have f_1 := z_le c_1 rfl rfl
        exact rtV B hr hlk hh hQ gH158 trivial dX2_install_177
      · have f_1 := z_nle c_1 rfl rfl
        refine lv_aload_n hx hb dX2_install_166 rfl (lv_at hl 0 rfl) ?_
        refine lv_iload_n hx hb dX2_install_167 rfl (lv_at hl 1 rfl) ?_
        refine zkV (zrV (rest := []) B (c_X2_installForward l E hV H158 gH158.1 h0 kh0 v158_2 (by omega) (by omega)) cl_RX2_87 gH158.1 kh0 rfl rfl rfl rfl hl.1 rfl (Nat.le_of_ble_eq_true rfl) dX2_install_168 rfl rfl ⟨rfl, rfl⟩ ⟨Nat.zero_le _, Nat.zero_le _⟩ (zO.of gH158 hh)) gH158 rfl (fun H2 lc2 hp_2 gH2 rH2 => ?_)
        have s_3 := rH2.keep hV kh0 rfl s158_u158_h0_0
        obtain ⟨x_4, e_4⟩ : ∃ y : Int32, (v158_2 : Int32) + Int32.ofInt 1 = y := ⟨_, rfl⟩
        refine lv_iinc (v := x_4) (lv' := [(2, .int x_4), (0, .ref h0)]) hx hb dX2_install_171 hl (k := 1) rfl e_4 (by decide) rfl (fun ls hl => ?_)
        have t_4 := z_inc2 e_4 rfl (by decide) (by omega) (by omega)
        refine lv_goto (tgt := 158) hx hb dX2_install_174 (by decide) ?_
        exact ih158 H2 lc2 ls x_4 u158_h0_0 (by omega) gH2 (lv_sub hl [1, 0] rfl) (by omega) (by omega) (by omega) (by omega) s_3
  have b93 : ∀ (n93 : Nat) (H93 : Heap) (lc93 : List Loc) (ls : Array Slot) (v93_2 : Int32) (u93_h0_0 : Int32), 6 - v93_2.toInt < (n93 : Int) → zG E wS_X2_install H0 H93 lc93 → lv_has ls 4 [(0, .ref h0), (1, .ref p0), (2, .int v93_2)] → 0 ≤ v93_2.toInt → v93_2.toInt ≤ 6 → 0 ≤ u93_h0_0.toInt → u93_h0_0.toInt ≤ 30 → sl H93 h0 (zix E 3 0) = some (.int u93_h0_0) → W p l e rm_X2_install s m args below meth c H93 lc93 0 0 Q (F0 m 93 ls []) := by
    intro n93
    induction n93 with
    | zero =>
      intro H93 lc93 ls v93_2 u93_h0_0 hm93 gH93 hl f93_1 f93_2 f93_3 f93_4 s93_u93_h0_0
      exact absurd hm93 (by omega)
    | succ n93 ih93 =>
      intro H93 lc93 ls v93_2 u93_h0_0 hm93 gH93 hl f93_1 f93_2 f93_3 f93_4 s93_u93_h0_0
      have b122 : ∀ (n122 : Nat) (H122 : Heap) (lc122 : List Loc) (ls : Array Slot) (v122_3 : Int32) (u122_p0_2 : Int32) (u122_h0_6 : Nat) (u122_p0_6 : Nat) (u122_h0_9 : Nat), 6 - v122_3.toInt < (n122 : Int) → zG E wS_X2_install H0 H122 lc122 → lv_has ls 4 [(0, .ref h0), (1, .ref p0), (2, .int v93_2), (3, .int v122_3)] → eK E u122_h0_6 = 27 → eK E u122_p0_6 = 52 → eK E u122_h0_9 = 30 → v93_2.toInt ≤ 5 → 0 ≤ v122_3.toInt → v122_3.toInt ≤ 6 → 1 ≤ u122_p0_2.toInt → u122_p0_2.toInt ≤ 6 → sl H122 h0 (zix E 3 0) = some (.int u93_h0_0) → sl H122 p0 (zix E 11 2) = some (.int u122_p0_2) → sl H122 h0 (zix E 3 6) = some (.ref u122_h0_6) → sl H122 p0 (zix E 11 6) = some (.ref u122_p0_6) → sl H122 h0 (zix E 3 9) = some (.ref u122_h0_9) → W p l e rm_X2_install s m args below meth c H122 lc122 0 0 Q (F0 m 122 ls []) := by
        intro n122
        induction n122 with
        | zero =>
          intro H122 lc122 ls v122_3 u122_p0_2 u122_h0_6 u122_p0_6 u122_h0_9 hm122 gH122 hl k_u122_h0_6 k_u122_p0_6 k_u122_h0_9 f122_1 f122_2 f122_3 f122_4 f122_5 s122_u122_h0_0 s122_u122_p0_2 s122_u122_h0_6 s122_u122_p0_6 s122_u122_h0_9
          exact absurd hm122 (by omega)
        | succ n122 ih122 =>
          intro H122 lc122 ls v122_3 u122_p0_2 u122_h0_6 u122_p0_6 u122_h0_9 hm122 gH122 hl k_u122_h0_6 k_u122_p0_6 k_u122_h0_9 f122_1 f122_2 f122_3 f122_4 f122_5 s122_u122_h0_0 s122_u122_p0_2 s122_u122_h0_6 s122_u122_p0_6 s122_u122_h0_9
          refine lv_iload_n hx hb dX2_install_122 rfl (lv_at hl 3 rfl) ?_
          refine lv_aload_n hx hb dX2_install_123 rfl (lv_at hl 1 rfl) ?_
          refine g_getR B fl_RX2_80 gH122.1 kp0 rfl rfl rfl rfl rfl dX2_install_124 (fun q_5 s_5 k_q_5 => ?_)
          refine lv_iload_n hx hb dX2_install_127 rfl (lv_at hl 2 rfl) ?_
          refine g_ialdI (i := v93_2) (N := 6) B gH122.1 k_q_5 rfl rfl rfl rfl (by omega) (by omega) rfl dX2_install_128 (fun x_6 s_6 a_6 b_6 => ?_)
          refine lv_icmp_ge (tgt := 150) hx hb dX2_install_129 (by decide) (fun c_7 => ?_) (fun c_7 => ?_)
          · have f_7 := z_le c_7 rfl rfl
            obtain ⟨x_8, e_8⟩ : ∃ y : Int32, (v93_2 : Int32) + Int32.ofInt 1 = y := ⟨_, rfl⟩
            refine lv_iinc (v := x_8) (lv' := [(2, .int x_8), (0, .ref h0), (1, .ref p0), (3, .int v122_3)]) hx hb dX2_install_150 hl (k := 2) rfl e_8 (by decide) rfl (fun ls hl => ?_)
            have t_8 := z_inc2 e_8 rfl (by decide) (by omega) (by omega)
            refine lv_goto (tgt := 93) hx hb dX2_install_153 (by decide) ?_
            exact ih93 H122 lc122 ls x_8 u93_h0_0 (by omega) gH122 (lv_sub hl [1, 2, 0] rfl) (by omega) (by omega) (by omega) (by omega) s122_u122_h0_0
          · have f_7 := z_nle c_7 rfl rfl
            refine lv_aload_n hx hb dX2_install_132 rfl (lv_at hl 0 rfl) ?_
            refine lv_aload_n hx hb dX2_install_133 rfl (lv_at hl 1 rfl) ?_
            refine lv_iload_n hx hb dX2_install_134 rfl (lv_at hl 2 rfl) ?_
            refine lv_iload_n hx hb dX2_install_135 rfl (lv_at hl 2 rfl) ?_
            refine lv_bipush (v := 6) hx hb dX2_install_136 (by decide) ?_
            refine lv_imul hx hb dX2_install_138 ?_
            refine lv_topi (fun x_9 e_9 => ?_)
            have t_9 := z_mul e_9 rfl kl_6 (by omega) (by omega)
            refine lv_iload_n hx hb dX2_install_139 rfl (lv_at hl 3 rfl) ?_
            refine lv_iadd hx hb dX2_install_140 ?_
            refine lv_topi (fun x_10 e_10 => ?_)
            have t_10 := z_add e_10 rfl rfl (by omega) (by omega)
            refine zkV (zrV (rest := []) B (c_X2_installWay l E hV H122 gH122.1 h0 kh0 p0 kp0 v93_2 (by omega) (by omega) x_10 (by omega) (by omega)) cl_RX2_83 gH122.1 kh0 rfl rfl rfl rfl hl.1 rfl (Nat.le_of_ble_eq_true rfl) dX2_install_141 rfl rfl ⟨rfl, rfl⟩ ⟨Nat.zero_le _, Nat.zero_le _⟩ (zO.of gH122 hh)) gH122 rfl (fun H11 lc11 hp_11 gH11 rH11 => ?_)
            have s_12 := rH11.keep hV kh0 rfl s122_u122_h0_0
            have s_13 := rH11.keep hV kp0 rfl s122_u122_p0_2
            have s_14 := rH11.keep hV kh0 rfl s122_u122_h0_6
            have s_15 := rH11.keep hV kp0 rfl s122_u122_p0_6
            have s_16 := rH11.keep hV kh0 rfl s122_u122_h0_9
            have s_17 := rH11.keep hV kp0 rfl s_5
            have s_18 := rH11.keepA k_q_5 rfl s_6
            obtain ⟨x_19, e_19⟩ : ∃ y : Int32, (v122_3 : Int32) + Int32.ofInt 1 = y := ⟨_, rfl⟩
            refine lv_iinc (v := x_19) (lv' := [(3, .int x_19), (0, .ref h0), (1, .ref p0), (2, .int v93_2)]) hx hb dX2_install_144 hl (k := 3) rfl e_19 (by decide) rfl (fun ls hl => ?_)
            have t_19 := z_inc2 e_19 rfl (by decide) (by omega) (by omega)
            refine lv_goto (tgt := 122) hx hb dX2_install_147 (by decide) ?_
            exact ih122 H11 lc11 ls x_19 u122_p0_2 u122_h0_6 u122_p0_6 u122_h0_9 (by omega) gH11 (lv_sub hl [1, 2, 3, 0] rfl) k_u122_h0_6 k_u122_p0_6 k_u122_h0_9 (by omega) (by omega) (by omega) (by omega) (by omega) s_12 s_13 s_14 s_15 s_16
      refine lv_iload_n hx hb dX2_install_93 rfl (lv_at hl 2 rfl) ?_
      refine lv_aload_n hx hb dX2_install_94 rfl (lv_at hl 1 rfl) ?_
      refine g_getI B fl_RX2_76 gH93.1 kp0 rfl rfl rfl rfl rfl dX2_install_95 (fun x_20 s_20 a_20 b_20 => ?_)
      refine lv_icmp_ge (tgt := 156) hx hb dX2_install_98 (by decide) (fun c_21 => ?_) (fun c_21 => ?_)
      · have f_21 := z_le c_21 rfl rfl
        refine lv_iconst (v := 0) hx hb dX2_install_156 (by decide) ?_
        refine lv_istore_n (lv' := [(2, .int 0), (0, .ref h0), (1, .ref p0)]) hx hb dX2_install_157 rfl hl (by decide) rfl (fun ls hl => ?_)
        have := kl_0
        exact b158 31 H93 lc93 ls 0 u93_h0_0 (by omega) gH93 (lv_sub hl [1, 0] rfl) (by omega) (by omega) (by omega) (by omega) s93_u93_h0_0
      · have f_21 := z_nle c_21 rfl rfl
        refine lv_aload_n hx hb dX2_install_101 rfl (lv_at hl 0 rfl) ?_
        refine g_getR B fl_RX2_32 gH93.1 kh0 rfl rfl rfl rfl rfl dX2_install_102 (fun q_22 s_22 k_q_22 => ?_)
        refine lv_iload_n hx hb dX2_install_105 rfl (lv_at hl 2 rfl) ?_
        refine lv_aload_n hx hb dX2_install_106 rfl (lv_at hl 1 rfl) ?_
        refine g_getR B fl_RX2_79 gH93.1 kp0 rfl rfl rfl rfl rfl dX2_install_107 (fun q_23 s_23 k_q_23 => ?_)
        refine lv_iload_n hx hb dX2_install_110 rfl (lv_at hl 2 rfl) ?_
        refine g_zaldI (i := v93_2) (N := 6) B gH93.1 k_q_23 rfl rfl rfl rfl (by omega) (by omega) rfl dX2_install_111 (fun x_24 s_24 a_24 b_24 => ?_)
        refine g_zastI (i := v93_2) (N := 6) B hV gH93 k_q_22 rfl rfl rfl rfl (by omega) (by omega) rfl (by omega) (by omega) rfl dX2_install_112 (fun H25 lc25 gH25 uH25 => ?_)
        have s_26 := uH25.keep (Or.inl (k_ne kh0 k_q_22 rfl)) s93_u93_h0_0
        have s_27 := uH25.keep (Or.inl (k_ne kp0 k_q_22 rfl)) s_20
        have s_28 := uH25.keep (Or.inl (k_ne kh0 k_q_22 rfl)) s_22
        have s_29 := uH25.keep (Or.inl (k_ne kp0 k_q_22 rfl)) s_23
        have s_30 := uH25.keep (Or.inl (k_ne k_q_23 k_q_22 rfl)) s_24
        refine lv_aload_n hx hb dX2_install_113 rfl (lv_at hl 0 rfl) ?_
        refine g_getR B fl_RX2_42 gH25.1 kh0 rfl rfl rfl rfl rfl dX2_install_114 (fun q_31 s_31 k_q_31 => ?_)
        refine lv_iload_n hx hb dX2_install_117 rfl (lv_at hl 2 rfl) ?_
        refine lv_iconst (v := 0) hx hb dX2_install_118 (by decide) ?_
        have := kl_0
        refine g_iastI (i := v93_2) (N := 6) B hV gH25 k_q_31 rfl rfl rfl rfl (by omega) (by omega) rfl (by omega) (by omega) rfl dX2_install_119 (fun H32 lc32 gH32 uH32 => ?_)
        have s_33 := uH32.keep (Or.inl (k_ne kh0 k_q_31 rfl)) s_26
        have s_34 := uH32.keep (Or.inl (k_ne kp0 k_q_31 rfl)) s_27
        have s_35 := uH32.keep (Or.inl (k_ne kh0 k_q_31 rfl)) s_28
        have s_36 := uH32.keep (Or.inl (k_ne kp0 k_q_31 rfl)) s_29
        have s_37 := uH32.keep (Or.inl (k_ne k_q_23 k_q_31 rfl)) s_30
        have s_38 := uH32.keep (Or.inl (k_ne k_q_22 k_q_31 rfl)) uH25.2.1
        have s_39 := uH32.keep (Or.inl (k_ne kh0 k_q_31 rfl)) s_31
        refine lv_iconst (v := 0) hx hb dX2_install_120 (by decide) ?_
        refine lv_istore_n (lv' := [(3, .int 0), (0, .ref h0), (1, .ref p0), (2, .int v93_2)]) hx hb dX2_install_121 rfl hl (by decide) rfl (fun ls hl => ?_)
        have := kl_0
        exact b122 7 H32 lc32 ls 0 x_20 q_22 q_23 q_31 (by omega) gH32 (lv_sub hl [1, 2, 3, 0] rfl) k_q_22 k_q_23 k_q_31 (by omega) (by omega) (by omega) (by omega) (by omega) s_33 s_34 s_35 s_36 s_39
  have b80 : ∀ (H80 : Heap) (lc80 : List Loc) (ls : Array Slot) (w80_0 : Int32) (u80_h0_0 : Int32), zG E wS_X2_install H0 H80 lc80 → lv_has ls 4 [(0, .ref h0), (1, .ref p0)] → 0 ≤ w80_0.toInt → w80_0.toInt ≤ 1 → 0 ≤ u80_h0_0.toInt → u80_h0_0.toInt ≤ 30 → sl H80 h0 (zix E 3 0) = some (.int u80_h0_0) → W p l e rm_X2_install s m args below meth c H80 lc80 0 0 Q (F0 m 80 ls [.int w80_0, .ref h0]) := by
    intro H80 lc80 ls w80_0 u80_h0_0 gH80 hl f80_1 f80_2 f80_3 f80_4 s80_u80_h0_0
    refine g_putZ B fp_RX2_25 hV gH80 kh0 rfl rfl rfl rfl rfl (by omega) (by omega) rfl dX2_install_80 (fun H40 lc40 gH40 uH40 => ?_)
    have s_41 := uH40.keep (Or.inr (j_ne hV rfl rfl rfl rfl)) s80_u80_h0_0
    refine lv_aload_n hx hb dX2_install_83 rfl (lv_at hl 0 rfl) ?_
    refine g_getR B fl_RX2_28 gH40.1 kh0 rfl rfl rfl rfl rfl dX2_install_84 (fun q_42 s_42 k_q_42 => ?_)
    refine lv_iconst (v := 0) hx hb dX2_install_87 (by decide) ?_
    refine zkV (zrS (rest := []) B (c_J7_fill_53178_k26 l E hV H40 gH40.1 q_42 k_q_42 0) cs_RX2_70 rfl hl.1 rfl (Nat.le_of_ble_eq_true rfl) dX2_install_88 rfl rfl ⟨rfl, rfl⟩ ⟨Nat.zero_le _, Nat.zero_le _⟩ (zO.of gH40 hh)) gH40 rfl (fun H43 lc43 hp_43 gH43 rH43 => ?_)
    have s_44 := rH43.keep hV kh0 rfl s_41
    refine lv_iconst (v := 0) hx hb dX2_install_91 (by decide) ?_
    refine lv_istore_n (lv' := [(2, .int 0), (0, .ref h0), (1, .ref p0)]) hx hb dX2_install_92 rfl hl (by decide) rfl (fun ls hl => ?_)
    have := kl_0
    exact b93 7 H43 lc43 ls 0 u80_h0_0 (by omega) gH43 (lv_sub hl [1, 2, 0] rfl) (by omega) (by omega) (by omega) (by omega) s_44
  have b53 : ∀ (H53 : Heap) (lc53 : List Loc) (ls : Array Slot) (w53_0 : Int32) (u53_h0_0 : Int32) (u53_p0_12 : Nat), zG E wS_X2_install H0 H53 lc53 → lv_has ls 4 [(0, .ref h0), (1, .ref p0)] → eK E u53_p0_12 = 5 → 0 ≤ w53_0.toInt → w53_0.toInt ≤ 1 → 0 ≤ u53_h0_0.toInt → u53_h0_0.toInt ≤ 30 → sl H53 h0 (zix E 3 0) = some (.int u53_h0_0) → sl H53 p0 (zix E 11 12) = some (.ref u53_p0_12) → W p l e rm_X2_install s m args below meth c H53 lc53 0 0 Q (F0 m 53 ls [.int w53_0, .ref h0]) := by
    intro H53 lc53 ls w53_0 u53_h0_0 u53_p0_12 gH53 hl k_u53_p0_12 f53_1 f53_2 f53_3 f53_4 s53_u53_h0_0 s53_u53_p0_12
    refine g_putZ B fp_RX2_21 hV gH53 kh0 rfl rfl rfl rfl rfl (by omega) (by omega) rfl dX2_install_53 (fun H45 lc45 gH45 uH45 => ?_)
    have s_46 := uH45.keep (Or.inr (j_ne hV rfl rfl rfl rfl)) s53_u53_h0_0
    have s_47 := uH45.keep (Or.inl (k_ne kp0 kh0 rfl)) s53_u53_p0_12
    refine lv_aload_n hx hb dX2_install_56 rfl (lv_at hl 0 rfl) ?_
    refine lv_aload_n hx hb dX2_install_57 rfl (lv_at hl 1 rfl) ?_
    refine g_get B fl_RX2_55 gH45.1 kp0 rfl rfl rfl dX2_install_58 s_47 ?_
    refine g_getI B fl_RX2_67 gH45.1 k_u53_p0_12 rfl rfl rfl rfl rfl dX2_install_61 (fun x_48 s_48 a_48 b_48 => ?_)
    refine lv_aload_n hx hb dX2_install_64 rfl (lv_at hl 1 rfl) ?_
    refine g_get B fl_RX2_55 gH45.1 kp0 rfl rfl rfl dX2_install_65 s_47 ?_
    refine g_getI B fl_RX2_64 gH45.1 k_u53_p0_12 rfl rfl rfl rfl rfl dX2_install_68 (fun x_49 s_49 a_49 b_49 => ?_)
    refine lv_iand hx hb dX2_install_71 ?_
    refine lv_topi (fun x_50 e_50 => ?_)
    refine lv_if_eq (tgt := 79) hx hb dX2_install_72 (by decide) (fun c_51 => ?_) (fun c_51 => ?_)
    · have f_51 := z_eq c_51 rfl kl_0
      refine lv_iconst (v := 0) hx hb dX2_install_79 (by decide) ?_
      have := kl_0
      exact b80 H45 lc45 ls 0 u53_h0_0 gH45 (lv_sub hl [0, 1] rfl) (by omega) (by omega) (by omega) (by omega) s_46
    · have f_51 := z_ne c_51 rfl kl_0
      refine lv_iconst (v := 1) hx hb dX2_install_75 (by decide) ?_
      refine lv_goto (tgt := 80) hx hb dX2_install_76 (by decide) ?_
      have := kl_1
      exact b80 H45 lc45 ls 1 u53_h0_0 gH45 (lv_sub hl [0, 1] rfl) (by omega) (by omega) (by omega) (by omega) s_46
  refine lv_aload_n hx hb dX2_install_0 rfl (lv_at hl 0 rfl) ?_
  refine lv_aload_n hx hb dX2_install_1 rfl (lv_at hl 1 rfl) ?_
  refine g_getI B fl_RX2_51 hT0 kp0 rfl rfl rfl rfl rfl dX2_install_2 (fun x_52 s_52 a_52 b_52 => ?_)
  refine g_putI B fp_RX2_15 hV hG0 kh0 rfl rfl rfl rfl rfl (by omega) (by omega) rfl dX2_install_5 (fun H53 lc53 gH53 uH53 => ?_)
  refine lv_aload_n hx hb dX2_install_8 rfl (lv_at hl 0 rfl) ?_
  refine lv_aload_n hx hb dX2_install_9 rfl (lv_at hl 1 rfl) ?_
  refine g_getI B fl_RX2_54 gH53.1 kp0 rfl rfl rfl rfl rfl dX2_install_10 (fun x_54 s_54 a_54 b_54 => ?_)
  refine g_putI B fp_RX2_18 hV gH53 kh0 rfl rfl rfl rfl rfl (by omega) (by omega) rfl dX2_install_13 (fun H55 lc55 gH55 uH55 => ?_)
  have s_56 := uH55.keep (Or.inr (j_ne hV rfl rfl rfl rfl)) uH53.2.1
  refine lv_aload_n hx hb dX2_install_16 rfl (lv_at hl 0 rfl) ?_
  refine lv_aload_n hx hb dX2_install_17 rfl (lv_at hl 0 rfl) ?_
  refine g_get B fl_RX2_15 gH55.1 kh0 rfl rfl rfl dX2_install_18 s_56 ?_
  refine lv_aload_n hx hb dX2_install_21 rfl (lv_at hl 0 rfl) ?_
  refine g_get B fl_RX2_18 gH55.1 kh0 rfl rfl rfl dX2_install_22 uH55.2.1 ?_
  refine lv_imul hx hb dX2_install_25 ?_
  refine lv_topi (fun x_57 e_57 => ?_)
  have m_57 := z_mulB (a := x_52.toInt) (b := x_54.toInt) (A := 5) (B := 6) (by omega) (by omega) (by omega) (by omega)
  have t_57 := z_mul e_57 rfl rfl (by omega) (by omega)
  refine g_putI B fp_RX2_9 hV gH55 kh0 rfl rfl rfl rfl rfl (by omega) (by omega) rfl dX2_install_26 (fun H58 lc58 gH58 uH58 => ?_)
  refine lv_aload_n hx hb dX2_install_29 rfl (lv_at hl 0 rfl) ?_
  refine lv_aload_n hx hb dX2_install_30 rfl (lv_at hl 1 rfl) ?_
  refine g_getR B fl_RX2_55 gH58.1 kp0 rfl rfl rfl rfl rfl dX2_install_31 (fun q_59 s_59 k_q_59 => ?_)
  refine g_getI B fl_RX2_59 gH58.1 k_q_59 rfl rfl rfl rfl rfl dX2_install_34 (fun x_60 s_60 a_60 b_60 => ?_)
  refine lv_aload_n hx hb dX2_install_37 rfl (lv_at hl 1 rfl) ?_
  refine g_get B fl_RX2_55 gH58.1 kp0 rfl rfl rfl dX2_install_38 s_59 ?_
  refine g_getI B fl_RX2_64 gH58.1 k_q_59 rfl rfl rfl rfl rfl dX2_install_41 (fun x_61 s_61 a_61 b_61 => ?_)
  refine lv_iand hx hb dX2_install_44 ?_
  refine lv_topi (fun x_62 e_62 => ?_)
  refine lv_if_eq (tgt := 52) hx hb dX2_install_45 (by decide) (fun c_63 => ?_) (fun c_63 => ?_)
  · have f_63 := z_eq c_63 rfl kl_0
    refine lv_iconst (v := 0) hx hb dX2_install_52 (by decide) ?_
    have := kl_0
    exact b53 H58 lc58 ls 0 x_57 q_59 gH58 (lv_sub hl [0, 1] rfl) k_q_59 (by omega) (by omega) (by omega) (by omega) uH58.2.1 s_59
  · have f_63 := z_ne c_63 rfl kl_0
    refine lv_iconst (v := 1) hx hb dX2_install_48 (by decide) ?_
    refine lv_goto (tgt := 53) hx hb dX2_install_49 (by decide) ?_
    have := kl_1
    exact b53 H58 lc58 ls 1 x_57 q_59 gH58 (lv_sub hl [0, 1] rfl) k_q_59 (by omega) (by omega) (by omega) (by omega) uH58.2.1 s_59
