theorem dX5_look_0 : decode cX5_look 0 = .ok (.aload_n 0, 1) := by decide +kernel
theorem dX5_look_1 : decode cX5_look 1 = .ok (.getfield 18, 3) := by decide +kernel
theorem dX5_look_4 : decode cX5_look 4 = .ok (.aload_n 0, 1) := by decide +kernel
theorem dX5_look_5 : decode cX5_look 5 = .ok (.getfield 42, 3) := by decide +kernel
theorem dX5_look_8 : decode cX5_look 8 = .ok (.getfield 61, 3) := by decide +kernel
theorem dX5_look_11 : decode cX5_look 11 = .ok (.if_icmp .ge 35, 3) := by decide +kernel
theorem dX5_look_14 : decode cX5_look 14 = .ok (.aload_n 0, 1) := by decide +kernel
theorem dX5_look_15 : decode cX5_look 15 = .ok (.aload_n 0, 1) := by decide +kernel
theorem dX5_look_16 : decode cX5_look 16 = .ok (.getfield 42, 3) := by decide +kernel
theorem dX5_look_19 : decode cX5_look 19 = .ok (.getfield 64, 3) := by decide +kernel
theorem dX5_look_22 : decode cX5_look 22 = .ok (.aload_n 0, 1) := by decide +kernel
theorem dX5_look_23 : decode cX5_look 23 = .ok (.getfield 18, 3) := by decide +kernel
theorem dX5_look_26 : decode cX5_look 26 = .ok (.baload, 1) := by decide +kernel
theorem dX5_look_27 : decode cX5_look 27 = .ok (.putfield 23, 3) := by decide +kernel
theorem dX5_look_30 : decode cX5_look 30 = .ok (.aload_n 0, 1) := by decide +kernel
theorem dX5_look_31 : decode cX5_look 31 = .ok (.aload_n 0, 1) := by decide +kernel
theorem dX5_look_32 : decode cX5_look 32 = .ok (.getfield 42, 3) := by decide +kernel
theorem dX5_look_35 : decode cX5_look 35 = .ok (.getfield 68, 3) := by decide +kernel
theorem dX5_look_38 : decode cX5_look 38 = .ok (.aload_n 0, 1) := by decide +kernel
theorem dX5_look_39 : decode cX5_look 39 = .ok (.getfield 18, 3) := by decide +kernel
theorem dX5_look_42 : decode cX5_look 42 = .ok (.iaload, 1) := by decide +kernel
theorem dX5_look_43 : decode cX5_look 43 = .ok (.putfield 26, 3) := by decide +kernel
theorem dX5_look_46 : decode cX5_look 46 = .ok (.return_, 1) := by decide +kernel
def rm_X5_look : Room := { frames := 0, cells := 0, slots := 0, locals := 0 }
abbrev wS_X5_look : List (Nat × Nat) := [(6, 5), (6, 6)]
set_option maxRecDepth 100000 in
set_option maxHeartbeats 4000000 in
theorem c_X5_look (l : Launch) (E : zE) (hV : zV E) (H0 : Heap) (hT0 : HT E H0) (h0 : Nat) (kh0 : eK E h0 = 6) (tk : Int32) (s_tk : sl H0 h0 (zix E 6 4) = some (.int tk)) (tk_lo : 0 ≤ tk.toInt) : Met l yX5_look (zws yX5_look cX5_look 1 none) rm_X5_look (zP E H0 [.ref h0]) (zQV E E wS_X5_look (fun H1 => True)) 0 0 (zfr E) := by
  refine zEnt (by decide) (Nat.le_of_ble_eq_true rfl) (fun p e s m args below meth c ls Q B hr hlk hh hQ hl => ?_)
  have hx := B.1
  have hb := B.2.1
  have hG0 : zG E wS_X5_look H0 H0 [] := zG.rf hT0
  have hl : lv_has ls 1 [(0, .ref h0)] := hl
  refine lv_aload_n hx hb dX5_look_0 rfl (lv_at hl 0 rfl) ?_
  refine g_get B fl_RX5_18 hT0 kh0 rfl rfl rfl dX5_look_1 s_tk ?_
  refine lv_aload_n hx hb dX5_look_4 rfl (lv_at hl 0 rfl) ?_
  refine g_getR B fl_RX5_42 hT0 kh0 rfl rfl rfl rfl rfl dX5_look_5 (fun q_1 s_1 k_q_1 => ?_)
  refine g_getI B fl_RX5_61 hT0 k_q_1 rfl rfl rfl rfl rfl dX5_look_8 (fun x_2 s_2 a_2 b_2 => ?_)
  refine lv_icmp_ge (tgt := 46) hx hb dX5_look_11 (by decide) (fun c_3 => ?_) (fun c_3 => ?_)
  · have f_3 := z_le c_3 rfl rfl
    exact rtV B hr hlk hh hQ hG0 trivial dX5_look_46
  · have f_3 := z_nle c_3 rfl rfl
    refine lv_aload_n hx hb dX5_look_14 rfl (lv_at hl 0 rfl) ?_
    refine lv_aload_n hx hb dX5_look_15 rfl (lv_at hl 0 rfl) ?_
    refine g_get B fl_RX5_42 hT0 kh0 rfl rfl rfl dX5_look_16 s_1 ?_
    refine g_getR B fl_RX5_64 hT0 k_q_1 rfl rfl rfl rfl rfl dX5_look_19 (fun q_4 s_4 k_q_4 => ?_)
    refine lv_aload_n hx hb dX5_look_22 rfl (lv_at hl 0 rfl) ?_
    refine g_get B fl_RX5_18 hT0 kh0 rfl rfl rfl dX5_look_23 s_tk ?_
    refine g_baldI (i := tk) (N := 1601) B hT0 k_q_4 rfl rfl rfl rfl (by omega) (by omega) rfl dX5_look_26 (fun x_5 s_5 a_5 b_5 => ?_)
    refine g_putI B fp_RX5_23 hV hG0 kh0 rfl rfl rfl rfl rfl (z_rng _).1 (z_rng _).2 rfl dX5_look_27 (fun H6 lc6 gH6 uH6 => ?_)
    have s_7 := uH6.keep (Or.inr (j_ne hV rfl rfl rfl rfl)) s_tk
    have s_8 := uH6.keep (Or.inr (j_ne hV rfl rfl rfl rfl)) s_1
    have s_9 := uH6.keep (Or.inl (k_ne k_q_4 kh0 rfl)) s_5
    refine lv_aload_n hx hb dX5_look_30 rfl (lv_at hl 0 rfl) ?_
    refine lv_aload_n hx hb dX5_look_31 rfl (lv_at hl 0 rfl) ?_
    refine g_get B fl_RX5_42 gH6.1 kh0 rfl rfl rfl dX5_look_32 s_8 ?_
    refine g_getR B fl_RX5_68 gH6.1 k_q_1 rfl rfl rfl rfl rfl dX5_look_35 (fun q_10 s_10 k_q_10 => ?_)
    refine lv_aload_n hx hb dX5_look_38 rfl (lv_at hl 0 rfl) ?_
    refine g_get B fl_RX5_18 gH6.1 kh0 rfl rfl rfl dX5_look_39 s_7 ?_
    refine g_ialdI (i := tk) (N := 1601) B gH6.1 k_q_10 rfl rfl rfl rfl (by omega) (by omega) rfl dX5_look_42 (fun x_11 s_11 a_11 b_11 => ?_)
    refine g_putI B fp_RX5_26 hV gH6 kh0 rfl rfl rfl rfl rfl (by omega) (by omega) rfl dX5_look_43 (fun H12 lc12 gH12 uH12 => ?_)
    have s_13 := uH12.keep (Or.inr (j_ne hV rfl rfl rfl rfl)) s_7
    exact rtV B hr hlk hh hQ gH12 trivial dX5_look_46

theorem dX5_step_0 : decode cX5_step 0 = .ok (.aload_n 0, 1) := by decide +kernel
theorem dX5_step_1 : decode cX5_step 1 = .ok (.dup, 1) := by decide +kernel
theorem dX5_step_2 : decode cX5_step 2 = .ok (.getfield 18, 3) := by decide +kernel
theorem dX5_step_5 : decode cX5_step 5 = .ok (.iconst 1, 1) := by decide +kernel
theorem dX5_step_6 : decode cX5_step 6 = .ok (.iadd, 1) := by decide +kernel
theorem dX5_step_7 : decode cX5_step 7 = .ok (.putfield 18, 3) := by decide +kernel
theorem dX5_step_10 : decode cX5_step 10 = .ok (.aload_n 0, 1) := by decide +kernel
theorem dX5_step_11 : decode cX5_step 11 = .ok (.invokevirtual 54, 3) := by decide +kernel
theorem dX5_step_14 : decode cX5_step 14 = .ok (.return_, 1) := by decide +kernel
def rm_X5_step : Room := { frames := 1, cells := 0, slots := 0, locals := 20 }
abbrev wS_X5_step : List (Nat × Nat) := [(6, 4), (6, 5), (6, 6)]
set_option maxRecDepth 100000 in
set_option maxHeartbeats 4000000 in
theorem c_X5_step (l : Launch) (E : zE) (hV : zV E) (H0 : Heap) (hT0 : HT E H0) (h0 : Nat) (kh0 : eK E h0 = 6) (tk : Int32) (s_tk : sl H0 h0 (zix E 6 4) = some (.int tk)) (tk_lo : 0 ≤ tk.toInt) (tk_hi : tk.toInt ≤ 2147483000) : Met l yX5_step (zws yX5_step cX5_step 1 none) rm_X5_step (zP E H0 [.ref h0]) (zQV E E wS_X5_step (fun H1 => (∃ tk1 : Int32, sl H1 h0 (zix E 6 4) = some (.int tk1) ∧ 0 ≤ tk1.toInt ∧ (tk1.toInt ≤ tk.toInt + 1)))) 0 0 (zfr E) := by
  refine zEnt (by decide) (Nat.le_of_ble_eq_true rfl) (fun p e s m args below meth c ls Q B hr hlk hh hQ hl => ?_)
  have hx := B.1
  have hb := B.2.1
  have hG0 : zG E wS_X5_step H0 H0 [] := zG.rf hT0
  have hl : lv_has ls 1 [(0, .ref h0)] := hl
  refine lv_aload_n hx hb dX5_step_0 rfl (lv_at hl 0 rfl) ?_
  refine lv_dup hx hb dX5_step_1 rfl ?_
  refine g_get B fl_RX5_18 hT0 kh0 rfl rfl rfl dX5_step_2 s_tk ?_
  refine lv_iconst (v := 1) hx hb dX5_step_5 (by decide) ?_
  refine lv_iadd hx hb dX5_step_6 ?_
  refine lv_topi (fun x_1 e_1 => ?_)
  have t_1 := z_add e_1 rfl kl_1 (by omega) (by omega)
  refine g_putI B fp_RX5_18 hV hG0 kh0 rfl rfl rfl rfl rfl (z_rng _).1 (z_rng _).2 rfl dX5_step_7 (fun H2 lc2 gH2 uH2 => ?_)
  refine lv_aload_n hx hb dX5_step_10 rfl (lv_at hl 0 rfl) ?_
  refine zkV (zrV (rest := []) B (c_X5_look l E hV H2 gH2.1 h0 kh0 x_1 uH2.2.1 (by omega)) cl_RX5_54 gH2.1 kh0 rfl rfl rfl rfl hl.1 rfl (Nat.le_of_ble_eq_true rfl) dX5_step_11 rfl rfl ⟨rfl, rfl⟩ ⟨Nat.zero_le _, Nat.zero_le _⟩ (zO.of gH2 hh)) gH2 rfl (fun H3 lc3 hp_3 gH3 rH3 => ?_)
  have s_4 := rH3.keep hV kh0 rfl uH2.2.1
  exact rtV B hr hlk hh hQ gH3 (⟨x_1, s_4, by omega, by omega⟩) dX5_step_14

theorem dX5_refuse_0 : decode cX5_refuse 0 = .ok (.aload_n 0, 1) := by decide +kernel
theorem dX5_refuse_1 : decode cX5_refuse 1 = .ok (.iload_n 1, 1) := by decide +kernel
theorem dX5_refuse_2 : decode cX5_refuse 2 = .ok (.putfield 9, 3) := by decide +kernel
theorem dX5_refuse_5 : decode cX5_refuse 5 = .ok (.aload_n 0, 1) := by decide +kernel
theorem dX5_refuse_6 : decode cX5_refuse 6 = .ok (.iload_n 2, 1) := by decide +kernel
theorem dX5_refuse_7 : decode cX5_refuse 7 = .ok (.putfield 15, 3) := by decide +kernel
theorem dX5_refuse_10 : decode cX5_refuse 10 = .ok (.iconst 0, 1) := by decide +kernel
theorem dX5_refuse_11 : decode cX5_refuse 11 = .ok (.ireturn, 1) := by decide +kernel
def rm_X5_refuse : Room := { frames := 0, cells := 0, slots := 0, locals := 0 }
abbrev wS_X5_refuse : List (Nat × Nat) := [(6, 0), (6, 1)]
set_option maxRecDepth 100000 in
set_option maxHeartbeats 4000000 in
theorem c_X5_refuse (l : Launch) (E : zE) (hV : zV E) (H0 : Heap) (hT0 : HT E H0) (h0 : Nat) (kh0 : eK E h0 = 6) (p0 : Int32) (p1 : Int32) : Met l yX5_refuse (zws yX5_refuse cX5_refuse 3 (some .boolean)) rm_X5_refuse (zP E H0 [.ref h0, .int p0, .int p1]) (zQI E E wS_X5_refuse (fun r H1 => 0 ≤ r.toInt ∧ r.toInt ≤ 0)) 0 0 (zfr E) := by
  refine zEnt (by decide) (Nat.le_of_ble_eq_true rfl) (fun p e s m args below meth c ls Q B hr hlk hh hQ hl => ?_)
  have hx := B.1
  have hb := B.2.1
  have hG0 : zG E wS_X5_refuse H0 H0 [] := zG.rf hT0
  have hl : lv_has ls 3 [(0, .ref h0), (1, .int p0), (2, .int p1)] := hl
  refine lv_aload_n hx hb dX5_refuse_0 rfl (lv_at hl 0 rfl) ?_
  refine lv_iload_n hx hb dX5_refuse_1 rfl (lv_at hl 1 rfl) ?_
  refine g_putI B fp_RX5_9 hV hG0 kh0 rfl rfl rfl rfl rfl (z_rng _).1 (z_rng _).2 rfl dX5_refuse_2 (fun H1 lc1 gH1 uH1 => ?_)
  refine lv_aload_n hx hb dX5_refuse_5 rfl (lv_at hl 0 rfl) ?_
  refine lv_iload_n hx hb dX5_refuse_6 rfl (lv_at hl 2 rfl) ?_
  refine g_putI B fp_RX5_15 hV gH1 kh0 rfl rfl rfl rfl rfl (z_rng _).1 (z_rng _).2 rfl dX5_refuse_7 (fun H2 lc2 gH2 uH2 => ?_)
  refine lv_iconst (v := 0) hx hb dX5_refuse_10 (by decide) ?_
  have := kl_0
  have := kl_0
  exact rtI (v := 0) B hr hlk hh hQ gH2 rfl ⟨by omega, by omega⟩ dX5_refuse_11

theorem dX5_refuseHere_0 : decode cX5_refuseHere 0 = .ok (.aload_n 0, 1) := by decide +kernel
theorem dX5_refuseHere_1 : decode cX5_refuseHere 1 = .ok (.aload_n 0, 1) := by decide +kernel
theorem dX5_refuseHere_2 : decode cX5_refuseHere 2 = .ok (.getfield 23, 3) := by decide +kernel
theorem dX5_refuseHere_5 : decode cX5_refuseHere 5 = .ok (.iconst 1, 1) := by decide +kernel
theorem dX5_refuseHere_6 : decode cX5_refuseHere 6 = .ok (.if_icmp .ne 7, 3) := by decide +kernel
theorem dX5_refuseHere_9 : decode cX5_refuseHere 9 = .ok (.iconst 1, 1) := by decide +kernel
theorem dX5_refuseHere_10 : decode cX5_refuseHere 10 = .ok (.goto 4, 3) := by decide +kernel
theorem dX5_refuseHere_13 : decode cX5_refuseHere 13 = .ok (.iconst 2, 1) := by decide +kernel
theorem dX5_refuseHere_14 : decode cX5_refuseHere 14 = .ok (.aload_n 0, 1) := by decide +kernel
theorem dX5_refuseHere_15 : decode cX5_refuseHere 15 = .ok (.getfield 26, 3) := by decide +kernel
theorem dX5_refuseHere_18 : decode cX5_refuseHere 18 = .ok (.invokevirtual 71, 3) := by decide +kernel
theorem dX5_refuseHere_21 : decode cX5_refuseHere 21 = .ok (.ireturn, 1) := by decide +kernel
def rm_X5_refuseHere : Room := { frames := 1, cells := 0, slots := 0, locals := 22 }
abbrev wS_X5_refuseHere : List (Nat × Nat) := [(6, 0), (6, 1)]
set_option maxRecDepth 100000 in
set_option maxHeartbeats 4000000 in
theorem c_X5_refuseHere (l : Launch) (E : zE) (hV : zV E) (H0 : Heap) (hT0 : HT E H0) (h0 : Nat) (kh0 : eK E h0 = 6) : Met l yX5_refuseHere (zws yX5_refuseHere cX5_refuseHere 1 (some .boolean)) rm_X5_refuseHere (zP E H0 [.ref h0]) (zQI E E wS_X5_refuseHere (fun r H1 => 0 ≤ r.toInt ∧ r.toInt ≤ 0)) 0 0 (zfr E) := by
  refine zEnt (by decide) (Nat.le_of_ble_eq_true rfl) (fun p e s m args below meth c ls Q B hr hlk hh hQ hl => ?_)
  have hx := B.1
  have hb := B.2.1
  have hG0 : zG E wS_X5_refuseHere H0 H0 [] := zG.rf hT0
  have hl : lv_has ls 1 [(0, .ref h0)] := hl
  have b14 : ∀ (ls : Array Slot) (w14_0 : Int32), lv_has ls 1 [(0, .ref h0)] → 1 ≤ w14_0.toInt → w14_0.toInt ≤ 2 → W p l e rm_X5_refuseHere s m args below meth c H0 [] 0 0 Q (F0 m 14 ls [.int w14_0, .ref h0]) := by
    intro ls w14_0 hl f14_1 f14_2
    refine lv_aload_n hx hb dX5_refuseHere_14 rfl (lv_at hl 0 rfl) ?_
    refine g_getI B fl_RX5_26 hT0 kh0 rfl rfl rfl rfl rfl dX5_refuseHere_15 (fun x_1 s_1 a_1 b_1 => ?_)
    refine zkI (zrV (rest := []) B (c_X5_refuse l E hV H0 hT0 h0 kh0 w14_0 x_1) cl_RX5_71 hT0 kh0 rfl rfl rfl rfl hl.1 rfl (Nat.le_of_ble_eq_true rfl) dX5_refuseHere_18 rfl rfl ⟨rfl, rfl⟩ ⟨Nat.zero_le _, Nat.zero_le _⟩ (zO.of hG0 hh)) hG0 rfl (fun x_2 H2 lc2 hp_2 gH2 rH2 => ?_)
    obtain ⟨hp_2_1, hp_2_2⟩ := hp_2
    exact rtI (v := x_2) B hr hlk hh hQ gH2 (z_nz (by omega) (by omega)) ⟨by omega, by omega⟩ dX5_refuseHere_21
  refine lv_aload_n hx hb dX5_refuseHere_0 rfl (lv_at hl 0 rfl) ?_
  refine lv_aload_n hx hb dX5_refuseHere_1 rfl (lv_at hl 0 rfl) ?_
  refine g_getI B fl_RX5_23 hT0 kh0 rfl rfl rfl rfl rfl dX5_refuseHere_2 (fun x_3 s_3 a_3 b_3 => ?_)
  refine lv_iconst (v := 1) hx hb dX5_refuseHere_5 (by decide) ?_
  refine lv_icmp_ne (tgt := 13) hx hb dX5_refuseHere_6 (by decide) (fun c_4 => ?_) (fun c_4 => ?_)
  · have f_4 := z_ne c_4 rfl kl_1
    refine lv_iconst (v := 2) hx hb dX5_refuseHere_13 (by decide) ?_
    have := kl_2
    exact b14 ls 2 (lv_sub hl [0] rfl) (by omega) (by omega)
  · have f_4 := z_eq c_4 rfl kl_1
    refine lv_iconst (v := 1) hx hb dX5_refuseHere_9 (by decide) ?_
    refine lv_goto (tgt := 14) hx hb dX5_refuseHere_10 (by decide) ?_
    have := kl_1
    exact b14 ls 1 (lv_sub hl [0] rfl) (by omega) (by omega)

theorem dX5_take_0 : decode cX5_take 0 = .ok (.aload_n 0, 1) := by decide +kernel
theorem dX5_take_1 : decode cX5_take 1 = .ok (.getfield 23, 3) := by decide +kernel
theorem dX5_take_4 : decode cX5_take 4 = .ok (.iload_n 1, 1) := by decide +kernel
theorem dX5_take_5 : decode cX5_take 5 = .ok (.if_icmp .eq 8, 3) := by decide +kernel
theorem dX5_take_8 : decode cX5_take 8 = .ok (.aload_n 0, 1) := by decide +kernel
theorem dX5_take_9 : decode cX5_take 9 = .ok (.invokevirtual 83, 3) := by decide +kernel
theorem dX5_take_12 : decode cX5_take 12 = .ok (.ireturn, 1) := by decide +kernel
theorem dX5_take_13 : decode cX5_take 13 = .ok (.aload_n 0, 1) := by decide +kernel
theorem dX5_take_14 : decode cX5_take 14 = .ok (.invokevirtual 105, 3) := by decide +kernel
theorem dX5_take_17 : decode cX5_take 17 = .ok (.iconst 1, 1) := by decide +kernel
theorem dX5_take_18 : decode cX5_take 18 = .ok (.ireturn, 1) := by decide +kernel
def rm_X5_take : Room := { frames := 2, cells := 0, slots := 0, locals := 42 }
abbrev wS_X5_take : List (Nat × Nat) := [(6, 0), (6, 1), (6, 4), (6, 5), (6, 6)]
set_option maxRecDepth 100000 in
set_option maxHeartbeats 4000000 in
theorem c_X5_take (l : Launch) (E : zE) (hV : zV E) (H0 : Heap) (hT0 : HT E H0) (h0 : Nat) (kh0 : eK E h0 = 6) (p0 : Int32) (tk : Int32) (s_tk : sl H0 h0 (zix E 6 4) = some (.int tk)) (tk_lo : 0 ≤ tk.toInt) (tk_hi : tk.toInt ≤ 2147482000) : Met l yX5_take (zws yX5_take cX5_take 2 (some .boolean)) rm_X5_take (zP E H0 [.ref h0, .int p0]) (zQI E E wS_X5_take (fun r H1 => 0 ≤ r.toInt ∧ r.toInt ≤ 1 ∧ (∃ tk1 : Int32, sl H1 h0 (zix E 6 4) = some (.int tk1) ∧ 0 ≤ tk1.toInt ∧ (tk1.toInt ≤ tk.toInt + 1)))) 0 0 (zfr E) := by
  refine zEnt (by decide) (Nat.le_of_ble_eq_true rfl) (fun p e s m args below meth c ls Q B hr hlk hh hQ hl => ?_)
  have hx := B.1
  have hb := B.2.1
  have hG0 : zG E wS_X5_take H0 H0 [] := zG.rf hT0
  have hl : lv_has ls 2 [(0, .ref h0), (1, .int p0)] := hl
  refine lv_aload_n hx hb dX5_take_0 rfl (lv_at hl 0 rfl) ?_
  refine g_getI B fl_RX5_23 hT0 kh0 rfl rfl rfl rfl rfl dX5_take_1 (fun x_1 s_1 a_1 b_1 => ?_)
  refine lv_iload_n hx hb dX5_take_4 rfl (lv_at hl 1 rfl) ?_
  refine lv_icmp_eq (tgt := 13) hx hb dX5_take_5 (by decide) (fun c_2 => ?_) (fun c_2 => ?_)
  · have f_2 := z_eq c_2 rfl rfl
    refine lv_aload_n hx hb dX5_take_13 rfl (lv_at hl 0 rfl) ?_
    refine zkV (zrV (rest := []) B (c_X5_step l E hV H0 hT0 h0 kh0 tk s_tk (by omega) (by omega)) cl_RX5_105 hT0 kh0 rfl rfl rfl rfl hl.1 rfl (Nat.le_of_ble_eq_true rfl) dX5_take_14 rfl rfl ⟨rfl, rfl⟩ ⟨Nat.zero_le _, Nat.zero_le _⟩ (zO.of hG0 hh)) hG0 rfl (fun H3 lc3 hp_3 gH3 rH3 => ?_)
    obtain ⟨k_4, sk_4, ak_4, fk_4_0⟩ := hp_3
    refine lv_iconst (v := 1) hx hb dX5_take_17 (by decide) ?_
    have := kl_1
    have := kl_1
    exact rtI (v := 1) B hr hlk hh hQ gH3 rfl ⟨by omega, by omega, ⟨k_4, sk_4, by omega, by omega⟩⟩ dX5_take_18
  · have f_2 := z_ne c_2 rfl rfl
    refine lv_aload_n hx hb dX5_take_8 rfl (lv_at hl 0 rfl) ?_
    refine zkI (zrV (rest := []) B (c_X5_refuseHere l E hV H0 hT0 h0 kh0) cl_RX5_83 hT0 kh0 rfl rfl rfl rfl hl.1 rfl (Nat.le_of_ble_eq_true rfl) dX5_take_9 rfl rfl ⟨rfl, rfl⟩ ⟨Nat.zero_le _, Nat.zero_le _⟩ (zO.of hG0 hh)) hG0 rfl (fun x_5 H5 lc5 hp_5 gH5 rH5 => ?_)
    have s_6 := rH5.keep hV kh0 rfl s_tk
    obtain ⟨hp_5_1, hp_5_2⟩ := hp_5
    exact rtI (v := x_5) B hr hlk hh hQ gH5 (z_nz (by omega) (by omega)) ⟨by omega, by omega, ⟨tk, s_6, by omega, by omega⟩⟩ dX5_take_12

theorem dX5_takeNumber_0 : decode cX5_takeNumber 0 = .ok (.aload_n 0, 1) := by decide +kernel
theorem dX5_takeNumber_1 : decode cX5_takeNumber 1 = .ok (.getfield 23, 3) := by decide +kernel
theorem dX5_takeNumber_4 : decode cX5_takeNumber 4 = .ok (.iconst 2, 1) := by decide +kernel
theorem dX5_takeNumber_5 : decode cX5_takeNumber 5 = .ok (.if_icmp .eq 8, 3) := by decide +kernel
theorem dX5_takeNumber_8 : decode cX5_takeNumber 8 = .ok (.aload_n 0, 1) := by decide +kernel
theorem dX5_takeNumber_9 : decode cX5_takeNumber 9 = .ok (.invokevirtual 83, 3) := by decide +kernel
theorem dX5_takeNumber_12 : decode cX5_takeNumber 12 = .ok (.ireturn, 1) := by decide +kernel
theorem dX5_takeNumber_13 : decode cX5_takeNumber 13 = .ok (.aload_n 0, 1) := by decide +kernel
theorem dX5_takeNumber_14 : decode cX5_takeNumber 14 = .ok (.getfield 42, 3) := by decide +kernel
theorem dX5_takeNumber_17 : decode cX5_takeNumber 17 = .ok (.aload_n 0, 1) := by decide +kernel
theorem dX5_takeNumber_18 : decode cX5_takeNumber 18 = .ok (.getfield 26, 3) := by decide +kernel
theorem dX5_takeNumber_21 : decode cX5_takeNumber 21 = .ok (.invokevirtual 158, 3) := by decide +kernel
theorem dX5_takeNumber_24 : decode cX5_takeNumber 24 = .ok (.istore_n 3, 1) := by decide +kernel
theorem dX5_takeNumber_25 : decode cX5_takeNumber 25 = .ok (.iload_n 3, 1) := by decide +kernel
theorem dX5_takeNumber_26 : decode cX5_takeNumber 26 = .ok (.iload_n 1, 1) := by decide +kernel
theorem dX5_takeNumber_27 : decode cX5_takeNumber 27 = .ok (.if_icmp .lt 8, 3) := by decide +kernel
theorem dX5_takeNumber_30 : decode cX5_takeNumber 30 = .ok (.iload_n 3, 1) := by decide +kernel
theorem dX5_takeNumber_31 : decode cX5_takeNumber 31 = .ok (.iload_n 2, 1) := by decide +kernel
theorem dX5_takeNumber_32 : decode cX5_takeNumber 32 = .ok (.if_icmp .le 13, 3) := by decide +kernel
theorem dX5_takeNumber_35 : decode cX5_takeNumber 35 = .ok (.aload_n 0, 1) := by decide +kernel
theorem dX5_takeNumber_36 : decode cX5_takeNumber 36 = .ok (.iconst 4, 1) := by decide +kernel
theorem dX5_takeNumber_37 : decode cX5_takeNumber 37 = .ok (.aload_n 0, 1) := by decide +kernel
theorem dX5_takeNumber_38 : decode cX5_takeNumber 38 = .ok (.getfield 26, 3) := by decide +kernel
theorem dX5_takeNumber_41 : decode cX5_takeNumber 41 = .ok (.invokevirtual 71, 3) := by decide +kernel
theorem dX5_takeNumber_44 : decode cX5_takeNumber 44 = .ok (.ireturn, 1) := by decide +kernel
theorem dX5_takeNumber_45 : decode cX5_takeNumber 45 = .ok (.aload_n 0, 1) := by decide +kernel
theorem dX5_takeNumber_46 : decode cX5_takeNumber 46 = .ok (.iload_n 3, 1) := by decide +kernel
theorem dX5_takeNumber_47 : decode cX5_takeNumber 47 = .ok (.putfield 29, 3) := by decide +kernel
theorem dX5_takeNumber_50 : decode cX5_takeNumber 50 = .ok (.aload_n 0, 1) := by decide +kernel
theorem dX5_takeNumber_51 : decode cX5_takeNumber 51 = .ok (.aload_n 0, 1) := by decide +kernel
theorem dX5_takeNumber_52 : decode cX5_takeNumber 52 = .ok (.getfield 26, 3) := by decide +kernel
theorem dX5_takeNumber_55 : decode cX5_takeNumber 55 = .ok (.putfield 32, 3) := by decide +kernel
theorem dX5_takeNumber_58 : decode cX5_takeNumber 58 = .ok (.aload_n 0, 1) := by decide +kernel
theorem dX5_takeNumber_59 : decode cX5_takeNumber 59 = .ok (.invokevirtual 105, 3) := by decide +kernel
theorem dX5_takeNumber_62 : decode cX5_takeNumber 62 = .ok (.iconst 1, 1) := by decide +kernel
theorem dX5_takeNumber_63 : decode cX5_takeNumber 63 = .ok (.ireturn, 1) := by decide +kernel
def rm_X5_takeNumber : Room := { frames := 2, cells := 0, slots := 0, locals := 45 }
abbrev wS_X5_takeNumber : List (Nat × Nat) := [(6, 0), (6, 1), (6, 4), (6, 5), (6, 6), (6, 7), (6, 8)]
set_option maxRecDepth 100000 in
set_option maxHeartbeats 4000000 in
theorem c_X5_takeNumber (l : Launch) (E : zE) (hV : zV E) (H0 : Heap) (hT0 : HT E H0) (h0 : Nat) (kh0 : eK E h0 = 6) (p0 : Int32) (p1 : Int32) (tk : Int32) (s_tk : sl H0 h0 (zix E 6 4) = some (.int tk)) (tk_lo : 0 ≤ tk.toInt) (tk_hi : tk.toInt ≤ 2147482000) : Met l yX5_takeNumber (zws yX5_takeNumber cX5_takeNumber 4 (some .boolean)) rm_X5_takeNumber (zP E H0 [.ref h0, .int p0, .int p1]) (zQI E E wS_X5_takeNumber (fun r H1 => 0 ≤ r.toInt ∧ r.toInt ≤ 1 ∧ (∃ tk1 : Int32, sl H1 h0 (zix E 6 4) = some (.int tk1) ∧ 0 ≤ tk1.toInt ∧ (tk1.toInt ≤ tk.toInt + 1)) ∧ (∃ tn : Int32, sl H1 h0 (zix E 6 7) = some (.int tn) ∧ (r.toInt = 0 ∨ (p0.toInt ≤ tn.toInt ∧ tn.toInt ≤ p1.toInt))))) 0 0 (zfr E) := by
  refine zEnt (by decide) (Nat.le_of_ble_eq_true rfl) (fun p e s m args below meth c ls Q B hr hlk hh hQ hl => ?_)
  have hx := B.1
  have hb := B.2.1
  have hG0 : zG E wS_X5_takeNumber H0 H0 [] := zG.rf hT0
  have hl : lv_has ls 4 [(0, .ref h0), (1, .int p0), (2, .int p1)] := hl
  have b35 : ∀ (ls : Array Slot) (u35_h0_6 : Int32), lv_has ls 4 [(0, .ref h0)] → 0 ≤ u35_h0_6.toInt → u35_h0_6.toInt ≤ 4000 → sl H0 h0 (zix E 6 4) = some (.int tk) → sl H0 h0 (zix E 6 6) = some (.int u35_h0_6) → tk.toInt ≤ tk.toInt + 0 → W p l e rm_X5_takeNumber s m args below meth c H0 [] 0 0 Q (F0 m 35 ls []) := by
    intro ls u35_h0_6 hl f35_1 f35_2 s35_u35_h0_4 s35_u35_h0_6 f35_3
    refine lv_aload_n hx hb dX5_takeNumber_35 rfl (lv_at hl 0 rfl) ?_
    refine lv_iconst (v := 4) hx hb dX5_takeNumber_36 (by decide) ?_
    refine lv_aload_n hx hb dX5_takeNumber_37 rfl (lv_at hl 0 rfl) ?_
    refine g_get B fl_RX5_26 hT0 kh0 rfl rfl rfl dX5_takeNumber_38 s35_u35_h0_6 ?_
    refine zkI (zrV (rest := []) B (c_X5_refuse l E hV H0 hT0 h0 kh0 4 u35_h0_6) cl_RX5_71 hT0 kh0 rfl rfl rfl rfl hl.1 rfl (Nat.le_of_ble_eq_true rfl) dX5_takeNumber_41 rfl rfl ⟨rfl, rfl⟩ ⟨Nat.zero_le _, Nat.zero_le _⟩ (zO.of hG0 hh)) hG0 rfl (fun x_1 H1 lc1 hp_1 gH1 rH1 => ?_)
    have s_2 := rH1.keep hV kh0 rfl s35_u35_h0_4
    obtain ⟨hp_1_1, hp_1_2⟩ := hp_1
    obtain ⟨x_3, s_3, a_3, b_3⟩ := HT.atI gH1.1 kh0 rfl (j := 7) (by decide) rfl
    exact rtI (v := x_1) B hr hlk hh hQ gH1 (z_nz (by omega) (by omega)) ⟨by omega, by omega, ⟨tk, s_2, by omega, by omega⟩, ⟨x_3, s_3, by omega⟩⟩ dX5_takeNumber_44
  refine lv_aload_n hx hb dX5_takeNumber_0 rfl (lv_at hl 0 rfl) ?_
  refine g_getI B fl_RX5_23 hT0 kh0 rfl rfl rfl rfl rfl dX5_takeNumber_1 (fun x_4 s_4 a_4 b_4 => ?_)
  refine lv_iconst (v := 2) hx hb dX5_takeNumber_4 (by decide) ?_
  refine lv_icmp_eq (tgt := 13) hx hb dX5_takeNumber_5 (by decide) (fun c_5 => ?_) (fun c_5 => ?_)
  · have f_5 := z_eq c_5 rfl kl_2
    refine lv_aload_n hx hb dX5_takeNumber_13 rfl (lv_at hl 0 rfl) ?_
    refine g_getR B fl_RX5_42 hT0 kh0 rfl rfl rfl rfl rfl dX5_takeNumber_14 (fun q_6 s_6 k_q_6 => ?_)
    refine lv_aload_n hx hb dX5_takeNumber_17 rfl (lv_at hl 0 rfl) ?_
    refine g_getI B fl_RX5_26 hT0 kh0 rfl rfl rfl rfl rfl dX5_takeNumber_18 (fun x_7 s_7 a_7 b_7 => ?_)
    refine zkPI (zrV (rest := []) B (c_X9_numberAt l E hV H0 hT0 q_6 k_q_6 x_7 (by omega) (by omega)) cl_RX5_158 hT0 k_q_6 rfl rfl rfl rfl hl.1 rfl (Nat.le_of_ble_eq_true rfl) dX5_takeNumber_21 rfl rfl ⟨rfl, rfl⟩ ⟨Nat.zero_le _, Nat.zero_le _⟩ (zO.of hG0 hh)) (fun x_8 hp_8 => ?_)
    refine lv_istore_n (lv' := [(3, .int x_8), (0, .ref h0), (1, .int p0), (2, .int p1)]) hx hb dX5_takeNumber_24 rfl hl (by decide) rfl (fun ls hl => ?_)
    refine lv_iload_n hx hb dX5_takeNumber_25 rfl (lv_at hl 0 rfl) ?_
    refine lv_iload_n hx hb dX5_takeNumber_26 rfl (lv_at hl 2 rfl) ?_
    refine lv_icmp_lt (tgt := 35) hx hb dX5_takeNumber_27 (by decide) (fun c_9 => ?_) (fun c_9 => ?_)
    · have f_9 := z_lt c_9 rfl rfl
      exact b35 ls x_7 (lv_sub hl [1] rfl) (by omega) (by omega) s_tk s_7 (by omega)
    · have f_9 := z_nlt c_9 rfl rfl
      refine lv_iload_n hx hb dX5_takeNumber_30 rfl (lv_at hl 0 rfl) ?_
      refine lv_iload_n hx hb dX5_takeNumber_31 rfl (lv_at hl 3 rfl) ?_
      refine lv_icmp_le (tgt := 45) hx hb dX5_takeNumber_32 (by decide) (fun c_10 => ?_) (fun c_10 => ?_)
      · have f_10 := z_le c_10 rfl rfl
        refine lv_aload_n hx hb dX5_takeNumber_45 rfl (lv_at hl 1 rfl) ?_
        refine lv_iload_n hx hb dX5_takeNumber_46 rfl (lv_at hl 0 rfl) ?_
        refine g_putI B fp_RX5_29 hV hG0 kh0 rfl rfl rfl rfl rfl (z_rng _).1 (z_rng _).2 rfl dX5_takeNumber_47 (fun H11 lc11 gH11 uH11 => ?_)
        have s_12 := uH11.keep (Or.inr (j_ne hV rfl rfl rfl rfl)) s_tk
        have s_13 := uH11.keep (Or.inr (j_ne hV rfl rfl rfl rfl)) s_7
        refine lv_aload_n hx hb dX5_takeNumber_50 rfl (lv_at hl 1 rfl) ?_
        refine lv_aload_n hx hb dX5_takeNumber_51 rfl (lv_at hl 1 rfl) ?_
        refine g_get B fl_RX5_26 gH11.1 kh0 rfl rfl rfl dX5_takeNumber_52 s_13 ?_
        refine g_putI B fp_RX5_32 hV gH11 kh0 rfl rfl rfl rfl rfl (z_rng _).1 (z_rng _).2 rfl dX5_takeNumber_55 (fun H14 lc14 gH14 uH14 => ?_)
        have s_15 := uH14.keep (Or.inr (j_ne hV rfl rfl rfl rfl)) s_12
        have s_16 := uH14.keep (Or.inr (j_ne hV rfl rfl rfl rfl)) uH11.2.1
        refine lv_aload_n hx hb dX5_takeNumber_58 rfl (lv_at hl 1 rfl) ?_
        refine zkV (zrV (rest := []) B (c_X5_step l E hV H14 gH14.1 h0 kh0 tk s_15 (by omega) (by omega)) cl_RX5_105 gH14.1 kh0 rfl rfl rfl rfl hl.1 rfl (Nat.le_of_ble_eq_true rfl) dX5_takeNumber_59 rfl rfl ⟨rfl, rfl⟩ ⟨Nat.zero_le _, Nat.zero_le _⟩ (zO.of gH14 hh)) gH14 rfl (fun H17 lc17 hp_17 gH17 rH17 => ?_)
        have s_18 := rH17.keep hV kh0 rfl s_16
        obtain ⟨k_19, sk_19, ak_19, fk_19_0⟩ := hp_17
        refine lv_iconst (v := 1) hx hb dX5_takeNumber_62 (by decide) ?_
        have := kl_1
        have := kl_1
        exact rtI (v := 1) B hr hlk hh hQ gH17 rfl ⟨by omega, by omega, ⟨k_19, sk_19, by omega, by omega⟩, ⟨x_8, s_18, by omega⟩⟩ dX5_takeNumber_63
      · have f_10 := z_nle c_10 rfl rfl
        exact b35 ls x_7 (lv_sub hl [1] rfl) (by omega) (by omega) s_tk s_7 (by omega)
  · have f_5 := z_ne c_5 rfl kl_2
    refine lv_aload_n hx hb dX5_takeNumber_8 rfl (lv_at hl 0 rfl) ?_
    refine zkI (zrV (rest := []) B (c_X5_refuseHere l E hV H0 hT0 h0 kh0) cl_RX5_83 hT0 kh0 rfl rfl rfl rfl hl.1 rfl (Nat.le_of_ble_eq_true rfl) dX5_takeNumber_9 rfl rfl ⟨rfl, rfl⟩ ⟨Nat.zero_le _, Nat.zero_le _⟩ (zO.of hG0 hh)) hG0 rfl (fun x_20 H20 lc20 hp_20 gH20 rH20 => ?_)
    have s_21 := rH20.keep hV kh0 rfl s_tk
    obtain ⟨hp_20_1, hp_20_2⟩ := hp_20
    obtain ⟨x_22, s_22, a_22, b_22⟩ := HT.atI gH20.1 kh0 rfl (j := 7) (by decide) rfl
    exact rtI (v := x_20) B hr hlk hh hQ gH20 (z_nz (by omega) (by omega)) ⟨by omega, by omega, ⟨tk, s_21, by omega, by omega⟩, ⟨x_22, s_22, by omega⟩⟩ dX5_takeNumber_12

theorem dX5_findPiece_0 : decode cX5_findPiece 0 = .ok (.iconst 0, 1) := by decide +kernel
theorem dX5_findPiece_1 : decode cX5_findPiece 1 = .ok (.istore_n 1, 1) := by decide +kernel
theorem dX5_findPiece_2 : decode cX5_findPiece 2 = .ok (.iload_n 1, 1) := by decide +kernel
theorem dX5_findPiece_3 : decode cX5_findPiece 3 = .ok (.aload_n 0, 1) := by decide +kernel
theorem dX5_findPiece_4 : decode cX5_findPiece 4 = .ok (.getfield 46, 3) := by decide +kernel
theorem dX5_findPiece_7 : decode cX5_findPiece 7 = .ok (.getfield 86, 3) := by decide +kernel
theorem dX5_findPiece_10 : decode cX5_findPiece 10 = .ok (.if_icmp .ge 31, 3) := by decide +kernel
theorem dX5_findPiece_13 : decode cX5_findPiece 13 = .ok (.aload_n 0, 1) := by decide +kernel
theorem dX5_findPiece_14 : decode cX5_findPiece 14 = .ok (.getfield 42, 3) := by decide +kernel
theorem dX5_findPiece_17 : decode cX5_findPiece 17 = .ok (.aload_n 0, 1) := by decide +kernel
theorem dX5_findPiece_18 : decode cX5_findPiece 18 = .ok (.getfield 35, 3) := by decide +kernel
theorem dX5_findPiece_21 : decode cX5_findPiece 21 = .ok (.iload_n 1, 1) := by decide +kernel
theorem dX5_findPiece_22 : decode cX5_findPiece 22 = .ok (.iaload, 1) := by decide +kernel
theorem dX5_findPiece_23 : decode cX5_findPiece 23 = .ok (.aload_n 0, 1) := by decide +kernel
theorem dX5_findPiece_24 : decode cX5_findPiece 24 = .ok (.getfield 26, 3) := by decide +kernel
theorem dX5_findPiece_27 : decode cX5_findPiece 27 = .ok (.invokevirtual 162, 3) := by decide +kernel
theorem dX5_findPiece_30 : decode cX5_findPiece 30 = .ok (.ifCond .eq 5, 3) := by decide +kernel
theorem dX5_findPiece_33 : decode cX5_findPiece 33 = .ok (.iload_n 1, 1) := by decide +kernel
theorem dX5_findPiece_34 : decode cX5_findPiece 34 = .ok (.ireturn, 1) := by decide +kernel
theorem dX5_findPiece_35 : decode cX5_findPiece 35 = .ok (.iinc 1 1, 3) := by decide +kernel
theorem dX5_findPiece_38 : decode cX5_findPiece 38 = .ok (.goto (-36), 3) := by decide +kernel
theorem dX5_findPiece_41 : decode cX5_findPiece 41 = .ok (.iconst (-1), 1) := by decide +kernel
theorem dX5_findPiece_42 : decode cX5_findPiece 42 = .ok (.ireturn, 1) := by decide +kernel
def rm_X5_findPiece : Room := { frames := 2, cells := 0, slots := 0, locals := 44 }
set_option maxRecDepth 100000 in
set_option maxHeartbeats 4000000 in
theorem c_X5_findPiece (l : Launch) (E : zE) (hV : zV E) (H0 : Heap) (hT0 : HT E H0) (h0 : Nat) (kh0 : eK E h0 = 6) : Met l yX5_findPiece (zws yX5_findPiece cX5_findPiece 2 (some .int)) rm_X5_findPiece (zP E H0 [.ref h0]) (zPI (fun r => (-1) ≤ r.toInt ∧ r.toInt ≤ 5)) 0 0 (fun _ => False) := by
  refine zEnt (by decide) (Nat.le_of_ble_eq_true rfl) (fun p e s m args below meth c ls Q B hr hlk hh hQ hl => ?_)
  have hx := B.1
  have hb := B.2.1
  have hl : lv_has ls 2 [(0, .ref h0)] := hl
  have b2 : ∀ (n2 : Nat) (ls : Array Slot) (v2_1 : Int32), 6 - v2_1.toInt < (n2 : Int) → lv_has ls 2 [(0, .ref h0), (1, .int v2_1)] → 0 ≤ v2_1.toInt → v2_1.toInt ≤ 6 → W p l e rm_X5_findPiece s m args below meth c H0 [] 0 0 Q (F0 m 2 ls []) := by
    intro n2
    induction n2 with
    | zero =>
      intro ls v2_1 hm2 hl f2_1 f2_2
      exact absurd hm2 (by omega)
    | succ n2 ih2 =>
      intro ls v2_1 hm2 hl f2_1 f2_2
      refine lv_iload_n hx hb dX5_findPiece_2 rfl (lv_at hl 1 rfl) ?_
      refine lv_aload_n hx hb dX5_findPiece_3 rfl (lv_at hl 0 rfl) ?_
      refine g_getR B fl_RX5_46 hT0 kh0 rfl rfl rfl rfl rfl dX5_findPiece_4 (fun q_1 s_1 k_q_1 => ?_)
      refine g_getI B fl_RX5_86 hT0 k_q_1 rfl rfl rfl rfl rfl dX5_findPiece_7 (fun x_2 s_2 a_2 b_2 => ?_)
      refine lv_icmp_ge (tgt := 41) hx hb dX5_findPiece_10 (by decide) (fun c_3 => ?_) (fun c_3 => ?_)
      · have f_3 := z_le c_3 rfl rfl
        refine lv_iconst (v := (-1)) hx hb dX5_findPiece_41 (by decide) ?_
        have := kl_m1
        have := kl_m1
        exact rtPI (v := (-1)) B hr hlk hh hQ rfl ⟨by omega, by omega⟩ dX5_findPiece_42
      · have f_3 := z_nle c_3 rfl rfl
        refine lv_aload_n hx hb dX5_findPiece_13 rfl (lv_at hl 0 rfl) ?_
        refine g_getR B fl_RX5_42 hT0 kh0 rfl rfl rfl rfl rfl dX5_findPiece_14 (fun q_4 s_4 k_q_4 => ?_)
        refine lv_aload_n hx hb dX5_findPiece_17 rfl (lv_at hl 0 rfl) ?_
        refine g_getR B fl_RX5_35 hT0 kh0 rfl rfl rfl rfl rfl dX5_findPiece_18 (fun q_5 s_5 k_q_5 => ?_)
        refine lv_iload_n hx hb dX5_findPiece_21 rfl (lv_at hl 1 rfl) ?_
        refine g_ialdI (i := v2_1) (N := 6) B hT0 k_q_5 rfl rfl rfl rfl (by omega) (by omega) rfl dX5_findPiece_22 (fun x_6 s_6 a_6 b_6 => ?_)
        refine lv_aload_n hx hb dX5_findPiece_23 rfl (lv_at hl 0 rfl) ?_
        refine g_getI B fl_RX5_26 hT0 kh0 rfl rfl rfl rfl rfl dX5_findPiece_24 (fun x_7 s_7 a_7 b_7 => ?_)
        refine zkPI (zrV (rest := []) B (c_X9_isSameWord l E hV H0 hT0 q_4 k_q_4 x_6 (by omega) (by omega) x_7 (by omega) (by omega)) cl_RX5_162 hT0 k_q_4 rfl rfl rfl rfl hl.1 rfl (Nat.le_of_ble_eq_true rfl) dX5_findPiece_27 rfl rfl ⟨rfl, rfl⟩ ⟨Nat.zero_le _, Nat.zero_le _⟩ (zO.rf hh)) (fun x_8 hp_8 => ?_)
        obtain ⟨hp_8_1, hp_8_2⟩ := hp_8
        refine lv_if_eq (tgt := 35) hx hb dX5_findPiece_30 (by decide) (fun c_9 => ?_) (fun c_9 => ?_)
        · have f_9 := z_eq c_9 rfl kl_0
          obtain ⟨x_10, e_10⟩ : ∃ y : Int32, (v2_1 : Int32) + Int32.ofInt 1 = y := ⟨_, rfl⟩
          refine lv_iinc (v := x_10) (lv' := [(1, .int x_10), (0, .ref h0)]) hx hb dX5_findPiece_35 hl (k := 1) rfl e_10 (by decide) rfl (fun ls hl => ?_)
          have t_10 := z_inc2 e_10 rfl (by decide) (by omega) (by omega)
          refine lv_goto (tgt := 2) hx hb dX5_findPiece_38 (by decide) ?_
          exact ih2 ls x_10 (by omega) (lv_sub hl [1, 0] rfl) (by omega) (by omega)
        · have f_9 := z_ne c_9 rfl kl_0
          refine lv_iload_n hx hb dX5_findPiece_33 rfl (lv_at hl 1 rfl) ?_
          exact rtPI (v := v2_1) B hr hlk hh hQ rfl ⟨by omega, by omega⟩ dX5_findPiece_34
  refine lv_iconst (v := 0) hx hb dX5_findPiece_0 (by decide) ?_
  refine lv_istore_n (lv' := [(1, .int 0), (0, .ref h0)]) hx hb dX5_findPiece_1 rfl hl (by decide) rfl (fun ls hl => ?_)
  have := kl_0
  exact b2 7 ls 0 (by omega) (lv_sub hl [1, 0] rfl) (by omega) (by omega)

theorem dX5_readBoard_0 : decode cX5_readBoard 0 = .ok (.aload_n 0, 1) := by decide +kernel
theorem dX5_readBoard_1 : decode cX5_readBoard 1 = .ok (.invokevirtual 105, 3) := by decide +kernel
theorem dX5_readBoard_4 : decode cX5_readBoard 4 = .ok (.aload_n 0, 1) := by decide +kernel
theorem dX5_readBoard_5 : decode cX5_readBoard 5 = .ok (.iconst 1, 1) := by decide +kernel
theorem dX5_readBoard_6 : decode cX5_readBoard 6 = .ok (.iconst 5, 1) := by decide +kernel
theorem dX5_readBoard_7 : decode cX5_readBoard 7 = .ok (.invokevirtual 108, 3) := by decide +kernel
theorem dX5_readBoard_10 : decode cX5_readBoard 10 = .ok (.ifCond .ne 5, 3) := by decide +kernel
theorem dX5_readBoard_13 : decode cX5_readBoard 13 = .ok (.iconst 0, 1) := by decide +kernel
theorem dX5_readBoard_14 : decode cX5_readBoard 14 = .ok (.ireturn, 1) := by decide +kernel
theorem dX5_readBoard_15 : decode cX5_readBoard 15 = .ok (.aload_n 0, 1) := by decide +kernel
theorem dX5_readBoard_16 : decode cX5_readBoard 16 = .ok (.getfield 46, 3) := by decide +kernel
theorem dX5_readBoard_19 : decode cX5_readBoard 19 = .ok (.aload_n 0, 1) := by decide +kernel
theorem dX5_readBoard_20 : decode cX5_readBoard 20 = .ok (.getfield 29, 3) := by decide +kernel
theorem dX5_readBoard_23 : decode cX5_readBoard 23 = .ok (.putfield 75, 3) := by decide +kernel
theorem dX5_readBoard_26 : decode cX5_readBoard 26 = .ok (.aload_n 0, 1) := by decide +kernel
theorem dX5_readBoard_27 : decode cX5_readBoard 27 = .ok (.bipush 6, 2) := by decide +kernel
theorem dX5_readBoard_29 : decode cX5_readBoard 29 = .ok (.invokevirtual 111, 3) := by decide +kernel
theorem dX5_readBoard_32 : decode cX5_readBoard 32 = .ok (.ifCond .eq 13, 3) := by decide +kernel
theorem dX5_readBoard_35 : decode cX5_readBoard 35 = .ok (.aload_n 0, 1) := by decide +kernel
theorem dX5_readBoard_36 : decode cX5_readBoard 36 = .ok (.iconst 1, 1) := by decide +kernel
theorem dX5_readBoard_37 : decode cX5_readBoard 37 = .ok (.bipush 6, 2) := by decide +kernel
theorem dX5_readBoard_39 : decode cX5_readBoard 39 = .ok (.invokevirtual 108, 3) := by decide +kernel
theorem dX5_readBoard_42 : decode cX5_readBoard 42 = .ok (.ifCond .ne 5, 3) := by decide +kernel
theorem dX5_readBoard_45 : decode cX5_readBoard 45 = .ok (.iconst 0, 1) := by decide +kernel
theorem dX5_readBoard_46 : decode cX5_readBoard 46 = .ok (.ireturn, 1) := by decide +kernel
theorem dX5_readBoard_47 : decode cX5_readBoard 47 = .ok (.aload_n 0, 1) := by decide +kernel
theorem dX5_readBoard_48 : decode cX5_readBoard 48 = .ok (.getfield 46, 3) := by decide +kernel
theorem dX5_readBoard_51 : decode cX5_readBoard 51 = .ok (.aload_n 0, 1) := by decide +kernel
theorem dX5_readBoard_52 : decode cX5_readBoard 52 = .ok (.getfield 29, 3) := by decide +kernel
theorem dX5_readBoard_55 : decode cX5_readBoard 55 = .ok (.putfield 114, 3) := by decide +kernel
theorem dX5_readBoard_58 : decode cX5_readBoard 58 = .ok (.aload_n 0, 1) := by decide +kernel
theorem dX5_readBoard_59 : decode cX5_readBoard 59 = .ok (.iconst 3, 1) := by decide +kernel
theorem dX5_readBoard_60 : decode cX5_readBoard 60 = .ok (.invokevirtual 111, 3) := by decide +kernel
theorem dX5_readBoard_63 : decode cX5_readBoard 63 = .ok (.ireturn, 1) := by decide +kernel
def rm_X5_readBoard : Room := { frames := 3, cells := 0, slots := 0, locals := 68 }
abbrev wS_X5_readBoard : List (Nat × Nat) := [(6, 0), (6, 1), (6, 4), (6, 5), (6, 6), (6, 7), (6, 8), (11, 0), (11, 1)]
set_option maxRecDepth 100000 in
set_option maxHeartbeats 4000000 in
theorem c_X5_readBoard (l : Launch) (E : zE) (hV : zV E) (H0 : Heap) (hT0 : HT E H0) (h0 : Nat) (kh0 : eK E h0 = 6) (tk : Int32) (s_tk : sl H0 h0 (zix E 6 4) = some (.int tk)) (tk_lo : 0 ≤ tk.toInt) (tk_hi : tk.toInt ≤ 2147481000) : Met l yX5_readBoard (zws yX5_readBoard cX5_readBoard 1 (some .boolean)) rm_X5_readBoard (zP E H0 [.ref h0]) (zQI E E wS_X5_readBoard (fun r H1 => 0 ≤ r.toInt ∧ r.toInt ≤ 1 ∧ (∃ tk1 : Int32, sl H1 h0 (zix E 6 4) = some (.int tk1) ∧ 0 ≤ tk1.toInt ∧ (tk1.toInt ≤ tk.toInt + 5)))) 0 0 (zfr E) := by
  refine zEnt (by decide) (Nat.le_of_ble_eq_true rfl) (fun p e s m args below meth c ls Q B hr hlk hh hQ hl => ?_)
  have hx := B.1
  have hb := B.2.1
  have hG0 : zG E wS_X5_readBoard H0 H0 [] := zG.rf hT0
  have hl : lv_has ls 1 [(0, .ref h0)] := hl
  refine lv_aload_n hx hb dX5_readBoard_0 rfl (lv_at hl 0 rfl) ?_
  refine zkV (zrV (rest := []) B (c_X5_step l E hV H0 hT0 h0 kh0 tk s_tk (by omega) (by omega)) cl_RX5_105 hT0 kh0 rfl rfl rfl rfl hl.1 rfl (Nat.le_of_ble_eq_true rfl) dX5_readBoard_1 rfl rfl ⟨rfl, rfl⟩ ⟨Nat.zero_le _, Nat.zero_le _⟩ (zO.of hG0 hh)) hG0 rfl (fun H1 lc1 hp_1 gH1 rH1 => ?_)
  obtain ⟨k_2, sk_2, ak_2, fk_2_0⟩ := hp_1
  refine lv_aload_n hx hb dX5_readBoard_4 rfl (lv_at hl 0 rfl) ?_
  refine lv_iconst (v := 1) hx hb dX5_readBoard_5 (by decide) ?_
  refine lv_iconst (v := 5) hx hb dX5_readBoard_6 (by decide) ?_
  refine zkI (zrV (rest := []) B (c_X5_takeNumber l E hV H1 gH1.1 h0 kh0 1 5 k_2 sk_2 (by omega) (by omega)) cl_RX5_108 gH1.1 kh0 rfl rfl rfl rfl hl.1 rfl (Nat.le_of_ble_eq_true rfl) dX5_readBoard_7 rfl rfl ⟨rfl, rfl⟩ ⟨Nat.zero_le _, Nat.zero_le _⟩ (zO.of gH1 hh)) gH1 rfl (fun x_3 H3 lc3 hp_3 gH3 rH3 => ?_)
  obtain ⟨hp_3_1, hp_3_2, ⟨k_4, sk_4, ak_4, fk_4_0⟩, ⟨k_5, sk_5, fk_5_0⟩⟩ := hp_3
  have := kl_1
  have := kl_5
  refine lv_if_ne (tgt := 15) hx hb dX5_readBoard_10 (by decide) (fun c_6 => ?_) (fun c_6 => ?_)
  · have f_6 := z_ne c_6 rfl kl_0
    refine lv_aload_n hx hb dX5_readBoard_15 rfl (lv_at hl 0 rfl) ?_
    refine g_getR B fl_RX5_46 gH3.1 kh0 rfl rfl rfl rfl rfl dX5_readBoard_16 (fun q_7 s_7 k_q_7 => ?_)
    refine lv_aload_n hx hb dX5_readBoard_19 rfl (lv_at hl 0 rfl) ?_
    refine g_get B fl_RX5_29 gH3.1 kh0 rfl rfl rfl dX5_readBoard_20 sk_5 ?_
    refine g_putI B fp_RX5_75 hV gH3 k_q_7 rfl rfl rfl rfl rfl (by omega) (by omega) rfl dX5_readBoard_23 (fun H8 lc8 gH8 uH8 => ?_)
    have s_9 := uH8.keep (Or.inl (k_ne kh0 k_q_7 rfl)) sk_4
    have s_10 := uH8.keep (Or.inl (k_ne kh0 k_q_7 rfl)) sk_5
    have s_11 := uH8.keep (Or.inl (k_ne kh0 k_q_7 rfl)) s_7
    refine lv_aload_n hx hb dX5_readBoard_26 rfl (lv_at hl 0 rfl) ?_
    refine lv_bipush (v := 6) hx hb dX5_readBoard_27 (by decide) ?_
    refine zkI (zrV (rest := []) B (c_X5_take l E hV H8 gH8.1 h0 kh0 6 k_4 s_9 (by omega) (by omega)) cl_RX5_111 gH8.1 kh0 rfl rfl rfl rfl hl.1 rfl (Nat.le_of_ble_eq_true rfl) dX5_readBoard_29 rfl rfl ⟨rfl, rfl⟩ ⟨Nat.zero_le _, Nat.zero_le _⟩ (zO.of gH8 hh)) gH8 rfl (fun x_12 H12 lc12 hp_12 gH12 rH12 => ?_)
    have s_13 := rH12.keep hV kh0 rfl s_10
    have s_14 := rH12.keep hV kh0 rfl s_11
    obtain ⟨hp_12_1, hp_12_2, ⟨k_15, sk_15, ak_15, fk_15_0⟩⟩ := hp_12
    have := kl_6
    refine lv_if_eq (tgt := 45) hx hb dX5_readBoard_32 (by decide) (fun c_16 => ?_) (fun c_16 => ?_)
    · have f_16 := z_eq c_16 rfl kl_0
      refine lv_iconst (v := 0) hx hb dX5_readBoard_45 (by decide) ?_
      have := kl_0
      have := kl_0
      exact rtI (v := 0) B hr hlk hh hQ gH12 rfl ⟨by omega, by omega, ⟨k_15, sk_15, by omega, by omega⟩⟩ dX5_readBoard_46
    · have f_16 := z_ne c_16 rfl kl_0
      refine lv_aload_n hx hb dX5_readBoard_35 rfl (lv_at hl 0 rfl) ?_
      refine lv_iconst (v := 1) hx hb dX5_readBoard_36 (by decide) ?_
      refine lv_bipush (v := 6) hx hb dX5_readBoard_37 (by decide) ?_
      refine zkI (zrV (rest := []) B (c_X5_takeNumber l E hV H12 gH12.1 h0 kh0 1 6 k_15 sk_15 (by omega) (by omega)) cl_RX5_108 gH12.1 kh0 rfl rfl rfl rfl hl.1 rfl (Nat.le_of_ble_eq_true rfl) dX5_readBoard_39 rfl rfl ⟨rfl, rfl⟩ ⟨Nat.zero_le _, Nat.zero_le _⟩ (zO.of gH12 hh)) gH12 rfl (fun x_17 H17 lc17 hp_17 gH17 rH17 => ?_)
      have s_18 := rH17.keep hV kh0 rfl s_14
      obtain ⟨hp_17_1, hp_17_2, ⟨k_19, sk_19, ak_19, fk_19_0⟩, ⟨k_20, sk_20, fk_20_0⟩⟩ := hp_17
      have := kl_1
      have := kl_6
      refine lv_if_ne (tgt := 47) hx hb dX5_readBoard_42 (by decide) (fun c_21 => ?_) (fun c_21 => ?_)
      · have f_21 := z_ne c_21 rfl kl_0
        refine lv_aload_n hx hb dX5_readBoard_47 rfl (lv_at hl 0 rfl) ?_
        refine g_get B fl_RX5_46 gH17.1 kh0 rfl rfl rfl dX5_readBoard_48 s_18 ?_
        refine lv_aload_n hx hb dX5_readBoard_51 rfl (lv_at hl 0 rfl) ?_
        refine g_get B fl_RX5_29 gH17.1 kh0 rfl rfl rfl dX5_readBoard_52 sk_20 ?_
        refine g_putI B fp_RX5_114 hV gH17 k_q_7 rfl rfl rfl rfl rfl (by omega) (by omega) rfl dX5_readBoard_55 (fun H22 lc22 gH22 uH22 => ?_)
        have s_23 := uH22.keep (Or.inl (k_ne kh0 k_q_7 rfl)) sk_19
        refine lv_aload_n hx hb dX5_readBoard_58 rfl (lv_at hl 0 rfl) ?_
        refine lv_iconst (v := 3) hx hb dX5_readBoard_59 (by decide) ?_
        refine zkI (zrV (rest := []) B (c_X5_take l E hV H22 gH22.1 h0 kh0 3 k_19 s_23 (by omega) (by omega)) cl_RX5_111 gH22.1 kh0 rfl rfl rfl rfl hl.1 rfl (Nat.le_of_ble_eq_true rfl) dX5_readBoard_60 rfl rfl ⟨rfl, rfl⟩ ⟨Nat.zero_le _, Nat.zero_le _⟩ (zO.of gH22 hh)) gH22 rfl (fun x_24 H24 lc24 hp_24 gH24 rH24 => ?_)
        obtain ⟨hp_24_1, hp_24_2, ⟨k_25, sk_25, ak_25, fk_25_0⟩⟩ := hp_24
        have := kl_3
        exact rtI (v := x_24) B hr hlk hh hQ gH24 (z_nz (by omega) (by omega)) ⟨by omega, by omega, ⟨k_25, sk_25, by omega, by omega⟩⟩ dX5_readBoard_63
      · have f_21 := z_eq c_21 rfl kl_0
        refine lv_iconst (v := 0) hx hb dX5_readBoard_45 (by decide) ?_
        have := kl_0
        have := kl_0
        exact rtI (v := 0) B hr hlk hh hQ gH17 rfl ⟨by omega, by omega, ⟨k_19, sk_19, by omega, by omega⟩⟩ dX5_readBoard_46
  · have f_6 := z_eq c_6 rfl kl_0
    refine lv_iconst (v := 0) hx hb dX5_readBoard_13 (by decide) ?_
    have := kl_0
    have := kl_0
    exact rtI (v := 0) B hr hlk hh hQ gH3 rfl ⟨by omega, by omega, ⟨k_4, sk_4, by omega, by omega⟩⟩ dX5_readBoard_14

theorem dX5_readWay_0 : decode cX5_readWay 0 = .ok (.aload_n 0, 1) := by decide +kernel
theorem dX5_readWay_1 : decode cX5_readWay 1 = .ok (.getfield 23, 3) := by decide +kernel
theorem dX5_readWay_4 : decode cX5_readWay 4 = .ok (.bipush 11, 2) := by decide +kernel
theorem dX5_readWay_6 : decode cX5_readWay 6 = .ok (.if_icmp .ne 31, 3) := by decide +kernel
theorem dX5_readWay_9 : decode cX5_readWay 9 = .ok (.aload_n 0, 1) := by decide +kernel
theorem dX5_readWay_10 : decode cX5_readWay 10 = .ok (.getfield 46, 3) := by decide +kernel
theorem dX5_readWay_13 : decode cX5_readWay 13 = .ok (.getfield 128, 3) := by decide +kernel
theorem dX5_readWay_16 : decode cX5_readWay 16 = .ok (.iload_n 1, 1) := by decide +kernel
theorem dX5_readWay_17 : decode cX5_readWay 17 = .ok (.baload, 1) := by decide +kernel
theorem dX5_readWay_18 : decode cX5_readWay 18 = .ok (.ifCond .ne 19, 3) := by decide +kernel
theorem dX5_readWay_21 : decode cX5_readWay 21 = .ok (.aload_n 0, 1) := by decide +kernel
theorem dX5_readWay_22 : decode cX5_readWay 22 = .ok (.getfield 46, 3) := by decide +kernel
theorem dX5_readWay_25 : decode cX5_readWay 25 = .ok (.getfield 128, 3) := by decide +kernel
theorem dX5_readWay_28 : decode cX5_readWay 28 = .ok (.iload_n 1, 1) := by decide +kernel
theorem dX5_readWay_29 : decode cX5_readWay 29 = .ok (.iconst 1, 1) := by decide +kernel
theorem dX5_readWay_30 : decode cX5_readWay 30 = .ok (.bastore, 1) := by decide +kernel
theorem dX5_readWay_31 : decode cX5_readWay 31 = .ok (.aload_n 0, 1) := by decide +kernel
theorem dX5_readWay_32 : decode cX5_readWay 32 = .ok (.invokevirtual 105, 3) := by decide +kernel
theorem dX5_readWay_35 : decode cX5_readWay 35 = .ok (.iconst 1, 1) := by decide +kernel
theorem dX5_readWay_36 : decode cX5_readWay 36 = .ok (.ireturn, 1) := by decide +kernel
theorem dX5_readWay_37 : decode cX5_readWay 37 = .ok (.aload_n 0, 1) := by decide +kernel
theorem dX5_readWay_38 : decode cX5_readWay 38 = .ok (.getfield 23, 3) := by decide +kernel
theorem dX5_readWay_41 : decode cX5_readWay 41 = .ok (.bipush 10, 2) := by decide +kernel
theorem dX5_readWay_43 : decode cX5_readWay 43 = .ok (.if_icmp .ne 7, 3) := by decide +kernel
theorem dX5_readWay_46 : decode cX5_readWay 46 = .ok (.iconst 1, 1) := by decide +kernel
theorem dX5_readWay_47 : decode cX5_readWay 47 = .ok (.goto 4, 3) := by decide +kernel
theorem dX5_readWay_50 : decode cX5_readWay 50 = .ok (.iconst 0, 1) := by decide +kernel
theorem dX5_readWay_51 : decode cX5_readWay 51 = .ok (.istore_n 2, 1) := by decide +kernel
theorem dX5_readWay_52 : decode cX5_readWay 52 = .ok (.aload_n 0, 1) := by decide +kernel
theorem dX5_readWay_53 : decode cX5_readWay 53 = .ok (.getfield 23, 3) := by decide +kernel
theorem dX5_readWay_56 : decode cX5_readWay 56 = .ok (.bipush 9, 2) := by decide +kernel
theorem dX5_readWay_58 : decode cX5_readWay 58 = .ok (.if_icmp .eq 7, 3) := by decide +kernel
theorem dX5_readWay_61 : decode cX5_readWay 61 = .ok (.iload_n 2, 1) := by decide +kernel
theorem dX5_readWay_62 : decode cX5_readWay 62 = .ok (.ifCond .eq 17, 3) := by decide +kernel
theorem dX5_readWay_65 : decode cX5_readWay 65 = .ok (.aload_n 0, 1) := by decide +kernel
theorem dX5_readWay_66 : decode cX5_readWay 66 = .ok (.getfield 46, 3) := by decide +kernel
theorem dX5_readWay_69 : decode cX5_readWay 69 = .ok (.getfield 132, 3) := by decide +kernel
theorem dX5_readWay_72 : decode cX5_readWay 72 = .ok (.iload_n 1, 1) := by decide +kernel
theorem dX5_readWay_73 : decode cX5_readWay 73 = .ok (.iaload, 1) := by decide +kernel
theorem dX5_readWay_74 : decode cX5_readWay 74 = .ok (.bipush 6, 2) := by decide +kernel
theorem dX5_readWay_76 : decode cX5_readWay 76 = .ok (.if_icmp .lt 8, 3) := by decide +kernel
theorem dX5_readWay_79 : decode cX5_readWay 79 = .ok (.aload_n 0, 1) := by decide +kernel
theorem dX5_readWay_80 : decode cX5_readWay 80 = .ok (.invokevirtual 83, 3) := by decide +kernel
theorem dX5_readWay_83 : decode cX5_readWay 83 = .ok (.ireturn, 1) := by decide +kernel
theorem dX5_readWay_84 : decode cX5_readWay 84 = .ok (.aload_n 0, 1) := by decide +kernel
theorem dX5_readWay_85 : decode cX5_readWay 85 = .ok (.invokevirtual 105, 3) := by decide +kernel
theorem dX5_readWay_88 : decode cX5_readWay 88 = .ok (.aload_n 0, 1) := by decide +kernel
theorem dX5_readWay_89 : decode cX5_readWay 89 = .ok (.iconst 0, 1) := by decide +kernel
theorem dX5_readWay_90 : decode cX5_readWay 90 = .ok (.iconst 4, 1) := by decide +kernel
theorem dX5_readWay_91 : decode cX5_readWay 91 = .ok (.invokevirtual 108, 3) := by decide +kernel
theorem dX5_readWay_94 : decode cX5_readWay 94 = .ok (.ifCond .ne 5, 3) := by decide +kernel
theorem dX5_readWay_97 : decode cX5_readWay 97 = .ok (.iconst 0, 1) := by decide +kernel
theorem dX5_readWay_98 : decode cX5_readWay 98 = .ok (.ireturn, 1) := by decide +kernel
theorem dX5_readWay_99 : decode cX5_readWay 99 = .ok (.aload_n 0, 1) := by decide +kernel
theorem dX5_readWay_100 : decode cX5_readWay 100 = .ok (.getfield 29, 3) := by decide +kernel
theorem dX5_readWay_103 : decode cX5_readWay 103 = .ok (.istore_n 3, 1) := by decide +kernel
theorem dX5_readWay_104 : decode cX5_readWay 104 = .ok (.aload_n 0, 1) := by decide +kernel
theorem dX5_readWay_105 : decode cX5_readWay 105 = .ok (.iconst 0, 1) := by decide +kernel
theorem dX5_readWay_106 : decode cX5_readWay 106 = .ok (.iconst 4, 1) := by decide +kernel
theorem dX5_readWay_107 : decode cX5_readWay 107 = .ok (.invokevirtual 108, 3) := by decide +kernel
theorem dX5_readWay_110 : decode cX5_readWay 110 = .ok (.ifCond .ne 5, 3) := by decide +kernel
theorem dX5_readWay_113 : decode cX5_readWay 113 = .ok (.iconst 0, 1) := by decide +kernel
theorem dX5_readWay_114 : decode cX5_readWay 114 = .ok (.ireturn, 1) := by decide +kernel
theorem dX5_readWay_115 : decode cX5_readWay 115 = .ok (.iload_n 3, 1) := by decide +kernel
theorem dX5_readWay_116 : decode cX5_readWay 116 = .ok (.ifCond .ne 20, 3) := by decide +kernel
theorem dX5_readWay_119 : decode cX5_readWay 119 = .ok (.aload_n 0, 1) := by decide +kernel
theorem dX5_readWay_120 : decode cX5_readWay 120 = .ok (.getfield 29, 3) := by decide +kernel
theorem dX5_readWay_123 : decode cX5_readWay 123 = .ok (.ifCond .ne 13, 3) := by decide +kernel
theorem dX5_readWay_126 : decode cX5_readWay 126 = .ok (.aload_n 0, 1) := by decide +kernel
theorem dX5_readWay_127 : decode cX5_readWay 127 = .ok (.iconst 4, 1) := by decide +kernel
theorem dX5_readWay_128 : decode cX5_readWay 128 = .ok (.aload_n 0, 1) := by decide +kernel
theorem dX5_readWay_129 : decode cX5_readWay 129 = .ok (.getfield 32, 3) := by decide +kernel
theorem dX5_readWay_132 : decode cX5_readWay 132 = .ok (.invokevirtual 71, 3) := by decide +kernel
theorem dX5_readWay_135 : decode cX5_readWay 135 = .ok (.ireturn, 1) := by decide +kernel
theorem dX5_readWay_136 : decode cX5_readWay 136 = .ok (.aload_n 0, 1) := by decide +kernel
theorem dX5_readWay_137 : decode cX5_readWay 137 = .ok (.getfield 46, 3) := by decide +kernel
theorem dX5_readWay_140 : decode cX5_readWay 140 = .ok (.iload_n 1, 1) := by decide +kernel
theorem dX5_readWay_141 : decode cX5_readWay 141 = .ok (.iload_n 2, 1) := by decide +kernel
theorem dX5_readWay_142 : decode cX5_readWay 142 = .ok (.iload_n 3, 1) := by decide +kernel
theorem dX5_readWay_143 : decode cX5_readWay 143 = .ok (.aload_n 0, 1) := by decide +kernel
theorem dX5_readWay_144 : decode cX5_readWay 144 = .ok (.getfield 29, 3) := by decide +kernel
theorem dX5_readWay_147 : decode cX5_readWay 147 = .ok (.invokevirtual 135, 3) := by decide +kernel
theorem dX5_readWay_150 : decode cX5_readWay 150 = .ok (.iconst 1, 1) := by decide +kernel
theorem dX5_readWay_151 : decode cX5_readWay 151 = .ok (.ireturn, 1) := by decide +kernel
def rm_X5_readWay : Room := { frames := 3, cells := 0, slots := 0, locals := 68 }
abbrev wS_X5_readWay : List (Nat × Nat) := [(6, 0), (6, 1), (6, 4), (6, 5), (6, 6), (6, 7), (6, 8), (52, 99), (53, 99), (54, 99), (55, 99), (56, 99)]
set_option maxRecDepth 100000 in
set_option maxHeartbeats 4000000 in
theorem c_X5_readWay (l : Launch) (E : zE) (hV : zV E) (H0 : Heap) (hT0 : HT E H0) (h0 : Nat) (kh0 : eK E h0 = 6) (p0 : Int32) (p0_lo : 0 ≤ p0.toInt) (p0_hi : p0.toInt ≤ 5) (tk : Int32) (s_tk : sl H0 h0 (zix E 6 4) = some (.int tk)) (tk_lo : 0 ≤ tk.toInt) (tk_hi : tk.toInt ≤ 2147481000) : Met l yX5_readWay (zws yX5_readWay cX5_readWay 4 (some .boolean)) rm_X5_readWay (zP E H0 [.ref h0, .int p0]) (zQI E E wS_X5_readWay (fun r H1 => 0 ≤ r.toInt ∧ r.toInt ≤ 1 ∧ (∃ tk1 : Int32, sl H1 h0 (zix E 6 4) = some (.int tk1) ∧ 0 ≤ tk1.toInt ∧ (tk1.toInt ≤ tk.toInt + 3)))) 0 0 (zfr E) := by
  refine zEnt (by decide) (Nat.le_of_ble_eq_true rfl) (fun p e s m args below meth c ls Q B hr hlk hh hQ hl => ?_)
  have hx := B.1
  have hb := B.2.1
  have hG0 : zG E wS_X5_readWay H0 H0 [] := zG.rf hT0
  have hl : lv_has ls 4 [(0, .ref h0), (1, .int p0)] := hl
  have b136 : ∀ (H136 : Heap) (lc136 : List Loc) (ls : Array Slot) (v136_2 : Int32) (v136_3 : Int32) (u136_h0_3 : Nat) (u136_h0_4 : Int32) (u136_h0_7 : Int32), zG E wS_X5_readWay H0 H136 lc136 → lv_has ls 4 [(0, .ref h0), (1, .int p0), (2, .int v136_2), (3, .int v136_3)] → eK E u136_h0_3 = 11 → 0 ≤ v136_2.toInt → v136_2.toInt ≤ 1 → 0 ≤ v136_3.toInt → v136_3.toInt ≤ 4 → 0 ≤ u136_h0_4.toInt → u136_h0_4.toInt ≤ 2147481003 → 0 ≤ u136_h0_7.toInt → u136_h0_7.toInt ≤ 4 → sl H136 h0 (zix E 6 3) = some (.ref u136_h0_3) → sl H136 h0 (zix E 6 4) = some (.int u136_h0_4) → sl H136 h0 (zix E 6 7) = some (.int u136_h0_7) → u136_h0_4.toInt ≤ tk.toInt + 3 → W p l e rm_X5_readWay s m args below meth c H136 lc136 0 0 Q (F0 m 136 ls []) := by
    intro H136 lc136 ls v136_2 v136_3 u136_h0_3 u136_h0_4 u136_h0_7 gH136 hl k_u136_h0_3 f136_1 f136_2 f136_3 f136_4 f136_5 f136_6 f136_7 f136_8 s136_u136_h0_3 s136_u136_h0_4 s136_u136_h0_7 f136_9
    refine lv_aload_n hx hb dX5_readWay_136 rfl (lv_at hl 0 rfl) ?_
    refine g_get B fl_RX5_46 gH136.1 kh0 rfl rfl rfl dX5_readWay_137 s136_u136_h0_3 ?_
    refine lv_iload_n hx hb dX5_readWay_140 rfl (lv_at hl 1 rfl) ?_
    refine lv_iload_n hx hb dX5_readWay_141 rfl (lv_at hl 2 rfl) ?_
    refine lv_iload_n hx hb dX5_readWay_142 rfl (lv_at hl 3 rfl) ?_
    refine lv_aload_n hx hb dX5_readWay_143 rfl (lv_at hl 0 rfl) ?_
    refine g_get B fl_RX5_29 gH136.1 kh0 rfl rfl rfl dX5_readWay_144 s136_u136_h0_7 ?_
    refine zkV (zrV (rest := []) B (c_X10_addWay l E hV H136 gH136.1 u136_h0_3 k_u136_h0_3 p0 (by omega) (by omega) v136_2 (by omega) (by omega) v136_3 u136_h0_7) cl_RX5_135 gH136.1 k_u136_h0_3 rfl rfl rfl rfl hl.1 rfl (Nat.le_of_ble_eq_true rfl) dX5_readWay_147 rfl rfl ⟨rfl, rfl⟩ ⟨Nat.zero_le _, Nat.zero_le _⟩ (zO.of gH136 hh)) gH136 rfl (fun H1 lc1 hp_1 gH1 rH1 => ?_)
    have s_2 := rH1.keep hV kh0 rfl s136_u136_h0_4
    refine lv_iconst (v := 1) hx hb dX5_readWay_150 (by decide) ?_
    have := kl_1
    have := kl_1
    exact rtI (v := 1) B hr hlk hh hQ gH1 rfl ⟨by omega, by omega, ⟨u136_h0_4, s_2, by omega, by omega⟩⟩ dX5_readWay_151
  have b79 : ∀ (ls : Array Slot), lv_has ls 4 [(0, .ref h0)] → sl H0 h0 (zix E 6 4) = some (.int tk) → tk.toInt ≤ tk.toInt + 0 → W p l e rm_X5_readWay s m args below meth c H0 [] 0 0 Q (F0 m 79 ls []) := by
    intro ls hl s79_u79_h0_4 f79_1
    refine lv_aload_n hx hb dX5_readWay_79 rfl (lv_at hl 0 rfl) ?_
    refine zkI (zrV (rest := []) B (c_X5_refuseHere l E hV H0 hT0 h0 kh0) cl_RX5_83 hT0 kh0 rfl rfl rfl rfl hl.1 rfl (Nat.le_of_ble_eq_true rfl) dX5_readWay_80 rfl rfl ⟨rfl, rfl⟩ ⟨Nat.zero_le _, Nat.zero_le _⟩ (zO.of hG0 hh)) hG0 rfl (fun x_3 H3 lc3 hp_3 gH3 rH3 => ?_)
    have s_4 := rH3.keep hV kh0 rfl s79_u79_h0_4
    obtain ⟨hp_3_1, hp_3_2⟩ := hp_3
    exact rtI (v := x_3) B hr hlk hh hQ gH3 (z_nz (by omega) (by omega)) ⟨by omega, by omega, ⟨tk, s_4, by omega, by omega⟩⟩ dX5_readWay_83
  have b65 : ∀ (ls : Array Slot) (v65_2 : Int32), lv_has ls 4 [(0, .ref h0), (1, .int p0), (2, .int v65_2)] → 0 ≤ v65_2.toInt → v65_2.toInt ≤ 1 → sl H0 h0 (zix E 6 4) = some (.int tk) → tk.toInt ≤ tk.toInt + 0 → W p l e rm_X5_readWay s m args below meth c H0 [] 0 0 Q (F0 m 65 ls []) := by
    intro ls v65_2 hl f65_1 f65_2 s65_u65_h0_4 f65_3
    refine lv_aload_n hx hb dX5_readWay_65 rfl (lv_at hl 0 rfl) ?_
    refine g_getR B fl_RX5_46 hT0 kh0 rfl rfl rfl rfl rfl dX5_readWay_66 (fun q_5 s_5 k_q_5 => ?_)
    refine g_getR B fl_RX5_132 hT0 k_q_5 rfl rfl rfl rfl rfl dX5_readWay_69 (fun q_6 s_6 k_q_6 => ?_)
    refine lv_iload_n hx hb dX5_readWay_72 rfl (lv_at hl 1 rfl) ?_
    refine g_ialdI (i := p0) (N := 6) B hT0 k_q_6 rfl rfl rfl rfl (by omega) (by omega) rfl dX5_readWay_73 (fun x_7 s_7 a_7 b_7 => ?_)
    refine lv_bipush (v := 6) hx hb dX5_readWay_74 (by decide) ?_
    refine lv_icmp_lt (tgt := 84) hx hb dX5_readWay_76 (by decide) (fun c_8 => ?_) (fun c_8 => ?_)
    · have f_8 := z_lt c_8 rfl kl_6
      refine lv_aload_n hx hb dX5_readWay_84 rfl (lv_at hl 0 rfl) ?_
      refine zkV (zrV (rest := []) B (c_X5_step l E hV H0 hT0 h0 kh0 tk s65_u65_h0_4 (by omega) (by omega)) cl_RX5_105 hT0 kh0 rfl rfl rfl rfl hl.1 rfl (Nat.le_of_ble_eq_true rfl) dX5_readWay_85 rfl rfl ⟨rfl, rfl⟩ ⟨Nat.zero_le _, Nat.zero_le _⟩ (zO.of hG0 hh)) hG0 rfl (fun H9 lc9 hp_9 gH9 rH9 => ?_)
      have s_10 := rH9.keep hV kh0 rfl s_5
      obtain ⟨k_11, sk_11, ak_11, fk_11_0⟩ := hp_9
      refine lv_aload_n hx hb dX5_readWay_88 rfl (lv_at hl 0 rfl) ?_
      refine lv_iconst (v := 0) hx hb dX5_readWay_89 (by decide) ?_
      refine lv_iconst (v := 4) hx hb dX5_readWay_90 (by decide) ?_
      refine zkI (zrV (rest := []) B (c_X5_takeNumber l E hV H9 gH9.1 h0 kh0 0 4 k_11 sk_11 (by omega) (by omega)) cl_RX5_108 gH9.1 kh0 rfl rfl rfl rfl hl.1 rfl (Nat.le_of_ble_eq_true rfl) dX5_readWay_91 rfl rfl ⟨rfl, rfl⟩ ⟨Nat.zero_le _, Nat.zero_le _⟩ (zO.of gH9 hh)) gH9 rfl (fun x_12 H12 lc12 hp_12 gH12 rH12 => ?_)
      have s_13 := rH12.keep hV kh0 rfl s_10
      obtain ⟨hp_12_1, hp_12_2, ⟨k_14, sk_14, ak_14, fk_14_0⟩, ⟨k_15, sk_15, fk_15_0⟩⟩ := hp_12
      have := kl_0
      have := kl_4
      refine lv_if_ne (tgt := 99) hx hb dX5_readWay_94 (by decide) (fun c_16 => ?_) (fun c_16 => ?_)
      · have f_16 := z_ne c_16 rfl kl_0
        refine lv_aload_n hx hb dX5_readWay_99 rfl (lv_at hl 0 rfl) ?_
        refine g_get B fl_RX5_29 gH12.1 kh0 rfl rfl rfl dX5_readWay_100 sk_15 ?_
        refine lv_istore_n (lv' := [(3, .int k_15), (0, .ref h0), (1, .int p0), (2, .int v65_2)]) hx hb dX5_readWay_103 rfl hl (by decide) rfl (fun ls hl => ?_)
        refine lv_aload_n hx hb dX5_readWay_104 rfl (lv_at hl 1 rfl) ?_
        refine lv_iconst (v := 0) hx hb dX5_readWay_105 (by decide) ?_
        refine lv_iconst (v := 4) hx hb dX5_readWay_106 (by decide) ?_
        refine zkI (zrV (rest := []) B (c_X5_takeNumber l E hV H12 gH12.1 h0 kh0 0 4 k_14 sk_14 (by omega) (by omega)) cl_RX5_108 gH12.1 kh0 rfl rfl rfl rfl hl.1 rfl (Nat.le_of_ble_eq_true rfl) dX5_readWay_107 rfl rfl ⟨rfl, rfl⟩ ⟨Nat.zero_le _, Nat.zero_le _⟩ (zO.of gH12 hh)) gH12 rfl (fun x_17 H17 lc17 hp_17 gH17 rH17 => ?_)
        have s_18 := rH17.keep hV kh0 rfl s_13
        obtain ⟨hp_17_1, hp_17_2, ⟨k_19, sk_19, ak_19, fk_19_0⟩, ⟨k_20, sk_20, fk_20_0⟩⟩ := hp_17
        have := kl_0
        have := kl_4
        refine lv_if_ne (tgt := 115) hx hb dX5_readWay_110 (by decide) (fun c_21 => ?_) (fun c_21 => ?_)
        · have f_21 := z_ne c_21 rfl kl_0
          refine lv_iload_n hx hb dX5_readWay_115 rfl (lv_at hl 0 rfl) ?_
          refine lv_if_ne (tgt := 136) hx hb dX5_readWay_116 (by decide) (fun c_22 => ?_) (fun c_22 => ?_)
          · have f_22 := z_ne c_22 rfl kl_0
            exact b136 H17 lc17 ls v65_2 k_15 q_5 k_19 k_20 gH17 (lv_sub hl [1, 2, 3, 0] rfl) k_q_5 (by omega) (by omega) (by omega) (by omega) (by omega) (by omega) (by omega) (by omega) s_18 sk_19 sk_20 (by omega)
          · have f_22 := z_eq c_22 rfl kl_0
            refine lv_aload_n hx hb dX5_readWay_119 rfl (lv_at hl 1 rfl) ?_
            refine g_get B fl_RX5_29 gH17.1 kh0 rfl rfl rfl dX5_readWay_120 sk_20 ?_
            refine lv_if_ne (tgt := 136) hx hb dX5_readWay_123 (by decide) (fun c_23 => ?_) (fun c_23 => ?_)
            · have f_23 := z_ne c_23 rfl kl_0
              exact b136 H17 lc17 ls v65_2 k_15 q_5 k_19 k_20 gH17 (lv_sub hl [1, 2, 3, 0] rfl) k_q_5 (by omega) (by omega) (by omega) (by omega) (by omega) (by omega) (by omega) (by omega) s_18 sk_19 sk_20 (by omega)
            · have f_23 := z_eq c_23 rfl kl_0
              refine lv_aload_n hx hb dX5_readWay_126 rfl (lv_at hl 1 rfl) ?_
              refine lv_iconst (v := 4) hx hb dX5_readWay_127 (by decide) ?_
              refine lv_aload_n hx hb dX5_readWay_128 rfl (lv_at hl 1 rfl) ?_
              refine g_getI B fl_RX5_32 gH17.1 kh0 rfl rfl rfl rfl rfl dX5_readWay_129 (fun x_24 s_24 a_24 b_24 => ?_)
              refine zkI (zrV (rest := []) B (c_X5_refuse l E hV H17 gH17.1 h0 kh0 4 x_24) cl_RX5_71 gH17.1 kh0 rfl rfl rfl rfl hl.1 rfl (Nat.le_of_ble_eq_true rfl) dX5_readWay_132 rfl rfl ⟨rfl, rfl⟩ ⟨Nat.zero_le _, Nat.zero_le _⟩ (zO.of gH17 hh)) gH17 rfl (fun x_25 H25 lc25 hp_25 gH25 rH25 => ?_)
              have s_26 := rH25.keep hV kh0 rfl sk_19
              obtain ⟨hp_25_1, hp_25_2⟩ := hp_25
              exact rtI (v := x_25) B hr hlk hh hQ gH25 (z_nz (by omega) (by omega)) ⟨by omega, by omega, ⟨k_19, s_26, by omega, by omega⟩⟩ dX5_readWay_135
        · have f_21 := z_eq c_21 rfl kl_0
          refine lv_iconst (v := 0) hx hb dX5_readWay_113 (by decide) ?_
          have := kl_0
          have := kl_0
          exact rtI (v := 0) B hr hlk hh hQ gH17 rfl ⟨by omega, by omega, ⟨k_19, sk_19, by omega, by omega⟩⟩ dX5_readWay_114
      · have f_16 := z_eq c_16 rfl kl_0
        refine lv_iconst (v := 0) hx hb dX5_readWay_97 (by decide) ?_
        have := kl_0
        have := kl_0
        exact rtI (v := 0) B hr hlk hh hQ gH12 rfl ⟨by omega, by omega, ⟨k_14, sk_14, by omega, by omega⟩⟩ dX5_readWay_98
    · have f_8 := z_nlt c_8 rfl kl_6
      exact b79 ls (lv_sub hl [0] rfl) s65_u65_h0_4 (by omega)
  have b51 : ∀ (ls : Array Slot) (w51_0 : Int32) (u51_h0_5 : Int32), lv_has ls 4 [(0, .ref h0), (1, .int p0)] → 0 ≤ w51_0.toInt → w51_0.toInt ≤ 1 → sl H0 h0 (zix E 6 4) = some (.int tk) → sl H0 h0 (zix E 6 5) = some (.int u51_h0_5) → tk.toInt ≤ tk.toInt + 0 → W p l e rm_X5_readWay s m args below meth c H0 [] 0 0 Q (F0 m 51 ls [.int w51_0]) := by
    intro ls w51_0 u51_h0_5 hl f51_1 f51_2 s51_u51_h0_4 s51_u51_h0_5 f51_3
    refine lv_istore_n (lv' := [(2, .int w51_0), (0, .ref h0), (1, .int p0)]) hx hb dX5_readWay_51 rfl hl (by decide) rfl (fun ls hl => ?_)
    refine lv_aload_n hx hb dX5_readWay_52 rfl (lv_at hl 1 rfl) ?_
    refine g_get B fl_RX5_23 hT0 kh0 rfl rfl rfl dX5_readWay_53 s51_u51_h0_5 ?_
    refine lv_bipush (v := 9) hx hb dX5_readWay_56 (by decide) ?_
    refine lv_icmp_eq (tgt := 65) hx hb dX5_readWay_58 (by decide) (fun c_27 => ?_) (fun c_27 => ?_)
    · have f_27 := z_eq c_27 rfl kl_9
      exact b65 ls w51_0 (lv_sub hl [1, 2, 0] rfl) (by omega) (by omega) s51_u51_h0_4 (by omega)
    · have f_27 := z_ne c_27 rfl kl_9
      refine lv_iload_n hx hb dX5_readWay_61 rfl (lv_at hl 0 rfl) ?_
      refine lv_if_eq (tgt := 79) hx hb dX5_readWay_62 (by decide) (fun c_28 => ?_) (fun c_28 => ?_)
      · have f_28 := z_eq c_28 rfl kl_0
        exact b79 ls (lv_sub hl [1] rfl) s51_u51_h0_4 (by omega)
      · have f_28 := z_ne c_28 rfl kl_0
        exact b65 ls w51_0 (lv_sub hl [1, 2, 0] rfl) (by omega) (by omega) s51_u51_h0_4 (by omega)
  have b37 : ∀ (ls : Array Slot) (u37_h0_5 : Int32), lv_has ls 4 [(0, .ref h0), (1, .int p0)] → sl H0 h0 (zix E 6 4) = some (.int tk) → sl H0 h0 (zix E 6 5) = some (.int u37_h0_5) → tk.toInt ≤ tk.toInt + 0 → W p l e rm_X5_readWay s m args below meth c H0 [] 0 0 Q (F0 m 37 ls []) := by
    intro ls u37_h0_5 hl s37_u37_h0_4 s37_u37_h0_5 f37_1
    refine lv_aload_n hx hb dX5_readWay_37 rfl (lv_at hl 0 rfl) ?_
    refine g_get B fl_RX5_23 hT0 kh0 rfl rfl rfl dX5_readWay_38 s37_u37_h0_5 ?_
    refine lv_bipush (v := 10) hx hb dX5_readWay_41 (by decide) ?_
    refine lv_icmp_ne (tgt := 50) hx hb dX5_readWay_43 (by decide) (fun c_29 => ?_) (fun c_29 => ?_)
    · have f_29 := z_ne c_29 rfl kl_10
      refine lv_iconst (v := 0) hx hb dX5_readWay_50 (by decide) ?_
      have := kl_0
      exact b51 ls 0 u37_h0_5 (lv_sub hl [0, 1] rfl) (by omega) (by omega) s37_u37_h0_4 s37_u37_h0_5 (by omega)
    · have f_29 := z_eq c_29 rfl kl_10
      refine lv_iconst (v := 1) hx hb dX5_readWay_46 (by decide) ?_
      refine lv_goto (tgt := 51) hx hb dX5_readWay_47 (by decide) ?_
      have := kl_1
      exact b51 ls 1 u37_h0_5 (lv_sub hl [0, 1] rfl) (by omega) (by omega) s37_u37_h0_4 s37_u37_h0_5 (by omega)
  refine lv_aload_n hx hb dX5_readWay_0 rfl (lv_at hl 0 rfl) ?_
  refine g_getI B fl_RX5_23 hT0 kh0 rfl rfl rfl rfl rfl dX5_readWay_1 (fun x_30 s_30 a_30 b_30 => ?_)
  refine lv_bipush (v := 11) hx hb dX5_readWay_4 (by decide) ?_
  refine lv_icmp_ne (tgt := 37) hx hb dX5_readWay_6 (by decide) (fun c_31 => ?_) (fun c_31 => ?_)
  · have f_31 := z_ne c_31 rfl kl_11
    exact b37 ls x_30 (lv_sub hl [0, 1] rfl) s_tk s_30 (by omega)
  · have f_31 := z_eq c_31 rfl kl_11
    refine lv_aload_n hx hb dX5_readWay_9 rfl (lv_at hl 0 rfl) ?_
    refine g_getR B fl_RX5_46 hT0 kh0 rfl rfl rfl rfl rfl dX5_readWay_10 (fun q_32 s_32 k_q_32 => ?_)
    refine g_getR B fl_RX5_128 hT0 k_q_32 rfl rfl rfl rfl rfl dX5_readWay_13 (fun q_33 s_33 k_q_33 => ?_)
    refine lv_iload_n hx hb dX5_readWay_16 rfl (lv_at hl 1 rfl) ?_
    refine g_zaldI (i := p0) (N := 6) B hT0 k_q_33 rfl rfl rfl rfl (by omega) (by omega) rfl dX5_readWay_17 (fun x_34 s_34 a_34 b_34 => ?_)
    refine lv_if_ne (tgt := 37) hx hb dX5_readWay_18 (by decide) (fun c_35 => ?_) (fun c_35 => ?_)
    · have f_35 := z_ne c_35 rfl kl_0
      exact b37 ls x_30 (lv_sub hl [0, 1] rfl) s_tk s_30 (by omega)
    · have f_35 := z_eq c_35 rfl kl_0
      refine lv_aload_n hx hb dX5_readWay_21 rfl (lv_at hl 0 rfl) ?_
      refine g_get B fl_RX5_46 hT0 kh0 rfl rfl rfl dX5_readWay_22 s_32 ?_
      refine g_get B fl_RX5_128 hT0 k_q_32 rfl rfl rfl dX5_readWay_25 s_33 ?_
      refine lv_iload_n hx hb dX5_readWay_28 rfl (lv_at hl 1 rfl) ?_
      refine lv_iconst (v := 1) hx hb dX5_readWay_29 (by decide) ?_
      have := kl_1
      refine g_zastI (i := p0) (N := 6) B hV hG0 k_q_33 rfl rfl rfl rfl (by omega) (by omega) rfl (by omega) (by omega) rfl dX5_readWay_30 (fun H36 lc36 gH36 uH36 => ?_)
      have s_37 := uH36.keep (Or.inl (k_ne kh0 k_q_33 rfl)) s_tk
      refine lv_aload_n hx hb dX5_readWay_31 rfl (lv_at hl 0 rfl) ?_
      refine zkV (zrV (rest := []) B (c_X5_step l E hV H36 gH36.1 h0 kh0 tk s_37 (by omega) (by omega)) cl_RX5_105 gH36.1 kh0 rfl rfl rfl rfl hl.1 rfl (Nat.le_of_ble_eq_true rfl) dX5_readWay_32 rfl rfl ⟨rfl, rfl⟩ ⟨Nat.zero_le _, Nat.zero_le _⟩ (zO.of gH36 hh)) gH36 rfl (fun H38 lc38 hp_38 gH38 rH38 => ?_)
      obtain ⟨k_39, sk_39, ak_39, fk_39_0⟩ := hp_38
      refine lv_iconst (v := 1) hx hb dX5_readWay_35 (by decide) ?_
      have := kl_1
      have := kl_1
      exact rtI (v := 1) B hr hlk hh hQ gH38 rfl ⟨by omega, by omega, ⟨k_39, sk_39, by omega, by omega⟩⟩ dX5_readWay_36

theorem dX5_readPiece_0 : decode cX5_readPiece 0 = .ok (.aload_n 0, 1) := by decide +kernel
theorem dX5_readPiece_1 : decode cX5_readPiece 1 = .ok (.invokevirtual 105, 3) := by decide +kernel
theorem dX5_readPiece_4 : decode cX5_readPiece 4 = .ok (.aload_n 0, 1) := by decide +kernel
theorem dX5_readPiece_5 : decode cX5_readPiece 5 = .ok (.getfield 23, 3) := by decide +kernel
theorem dX5_readPiece_8 : decode cX5_readPiece 8 = .ok (.iconst 4, 1) := by decide +kernel
theorem dX5_readPiece_9 : decode cX5_readPiece 9 = .ok (.if_icmp .eq 8, 3) := by decide +kernel
theorem dX5_readPiece_12 : decode cX5_readPiece 12 = .ok (.aload_n 0, 1) := by decide +kernel
theorem dX5_readPiece_13 : decode cX5_readPiece 13 = .ok (.invokevirtual 83, 3) := by decide +kernel
theorem dX5_readPiece_16 : decode cX5_readPiece 16 = .ok (.ireturn, 1) := by decide +kernel
theorem dX5_readPiece_17 : decode cX5_readPiece 17 = .ok (.aload_n 0, 1) := by decide +kernel
theorem dX5_readPiece_18 : decode cX5_readPiece 18 = .ok (.invokevirtual 117, 3) := by decide +kernel
theorem dX5_readPiece_21 : decode cX5_readPiece 21 = .ok (.iconst (-1), 1) := by decide +kernel
theorem dX5_readPiece_22 : decode cX5_readPiece 22 = .ok (.if_icmp .eq 13, 3) := by decide +kernel
theorem dX5_readPiece_25 : decode cX5_readPiece 25 = .ok (.aload_n 0, 1) := by decide +kernel
theorem dX5_readPiece_26 : decode cX5_readPiece 26 = .ok (.iconst 3, 1) := by decide +kernel
theorem dX5_readPiece_27 : decode cX5_readPiece 27 = .ok (.aload_n 0, 1) := by decide +kernel
theorem dX5_readPiece_28 : decode cX5_readPiece 28 = .ok (.getfield 26, 3) := by decide +kernel
theorem dX5_readPiece_31 : decode cX5_readPiece 31 = .ok (.invokevirtual 71, 3) := by decide +kernel
theorem dX5_readPiece_34 : decode cX5_readPiece 34 = .ok (.ireturn, 1) := by decide +kernel
theorem dX5_readPiece_35 : decode cX5_readPiece 35 = .ok (.aload_n 0, 1) := by decide +kernel
theorem dX5_readPiece_36 : decode cX5_readPiece 36 = .ok (.getfield 46, 3) := by decide +kernel
theorem dX5_readPiece_39 : decode cX5_readPiece 39 = .ok (.getfield 86, 3) := by decide +kernel
theorem dX5_readPiece_42 : decode cX5_readPiece 42 = .ok (.istore_n 1, 1) := by decide +kernel
theorem dX5_readPiece_43 : decode cX5_readPiece 43 = .ok (.iload_n 1, 1) := by decide +kernel
theorem dX5_readPiece_44 : decode cX5_readPiece 44 = .ok (.bipush 6, 2) := by decide +kernel
theorem dX5_readPiece_46 : decode cX5_readPiece 46 = .ok (.if_icmp .lt 8, 3) := by decide +kernel
theorem dX5_readPiece_49 : decode cX5_readPiece 49 = .ok (.aload_n 0, 1) := by decide +kernel
theorem dX5_readPiece_50 : decode cX5_readPiece 50 = .ok (.invokevirtual 83, 3) := by decide +kernel
theorem dX5_readPiece_53 : decode cX5_readPiece 53 = .ok (.ireturn, 1) := by decide +kernel
theorem dX5_readPiece_54 : decode cX5_readPiece 54 = .ok (.aload_n 0, 1) := by decide +kernel
theorem dX5_readPiece_55 : decode cX5_readPiece 55 = .ok (.getfield 35, 3) := by decide +kernel
theorem dX5_readPiece_58 : decode cX5_readPiece 58 = .ok (.iload_n 1, 1) := by decide +kernel
theorem dX5_readPiece_59 : decode cX5_readPiece 59 = .ok (.aload_n 0, 1) := by decide +kernel
theorem dX5_readPiece_60 : decode cX5_readPiece 60 = .ok (.getfield 26, 3) := by decide +kernel
theorem dX5_readPiece_63 : decode cX5_readPiece 63 = .ok (.iastore, 1) := by decide +kernel
theorem dX5_readPiece_64 : decode cX5_readPiece 64 = .ok (.aload_n 0, 1) := by decide +kernel
theorem dX5_readPiece_65 : decode cX5_readPiece 65 = .ok (.invokevirtual 105, 3) := by decide +kernel
theorem dX5_readPiece_68 : decode cX5_readPiece 68 = .ok (.aload_n 0, 1) := by decide +kernel
theorem dX5_readPiece_69 : decode cX5_readPiece 69 = .ok (.getfield 46, 3) := by decide +kernel
theorem dX5_readPiece_72 : decode cX5_readPiece 72 = .ok (.aload_n 0, 1) := by decide +kernel
theorem dX5_readPiece_73 : decode cX5_readPiece 73 = .ok (.getfield 23, 3) := by decide +kernel
theorem dX5_readPiece_76 : decode cX5_readPiece 76 = .ok (.bipush 8, 2) := by decide +kernel
theorem dX5_readPiece_78 : decode cX5_readPiece 78 = .ok (.if_icmp .ne 7, 3) := by decide +kernel
theorem dX5_readPiece_81 : decode cX5_readPiece 81 = .ok (.iconst 1, 1) := by decide +kernel
theorem dX5_readPiece_82 : decode cX5_readPiece 82 = .ok (.goto 4, 3) := by decide +kernel
theorem dX5_readPiece_85 : decode cX5_readPiece 85 = .ok (.iconst 0, 1) := by decide +kernel
theorem dX5_readPiece_86 : decode cX5_readPiece 86 = .ok (.invokevirtual 121, 3) := by decide +kernel
theorem dX5_readPiece_89 : decode cX5_readPiece 89 = .ok (.aload_n 0, 1) := by decide +kernel
theorem dX5_readPiece_90 : decode cX5_readPiece 90 = .ok (.getfield 23, 3) := by decide +kernel
theorem dX5_readPiece_93 : decode cX5_readPiece 93 = .ok (.bipush 8, 2) := by decide +kernel
theorem dX5_readPiece_95 : decode cX5_readPiece 95 = .ok (.if_icmp .ne 7, 3) := by decide +kernel
theorem dX5_readPiece_98 : decode cX5_readPiece 98 = .ok (.aload_n 0, 1) := by decide +kernel
theorem dX5_readPiece_99 : decode cX5_readPiece 99 = .ok (.invokevirtual 105, 3) := by decide +kernel
theorem dX5_readPiece_102 : decode cX5_readPiece 102 = .ok (.iconst 0, 1) := by decide +kernel
theorem dX5_readPiece_103 : decode cX5_readPiece 103 = .ok (.istore_n 2, 1) := by decide +kernel
theorem dX5_readPiece_104 : decode cX5_readPiece 104 = .ok (.iload_n 2, 1) := by decide +kernel
theorem dX5_readPiece_105 : decode cX5_readPiece 105 = .ok (.bipush 7, 2) := by decide +kernel
theorem dX5_readPiece_107 : decode cX5_readPiece 107 = .ok (.if_icmp .gt 27, 3) := by decide +kernel
theorem dX5_readPiece_110 : decode cX5_readPiece 110 = .ok (.aload_n 0, 1) := by decide +kernel
theorem dX5_readPiece_111 : decode cX5_readPiece 111 = .ok (.getfield 23, 3) := by decide +kernel
theorem dX5_readPiece_114 : decode cX5_readPiece 114 = .ok (.iconst 3, 1) := by decide +kernel
theorem dX5_readPiece_115 : decode cX5_readPiece 115 = .ok (.if_icmp .eq 19, 3) := by decide +kernel
theorem dX5_readPiece_118 : decode cX5_readPiece 118 = .ok (.aload_n 0, 1) := by decide +kernel
theorem dX5_readPiece_119 : decode cX5_readPiece 119 = .ok (.iload_n 1, 1) := by decide +kernel
theorem dX5_readPiece_120 : decode cX5_readPiece 120 = .ok (.invokevirtual 125, 3) := by decide +kernel
theorem dX5_readPiece_123 : decode cX5_readPiece 123 = .ok (.ifCond .ne 5, 3) := by decide +kernel
theorem dX5_readPiece_126 : decode cX5_readPiece 126 = .ok (.iconst 0, 1) := by decide +kernel
theorem dX5_readPiece_127 : decode cX5_readPiece 127 = .ok (.ireturn, 1) := by decide +kernel
theorem dX5_readPiece_128 : decode cX5_readPiece 128 = .ok (.iinc 2 1, 3) := by decide +kernel
theorem dX5_readPiece_131 : decode cX5_readPiece 131 = .ok (.goto (-27), 3) := by decide +kernel
theorem dX5_readPiece_134 : decode cX5_readPiece 134 = .ok (.aload_n 0, 1) := by decide +kernel
theorem dX5_readPiece_135 : decode cX5_readPiece 135 = .ok (.iconst 3, 1) := by decide +kernel
theorem dX5_readPiece_136 : decode cX5_readPiece 136 = .ok (.invokevirtual 111, 3) := by decide +kernel
theorem dX5_readPiece_139 : decode cX5_readPiece 139 = .ok (.ireturn, 1) := by decide +kernel
def rm_X5_readPiece : Room := { frames := 4, cells := 0, slots := 0, locals := 91 }
abbrev wS_X5_readPiece : List (Nat × Nat) := [(6, 0), (6, 1), (6, 4), (6, 5), (6, 6), (6, 7), (6, 8), (11, 2), (39, 99), (51, 99), (52, 99), (53, 99), (54, 99), (55, 99), (56, 99)]
set_option maxRecDepth 100000 in
set_option maxHeartbeats 4000000 in
theorem c_X5_readPiece (l : Launch) (E : zE) (hV : zV E) (H0 : Heap) (hT0 : HT E H0) (h0 : Nat) (kh0 : eK E h0 = 6) (tk : Int32) (s_tk : sl H0 h0 (zix E 6 4) = some (.int tk)) (tk_lo : 0 ≤ tk.toInt) (tk_hi : tk.toInt ≤ 2147480000) : Met l yX5_readPiece (zws yX5_readPiece cX5_readPiece 3 (some .boolean)) rm_X5_readPiece (zP E H0 [.ref h0]) (zQI E E wS_X5_readPiece (fun r H1 => 0 ≤ r.toInt ∧ r.toInt ≤ 1 ∧ (∃ tk1 : Int32, sl H1 h0 (zix E 6 4) = some (.int tk1) ∧ 0 ≤ tk1.toInt ∧ (tk1.toInt ≤ tk.toInt + 28)))) 0 0 (zfr E) := by
  refine zEnt (by decide) (Nat.le_of_ble_eq_true rfl) (fun p e s m args below meth c ls Q B hr hlk hh hQ hl => ?_)
  have hx := B.1
  have hb := B.2.1
  have hG0 : zG E wS_X5_readPiece H0 H0 [] := zG.rf hT0
  have hl : lv_has ls 3 [(0, .ref h0)] := hl
  have b134 : ∀ (H134 : Heap) (lc134 : List Loc) (ls : Array Slot) (u134_h0_4 : Int32), zG E wS_X5_readPiece H0 H134 lc134 → lv_has ls 3 [(0, .ref h0)] → 0 ≤ u134_h0_4.toInt → u134_h0_4.toInt ≤ 2147480100 → sl H134 h0 (zix E 6 4) = some (.int u134_h0_4) → u134_h0_4.toInt ≤ tk.toInt + 27 → W p l e rm_X5_readPiece s m args below meth c H134 lc134 0 0 Q (F0 m 134 ls []) := by
    intro H134 lc134 ls u134_h0_4 gH134 hl f134_1 f134_2 s134_u134_h0_4 f134_3
    refine lv_aload_n hx hb dX5_readPiece_134 rfl (lv_at hl 0 rfl) ?_
    refine lv_iconst (v := 3) hx hb dX5_readPiece_135 (by decide) ?_
    refine zkI (zrV (rest := []) B (c_X5_take l E hV H134 gH134.1 h0 kh0 3 u134_h0_4 s134_u134_h0_4 (by omega) (by omega)) cl_RX5_111 gH134.1 kh0 rfl rfl rfl rfl hl.1 rfl (Nat.le_of_ble_eq_true rfl) dX5_readPiece_136 rfl rfl ⟨rfl, rfl⟩ ⟨Nat.zero_le _, Nat.zero_le _⟩ (zO.of gH134 hh)) gH134 rfl (fun x_1 H1 lc1 hp_1 gH1 rH1 => ?_)
    obtain ⟨hp_1_1, hp_1_2, ⟨k_2, sk_2, ak_2, fk_2_0⟩⟩ := hp_1
    have := kl_3
    exact rtI (v := x_1) B hr hlk hh hQ gH1 (z_nz (by omega) (by omega)) ⟨by omega, by omega, ⟨k_2, sk_2, by omega, by omega⟩⟩ dX5_readPiece_139
  have b104 : ∀ (n104 : Nat) (H104 : Heap) (lc104 : List Loc) (ls : Array Slot) (v104_1 : Int32) (v104_2 : Int32) (u104_h0_4 : Int32), 8 - v104_2.toInt < (n104 : Int) → zG E wS_X5_readPiece H0 H104 lc104 → lv_has ls 3 [(0, .ref h0), (1, .int v104_1), (2, .int v104_2)] → 0 ≤ v104_1.toInt → v104_1.toInt ≤ 5 → 0 ≤ v104_2.toInt → v104_2.toInt ≤ 8 → 0 ≤ u104_h0_4.toInt → u104_h0_4.toInt ≤ 2147480100 → sl H104 h0 (zix E 6 4) = some (.int u104_h0_4) → u104_h0_4.toInt ≤ tk.toInt + 3 + 3 * v104_2.toInt → W p l e rm_X5_readPiece s m args below meth c H104 lc104 0 0 Q (F0 m 104 ls []) := by
    intro n104
    induction n104 with
    | zero =>
      intro H104 lc104 ls v104_1 v104_2 u104_h0_4 hm104 gH104 hl f104_1 f104_2 f104_3 f104_4 f104_5 f104_6 s104_u104_h0_4 f104_7
      exact absurd hm104 (by omega)
    | succ n104 ih104 =>
      intro H104 lc104 ls v104_1 v104_2 u104_h0_4 hm104 gH104 hl f104_1 f104_2 f104_3 f104_4 f104_5 f104_6 s104_u104_h0_4 f104_7
      refine lv_iload_n hx hb dX5_readPiece_104 rfl (lv_at hl 2 rfl) ?_
      refine lv_bipush (v := 7) hx hb dX5_readPiece_105 (by decide) ?_
      refine lv_icmp_gt (tgt := 134) hx hb dX5_readPiece_107 (by decide) (fun c_3 => ?_) (fun c_3 => ?_)
      · have f_3 := z_lt c_3 kl_7 rfl
        exact b134 H104 lc104 ls u104_h0_4 gH104 (lv_sub hl [0] rfl) (by omega) (by omega) s104_u104_h0_4 (by omega)
      · have f_3 := z_nlt c_3 kl_7 rfl
        refine lv_aload_n hx hb dX5_readPiece_110 rfl (lv_at hl 0 rfl) ?_
        refine g_getI B fl_RX5_23 gH104.1 kh0 rfl rfl rfl rfl rfl dX5_readPiece_111 (fun x_4 s_4 a_4 b_4 => ?_)
        refine lv_iconst (v := 3) hx hb dX5_readPiece_114 (by decide) ?_
        refine lv_icmp_eq (tgt := 134) hx hb dX5_readPiece_115 (by decide) (fun c_5 => ?_) (fun c_5 => ?_)
        · have f_5 := z_eq c_5 rfl kl_3
          exact b134 H104 lc104 ls u104_h0_4 gH104 (lv_sub hl [0] rfl) (by omega) (by omega) s104_u104_h0_4 (by omega)
        · have f_5 := z_ne c_5 rfl kl_3
          refine lv_aload_n hx hb dX5_readPiece_118 rfl (lv_at hl 0 rfl) ?_
          refine lv_iload_n hx hb dX5_readPiece_119 rfl (lv_at hl 1 rfl) ?_
          refine zkI (zrV (rest := []) B (c_X5_readWay l E hV H104 gH104.1 h0 kh0 v104_1 (by omega) (by omega) u104_h0_4 s104_u104_h0_4 (by omega) (by omega)) cl_RX5_125 gH104.1 kh0 rfl rfl rfl rfl hl.1 rfl (Nat.le_of_ble_eq_true rfl) dX5_readPiece_120 rfl rfl ⟨rfl, rfl⟩ ⟨Nat.zero_le _, Nat.zero_le _⟩ (zO.of gH104 hh)) gH104 rfl (fun x_6 H6 lc6 hp_6 gH6 rH6 => ?_)
          obtain ⟨hp_6_1, hp_6_2, ⟨k_7, sk_7, ak_7, fk_7_0⟩⟩ := hp_6
          refine lv_if_ne (tgt := 128) hx hb dX5_readPiece_123 (by decide) (fun c_8 => ?_) (fun c_8 => ?_)
          · have f_8 := z_ne c_8 rfl kl_0
            obtain ⟨x_9, e_9⟩ : ∃ y : Int32, (v104_2 : Int32) + Int32.ofInt 1 = y := ⟨_, rfl⟩
            refine lv_iinc (v := x_9) (lv' := [(2, .int x_9), (0, .ref h0), (1, .int v104_1)]) hx hb dX5_readPiece_128 hl (k := 2) rfl e_9 (by decide) rfl (fun ls hl => ?_)
            have t_9 := z_inc2 e_9 rfl (by decide) (by omega) (by omega)
            refine lv_goto (tgt := 104) hx hb dX5_readPiece_131 (by decide) ?_
            exact ih104 H6 lc6 ls v104_1 x_9 k_7 (by omega) gH6 (lv_sub hl [1, 2, 0] rfl) (by omega) (by omega) (by omega) (by omega) (by omega) (by omega) sk_7 (by omega)
          · have f_8 := z_eq c_8 rfl kl_0
            refine lv_iconst (v := 0) hx hb dX5_readPiece_126 (by decide) ?_
            have := kl_0
            have := kl_0
            exact rtI (v := 0) B hr hlk hh hQ gH6 rfl ⟨by omega, by omega, ⟨k_7, sk_7, by omega, by omega⟩⟩ dX5_readPiece_127
  have b102 : ∀ (H102 : Heap) (lc102 : List Loc) (ls : Array Slot) (v102_1 : Int32) (u102_h0_4 : Int32), zG E wS_X5_readPiece H0 H102 lc102 → lv_has ls 3 [(0, .ref h0), (1, .int v102_1)] → 0 ≤ v102_1.toInt → v102_1.toInt ≤ 5 → 0 ≤ u102_h0_4.toInt → u102_h0_4.toInt ≤ 2147480003 → sl H102 h0 (zix E 6 4) = some (.int u102_h0_4) → u102_h0_4.toInt ≤ tk.toInt + 3 → W p l e rm_X5_readPiece s m args below meth c H102 lc102 0 0 Q (F0 m 102 ls []) := by
    intro H102 lc102 ls v102_1 u102_h0_4 gH102 hl f102_1 f102_2 f102_3 f102_4 s102_u102_h0_4 f102_5
    refine lv_iconst (v := 0) hx hb dX5_readPiece_102 (by decide) ?_
    refine lv_istore_n (lv' := [(2, .int 0), (0, .ref h0), (1, .int v102_1)]) hx hb dX5_readPiece_103 rfl hl (by decide) rfl (fun ls hl => ?_)
    have := kl_0
    exact b104 9 H102 lc102 ls v102_1 0 u102_h0_4 (by omega) gH102 (lv_sub hl [1, 2, 0] rfl) (by omega) (by omega) (by omega) (by omega) (by omega) (by omega) s102_u102_h0_4 (by omega)
  have b86 : ∀ (H86 : Heap) (lc86 : List Loc) (ls : Array Slot) (v86_1 : Int32) (w86_0 : Int32) (w86_1 : Nat) (u86_h0_4 : Int32) (u86_h0_5 : Int32), zG E wS_X5_readPiece H0 H86 lc86 → lv_has ls 3 [(0, .ref h0), (1, .int v86_1)] → eK E w86_1 = 11 → 0 ≤ v86_1.toInt → v86_1.toInt ≤ 5 → 0 ≤ w86_0.toInt → w86_0.toInt ≤ 1 → 0 ≤ u86_h0_4.toInt → u86_h0_4.toInt ≤ 2147480002 → sl H86 h0 (zix E 6 4) = some (.int u86_h0_4) → sl H86 h0 (zix E 6 5) = some (.int u86_h0_5) → u86_h0_4.toInt ≤ tk.toInt + 2 → W p l e rm_X5_readPiece s m args below meth c H86 lc86 0 0 Q (F0 m 86 ls [.int w86_0, .ref w86_1]) := by
    intro H86 lc86 ls v86_1 w86_0 w86_1 u86_h0_4 u86_h0_5 gH86 hl k_w86_1 f86_1 f86_2 f86_3 f86_4 f86_5 f86_6 s86_u86_h0_4 s86_u86_h0_5 f86_7
    refine zkV (zrV (rest := []) B (c_X10_addPiece l E hV H86 gH86.1 w86_1 k_w86_1 w86_0 (by omega) (by omega)) cl_RX5_121 gH86.1 k_w86_1 rfl rfl rfl rfl hl.1 rfl (Nat.le_of_ble_eq_true rfl) dX5_readPiece_86 rfl rfl ⟨rfl, rfl⟩ ⟨Nat.zero_le _, Nat.zero_le _⟩ (zO.of gH86 hh)) gH86 rfl (fun H10 lc10 hp_10 gH10 rH10 => ?_)
    have s_11 := rH10.keep hV kh0 rfl s86_u86_h0_4
    have s_12 := rH10.keep hV kh0 rfl s86_u86_h0_5
    refine lv_aload_n hx hb dX5_readPiece_89 rfl (lv_at hl 0 rfl) ?_
    refine g_get B fl_RX5_23 gH10.1 kh0 rfl rfl rfl dX5_readPiece_90 s_12 ?_
    refine lv_bipush (v := 8) hx hb dX5_readPiece_93 (by decide) ?_
    refine lv_icmp_ne (tgt := 102) hx hb dX5_readPiece_95 (by decide) (fun c_13 => ?_) (fun c_13 => ?_)
    · have f_13 := z_ne c_13 rfl kl_8
      exact b102 H10 lc10 ls v86_1 u86_h0_4 gH10 (lv_sub hl [0, 1] rfl) (by omega) (by omega) (by omega) (by omega) s_11 (by omega)
    · have f_13 := z_eq c_13 rfl kl_8
      refine lv_aload_n hx hb dX5_readPiece_98 rfl (lv_at hl 0 rfl) ?_
      refine zkV (zrV (rest := []) B (c_X5_step l E hV H10 gH10.1 h0 kh0 u86_h0_4 s_11 (by omega) (by omega)) cl_RX5_105 gH10.1 kh0 rfl rfl rfl rfl hl.1 rfl (Nat.le_of_ble_eq_true rfl) dX5_readPiece_99 rfl rfl ⟨rfl, rfl⟩ ⟨Nat.zero_le _, Nat.zero_le _⟩ (zO.of gH10 hh)) gH10 rfl (fun H14 lc14 hp_14 gH14 rH14 => ?_)
      obtain ⟨k_15, sk_15, ak_15, fk_15_0⟩ := hp_14
      exact b102 H14 lc14 ls v86_1 k_15 gH14 (lv_sub hl [0, 1] rfl) (by omega) (by omega) (by omega) (by omega) sk_15 (by omega)
  refine lv_aload_n hx hb dX5_readPiece_0 rfl (lv_at hl 0 rfl) ?_
  refine zkV (zrV (rest := []) B (c_X5_step l E hV H0 hT0 h0 kh0 tk s_tk (by omega) (by omega)) cl_RX5_105 hT0 kh0 rfl rfl rfl rfl hl.1 rfl (Nat.le_of_ble_eq_true rfl) dX5_readPiece_1 rfl rfl ⟨rfl, rfl⟩ ⟨Nat.zero_le _, Nat.zero_le _⟩ (zO.of hG0 hh)) hG0 rfl (fun H16 lc16 hp_16 gH16 rH16 => ?_)
  obtain ⟨k_17, sk_17, ak_17, fk_17_0⟩ := hp_16
  refine lv_aload_n hx hb dX5_readPiece_4 rfl (lv_at hl 0 rfl) ?_
  refine g_getI B fl_RX5_23 gH16.1 kh0 rfl rfl rfl rfl rfl dX5_readPiece_5 (fun x_18 s_18 a_18 b_18 => ?_)
  refine lv_iconst (v := 4) hx hb dX5_readPiece_8 (by decide) ?_
  refine lv_icmp_eq (tgt := 17) hx hb dX5_readPiece_9 (by decide) (fun c_19 => ?_) (fun c_19 => ?_)
  · have f_19 := z_eq c_19 rfl kl_4
    refine lv_aload_n hx hb dX5_readPiece_17 rfl (lv_at hl 0 rfl) ?_
    refine zkPI (zrV (rest := []) B (c_X5_findPiece l E hV H16 gH16.1 h0 kh0) cl_RX5_117 gH16.1 kh0 rfl rfl rfl rfl hl.1 rfl (Nat.le_of_ble_eq_true rfl) dX5_readPiece_18 rfl rfl ⟨rfl, rfl⟩ ⟨Nat.zero_le _, Nat.zero_le _⟩ (zO.of gH16 hh)) (fun x_20 hp_20 => ?_)
    obtain ⟨hp_20_1, hp_20_2⟩ := hp_20
    refine lv_iconst (v := (-1)) hx hb dX5_readPiece_21 (by decide) ?_
    refine lv_icmp_eq (tgt := 35) hx hb dX5_readPiece_22 (by decide) (fun c_21 => ?_) (fun c_21 => ?_)
    · have f_21 := z_eq c_21 rfl kl_m1
      refine lv_aload_n hx hb dX5_readPiece_35 rfl (lv_at hl 0 rfl) ?_
      refine g_getR B fl_RX5_46 gH16.1 kh0 rfl rfl rfl rfl rfl dX5_readPiece_36 (fun q_22 s_22 k_q_22 => ?_)
      refine g_getI B fl_RX5_86 gH16.1 k_q_22 rfl rfl rfl rfl rfl dX5_readPiece_39 (fun x_23 s_23 a_23 b_23 => ?_)
      refine lv_istore_n (lv' := [(1, .int x_23), (0, .ref h0)]) hx hb dX5_readPiece_42 rfl hl (by decide) rfl (fun ls hl => ?_)
      refine lv_iload_n hx hb dX5_readPiece_43 rfl (lv_at hl 0 rfl) ?_
      refine lv_bipush (v := 6) hx hb dX5_readPiece_44 (by decide) ?_
      refine lv_icmp_lt (tgt := 54) hx hb dX5_readPiece_46 (by decide) (fun c_24 => ?_) (fun c_24 => ?_)
      · have f_24 := z_lt c_24 rfl kl_6
        refine lv_aload_n hx hb dX5_readPiece_54 rfl (lv_at hl 1 rfl) ?_
        refine g_getR B fl_RX5_35 gH16.1 kh0 rfl rfl rfl rfl rfl dX5_readPiece_55 (fun q_25 s_25 k_q_25 => ?_)
        refine lv_iload_n hx hb dX5_readPiece_58 rfl (lv_at hl 0 rfl) ?_
        refine lv_aload_n hx hb dX5_readPiece_59 rfl (lv_at hl 1 rfl) ?_
        refine g_getI B fl_RX5_26 gH16.1 kh0 rfl rfl rfl rfl rfl dX5_readPiece_60 (fun x_26 s_26 a_26 b_26 => ?_)
        refine g_iastI (i := x_23) (N := 6) B hV gH16 k_q_25 rfl rfl rfl rfl (by omega) (by omega) rfl (by omega) (by omega) rfl dX5_readPiece_63 (fun H27 lc27 gH27 uH27 => ?_)
        have s_28 := uH27.keep (Or.inl (k_ne kh0 k_q_25 rfl)) sk_17
        have s_29 := uH27.keep (Or.inl (k_ne kh0 k_q_25 rfl)) s_18
        have s_30 := uH27.keep (Or.inl (k_ne kh0 k_q_25 rfl)) s_22
        refine lv_aload_n hx hb dX5_readPiece_64 rfl (lv_at hl 1 rfl) ?_
        refine zkV (zrV (rest := []) B (c_X5_step l E hV H27 gH27.1 h0 kh0 k_17 s_28 (by omega) (by omega)) cl_RX5_105 gH27.1 kh0 rfl rfl rfl rfl hl.1 rfl (Nat.le_of_ble_eq_true rfl) dX5_readPiece_65 rfl rfl ⟨rfl, rfl⟩ ⟨Nat.zero_le _, Nat.zero_le _⟩ (zO.of gH27 hh)) gH27 rfl (fun H31 lc31 hp_31 gH31 rH31 => ?_)
        have s_32 := rH31.keep hV kh0 rfl s_30
        obtain ⟨k_33, sk_33, ak_33, fk_33_0⟩ := hp_31
        refine lv_aload_n hx hb dX5_readPiece_68 rfl (lv_at hl 1 rfl) ?_
        refine g_get B fl_RX5_46 gH31.1 kh0 rfl rfl rfl dX5_readPiece_69 s_32 ?_
        refine lv_aload_n hx hb dX5_readPiece_72 rfl (lv_at hl 1 rfl) ?_
        refine g_getI B fl_RX5_23 gH31.1 kh0 rfl rfl rfl rfl rfl dX5_readPiece_73 (fun x_34 s_34 a_34 b_34 => ?_)
        refine lv_bipush (v := 8) hx hb dX5_readPiece_76 (by decide) ?_
        refine lv_icmp_ne (tgt := 85) hx hb dX5_readPiece_78 (by decide) (fun c_35 => ?_) (fun c_35 => ?_)
        · have f_35 := z_ne c_35 rfl kl_8
          refine lv_iconst (v := 0) hx hb dX5_readPiece_85 (by decide) ?_
          have := kl_0
          exact b86 H31 lc31 ls x_23 0 q_22 k_33 x_34 gH31 (lv_sub hl [1, 0] rfl) k_q_22 (by omega) (by omega) (by omega) (by omega) (by omega) (by omega) sk_33 s_34 (by omega)
        · have f_35 := z_eq c_35 rfl kl_8
          refine lv_iconst (v := 1) hx hb dX5_readPiece_81 (by decide) ?_
          refine lv_goto (tgt := 86) hx hb dX5_readPiece_82 (by decide) ?_
          have := kl_1
          exact b86 H31 lc31 ls x_23 1 q_22 k_33 x_34 gH31 (lv_sub hl [1, 0] rfl) k_q_22 (by omega) (by omega) (by omega) (by omega) (by omega) (by omega) sk_33 s_34 (by omega)
      · have f_24 := z_nlt c_24 rfl kl_6
        refine lv_aload_n hx hb dX5_readPiece_49 rfl (lv_at hl 1 rfl) ?_
        refine zkI (zrV (rest := []) B (c_X5_refuseHere l E hV H16 gH16.1 h0 kh0) cl_RX5_83 gH16.1 kh0 rfl rfl rfl rfl hl.1 rfl (Nat.le_of_ble_eq_true rfl) dX5_readPiece_50 rfl rfl ⟨rfl, rfl⟩ ⟨Nat.zero_le _, Nat.zero_le _⟩ (zO.of gH16 hh)) gH16 rfl (fun x_36 H36 lc36 hp_36 gH36 rH36 => ?_)
        have s_37 := rH36.keep hV kh0 rfl sk_17
        obtain ⟨hp_36_1, hp_36_2⟩ := hp_36
        exact rtI (v := x_36) B hr hlk hh hQ gH36 (z_nz (by omega) (by omega)) ⟨by omega, by omega, ⟨k_17, s_37, by omega, by omega⟩⟩ dX5_readPiece_53
    · have f_21 := z_ne c_21 rfl kl_m1
      refine lv_aload_n hx hb dX5_readPiece_25 rfl (lv_at hl 0 rfl) ?_
      refine lv_iconst (v := 3) hx hb dX5_readPiece_26 (by decide) ?_
      refine lv_aload_n hx hb dX5_readPiece_27 rfl (lv_at hl 0 rfl) ?_
      refine g_getI B fl_RX5_26 gH16.1 kh0 rfl rfl rfl rfl rfl dX5_readPiece_28 (fun x_38 s_38 a_38 b_38 => ?_)
      refine zkI (zrV (rest := []) B (c_X5_refuse l E hV H16 gH16.1 h0 kh0 3 x_38) cl_RX5_71 gH16.1 kh0 rfl rfl rfl rfl hl.1 rfl (Nat.le_of_ble_eq_true rfl) dX5_readPiece_31 rfl rfl ⟨rfl, rfl⟩ ⟨Nat.zero_le _, Nat.zero_le _⟩ (zO.of gH16 hh)) gH16 rfl (fun x_39 H39 lc39 hp_39 gH39 rH39 => ?_)
      have s_40 := rH39.keep hV kh0 rfl sk_17
      obtain ⟨hp_39_1, hp_39_2⟩ := hp_39
      exact rtI (v := x_39) B hr hlk hh hQ gH39 (z_nz (by omega) (by omega)) ⟨by omega, by omega, ⟨k_17, s_40, by omega, by omega⟩⟩ dX5_readPiece_34
  · have f_19 := z_ne c_19 rfl kl_4
    refine lv_aload_n hx hb dX5_readPiece_12 rfl (lv_at hl 0 rfl) ?_
    refine zkI (zrV (rest := []) B (c_X5_refuseHere l E hV H16 gH16.1 h0 kh0) cl_RX5_83 gH16.1 kh0 rfl rfl rfl rfl hl.1 rfl (Nat.le_of_ble_eq_true rfl) dX5_readPiece_13 rfl rfl ⟨rfl, rfl⟩ ⟨Nat.zero_le _, Nat.zero_le _⟩ (zO.of gH16 hh)) gH16 rfl (fun x_41 H41 lc41 hp_41 gH41 rH41 => ?_)
    have s_42 := rH41.keep hV kh0 rfl sk_17
    obtain ⟨hp_41_1, hp_41_2⟩ := hp_41
    exact rtI (v := x_41) B hr hlk hh hQ gH41 (z_nz (by omega) (by omega)) ⟨by omega, by omega, ⟨k_17, s_42, by omega, by omega⟩⟩ dX5_readPiece_16

theorem dX5_readMan_0 : decode cX5_readMan 0 = .ok (.aload_n 0, 1) := by decide +kernel
theorem dX5_readMan_1 : decode cX5_readMan 1 = .ok (.invokevirtual 105, 3) := by decide +kernel
theorem dX5_readMan_4 : decode cX5_readMan 4 = .ok (.aload_n 0, 1) := by decide +kernel
theorem dX5_readMan_5 : decode cX5_readMan 5 = .ok (.getfield 23, 3) := by decide +kernel
theorem dX5_readMan_8 : decode cX5_readMan 8 = .ok (.iconst 4, 1) := by decide +kernel
theorem dX5_readMan_9 : decode cX5_readMan 9 = .ok (.if_icmp .eq 8, 3) := by decide +kernel
theorem dX5_readMan_12 : decode cX5_readMan 12 = .ok (.aload_n 0, 1) := by decide +kernel
theorem dX5_readMan_13 : decode cX5_readMan 13 = .ok (.invokevirtual 83, 3) := by decide +kernel
theorem dX5_readMan_16 : decode cX5_readMan 16 = .ok (.ireturn, 1) := by decide +kernel
theorem dX5_readMan_17 : decode cX5_readMan 17 = .ok (.aload_n 0, 1) := by decide +kernel
theorem dX5_readMan_18 : decode cX5_readMan 18 = .ok (.invokevirtual 117, 3) := by decide +kernel
theorem dX5_readMan_21 : decode cX5_readMan 21 = .ok (.istore_n 2, 1) := by decide +kernel
theorem dX5_readMan_22 : decode cX5_readMan 22 = .ok (.iload_n 2, 1) := by decide +kernel
theorem dX5_readMan_23 : decode cX5_readMan 23 = .ok (.iconst (-1), 1) := by decide +kernel
theorem dX5_readMan_24 : decode cX5_readMan 24 = .ok (.if_icmp .ne 13, 3) := by decide +kernel
theorem dX5_readMan_27 : decode cX5_readMan 27 = .ok (.aload_n 0, 1) := by decide +kernel
theorem dX5_readMan_28 : decode cX5_readMan 28 = .ok (.iconst 5, 1) := by decide +kernel
theorem dX5_readMan_29 : decode cX5_readMan 29 = .ok (.aload_n 0, 1) := by decide +kernel
theorem dX5_readMan_30 : decode cX5_readMan 30 = .ok (.getfield 26, 3) := by decide +kernel
theorem dX5_readMan_33 : decode cX5_readMan 33 = .ok (.invokevirtual 71, 3) := by decide +kernel
theorem dX5_readMan_36 : decode cX5_readMan 36 = .ok (.ireturn, 1) := by decide +kernel
theorem dX5_readMan_37 : decode cX5_readMan 37 = .ok (.aload_n 0, 1) := by decide +kernel
theorem dX5_readMan_38 : decode cX5_readMan 38 = .ok (.invokevirtual 105, 3) := by decide +kernel
theorem dX5_readMan_41 : decode cX5_readMan 41 = .ok (.aload_n 0, 1) := by decide +kernel
theorem dX5_readMan_42 : decode cX5_readMan 42 = .ok (.bipush 14, 2) := by decide +kernel
theorem dX5_readMan_44 : decode cX5_readMan 44 = .ok (.invokevirtual 111, 3) := by decide +kernel
theorem dX5_readMan_47 : decode cX5_readMan 47 = .ok (.ifCond .eq 20, 3) := by decide +kernel
theorem dX5_readMan_50 : decode cX5_readMan 50 = .ok (.aload_n 0, 1) := by decide +kernel
theorem dX5_readMan_51 : decode cX5_readMan 51 = .ok (.iconst 0, 1) := by decide +kernel
theorem dX5_readMan_52 : decode cX5_readMan 52 = .ok (.aload_n 0, 1) := by decide +kernel
theorem dX5_readMan_53 : decode cX5_readMan 53 = .ok (.getfield 46, 3) := by decide +kernel
theorem dX5_readMan_56 : decode cX5_readMan 56 = .ok (.getfield 75, 3) := by decide +kernel
theorem dX5_readMan_59 : decode cX5_readMan 59 = .ok (.iconst 1, 1) := by decide +kernel
theorem dX5_readMan_60 : decode cX5_readMan 60 = .ok (.isub, 1) := by decide +kernel
theorem dX5_readMan_61 : decode cX5_readMan 61 = .ok (.invokevirtual 108, 3) := by decide +kernel
theorem dX5_readMan_64 : decode cX5_readMan 64 = .ok (.ifCond .ne 5, 3) := by decide +kernel
theorem dX5_readMan_67 : decode cX5_readMan 67 = .ok (.iconst 0, 1) := by decide +kernel
theorem dX5_readMan_68 : decode cX5_readMan 68 = .ok (.ireturn, 1) := by decide +kernel
theorem dX5_readMan_69 : decode cX5_readMan 69 = .ok (.aload_n 0, 1) := by decide +kernel
theorem dX5_readMan_70 : decode cX5_readMan 70 = .ok (.getfield 29, 3) := by decide +kernel
theorem dX5_readMan_73 : decode cX5_readMan 73 = .ok (.istore_n 3, 1) := by decide +kernel
theorem dX5_readMan_74 : decode cX5_readMan 74 = .ok (.aload_n 0, 1) := by decide +kernel
theorem dX5_readMan_75 : decode cX5_readMan 75 = .ok (.iconst 0, 1) := by decide +kernel
theorem dX5_readMan_76 : decode cX5_readMan 76 = .ok (.aload_n 0, 1) := by decide +kernel
theorem dX5_readMan_77 : decode cX5_readMan 77 = .ok (.getfield 46, 3) := by decide +kernel
theorem dX5_readMan_80 : decode cX5_readMan 80 = .ok (.getfield 114, 3) := by decide +kernel
theorem dX5_readMan_83 : decode cX5_readMan 83 = .ok (.iconst 1, 1) := by decide +kernel
theorem dX5_readMan_84 : decode cX5_readMan 84 = .ok (.isub, 1) := by decide +kernel
theorem dX5_readMan_85 : decode cX5_readMan 85 = .ok (.invokevirtual 108, 3) := by decide +kernel
theorem dX5_readMan_88 : decode cX5_readMan 88 = .ok (.ifCond .ne 5, 3) := by decide +kernel
theorem dX5_readMan_91 : decode cX5_readMan 91 = .ok (.iconst 0, 1) := by decide +kernel
theorem dX5_readMan_92 : decode cX5_readMan 92 = .ok (.ireturn, 1) := by decide +kernel
theorem dX5_readMan_93 : decode cX5_readMan 93 = .ok (.iload_n 3, 1) := by decide +kernel
theorem dX5_readMan_94 : decode cX5_readMan 94 = .ok (.aload_n 0, 1) := by decide +kernel
theorem dX5_readMan_95 : decode cX5_readMan 95 = .ok (.getfield 46, 3) := by decide +kernel
theorem dX5_readMan_98 : decode cX5_readMan 98 = .ok (.getfield 75, 3) := by decide +kernel
theorem dX5_readMan_101 : decode cX5_readMan 101 = .ok (.aload_n 0, 1) := by decide +kernel
theorem dX5_readMan_102 : decode cX5_readMan 102 = .ok (.getfield 29, 3) := by decide +kernel
theorem dX5_readMan_105 : decode cX5_readMan 105 = .ok (.imul, 1) := by decide +kernel
theorem dX5_readMan_106 : decode cX5_readMan 106 = .ok (.iadd, 1) := by decide +kernel
theorem dX5_readMan_107 : decode cX5_readMan 107 = .ok (.istore 4, 2) := by decide +kernel
theorem dX5_readMan_109 : decode cX5_readMan 109 = .ok (.aload_n 0, 1) := by decide +kernel
theorem dX5_readMan_110 : decode cX5_readMan 110 = .ok (.getfield 46, 3) := by decide +kernel
theorem dX5_readMan_113 : decode cX5_readMan 113 = .ok (.getfield 139, 3) := by decide +kernel
theorem dX5_readMan_116 : decode cX5_readMan 116 = .ok (.iload 4, 2) := by decide +kernel
theorem dX5_readMan_118 : decode cX5_readMan 118 = .ok (.invokevirtual 143, 3) := by decide +kernel
theorem dX5_readMan_121 : decode cX5_readMan 121 = .ok (.ifCond .ne 13, 3) := by decide +kernel
theorem dX5_readMan_124 : decode cX5_readMan 124 = .ok (.aload_n 0, 1) := by decide +kernel
theorem dX5_readMan_125 : decode cX5_readMan 125 = .ok (.iconst 3, 1) := by decide +kernel
theorem dX5_readMan_126 : decode cX5_readMan 126 = .ok (.aload_n 0, 1) := by decide +kernel
theorem dX5_readMan_127 : decode cX5_readMan 127 = .ok (.getfield 32, 3) := by decide +kernel
theorem dX5_readMan_130 : decode cX5_readMan 130 = .ok (.invokevirtual 71, 3) := by decide +kernel
theorem dX5_readMan_133 : decode cX5_readMan 133 = .ok (.ireturn, 1) := by decide +kernel
theorem dX5_readMan_134 : decode cX5_readMan 134 = .ok (.aload_n 0, 1) := by decide +kernel
theorem dX5_readMan_135 : decode cX5_readMan 135 = .ok (.getfield 46, 3) := by decide +kernel
theorem dX5_readMan_138 : decode cX5_readMan 138 = .ok (.getfield 139, 3) := by decide +kernel
theorem dX5_readMan_141 : decode cX5_readMan 141 = .ok (.iload 4, 2) := by decide +kernel
theorem dX5_readMan_143 : decode cX5_readMan 143 = .ok (.iload_n 2, 1) := by decide +kernel
theorem dX5_readMan_144 : decode cX5_readMan 144 = .ok (.iload_n 1, 1) := by decide +kernel
theorem dX5_readMan_145 : decode cX5_readMan 145 = .ok (.aload_n 0, 1) := by decide +kernel
theorem dX5_readMan_146 : decode cX5_readMan 146 = .ok (.getfield 46, 3) := by decide +kernel
theorem dX5_readMan_149 : decode cX5_readMan 149 = .ok (.getfield 148, 3) := by decide +kernel
theorem dX5_readMan_152 : decode cX5_readMan 152 = .ok (.iload_n 2, 1) := by decide +kernel
theorem dX5_readMan_153 : decode cX5_readMan 153 = .ok (.baload, 1) := by decide +kernel
theorem dX5_readMan_154 : decode cX5_readMan 154 = .ok (.invokevirtual 151, 3) := by decide +kernel
theorem dX5_readMan_157 : decode cX5_readMan 157 = .ok (.aload_n 0, 1) := by decide +kernel
theorem dX5_readMan_158 : decode cX5_readMan 158 = .ok (.getfield 46, 3) := by decide +kernel
theorem dX5_readMan_161 : decode cX5_readMan 161 = .ok (.dup, 1) := by decide +kernel
theorem dX5_readMan_162 : decode cX5_readMan 162 = .ok (.getfield 92, 3) := by decide +kernel
theorem dX5_readMan_165 : decode cX5_readMan 165 = .ok (.iconst 1, 1) := by decide +kernel
theorem dX5_readMan_166 : decode cX5_readMan 166 = .ok (.iadd, 1) := by decide +kernel
theorem dX5_readMan_167 : decode cX5_readMan 167 = .ok (.putfield 92, 3) := by decide +kernel
theorem dX5_readMan_170 : decode cX5_readMan 170 = .ok (.aload_n 0, 1) := by decide +kernel
theorem dX5_readMan_171 : decode cX5_readMan 171 = .ok (.iconst 3, 1) := by decide +kernel
theorem dX5_readMan_172 : decode cX5_readMan 172 = .ok (.invokevirtual 111, 3) := by decide +kernel
theorem dX5_readMan_175 : decode cX5_readMan 175 = .ok (.ireturn, 1) := by decide +kernel
def rm_X5_readMan : Room := { frames := 3, cells := 0, slots := 0, locals := 68 }
abbrev wS_X5_readMan : List (Nat × Nat) := [(5, 1), (5, 2), (5, 3), (5, 4), (5, 5), (5, 6), (6, 0), (6, 1), (6, 4), (6, 5), (6, 6), (6, 7), (6, 8), (11, 3)]
set_option maxRecDepth 100000 in
set_option maxHeartbeats 4000000 in
theorem c_X5_readMan (l : Launch) (E : zE) (hV : zV E) (H0 : Heap) (hT0 : HT E H0) (h0 : Nat) (kh0 : eK E h0 = 6) (p0 : Int32) (p0_lo : 0 ≤ p0.toInt) (p0_hi : p0.toInt ≤ 1) (tk : Int32) (s_tk : sl H0 h0 (zix E 6 4) = some (.int tk)) (tk_lo : 0 ≤ tk.toInt) (tk_hi : tk.toInt ≤ 2147481000) : Met l yX5_readMan (zws yX5_readMan cX5_readMan 5 (some .boolean)) rm_X5_readMan (zP E H0 [.ref h0, .int p0]) (zQI E E wS_X5_readMan (fun r H1 => 0 ≤ r.toInt ∧ r.toInt ≤ 1 ∧ (∃ tk1 : Int32, sl H1 h0 (zix E 6 4) = some (.int tk1) ∧ 0 ≤ tk1.toInt ∧ (tk1.toInt ≤ tk.toInt + 6)))) 0 0 (zfr E) := by
  refine zEnt (by decide) (Nat.le_of_ble_eq_true rfl) (fun p e s m args below meth c ls Q B hr hlk hh hQ hl => ?_)
  have hx := B.1
  have hb := B.2.1
  have hG0 : zG E wS_X5_readMan H0 H0 [] := zG.rf hT0
  have hl : lv_has ls 5 [(0, .ref h0), (1, .int p0)] := hl
  refine lv_aload_n hx hb dX5_readMan_0 rfl (lv_at hl 0 rfl) ?_
  refine zkV (zrV (rest := []) B (c_X5_step l E hV H0 hT0 h0 kh0 tk s_tk (by omega) (by omega)) cl_RX5_105 hT0 kh0 rfl rfl rfl rfl hl.1 rfl (Nat.le_of_ble_eq_true rfl) dX5_readMan_1 rfl rfl ⟨rfl, rfl⟩ ⟨Nat.zero_le _, Nat.zero_le _⟩ (zO.of hG0 hh)) hG0 rfl (fun H1 lc1 hp_1 gH1 rH1 => ?_)
  obtain ⟨k_2, sk_2, ak_2, fk_2_0⟩ := hp_1
  refine lv_aload_n hx hb dX5_readMan_4 rfl (lv_at hl 0 rfl) ?_
  refine g_getI B fl_RX5_23 gH1.1 kh0 rfl rfl rfl rfl rfl dX5_readMan_5 (fun x_3 s_3 a_3 b_3 => ?_)
  refine lv_iconst (v := 4) hx hb dX5_readMan_8 (by decide) ?_
  refine lv_icmp_eq (tgt := 17) hx hb dX5_readMan_9 (by decide) (fun c_4 => ?_) (fun c_4 => ?_)
  · have f_4 := z_eq c_4 rfl kl_4
    refine lv_aload_n hx hb dX5_readMan_17 rfl (lv_at hl 0 rfl) ?_
    refine zkPI (zrV (rest := []) B (c_X5_findPiece l E hV H1 gH1.1 h0 kh0) cl_RX5_117 gH1.1 kh0 rfl rfl rfl rfl hl.1 rfl (Nat.le_of_ble_eq_true rfl) dX5_readMan_18 rfl rfl ⟨rfl, rfl⟩ ⟨Nat.zero_le _, Nat.zero_le _⟩ (zO.of gH1 hh)) (fun x_5 hp_5 => ?_)
    obtain ⟨hp_5_1, hp_5_2⟩ := hp_5
    refine lv_istore_n (lv' := [(2, .int x_5), (0, .ref h0), (1, .int p0)]) hx hb dX5_readMan_21 rfl hl (by decide) rfl (fun ls hl => ?_)
    refine lv_iload_n hx hb dX5_readMan_22 rfl (lv_at hl 0 rfl) ?_
    refine lv_iconst (v := (-1)) hx hb dX5_readMan_23 (by decide) ?_
    refine lv_icmp_ne (tgt := 37) hx hb dX5_readMan_24 (by decide) (fun c_6 => ?_) (fun c_6 => ?_)
    · have f_6 := z_ne c_6 rfl kl_m1
      refine lv_aload_n hx hb dX5_readMan_37 rfl (lv_at hl 1 rfl) ?_
      refine zkV (zrV (rest := []) B (c_X5_step l E hV H1 gH1.1 h0 kh0 k_2 sk_2 (by omega) (by omega)) cl_RX5_105 gH1.1 kh0 rfl rfl rfl rfl hl.1 rfl (Nat.le_of_ble_eq_true rfl) dX5_readMan_38 rfl rfl ⟨rfl, rfl⟩ ⟨Nat.zero_le _, Nat.zero_le _⟩ (zO.of gH1 hh)) gH1 rfl (fun H7 lc7 hp_7 gH7 rH7 => ?_)
      obtain ⟨k_8, sk_8, ak_8, fk_8_0⟩ := hp_7
      refine lv_aload_n hx hb dX5_readMan_41 rfl (lv_at hl 1 rfl) ?_
      refine lv_bipush (v := 14) hx hb dX5_readMan_42 (by decide) ?_
      refine zkI (zrV (rest := []) B (c_X5_take l E hV H7 gH7.1 h0 kh0 14 k_8 sk_8 (by omega) (by omega)) cl_RX5_111 gH7.1 kh0 rfl rfl rfl rfl hl.1 rfl (Nat.le_of_ble_eq_true rfl) dX5_readMan_44 rfl rfl ⟨rfl, rfl⟩ ⟨Nat.zero_le _, Nat.zero_le _⟩ (zO.of gH7 hh)) gH7 rfl (fun x_9 H9 lc9 hp_9 gH9 rH9 => ?_)
      obtain ⟨hp_9_1, hp_9_2, ⟨k_10, sk_10, ak_10, fk_10_0⟩⟩ := hp_9
      have := kl_14
      refine lv_if_eq (tgt := 67) hx hb dX5_readMan_47 (by decide) (fun c_11 => ?_) (fun c_11 => ?_)
      · have f_11 := z_eq c_11 rfl kl_0
        refine lv_iconst (v := 0) hx hb dX5_readMan_67 (by decide) ?_
        have := kl_0
        have := kl_0
        exact rtI (v := 0) B hr hlk hh hQ gH9 rfl ⟨by omega, by omega, ⟨k_10, sk_10, by omega, by omega⟩⟩ dX5_readMan_68
      · have f_11 := z_ne c_11 rfl kl_0
        refine lv_aload_n hx hb dX5_readMan_50 rfl (lv_at hl 1 rfl) ?_
        refine lv_iconst (v := 0) hx hb dX5_readMan_51 (by decide) ?_
        refine lv_aload_n hx hb dX5_readMan_52 rfl (lv_at hl 1 rfl) ?_
        refine g_getR B fl_RX5_46 gH9.1 kh0 rfl rfl rfl rfl rfl dX5_readMan_53 (fun q_12 s_12 k_q_12 => ?_)
        refine g_getI B fl_RX5_75 gH9.1 k_q_12 rfl rfl rfl rfl rfl dX5_readMan_56 (fun x_13 s_13 a_13 b_13 => ?_)
        refine lv_iconst (v := 1) hx hb dX5_readMan_59 (by decide) ?_
        refine lv_isub hx hb dX5_readMan_60 ?_
        refine lv_topi (fun x_14 e_14 => ?_)
        have t_14 := z_sub e_14 rfl kl_1 (by omega) (by omega)
        refine zkI (zrV (rest := []) B (c_X5_takeNumber l E hV H9 gH9.1 h0 kh0 0 x_14 k_10 sk_10 (by omega) (by omega)) cl_RX5_108 gH9.1 kh0 rfl rfl rfl rfl hl.1 rfl (Nat.le_of_ble_eq_true rfl) dX5_readMan_61 rfl rfl ⟨rfl, rfl⟩ ⟨Nat.zero_le _, Nat.zero_le _⟩ (zO.of gH9 hh)) gH9 rfl (fun x_15 H15 lc15 hp_15 gH15 rH15 => ?_)
        have s_16 := rH15.keep hV kh0 rfl s_12
        have s_17 := rH15.keep hV k_q_12 rfl s_13
        obtain ⟨hp_15_1, hp_15_2, ⟨k_18, sk_18, ak_18, fk_18_0⟩, ⟨k_19, sk_19, fk_19_0⟩⟩ := hp_15
        have := kl_0
        refine lv_if_ne (tgt := 69) hx hb dX5_readMan_64 (by decide) (fun c_20 => ?_) (fun c_20 => ?_)
        · have f_20 := z_ne c_20 rfl kl_0
          refine lv_aload_n hx hb dX5_readMan_69 rfl (lv_at hl 1 rfl) ?_
          refine g_get B fl_RX5_29 gH15.1 kh0 rfl rfl rfl dX5_readMan_70 sk_19 ?_
          refine lv_istore_n (lv' := [(3, .int k_19), (2, .int x_5), (0, .ref h0), (1, .int p0)]) hx hb dX5_readMan_73 rfl hl (by decide) rfl (fun ls hl => ?_)
          refine lv_aload_n hx hb dX5_readMan_74 rfl (lv_at hl 2 rfl) ?_
          refine lv_iconst (v := 0) hx hb dX5_readMan_75 (by decide) ?_
          refine lv_aload_n hx hb dX5_readMan_76 rfl (lv_at hl 2 rfl) ?_
          refine g_get B fl_RX5_46 gH15.1 kh0 rfl rfl rfl dX5_readMan_77 s_16 ?_
          refine g_getI B fl_RX5_114 gH15.1 k_q_12 rfl rfl rfl rfl rfl dX5_readMan_80 (fun x_21 s_21 a_21 b_21 => ?_)
          refine lv_iconst (v := 1) hx hb dX5_readMan_83 (by decide) ?_
          refine lv_isub hx hb dX5_readMan_84 ?_
          refine lv_topi (fun x_22 e_22 => ?_)
          have t_22 := z_sub e_22 rfl kl_1 (by omega) (by omega)
          refine zkI (zrV (rest := []) B (c_X5_takeNumber l E hV H15 gH15.1 h0 kh0 0 x_22 k_18 sk_18 (by omega) (by omega)) cl_RX5_108 gH15.1 kh0 rfl rfl rfl rfl hl.1 rfl (Nat.le_of_ble_eq_true rfl) dX5_readMan_85 rfl rfl ⟨rfl, rfl⟩ ⟨Nat.zero_le _, Nat.zero_le _⟩ (zO.of gH15 hh)) gH15 rfl (fun x_23 H23 lc23 hp_23 gH23 rH23 => ?_)
          have s_24 := rH23.keep hV kh0 rfl s_16
          have s_25 := rH23.keep hV k_q_12 rfl s_17
          obtain ⟨hp_23_1, hp_23_2, ⟨k_26, sk_26, ak_26, fk_26_0⟩, ⟨k_27, sk_27, fk_27_0⟩⟩ := hp_23
          have := kl_0
          refine lv_if_ne (tgt := 93) hx hb dX5_readMan_88 (by decide) (fun c_28 => ?_) (fun c_28 => ?_)
          · have f_28 := z_ne c_28 rfl kl_0
            refine lv_iload_n hx hb dX5_readMan_93 rfl (lv_at hl 0 rfl) ?_
            refine lv_aload_n hx hb dX5_readMan_94 rfl (lv_at hl 2 rfl) ?_
            refine g_get B fl_RX5_46 gH23.1 kh0 rfl rfl rfl dX5_readMan_95 s_24 ?_
            refine g_get B fl_RX5_75 gH23.1 k_q_12 rfl rfl rfl dX5_readMan_98 s_25 ?_
            refine lv_aload_n hx hb dX5_readMan_101 rfl (lv_at hl 2 rfl) ?_
            refine g_get B fl_RX5_29 gH23.1 kh0 rfl rfl rfl dX5_readMan_102 sk_27 ?_
            refine lv_imul hx hb dX5_readMan_105 ?_
            refine lv_topi (fun x_29 e_29 => ?_)
            have m_29 := z_mulB (a := x_13.toInt) (b := k_27.toInt) (A := 5) (B := 5) (by omega) (by omega) (by omega) (by omega)
            have t_29 := z_mul e_29 rfl rfl (by omega) (by omega)
            refine lv_iadd hx hb dX5_readMan_106 ?_
            refine lv_topi (fun x_30 e_30 => ?_)
            have t_30 := z_add e_30 rfl rfl (by omega) (by omega)
            refine lv_istore (lv' := [(4, .int x_30), (3, .int k_19), (2, .int x_5), (0, .ref h0), (1, .int p0)]) hx hb dX5_readMan_107 hl (by decide) rfl (fun ls hl => ?_)
            refine lv_aload_n hx hb dX5_readMan_109 rfl (lv_at hl 3 rfl) ?_
            refine g_get B fl_RX5_46 gH23.1 kh0 rfl rfl rfl dX5_readMan_110 s_24 ?_
            refine g_getR B fl_RX5_139 gH23.1 k_q_12 rfl rfl rfl rfl rfl dX5_readMan_113 (fun q_31 s_31 k_q_31 => ?_)
            refine lv_iload hx hb dX5_readMan_116 (lv_at hl 0 rfl) ?_
            refine zkPI (zrV (rest := []) B (c_X4_isFree l E hV H23 gH23.1 q_31 k_q_31 x_30) cl_RX5_143 gH23.1 k_q_31 rfl rfl rfl rfl hl.1 rfl (Nat.le_of_ble_eq_true rfl) dX5_readMan_118 rfl rfl ⟨rfl, rfl⟩ ⟨Nat.zero_le _, Nat.zero_le _⟩ (zO.of gH23 hh)) (fun x_32 hp_32 => ?_)
            obtain ⟨hp_32_1, hp_32_2⟩ := hp_32
            refine lv_if_ne (tgt := 134) hx hb dX5_readMan_121 (by decide) (fun c_33 => ?_) (fun c_33 => ?_)
            · have f_33 := z_ne c_33 rfl kl_0
              refine lv_aload_n hx hb dX5_readMan_134 rfl (lv_at hl 3 rfl) ?_
              refine g_get B fl_RX5_46 gH23.1 kh0 rfl rfl rfl dX5_readMan_135 s_24 ?_
              refine g_get B fl_RX5_139 gH23.1 k_q_12 rfl rfl rfl dX5_readMan_138 s_31 ?_
              refine lv_iload hx hb dX5_readMan_141 (lv_at hl 0 rfl) ?_
              refine lv_iload_n hx hb dX5_readMan_143 rfl (lv_at hl 2 rfl) ?_
              refine lv_iload_n hx hb dX5_readMan_144 rfl (lv_at hl 4 rfl) ?_
              refine lv_aload_n hx hb dX5_readMan_145 rfl (lv_at hl 3 rfl) ?_
              refine g_get B fl_RX5_46 gH23.1 kh0 rfl rfl rfl dX5_readMan_146 s_24 ?_
              refine g_getR B fl_RX5_148 gH23.1 k_q_12 rfl rfl rfl rfl rfl dX5_readMan_149 (fun q_34 s_34 k_q_34 => ?_)
              refine lv_iload_n hx hb dX5_readMan_152 rfl (lv_at hl 2 rfl) ?_
              refine g_zaldI (i := x_5) (N := 6) B gH23.1 k_q_34 rfl rfl rfl rfl (by omega) (by omega) rfl dX5_readMan_153 (fun x_35 s_35 a_35 b_35 => ?_)
              refine zkV (zrV (rest := []) B (c_X4_put l E hV H23 gH23.1 q_31 k_q_31 x_30 x_5 p0 x_35 (by omega) (by omega)) cl_RX5_151 gH23.1 k_q_31 rfl rfl rfl rfl hl.1 rfl (Nat.le_of_ble_eq_true rfl) dX5_readMan_154 rfl rfl ⟨rfl, rfl⟩ ⟨Nat.zero_le _, Nat.zero_le _⟩ (zO.of gH23 hh)) gH23 rfl (fun H36 lc36 hp_36 gH36 rH36 => ?_)
              have s_37 := rH36.keep hV kh0 rfl s_24
              have s_38 := rH36.keep hV kh0 rfl sk_26
              refine lv_aload_n hx hb dX5_readMan_157 rfl (lv_at hl 3 rfl) ?_
              refine g_get B fl_RX5_46 gH36.1 kh0 rfl rfl rfl dX5_readMan_158 s_37 ?_
              refine lv_dup hx hb dX5_readMan_161 rfl ?_
              refine g_getI B fl_RX5_92 gH36.1 k_q_12 rfl rfl rfl rfl rfl dX5_readMan_162 (fun x_39 s_39 a_39 b_39 => ?_)
              refine lv_iconst (v := 1) hx hb dX5_readMan_165 (by decide) ?_
              refine lv_iadd hx hb dX5_readMan_166 ?_
              refine lv_topi (fun x_40 e_40 => ?_)
              refine g_putI B fp_RX5_92 hV gH36 k_q_12 rfl rfl rfl rfl rfl (z_rng _).1 (z_rng _).2 rfl dX5_readMan_167 (fun H41 lc41 gH41 uH41 => ?_)
              have s_42 := uH41.keep (Or.inl (k_ne kh0 k_q_12 rfl)) s_38
              refine lv_aload_n hx hb dX5_readMan_170 rfl (lv_at hl 3 rfl) ?_
              refine lv_iconst (v := 3) hx hb dX5_readMan_171 (by decide) ?_
              refine zkI (zrV (rest := []) B (c_X5_take l E hV H41 gH41.1 h0 kh0 3 k_26 s_42 (by omega) (by omega)) cl_RX5_111 gH41.1 kh0 rfl rfl rfl rfl hl.1 rfl (Nat.le_of_ble_eq_true rfl) dX5_readMan_172 rfl rfl ⟨rfl, rfl⟩ ⟨Nat.zero_le _, Nat.zero_le _⟩ (zO.of gH41 hh)) gH41 rfl (fun x_43 H43 lc43 hp_43 gH43 rH43 => ?_)
              obtain ⟨hp_43_1, hp_43_2, ⟨k_44, sk_44, ak_44, fk_44_0⟩⟩ := hp_43
              have := kl_3
              exact rtI (v := x_43) B hr hlk hh hQ gH43 (z_nz (by omega) (by omega)) ⟨by omega, by omega, ⟨k_44, sk_44, by omega, by omega⟩⟩ dX5_readMan_175
            · have f_33 := z_eq c_33 rfl kl_0
              refine lv_aload_n hx hb dX5_readMan_124 rfl (lv_at hl 3 rfl) ?_
              refine lv_iconst (v := 3) hx hb dX5_readMan_125 (by decide) ?_
              refine lv_aload_n hx hb dX5_readMan_126 rfl (lv_at hl 3 rfl) ?_
              refine g_getI B fl_RX5_32 gH23.1 kh0 rfl rfl rfl rfl rfl dX5_readMan_127 (fun x_45 s_45 a_45 b_45 => ?_)
              refine zkI (zrV (rest := []) B (c_X5_refuse l E hV H23 gH23.1 h0 kh0 3 x_45) cl_RX5_71 gH23.1 kh0 rfl rfl rfl rfl hl.1 rfl (Nat.le_of_ble_eq_true rfl) dX5_readMan_130 rfl rfl ⟨rfl, rfl⟩ ⟨Nat.zero_le _, Nat.zero_le _⟩ (zO.of gH23 hh)) gH23 rfl (fun x_46 H46 lc46 hp_46 gH46 rH46 => ?_)
              have s_47 := rH46.keep hV kh0 rfl sk_26
              obtain ⟨hp_46_1, hp_46_2⟩ := hp_46
              exact rtI (v := x_46) B hr hlk hh hQ gH46 (z_nz (by omega) (by omega)) ⟨by omega, by omega, ⟨k_26, s_47, by omega, by omega⟩⟩ dX5_readMan_133
          · have f_28 := z_eq c_28 rfl kl_0
            refine lv_iconst (v := 0) hx hb dX5_readMan_91 (by decide) ?_
            have := kl_0
            have := kl_0
            exact rtI (v := 0) B hr hlk hh hQ gH23 rfl ⟨by omega, by omega, ⟨k_26, sk_26, by omega, by omega⟩⟩ dX5_readMan_92
        · have f_20 := z_eq c_20 rfl kl_0
          refine lv_iconst (v := 0) hx hb dX5_readMan_67 (by decide) ?_
          have := kl_0
          have := kl_0
          exact rtI (v := 0) B hr hlk hh hQ gH15 rfl ⟨by omega, by omega, ⟨k_18, sk_18, by omega, by omega⟩⟩ dX5_readMan_68
    · have f_6 := z_eq c_6 rfl kl_m1
      refine lv_aload_n hx hb dX5_readMan_27 rfl (lv_at hl 1 rfl) ?_
      refine lv_iconst (v := 5) hx hb dX5_readMan_28 (by decide) ?_
      refine lv_aload_n hx hb dX5_readMan_29 rfl (lv_at hl 1 rfl) ?_
      refine g_getI B fl_RX5_26 gH1.1 kh0 rfl rfl rfl rfl rfl dX5_readMan_30 (fun x_48 s_48 a_48 b_48 => ?_)
      refine zkI (zrV (rest := []) B (c_X5_refuse l E hV H1 gH1.1 h0 kh0 5 x_48) cl_RX5_71 gH1.1 kh0 rfl rfl rfl rfl hl.1 rfl (Nat.le_of_ble_eq_true rfl) dX5_readMan_33 rfl rfl ⟨rfl, rfl⟩ ⟨Nat.zero_le _, Nat.zero_le _⟩ (zO.of gH1 hh)) gH1 rfl (fun x_49 H49 lc49 hp_49 gH49 rH49 => ?_)
      have s_50 := rH49.keep hV kh0 rfl sk_2
      obtain ⟨hp_49_1, hp_49_2⟩ := hp_49
      exact rtI (v := x_49) B hr hlk hh hQ gH49 (z_nz (by omega) (by omega)) ⟨by omega, by omega, ⟨k_2, s_50, by omega, by omega⟩⟩ dX5_readMan_36
  · have f_4 := z_ne c_4 rfl kl_4
    refine lv_aload_n hx hb dX5_readMan_12 rfl (lv_at hl 0 rfl) ?_
    refine zkI (zrV (rest := []) B (c_X5_refuseHere l E hV H1 gH1.1 h0 kh0) cl_RX5_83 gH1.1 kh0 rfl rfl rfl rfl hl.1 rfl (Nat.le_of_ble_eq_true rfl) dX5_readMan_13 rfl rfl ⟨rfl, rfl⟩ ⟨Nat.zero_le _, Nat.zero_le _⟩ (zO.of gH1 hh)) gH1 rfl (fun x_51 H51 lc51 hp_51 gH51 rH51 => ?_)
    have s_52 := rH51.keep hV kh0 rfl sk_2
    obtain ⟨hp_51_1, hp_51_2⟩ := hp_51
    exact rtI (v := x_51) B hr hlk hh hQ gH51 (z_nz (by omega) (by omega)) ⟨by omega, by omega, ⟨k_2, s_52, by omega, by omega⟩⟩ dX5_readMan_16

theorem dX5_readFlash_0 : decode cX5_readFlash 0 = .ok (.aload_n 0, 1) := by decide +kernel
theorem dX5_readFlash_1 : decode cX5_readFlash 1 = .ok (.invokevirtual 105, 3) := by decide +kernel
theorem dX5_readFlash_4 : decode cX5_readFlash 4 = .ok (.iconst 0, 1) := by decide +kernel
theorem dX5_readFlash_5 : decode cX5_readFlash 5 = .ok (.istore_n 1, 1) := by decide +kernel
theorem dX5_readFlash_6 : decode cX5_readFlash 6 = .ok (.iload_n 1, 1) := by decide +kernel
theorem dX5_readFlash_7 : decode cX5_readFlash 7 = .ok (.bipush 12, 2) := by decide +kernel
theorem dX5_readFlash_9 : decode cX5_readFlash 9 = .ok (.if_icmp .ge 60, 3) := by decide +kernel
theorem dX5_readFlash_12 : decode cX5_readFlash 12 = .ok (.iload_n 1, 1) := by decide +kernel
theorem dX5_readFlash_13 : decode cX5_readFlash 13 = .ok (.ifCond .eq 11, 3) := by decide +kernel
theorem dX5_readFlash_16 : decode cX5_readFlash 16 = .ok (.aload_n 0, 1) := by decide +kernel
theorem dX5_readFlash_17 : decode cX5_readFlash 17 = .ok (.getfield 23, 3) := by decide +kernel
theorem dX5_readFlash_20 : decode cX5_readFlash 20 = .ok (.iconst 2, 1) := by decide +kernel
theorem dX5_readFlash_21 : decode cX5_readFlash 21 = .ok (.if_icmp .ne 48, 3) := by decide +kernel
theorem dX5_readFlash_24 : decode cX5_readFlash 24 = .ok (.aload_n 0, 1) := by decide +kernel
theorem dX5_readFlash_25 : decode cX5_readFlash 25 = .ok (.iconst 1, 1) := by decide +kernel
theorem dX5_readFlash_26 : decode cX5_readFlash 26 = .ok (.sipush 999, 3) := by decide +kernel
theorem dX5_readFlash_29 : decode cX5_readFlash 29 = .ok (.invokevirtual 108, 3) := by decide +kernel
theorem dX5_readFlash_32 : decode cX5_readFlash 32 = .ok (.ifCond .ne 5, 3) := by decide +kernel
theorem dX5_readFlash_35 : decode cX5_readFlash 35 = .ok (.iconst 0, 1) := by decide +kernel
theorem dX5_readFlash_36 : decode cX5_readFlash 36 = .ok (.ireturn, 1) := by decide +kernel
theorem dX5_readFlash_37 : decode cX5_readFlash 37 = .ok (.aload_n 0, 1) := by decide +kernel
theorem dX5_readFlash_38 : decode cX5_readFlash 38 = .ok (.getfield 46, 3) := by decide +kernel
theorem dX5_readFlash_41 : decode cX5_readFlash 41 = .ok (.getfield 155, 3) := by decide +kernel
theorem dX5_readFlash_44 : decode cX5_readFlash 44 = .ok (.iload_n 1, 1) := by decide +kernel
theorem dX5_readFlash_45 : decode cX5_readFlash 45 = .ok (.aload_n 0, 1) := by decide +kernel
theorem dX5_readFlash_46 : decode cX5_readFlash 46 = .ok (.getfield 29, 3) := by decide +kernel
theorem dX5_readFlash_49 : decode cX5_readFlash 49 = .ok (.iastore, 1) := by decide +kernel
theorem dX5_readFlash_50 : decode cX5_readFlash 50 = .ok (.aload_n 0, 1) := by decide +kernel
theorem dX5_readFlash_51 : decode cX5_readFlash 51 = .ok (.getfield 46, 3) := by decide +kernel
theorem dX5_readFlash_54 : decode cX5_readFlash 54 = .ok (.dup, 1) := by decide +kernel
theorem dX5_readFlash_55 : decode cX5_readFlash 55 = .ok (.getfield 99, 3) := by decide +kernel
theorem dX5_readFlash_58 : decode cX5_readFlash 58 = .ok (.iconst 1, 1) := by decide +kernel
theorem dX5_readFlash_59 : decode cX5_readFlash 59 = .ok (.iadd, 1) := by decide +kernel
theorem dX5_readFlash_60 : decode cX5_readFlash 60 = .ok (.putfield 99, 3) := by decide +kernel
theorem dX5_readFlash_63 : decode cX5_readFlash 63 = .ok (.iinc 1 1, 3) := by decide +kernel
theorem dX5_readFlash_66 : decode cX5_readFlash 66 = .ok (.goto (-60), 3) := by decide +kernel
theorem dX5_readFlash_69 : decode cX5_readFlash 69 = .ok (.aload_n 0, 1) := by decide +kernel
theorem dX5_readFlash_70 : decode cX5_readFlash 70 = .ok (.iconst 3, 1) := by decide +kernel
theorem dX5_readFlash_71 : decode cX5_readFlash 71 = .ok (.invokevirtual 111, 3) := by decide +kernel
theorem dX5_readFlash_74 : decode cX5_readFlash 74 = .ok (.ireturn, 1) := by decide +kernel
def rm_X5_readFlash : Room := { frames := 3, cells := 0, slots := 0, locals := 68 }
abbrev wS_X5_readFlash : List (Nat × Nat) := [(6, 0), (6, 1), (6, 4), (6, 5), (6, 6), (6, 7), (6, 8), (11, 4), (57, 99)]
set_option maxRecDepth 100000 in
set_option maxHeartbeats 4000000 in
theorem c_X5_readFlash (l : Launch) (E : zE) (hV : zV E) (H0 : Heap) (hT0 : HT E H0) (h0 : Nat) (kh0 : eK E h0 = 6) (tk : Int32) (s_tk : sl H0 h0 (zix E 6 4) = some (.int tk)) (tk_lo : 0 ≤ tk.toInt) (tk_hi : tk.toInt ≤ 2147481000) (T : Nat) (kT : eK E T = 11) (s_T : sl H0 h0 (zix E 6 3) = some (.ref T)) (nb : Int32) (s_nb : sl H0 T (zix E 11 4) = some (.int nb)) (nb_lo : 0 ≤ nb.toInt) (nb_hi : nb.toInt ≤ 0) : Met l yX5_readFlash (zws yX5_readFlash cX5_readFlash 2 (some .boolean)) rm_X5_readFlash (zP E H0 [.ref h0]) (zQI E E wS_X5_readFlash (fun r H1 => 0 ≤ r.toInt ∧ r.toInt ≤ 1 ∧ (∃ tk1 : Int32, sl H1 h0 (zix E 6 4) = some (.int tk1) ∧ 0 ≤ tk1.toInt ∧ (tk1.toInt ≤ tk.toInt + 14)))) 0 0 (zfr E) := by
  refine zEnt (by decide) (Nat.le_of_ble_eq_true rfl) (fun p e s m args below meth c ls Q B hr hlk hh hQ hl => ?_)
  have hx := B.1
  have hb := B.2.1
  have hG0 : zG E wS_X5_readFlash H0 H0 [] := zG.rf hT0
  have hl : lv_has ls 2 [(0, .ref h0)] := hl
  have b69 : ∀ (H69 : Heap) (lc69 : List Loc) (ls : Array Slot) (u69_T_4 : Int32) (u69_h0_4 : Int32), zG E wS_X5_readFlash H0 H69 lc69 → lv_has ls 2 [(0, .ref h0)] → 0 ≤ u69_T_4.toInt → u69_T_4.toInt ≤ 12 → 0 ≤ u69_h0_4.toInt → u69_h0_4.toInt ≤ 2147481100 → sl H69 h0 (zix E 6 3) = some (.ref T) → sl H69 T (zix E 11 4) = some (.int u69_T_4) → sl H69 h0 (zix E 6 4) = some (.int u69_h0_4) → u69_h0_4.toInt ≤ tk.toInt + 13 → W p l e rm_X5_readFlash s m args below meth c H69 lc69 0 0 Q (F0 m 69 ls []) := by
    intro H69 lc69 ls u69_T_4 u69_h0_4 gH69 hl f69_1 f69_2 f69_3 f69_4 s69_u69_h0_3 s69_u69_T_4 s69_u69_h0_4 f69_5
    refine lv_aload_n hx hb dX5_readFlash_69 rfl (lv_at hl 0 rfl) ?_
    refine lv_iconst (v := 3) hx hb dX5_readFlash_70 (by decide) ?_
    refine zkI (zrV (rest := []) B (c_X5_take l E hV H69 gH69.1 h0 kh0 3 u69_h0_4 s69_u69_h0_4 (by omega) (by omega)) cl_RX5_111 gH69.1 kh0 rfl rfl rfl rfl hl.1 rfl (Nat.le_of_ble_eq_true rfl) dX5_readFlash_71 rfl rfl ⟨rfl, rfl⟩ ⟨Nat.zero_le _, Nat.zero_le _⟩ (zO.of gH69 hh)) gH69 rfl (fun x_1 H1 lc1 hp_1 gH1 rH1 => ?_)
    have s_2 := rH1.keep hV kh0 rfl s69_u69_h0_3
    have s_3 := rH1.keep hV kT rfl s69_u69_T_4
    obtain ⟨hp_1_1, hp_1_2, ⟨k_4, sk_4, ak_4, fk_4_0⟩⟩ := hp_1
    have := kl_3
    exact rtI (v := x_1) B hr hlk hh hQ gH1 (z_nz (by omega) (by omega)) ⟨by omega, by omega, ⟨k_4, sk_4, by omega, by omega⟩⟩ dX5_readFlash_74
  have b6 : ∀ (n6 : Nat) (H6 : Heap) (lc6 : List Loc) (ls : Array Slot) (v6_1 : Int32) (u6_T_4 : Int32) (u6_h0_4 : Int32), 12 - v6_1.toInt < (n6 : Int) → zG E wS_X5_readFlash H0 H6 lc6 → lv_has ls 2 [(0, .ref h0), (1, .int v6_1)] → 0 ≤ v6_1.toInt → v6_1.toInt ≤ 12 → 0 ≤ u6_T_4.toInt → u6_T_4.toInt ≤ 12 → 0 ≤ u6_h0_4.toInt → u6_h0_4.toInt ≤ 2147481100 → sl H6 h0 (zix E 6 3) = some (.ref T) → sl H6 T (zix E 11 4) = some (.int u6_T_4) → sl H6 h0 (zix E 6 4) = some (.int u6_h0_4) → u6_h0_4.toInt ≤ tk.toInt + 1 + v6_1.toInt → u6_T_4.toInt = v6_1.toInt → W p l e rm_X5_readFlash s m args below meth c H6 lc6 0 0 Q (F0 m 6 ls []) := by
    intro n6
    induction n6 with
    | zero =>
      intro H6 lc6 ls v6_1 u6_T_4 u6_h0_4 hm6 gH6 hl f6_1 f6_2 f6_3 f6_4 f6_5 f6_6 s6_u6_h0_3 s6_u6_T_4 s6_u6_h0_4 f6_7 f6_8
      exact absurd hm6 (by omega)
    | succ n6 ih6 =>
      intro H6 lc6 ls v6_1 u6_T_4 u6_h0_4 hm6 gH6 hl f6_1 f6_2 f6_3 f6_4 f6_5 f6_6 s6_u6_h0_3 s6_u6_T_4 s6_u6_h0_4 f6_7 f6_8
      have b24 : ∀ (ls : Array Slot), lv_has ls 2 [(0, .ref h0), (1, .int v6_1)] → v6_1.toInt ≤ 11 → sl H6 h0 (zix E 6 3) = some (.ref T) → sl H6 T (zix E 11 4) = some (.int u6_T_4) → sl H6 h0 (zix E 6 4) = some (.int u6_h0_4) → u6_h0_4.toInt ≤ tk.toInt + 1 + v6_1.toInt → u6_T_4.toInt = v6_1.toInt → W p l e rm_X5_readFlash s m args below meth c H6 lc6 0 0 Q (F0 m 24 ls []) := by
        intro ls hl f24_1 s24_u24_h0_3 s24_u24_T_4 s24_u24_h0_4 f24_2 f24_3
        refine lv_aload_n hx hb dX5_readFlash_24 rfl (lv_at hl 0 rfl) ?_
        refine lv_iconst (v := 1) hx hb dX5_readFlash_25 (by decide) ?_
        refine lv_sipush (v := 999) hx hb dX5_readFlash_26 (by decide) ?_
        refine zkI (zrV (rest := []) B (c_X5_takeNumber l E hV H6 gH6.1 h0 kh0 1 999 u6_h0_4 s24_u24_h0_4 (by omega) (by omega)) cl_RX5_108 gH6.1 kh0 rfl rfl rfl rfl hl.1 rfl (Nat.le_of_ble_eq_true rfl) dX5_readFlash_29 rfl rfl ⟨rfl, rfl⟩ ⟨Nat.zero_le _, Nat.zero_le _⟩ (zO.of gH6 hh)) gH6 rfl (fun x_5 H5 lc5 hp_5 gH5 rH5 => ?_)
        have s_6 := rH5.keep hV kh0 rfl s24_u24_h0_3
        have s_7 := rH5.keep hV kT rfl s24_u24_T_4
        obtain ⟨hp_5_1, hp_5_2, ⟨k_8, sk_8, ak_8, fk_8_0⟩, ⟨k_9, sk_9, fk_9_0⟩⟩ := hp_5
        have := kl_1
        have := kl_999
        refine lv_if_ne (tgt := 37) hx hb dX5_readFlash_32 (by decide) (fun c_10 => ?_) (fun c_10 => ?_)
        · have f_10 := z_ne c_10 rfl kl_0
          refine lv_aload_n hx hb dX5_readFlash_37 rfl (lv_at hl 0 rfl) ?_
          refine g_get B fl_RX5_46 gH5.1 kh0 rfl rfl rfl dX5_readFlash_38 s_6 ?_
          refine g_getR B fl_RX5_155 gH5.1 kT rfl rfl rfl rfl rfl dX5_readFlash_41 (fun q_11 s_11 k_q_11 => ?_)
          refine lv_iload_n hx hb dX5_readFlash_44 rfl (lv_at hl 1 rfl) ?_
          refine lv_aload_n hx hb dX5_readFlash_45 rfl (lv_at hl 0 rfl) ?_
          refine g_get B fl_RX5_29 gH5.1 kh0 rfl rfl rfl dX5_readFlash_46 sk_9 ?_
          refine g_iastI (i := v6_1) (N := 12) B hV gH5 k_q_11 rfl rfl rfl rfl (by omega) (by omega) rfl (z_rng _).1 (z_rng _).2 rfl dX5_readFlash_49 (fun H12 lc12 gH12 uH12 => ?_)
          have s_13 := uH12.keep (Or.inl (k_ne kh0 k_q_11 rfl)) s_6
          have s_14 := uH12.keep (Or.inl (k_ne kT k_q_11 rfl)) s_7
          have s_15 := uH12.keep (Or.inl (k_ne kh0 k_q_11 rfl)) sk_8
          have s_16 := uH12.keep (Or.inl (k_ne kh0 k_q_11 rfl)) sk_9
          have s_17 := uH12.keep (Or.inl (k_ne kT k_q_11 rfl)) s_11
          refine lv_aload_n hx hb dX5_readFlash_50 rfl (lv_at hl 0 rfl) ?_
          refine g_get B fl_RX5_46 gH12.1 kh0 rfl rfl rfl dX5_readFlash_51 s_13 ?_
          refine lv_dup hx hb dX5_readFlash_54 rfl ?_
          refine g_get B fl_RX5_99 gH12.1 kT rfl rfl rfl dX5_readFlash_55 s_14 ?_
          refine lv_iconst (v := 1) hx hb dX5_readFlash_58 (by decide) ?_
          refine lv_iadd hx hb dX5_readFlash_59 ?_
          refine lv_topi (fun x_18 e_18 => ?_)
          have t_18 := z_add e_18 rfl kl_1 (by omega) (by omega)
          refine g_putI B fp_RX5_99 hV gH12 kT rfl rfl rfl rfl rfl (by omega) (by omega) rfl dX5_readFlash_60 (fun H19 lc19 gH19 uH19 => ?_)
          have s_20 := uH19.keep (Or.inl (k_ne kh0 kT rfl)) s_13
          have s_21 := uH19.keep (Or.inl (k_ne kh0 kT rfl)) s_15
          have s_22 := uH19.keep (Or.inl (k_ne kh0 kT rfl)) s_16
          have s_23 := uH19.keep (Or.inr (j_ne hV rfl rfl rfl rfl)) s_17
          obtain ⟨x_24, e_24⟩ : ∃ y : Int32, (v6_1 : Int32) + Int32.ofInt 1 = y := ⟨_, rfl⟩
          refine lv_iinc (v := x_24) (lv' := [(1, .int x_24), (0, .ref h0)]) hx hb dX5_readFlash_63 hl (k := 1) rfl e_24 (by decide) rfl (fun ls hl => ?_)
          have t_24 := z_inc2 e_24 rfl (by decide) (by omega) (by omega)
          refine lv_goto (tgt := 6) hx hb dX5_readFlash_66 (by decide) ?_
          exact ih6 H19 lc19 ls x_24 x_18 k_8 (by omega) gH19 (lv_sub hl [1, 0] rfl) (by omega) (by omega) (by omega) (by omega) (by omega) (by omega) s_20 uH19.2.1 s_21 (by omega) (by omega)
        · have f_10 := z_eq c_10 rfl kl_0
          refine lv_iconst (v := 0) hx hb dX5_readFlash_35 (by decide) ?_
          have := kl_0
          have := kl_0
          exact rtI (v := 0) B hr hlk hh hQ gH5 rfl ⟨by omega, by omega, ⟨k_8, sk_8, by omega, by omega⟩⟩ dX5_readFlash_36
      refine lv_iload_n hx hb dX5_readFlash_6 rfl (lv_at hl 1 rfl) ?_
      refine lv_bipush (v := 12) hx hb dX5_readFlash_7 (by decide) ?_
      refine lv_icmp_ge (tgt := 69) hx hb dX5_readFlash_9 (by decide) (fun c_25 => ?_) (fun c_25 => ?_)
      · have f_25 := z_le c_25 kl_12 rfl
        exact b69 H6 lc6 ls u6_T_4 u6_h0_4 gH6 (lv_sub hl [0] rfl) (by omega) (by omega) (by omega) (by omega) s6_u6_h0_3 s6_u6_T_4 s6_u6_h0_4 (by omega)
      · have f_25 := z_nle c_25 kl_12 rfl
        refine lv_iload_n hx hb dX5_readFlash_12 rfl (lv_at hl 1 rfl) ?_
        refine lv_if_eq (tgt := 24) hx hb dX5_readFlash_13 (by decide) (fun c_26 => ?_) (fun c_26 => ?_)
        · have f_26 := z_eq c_26 rfl kl_0
          exact b24 ls (lv_sub hl [0, 1] rfl) (by omega) s6_u6_h0_3 s6_u6_T_4 s6_u6_h0_4 (by omega) (by omega)
        · have f_26 := z_ne c_26 rfl kl_0
          refine lv_aload_n hx hb dX5_readFlash_16 rfl (lv_at hl 0 rfl) ?_
          refine g_getI B fl_RX5_23 gH6.1 kh0 rfl rfl rfl rfl rfl dX5_readFlash_17 (fun x_27 s_27 a_27 b_27 => ?_)
          refine lv_iconst (v := 2) hx hb dX5_readFlash_20 (by decide) ?_
          refine lv_icmp_ne (tgt := 69) hx hb dX5_readFlash_21 (by decide) (fun c_28 => ?_) (fun c_28 => ?_)
          · have f_28 := z_ne c_28 rfl kl_2
            exact b69 H6 lc6 ls u6_T_4 u6_h0_4 gH6 (lv_sub hl [0] rfl) (by omega) (by omega) (by omega) (by omega) s6_u6_h0_3 s6_u6_T_4 s6_u6_h0_4 (by omega)
          · have f_28 := z_eq c_28 rfl kl_2
            exact b24 ls (lv_sub hl [0, 1] rfl) (by omega) s6_u6_h0_3 s6_u6_T_4 s6_u6_h0_4 (by omega) (by omega)
  refine lv_aload_n hx hb dX5_readFlash_0 rfl (lv_at hl 0 rfl) ?_
  refine zkV (zrV (rest := []) B (c_X5_step l E hV H0 hT0 h0 kh0 tk s_tk (by omega) (by omega)) cl_RX5_105 hT0 kh0 rfl rfl rfl rfl hl.1 rfl (Nat.le_of_ble_eq_true rfl) dX5_readFlash_1 rfl rfl ⟨rfl, rfl⟩ ⟨Nat.zero_le _, Nat.zero_le _⟩ (zO.of hG0 hh)) hG0 rfl (fun H29 lc29 hp_29 gH29 rH29 => ?_)
  have s_30 := rH29.keep hV kh0 rfl s_T
  have s_31 := rH29.keep hV kT rfl s_nb
  obtain ⟨k_32, sk_32, ak_32, fk_32_0⟩ := hp_29
  refine lv_iconst (v := 0) hx hb dX5_readFlash_4 (by decide) ?_
  refine lv_istore_n (lv' := [(1, .int 0), (0, .ref h0)]) hx hb dX5_readFlash_5 rfl hl (by decide) rfl (fun ls hl => ?_)
  have := kl_0
  exact b6 13 H29 lc29 ls 0 nb k_32 (by omega) gH29 (lv_sub hl [1, 0] rfl) (by omega) (by omega) (by omega) (by omega) (by omega) (by omega) s_30 s_31 sk_32 (by omega) (by omega)

theorem dX5_readLine_0 : decode cX5_readLine 0 = .ok (.aload_n 0, 1) := by decide +kernel
theorem dX5_readLine_1 : decode cX5_readLine 1 = .ok (.getfield 46, 3) := by decide +kernel
theorem dX5_readLine_4 : decode cX5_readLine 4 = .ok (.getfield 75, 3) := by decide +kernel
theorem dX5_readLine_7 : decode cX5_readLine 7 = .ok (.ifCond .ne 23, 3) := by decide +kernel
theorem dX5_readLine_10 : decode cX5_readLine 10 = .ok (.aload_n 0, 1) := by decide +kernel
theorem dX5_readLine_11 : decode cX5_readLine 11 = .ok (.getfield 23, 3) := by decide +kernel
theorem dX5_readLine_14 : decode cX5_readLine 14 = .ok (.iconst 5, 1) := by decide +kernel
theorem dX5_readLine_15 : decode cX5_readLine 15 = .ok (.if_icmp .ne 10, 3) := by decide +kernel
theorem dX5_readLine_18 : decode cX5_readLine 18 = .ok (.aload_n 0, 1) := by decide +kernel
theorem dX5_readLine_19 : decode cX5_readLine 19 = .ok (.invokevirtual 80, 3) := by decide +kernel
theorem dX5_readLine_22 : decode cX5_readLine 22 = .ok (.goto 7, 3) := by decide +kernel
theorem dX5_readLine_25 : decode cX5_readLine 25 = .ok (.aload_n 0, 1) := by decide +kernel
theorem dX5_readLine_26 : decode cX5_readLine 26 = .ok (.invokevirtual 83, 3) := by decide +kernel
theorem dX5_readLine_29 : decode cX5_readLine 29 = .ok (.ireturn, 1) := by decide +kernel
theorem dX5_readLine_30 : decode cX5_readLine 30 = .ok (.aload_n 0, 1) := by decide +kernel
theorem dX5_readLine_31 : decode cX5_readLine 31 = .ok (.getfield 23, 3) := by decide +kernel
theorem dX5_readLine_34 : decode cX5_readLine 34 = .ok (.tableswitch 146 7 15 #[50, 146, 146, 146, 146, 74, 99, 146, 124], 50) := by decide +kernel
theorem dX5_readLine_84 : decode cX5_readLine 84 = .ok (.aload_n 0, 1) := by decide +kernel
theorem dX5_readLine_85 : decode cX5_readLine 85 = .ok (.getfield 46, 3) := by decide +kernel
theorem dX5_readLine_88 : decode cX5_readLine 88 = .ok (.getfield 86, 3) := by decide +kernel
theorem dX5_readLine_91 : decode cX5_readLine 91 = .ok (.bipush 6, 2) := by decide +kernel
theorem dX5_readLine_93 : decode cX5_readLine 93 = .ok (.if_icmp .ge 10, 3) := by decide +kernel
theorem dX5_readLine_96 : decode cX5_readLine 96 = .ok (.aload_n 0, 1) := by decide +kernel
theorem dX5_readLine_97 : decode cX5_readLine 97 = .ok (.invokevirtual 89, 3) := by decide +kernel
theorem dX5_readLine_100 : decode cX5_readLine 100 = .ok (.goto 7, 3) := by decide +kernel
theorem dX5_readLine_103 : decode cX5_readLine 103 = .ok (.aload_n 0, 1) := by decide +kernel
theorem dX5_readLine_104 : decode cX5_readLine 104 = .ok (.invokevirtual 83, 3) := by decide +kernel
theorem dX5_readLine_107 : decode cX5_readLine 107 = .ok (.ireturn, 1) := by decide +kernel
theorem dX5_readLine_108 : decode cX5_readLine 108 = .ok (.aload_n 0, 1) := by decide +kernel
theorem dX5_readLine_109 : decode cX5_readLine 109 = .ok (.getfield 46, 3) := by decide +kernel
theorem dX5_readLine_112 : decode cX5_readLine 112 = .ok (.getfield 92, 3) := by decide +kernel
theorem dX5_readLine_115 : decode cX5_readLine 115 = .ok (.bipush 12, 2) := by decide +kernel
theorem dX5_readLine_117 : decode cX5_readLine 117 = .ok (.if_icmp .ge 11, 3) := by decide +kernel
theorem dX5_readLine_120 : decode cX5_readLine 120 = .ok (.aload_n 0, 1) := by decide +kernel
theorem dX5_readLine_121 : decode cX5_readLine 121 = .ok (.iconst 0, 1) := by decide +kernel
theorem dX5_readLine_122 : decode cX5_readLine 122 = .ok (.invokevirtual 95, 3) := by decide +kernel
theorem dX5_readLine_125 : decode cX5_readLine 125 = .ok (.goto 7, 3) := by decide +kernel
theorem dX5_readLine_128 : decode cX5_readLine 128 = .ok (.aload_n 0, 1) := by decide +kernel
theorem dX5_readLine_129 : decode cX5_readLine 129 = .ok (.invokevirtual 83, 3) := by decide +kernel
theorem dX5_readLine_132 : decode cX5_readLine 132 = .ok (.ireturn, 1) := by decide +kernel
theorem dX5_readLine_133 : decode cX5_readLine 133 = .ok (.aload_n 0, 1) := by decide +kernel
theorem dX5_readLine_134 : decode cX5_readLine 134 = .ok (.getfield 46, 3) := by decide +kernel
theorem dX5_readLine_137 : decode cX5_readLine 137 = .ok (.getfield 92, 3) := by decide +kernel
theorem dX5_readLine_140 : decode cX5_readLine 140 = .ok (.bipush 12, 2) := by decide +kernel
theorem dX5_readLine_142 : decode cX5_readLine 142 = .ok (.if_icmp .ge 11, 3) := by decide +kernel
theorem dX5_readLine_145 : decode cX5_readLine 145 = .ok (.aload_n 0, 1) := by decide +kernel
theorem dX5_readLine_146 : decode cX5_readLine 146 = .ok (.iconst 1, 1) := by decide +kernel
theorem dX5_readLine_147 : decode cX5_readLine 147 = .ok (.invokevirtual 95, 3) := by decide +kernel
theorem dX5_readLine_150 : decode cX5_readLine 150 = .ok (.goto 7, 3) := by decide +kernel
theorem dX5_readLine_153 : decode cX5_readLine 153 = .ok (.aload_n 0, 1) := by decide +kernel
theorem dX5_readLine_154 : decode cX5_readLine 154 = .ok (.invokevirtual 83, 3) := by decide +kernel
theorem dX5_readLine_157 : decode cX5_readLine 157 = .ok (.ireturn, 1) := by decide +kernel
theorem dX5_readLine_158 : decode cX5_readLine 158 = .ok (.aload_n 0, 1) := by decide +kernel
theorem dX5_readLine_159 : decode cX5_readLine 159 = .ok (.getfield 46, 3) := by decide +kernel
theorem dX5_readLine_162 : decode cX5_readLine 162 = .ok (.getfield 99, 3) := by decide +kernel
theorem dX5_readLine_165 : decode cX5_readLine 165 = .ok (.ifCond .ne 10, 3) := by decide +kernel
theorem dX5_readLine_168 : decode cX5_readLine 168 = .ok (.aload_n 0, 1) := by decide +kernel
theorem dX5_readLine_169 : decode cX5_readLine 169 = .ok (.invokevirtual 102, 3) := by decide +kernel
theorem dX5_readLine_172 : decode cX5_readLine 172 = .ok (.goto 7, 3) := by decide +kernel
theorem dX5_readLine_175 : decode cX5_readLine 175 = .ok (.aload_n 0, 1) := by decide +kernel
theorem dX5_readLine_176 : decode cX5_readLine 176 = .ok (.invokevirtual 83, 3) := by decide +kernel
theorem dX5_readLine_179 : decode cX5_readLine 179 = .ok (.ireturn, 1) := by decide +kernel
theorem dX5_readLine_180 : decode cX5_readLine 180 = .ok (.aload_n 0, 1) := by decide +kernel
theorem dX5_readLine_181 : decode cX5_readLine 181 = .ok (.invokevirtual 83, 3) := by decide +kernel
theorem dX5_readLine_184 : decode cX5_readLine 184 = .ok (.ireturn, 1) := by decide +kernel
def rm_X5_readLine : Room := { frames := 5, cells := 0, slots := 0, locals := 113 }
abbrev wS_X5_readLine : List (Nat × Nat) := [(5, 1), (5, 2), (5, 3), (5, 4), (5, 5), (5, 6), (6, 0), (6, 1), (6, 4), (6, 5), (6, 6), (6, 7), (6, 8), (11, 0), (11, 1), (11, 2), (11, 3), (11, 4), (39, 99), (51, 99), (52, 99), (53, 99), (54, 99), (55, 99), (56, 99), (57, 99)]
set_option maxRecDepth 100000 in
set_option maxHeartbeats 4000000 in
theorem c_X5_readLine (l : Launch) (E : zE) (hV : zV E) (H0 : Heap) (hT0 : HT E H0) (h0 : Nat) (kh0 : eK E h0 = 6) (tk : Int32) (s_tk : sl H0 h0 (zix E 6 4) = some (.int tk)) (tk_lo : 0 ≤ tk.toInt) (tk_hi : tk.toInt ≤ 2147470000) : Met l yX5_readLine (zws yX5_readLine cX5_readLine 1 (some .boolean)) rm_X5_readLine (zP E H0 [.ref h0]) (zQI E E wS_X5_readLine (fun r H1 => 0 ≤ r.toInt ∧ r.toInt ≤ 1 ∧ (∃ tk1 : Int32, sl H1 h0 (zix E 6 4) = some (.int tk1) ∧ 0 ≤ tk1.toInt ∧ (tk1.toInt ≤ tk.toInt + 30)))) 0 0 (zfr E) := by
  refine zEnt (by decide) (Nat.le_of_ble_eq_true rfl) (fun p e s m args below meth c ls Q B hr hlk hh hQ hl => ?_)
  have hx := B.1
  have hb := B.2.1
  have hG0 : zG E wS_X5_readLine H0 H0 [] := zG.rf hT0
  have hl : lv_has ls 1 [(0, .ref h0)] := hl
  refine lv_aload_n hx hb dX5_readLine_0 rfl (lv_at hl 0 rfl) ?_
  refine g_getR B fl_RX5_46 hT0 kh0 rfl rfl rfl rfl rfl dX5_readLine_1 (fun q_1 s_1 k_q_1 => ?_)
  refine g_getI B fl_RX5_75 hT0 k_q_1 rfl rfl rfl rfl rfl dX5_readLine_4 (fun x_2 s_2 a_2 b_2 => ?_)
  refine lv_if_ne (tgt := 30) hx hb dX5_readLine_7 (by decide) (fun c_3 => ?_) (fun c_3 => ?_)
  · have f_3 := z_ne c_3 rfl kl_0
    refine lv_aload_n hx hb dX5_readLine_30 rfl (lv_at hl 0 rfl) ?_
    refine g_getI B fl_RX5_23 hT0 kh0 rfl rfl rfl rfl rfl dX5_readLine_31 (fun x_4 s_4 a_4 b_4 => ?_)
    by_cases c_5 : 7 ≤ x_4.toInt ∧ x_4.toInt ≤ 15
    · have : x_4.toInt = 7 ∨ x_4.toInt = 8 ∨ x_4.toInt = 9 ∨ x_4.toInt = 10 ∨ x_4.toInt = 11 ∨ x_4.toInt = 12 ∨ x_4.toInt = 13 ∨ x_4.toInt = 14 ∨ x_4.toInt = 15 := by omega
      rcases this with h_5 | h_5 | h_5 | h_5 | h_5 | h_5 | h_5 | h_5 | h_5
      · refine lv_tableIn (off := 50) (tgt := 84) hx hb dX5_readLine_34 (by omega) (by omega) (by rw [h_5]; rfl) (by decide) ?_
        refine lv_aload_n hx hb dX5_readLine_84 rfl (lv_at hl 0 rfl) ?_
        refine g_get B fl_RX5_46 hT0 kh0 rfl rfl rfl dX5_readLine_85 s_1 ?_
        refine g_getI B fl_RX5_86 hT0 k_q_1 rfl rfl rfl rfl rfl dX5_readLine_88 (fun x_6 s_6 a_6 b_6 => ?_)
        refine lv_bipush (v := 6) hx hb dX5_readLine_91 (by decide) ?_
        refine lv_icmp_ge (tgt := 103) hx hb dX5_readLine_93 (by decide) (fun c_7 => ?_) (fun c_7 => ?_)
        · have f_7 := z_le c_7 kl_6 rfl
          refine lv_aload_n hx hb dX5_readLine_103 rfl (lv_at hl 0 rfl) ?_
          refine zkI (zrV (rest := []) B (c_X5_refuseHere l E hV H0 hT0 h0 kh0) cl_RX5_83 hT0 kh0 rfl rfl rfl rfl hl.1 rfl (Nat.le_of_ble_eq_true rfl) dX5_readLine_104 rfl rfl ⟨rfl, rfl⟩ ⟨Nat.zero_le _, Nat.zero_le _⟩ (zO.of hG0 hh)) hG0 rfl (fun x_8 H8 lc8 hp_8 gH8 rH8 => ?_)
          have s_9 := rH8.keep hV kh0 rfl s_tk
          obtain ⟨hp_8_1, hp_8_2⟩ := hp_8
          exact rtI (v := x_8) B hr hlk hh hQ gH8 (z_nz (by omega) (by omega)) ⟨by omega, by omega, ⟨tk, s_9, by omega, by omega⟩⟩ dX5_readLine_107
        · have f_7 := z_nle c_7 kl_6 rfl
          refine lv_aload_n hx hb dX5_readLine_96 rfl (lv_at hl 0 rfl) ?_
          refine zkI (zrV (rest := []) B (c_X5_readPiece l E hV H0 hT0 h0 kh0 tk s_tk (by omega) (by omega)) cl_RX5_89 hT0 kh0 rfl rfl rfl rfl hl.1 rfl (Nat.le_of_ble_eq_true rfl) dX5_readLine_97 rfl rfl ⟨rfl, rfl⟩ ⟨Nat.zero_le _, Nat.zero_le _⟩ (zO.of hG0 hh)) hG0 rfl (fun x_10 H10 lc10 hp_10 gH10 rH10 => ?_)
          obtain ⟨hp_10_1, hp_10_2, ⟨k_11, sk_11, ak_11, fk_11_0⟩⟩ := hp_10
          refine lv_goto (tgt := 107) hx hb dX5_readLine_100 (by decide) ?_
          exact rtI (v := x_10) B hr hlk hh hQ gH10 (z_nz (by omega) (by omega)) ⟨by omega, by omega, ⟨k_11, sk_11, by omega, by omega⟩⟩ dX5_readLine_107
      · refine lv_tableIn (off := 146) (tgt := 180) hx hb dX5_readLine_34 (by omega) (by omega) (by rw [h_5]; rfl) (by decide) ?_
        refine lv_aload_n hx hb dX5_readLine_180 rfl (lv_at hl 0 rfl) ?_
        refine zkI (zrV (rest := []) B (c_X5_refuseHere l E hV H0 hT0 h0 kh0) cl_RX5_83 hT0 kh0 rfl rfl rfl rfl hl.1 rfl (Nat.le_of_ble_eq_true rfl) dX5_readLine_181 rfl rfl ⟨rfl, rfl⟩ ⟨Nat.zero_le _, Nat.zero_le _⟩ (zO.of hG0 hh)) hG0 rfl (fun x_12 H12 lc12 hp_12 gH12 rH12 => ?_)
        have s_13 := rH12.keep hV kh0 rfl s_tk
        obtain ⟨hp_12_1, hp_12_2⟩ := hp_12
        exact rtI (v := x_12) B hr hlk hh hQ gH12 (z_nz (by omega) (by omega)) ⟨by omega, by omega, ⟨tk, s_13, by omega, by omega⟩⟩ dX5_readLine_184
      · refine lv_tableIn (off := 146) (tgt := 180) hx hb dX5_readLine_34 (by omega) (by omega) (by rw [h_5]; rfl) (by decide) ?_
        refine lv_aload_n hx hb dX5_readLine_180 rfl (lv_at hl 0 rfl) ?_
        refine zkI (zrV (rest := []) B (c_X5_refuseHere l E hV H0 hT0 h0 kh0) cl_RX5_83 hT0 kh0 rfl rfl rfl rfl hl.1 rfl (Nat.le_of_ble_eq_true rfl) dX5_readLine_181 rfl rfl ⟨rfl, rfl⟩ ⟨Nat.zero_le _, Nat.zero_le _⟩ (zO.of hG0 hh)) hG0 rfl (fun x_14 H14 lc14 hp_14 gH14 rH14 => ?_)
        have s_15 := rH14.keep hV kh0 rfl s_tk
        obtain ⟨hp_14_1, hp_14_2⟩ := hp_14
        exact rtI (v := x_14) B hr hlk hh hQ gH14 (z_nz (by omega) (by omega)) ⟨by omega, by omega, ⟨tk, s_15, by omega, by omega⟩⟩ dX5_readLine_184
      · refine lv_tableIn (off := 146) (tgt := 180) hx hb dX5_readLine_34 (by omega) (by omega) (by rw [h_5]; rfl) (by decide) ?_
        refine lv_aload_n hx hb dX5_readLine_180 rfl (lv_at hl 0 rfl) ?_
        refine zkI (zrV (rest := []) B (c_X5_refuseHere l E hV H0 hT0 h0 kh0) cl_RX5_83 hT0 kh0 rfl rfl rfl rfl hl.1 rfl (Nat.le_of_ble_eq_true rfl) dX5_readLine_181 rfl rfl ⟨rfl, rfl⟩ ⟨Nat.zero_le _, Nat.zero_le _⟩ (zO.of hG0 hh)) hG0 rfl (fun x_16 H16 lc16 hp_16 gH16 rH16 => ?_)
        have s_17 := rH16.keep hV kh0 rfl s_tk
        obtain ⟨hp_16_1, hp_16_2⟩ := hp_16
        exact rtI (v := x_16) B hr hlk hh hQ gH16 (z_nz (by omega) (by omega)) ⟨by omega, by omega, ⟨tk, s_17, by omega, by omega⟩⟩ dX5_readLine_184
      · refine lv_tableIn (off := 146) (tgt := 180) hx hb dX5_readLine_34 (by omega) (by omega) (by rw [h_5]; rfl) (by decide) ?_
        refine lv_aload_n hx hb dX5_readLine_180 rfl (lv_at hl 0 rfl) ?_
        refine zkI (zrV (rest := []) B (c_X5_refuseHere l E hV H0 hT0 h0 kh0) cl_RX5_83 hT0 kh0 rfl rfl rfl rfl hl.1 rfl (Nat.le_of_ble_eq_true rfl) dX5_readLine_181 rfl rfl ⟨rfl, rfl⟩ ⟨Nat.zero_le _, Nat.zero_le _⟩ (zO.of hG0 hh)) hG0 rfl (fun x_18 H18 lc18 hp_18 gH18 rH18 => ?_)
        have s_19 := rH18.keep hV kh0 rfl s_tk
        obtain ⟨hp_18_1, hp_18_2⟩ := hp_18
        exact rtI (v := x_18) B hr hlk hh hQ gH18 (z_nz (by omega) (by omega)) ⟨by omega, by omega, ⟨tk, s_19, by omega, by omega⟩⟩ dX5_readLine_184
      · refine lv_tableIn (off := 74) (tgt := 108) hx hb dX5_readLine_34 (by omega) (by omega) (by rw [h_5]; rfl) (by decide) ?_
        refine lv_aload_n hx hb dX5_readLine_108 rfl (lv_at hl 0 rfl) ?_
        refine g_get B fl_RX5_46 hT0 kh0 rfl rfl rfl dX5_readLine_109 s_1 ?_
        refine g_getI B fl_RX5_92 hT0 k_q_1 rfl rfl rfl rfl rfl dX5_readLine_112 (fun x_20 s_20 a_20 b_20 => ?_)
        refine lv_bipush (v := 12) hx hb dX5_readLine_115 (by decide) ?_
        refine lv_icmp_ge (tgt := 128) hx hb dX5_readLine_117 (by decide) (fun c_21 => ?_) (fun c_21 => ?_)
        · have f_21 := z_le c_21 kl_12 rfl
          refine lv_aload_n hx hb dX5_readLine_128 rfl (lv_at hl 0 rfl) ?_
          refine zkI (zrV (rest := []) B (c_X5_refuseHere l E hV H0 hT0 h0 kh0) cl_RX5_83 hT0 kh0 rfl rfl rfl rfl hl.1 rfl (Nat.le_of_ble_eq_true rfl) dX5_readLine_129 rfl rfl ⟨rfl, rfl⟩ ⟨Nat.zero_le _, Nat.zero_le _⟩ (zO.of hG0 hh)) hG0 rfl (fun x_22 H22 lc22 hp_22 gH22 rH22 => ?_)
          have s_23 := rH22.keep hV kh0 rfl s_tk
          obtain ⟨hp_22_1, hp_22_2⟩ := hp_22
          exact rtI (v := x_22) B hr hlk hh hQ gH22 (z_nz (by omega) (by omega)) ⟨by omega, by omega, ⟨tk, s_23, by omega, by omega⟩⟩ dX5_readLine_132
        · have f_21 := z_nle c_21 kl_12 rfl
          refine lv_aload_n hx hb dX5_readLine_120 rfl (lv_at hl 0 rfl) ?_
          refine lv_iconst (v := 0) hx hb dX5_readLine_121 (by decide) ?_
          have := kl_0
          refine zkI (zrV (rest := []) B (c_X5_readMan l E hV H0 hT0 h0 kh0 0 (by omega) (by omega) tk s_tk (by omega) (by omega)) cl_RX5_95 hT0 kh0 rfl rfl rfl rfl hl.1 rfl (Nat.le_of_ble_eq_true rfl) dX5_readLine_122 rfl rfl ⟨rfl, rfl⟩ ⟨Nat.zero_le _, Nat.zero_le _⟩ (zO.of hG0 hh)) hG0 rfl (fun x_24 H24 lc24 hp_24 gH24 rH24 => ?_)
          obtain ⟨hp_24_1, hp_24_2, ⟨k_25, sk_25, ak_25, fk_25_0⟩⟩ := hp_24
          have := kl_0
          refine lv_goto (tgt := 132) hx hb dX5_readLine_125 (by decide) ?_
          exact rtI (v := x_24) B hr hlk hh hQ gH24 (z_nz (by omega) (by omega)) ⟨by omega, by omega, ⟨k_25, sk_25, by omega, by omega⟩⟩ dX5_readLine_132
      · refine lv_tableIn (off := 99) (tgt := 133) hx hb dX5_readLine_34 (by omega) (by omega) (by rw [h_5]; rfl) (by decide) ?_
        refine lv_aload_n hx hb dX5_readLine_133 rfl (lv_at hl 0 rfl) ?_
        refine g_get B fl_RX5_46 hT0 kh0 rfl rfl rfl dX5_readLine_134 s_1 ?_
        refine g_getI B fl_RX5_92 hT0 k_q_1 rfl rfl rfl rfl rfl dX5_readLine_137 (fun x_26 s_26 a_26 b_26 => ?_)
        refine lv_bipush (v := 12) hx hb dX5_readLine_140 (by decide) ?_
        refine lv_icmp_ge (tgt := 153) hx hb dX5_readLine_142 (by decide) (fun c_27 => ?_) (fun c_27 => ?_)
        · have f_27 := z_le c_27 kl_12 rfl
          refine lv_aload_n hx hb dX5_readLine_153 rfl (lv_at hl 0 rfl) ?_
          refine zkI (zrV (rest := []) B (c_X5_refuseHere l E hV H0 hT0 h0 kh0) cl_RX5_83 hT0 kh0 rfl rfl rfl rfl hl.1 rfl (Nat.le_of_ble_eq_true rfl) dX5_readLine_154 rfl rfl ⟨rfl, rfl⟩ ⟨Nat.zero_le _, Nat.zero_le _⟩ (zO.of hG0 hh)) hG0 rfl (fun x_28 H28 lc28 hp_28 gH28 rH28 => ?_)
          have s_29 := rH28.keep hV kh0 rfl s_tk
          obtain ⟨hp_28_1, hp_28_2⟩ := hp_28
          exact rtI (v := x_28) B hr hlk hh hQ gH28 (z_nz (by omega) (by omega)) ⟨by omega, by omega, ⟨tk, s_29, by omega, by omega⟩⟩ dX5_readLine_157
        · have f_27 := z_nle c_27 kl_12 rfl
          refine lv_aload_n hx hb dX5_readLine_145 rfl (lv_at hl 0 rfl) ?_
          refine lv_iconst (v := 1) hx hb dX5_readLine_146 (by decide) ?_
          have := kl_1
          refine zkI (zrV (rest := []) B (c_X5_readMan l E hV H0 hT0 h0 kh0 1 (by omega) (by omega) tk s_tk (by omega) (by omega)) cl_RX5_95 hT0 kh0 rfl rfl rfl rfl hl.1 rfl (Nat.le_of_ble_eq_true rfl) dX5_readLine_147 rfl rfl ⟨rfl, rfl⟩ ⟨Nat.zero_le _, Nat.zero_le _⟩ (zO.of hG0 hh)) hG0 rfl (fun x_30 H30 lc30 hp_30 gH30 rH30 => ?_)
          obtain ⟨hp_30_1, hp_30_2, ⟨k_31, sk_31, ak_31, fk_31_0⟩⟩ := hp_30
          have := kl_1
          refine lv_goto (tgt := 157) hx hb dX5_readLine_150 (by decide) ?_
          exact rtI (v := x_30) B hr hlk hh hQ gH30 (z_nz (by omega) (by omega)) ⟨by omega, by omega, ⟨k_31, sk_31, by omega, by omega⟩⟩ dX5_readLine_157
      · refine lv_tableIn (off := 146) (tgt := 180) hx hb dX5_readLine_34 (by omega) (by omega) (by rw [h_5]; rfl) (by decide) ?_
        refine lv_aload_n hx hb dX5_readLine_180 rfl (lv_at hl 0 rfl) ?_
        refine zkI (zrV (rest := []) B (c_X5_refuseHere l E hV H0 hT0 h0 kh0) cl_RX5_83 hT0 kh0 rfl rfl rfl rfl hl.1 rfl (Nat.le_of_ble_eq_true rfl) dX5_readLine_181 rfl rfl ⟨rfl, rfl⟩ ⟨Nat.zero_le _, Nat.zero_le _⟩ (zO.of hG0 hh)) hG0 rfl (fun x_32 H32 lc32 hp_32 gH32 rH32 => ?_)
        have s_33 := rH32.keep hV kh0 rfl s_tk
        obtain ⟨hp_32_1, hp_32_2⟩ := hp_32
        exact rtI (v := x_32) B hr hlk hh hQ gH32 (z_nz (by omega) (by omega)) ⟨by omega, by omega, ⟨tk, s_33, by omega, by omega⟩⟩ dX5_readLine_184
      · refine lv_tableIn (off := 124) (tgt := 158) hx hb dX5_readLine_34 (by omega) (by omega) (by rw [h_5]; rfl) (by decide) ?_
        refine lv_aload_n hx hb dX5_readLine_158 rfl (lv_at hl 0 rfl) ?_
        refine g_get B fl_RX5_46 hT0 kh0 rfl rfl rfl dX5_readLine_159 s_1 ?_
        refine g_getI B fl_RX5_99 hT0 k_q_1 rfl rfl rfl rfl rfl dX5_readLine_162 (fun x_34 s_34 a_34 b_34 => ?_)
        refine lv_if_ne (tgt := 175) hx hb dX5_readLine_165 (by decide) (fun c_35 => ?_) (fun c_35 => ?_)
        · have f_35 := z_ne c_35 rfl kl_0
          refine lv_aload_n hx hb dX5_readLine_175 rfl (lv_at hl 0 rfl) ?_
          refine zkI (zrV (rest := []) B (c_X5_refuseHere l E hV H0 hT0 h0 kh0) cl_RX5_83 hT0 kh0 rfl rfl rfl rfl hl.1 rfl (Nat.le_of_ble_eq_true rfl) dX5_readLine_176 rfl rfl ⟨rfl, rfl⟩ ⟨Nat.zero_le _, Nat.zero_le _⟩ (zO.of hG0 hh)) hG0 rfl (fun x_36 H36 lc36 hp_36 gH36 rH36 => ?_)
          have s_37 := rH36.keep hV kh0 rfl s_tk
          obtain ⟨hp_36_1, hp_36_2⟩ := hp_36
          exact rtI (v := x_36) B hr hlk hh hQ gH36 (z_nz (by omega) (by omega)) ⟨by omega, by omega, ⟨tk, s_37, by omega, by omega⟩⟩ dX5_readLine_179
        · have f_35 := z_eq c_35 rfl kl_0
          refine lv_aload_n hx hb dX5_readLine_168 rfl (lv_at hl 0 rfl) ?_
          refine zkI (zrV (rest := []) B (c_X5_readFlash l E hV H0 hT0 h0 kh0 tk s_tk (by omega) (by omega) q_1 k_q_1 s_1 x_34 s_34 (by omega) (by omega)) cl_RX5_102 hT0 kh0 rfl rfl rfl rfl hl.1 rfl (Nat.le_of_ble_eq_true rfl) dX5_readLine_169 rfl rfl ⟨rfl, rfl⟩ ⟨Nat.zero_le _, Nat.zero_le _⟩ (zO.of hG0 hh)) hG0 rfl (fun x_38 H38 lc38 hp_38 gH38 rH38 => ?_)
          obtain ⟨hp_38_1, hp_38_2, ⟨k_39, sk_39, ak_39, fk_39_0⟩⟩ := hp_38
          refine lv_goto (tgt := 179) hx hb dX5_readLine_172 (by decide) ?_
          exact rtI (v := x_38) B hr hlk hh hQ gH38 (z_nz (by omega) (by omega)) ⟨by omega, by omega, ⟨k_39, sk_39, by omega, by omega⟩⟩ dX5_readLine_179
    · refine lv_tableOut (tgt := 180) hx hb dX5_readLine_34 (by omega) (by decide) ?_
      refine lv_aload_n hx hb dX5_readLine_180 rfl (lv_at hl 0 rfl) ?_
      refine zkI (zrV (rest := []) B (c_X5_refuseHere l E hV H0 hT0 h0 kh0) cl_RX5_83 hT0 kh0 rfl rfl rfl rfl hl.1 rfl (Nat.le_of_ble_eq_true rfl) dX5_readLine_181 rfl rfl ⟨rfl, rfl⟩ ⟨Nat.zero_le _, Nat.zero_le _⟩ (zO.of hG0 hh)) hG0 rfl (fun x_40 H40 lc40 hp_40 gH40 rH40 => ?_)
      have s_41 := rH40.keep hV kh0 rfl s_tk
      obtain ⟨hp_40_1, hp_40_2⟩ := hp_40
      exact rtI (v := x_40) B hr hlk hh hQ gH40 (z_nz (by omega) (by omega)) ⟨by omega, by omega, ⟨tk, s_41, by omega, by omega⟩⟩ dX5_readLine_184
  · have f_3 := z_eq c_3 rfl kl_0
    refine lv_aload_n hx hb dX5_readLine_10 rfl (lv_at hl 0 rfl) ?_
    refine g_getI B fl_RX5_23 hT0 kh0 rfl rfl rfl rfl rfl dX5_readLine_11 (fun x_42 s_42 a_42 b_42 => ?_)
    refine lv_iconst (v := 5) hx hb dX5_readLine_14 (by decide) ?_
    refine lv_icmp_ne (tgt := 25) hx hb dX5_readLine_15 (by decide) (fun c_43 => ?_) (fun c_43 => ?_)
    · have f_43 := z_ne c_43 rfl kl_5
      refine lv_aload_n hx hb dX5_readLine_25 rfl (lv_at hl 0 rfl) ?_
      refine zkI (zrV (rest := []) B (c_X5_refuseHere l E hV H0 hT0 h0 kh0) cl_RX5_83 hT0 kh0 rfl rfl rfl rfl hl.1 rfl (Nat.le_of_ble_eq_true rfl) dX5_readLine_26 rfl rfl ⟨rfl, rfl⟩ ⟨Nat.zero_le _, Nat.zero_le _⟩ (zO.of hG0 hh)) hG0 rfl (fun x_44 H44 lc44 hp_44 gH44 rH44 => ?_)
      have s_45 := rH44.keep hV kh0 rfl s_tk
      obtain ⟨hp_44_1, hp_44_2⟩ := hp_44
      exact rtI (v := x_44) B hr hlk hh hQ gH44 (z_nz (by omega) (by omega)) ⟨by omega, by omega, ⟨tk, s_45, by omega, by omega⟩⟩ dX5_readLine_29
    · have f_43 := z_eq c_43 rfl kl_5
      refine lv_aload_n hx hb dX5_readLine_18 rfl (lv_at hl 0 rfl) ?_
      refine zkI (zrV (rest := []) B (c_X5_readBoard l E hV H0 hT0 h0 kh0 tk s_tk (by omega) (by omega)) cl_RX5_80 hT0 kh0 rfl rfl rfl rfl hl.1 rfl (Nat.le_of_ble_eq_true rfl) dX5_readLine_19 rfl rfl ⟨rfl, rfl⟩ ⟨Nat.zero_le _, Nat.zero_le _⟩ (zO.of hG0 hh)) hG0 rfl (fun x_46 H46 lc46 hp_46 gH46 rH46 => ?_)
      obtain ⟨hp_46_1, hp_46_2, ⟨k_47, sk_47, ak_47, fk_47_0⟩⟩ := hp_46
      refine lv_goto (tgt := 29) hx hb dX5_readLine_22 (by decide) ?_
      exact rtI (v := x_46) B hr hlk hh hQ gH46 (z_nz (by omega) (by omega)) ⟨by omega, by omega, ⟨k_47, sk_47, by omega, by omega⟩⟩ dX5_readLine_29

theorem dX5_read_0 : decode cX5_read 0 = .ok (.aload_n 0, 1) := by decide +kernel
theorem dX5_read_1 : decode cX5_read 1 = .ok (.aload_n 2, 1) := by decide +kernel
theorem dX5_read_2 : decode cX5_read 2 = .ok (.putfield 46, 3) := by decide +kernel
theorem dX5_read_5 : decode cX5_read 5 = .ok (.aload_n 0, 1) := by decide +kernel
theorem dX5_read_6 : decode cX5_read 6 = .ok (.iconst 0, 1) := by decide +kernel
theorem dX5_read_7 : decode cX5_read 7 = .ok (.putfield 9, 3) := by decide +kernel
theorem dX5_read_10 : decode cX5_read 10 = .ok (.aload_n 0, 1) := by decide +kernel
theorem dX5_read_11 : decode cX5_read 11 = .ok (.iconst (-1), 1) := by decide +kernel
theorem dX5_read_12 : decode cX5_read 12 = .ok (.putfield 15, 3) := by decide +kernel
theorem dX5_read_15 : decode cX5_read 15 = .ok (.aload_n 0, 1) := by decide +kernel
theorem dX5_read_16 : decode cX5_read 16 = .ok (.getfield 42, 3) := by decide +kernel
theorem dX5_read_19 : decode cX5_read 19 = .ok (.iload_n 1, 1) := by decide +kernel
theorem dX5_read_20 : decode cX5_read 20 = .ok (.invokevirtual 50, 3) := by decide +kernel
theorem dX5_read_23 : decode cX5_read 23 = .ok (.aload_n 0, 1) := by decide +kernel
theorem dX5_read_24 : decode cX5_read 24 = .ok (.iconst 0, 1) := by decide +kernel
theorem dX5_read_25 : decode cX5_read 25 = .ok (.putfield 18, 3) := by decide +kernel
theorem dX5_read_28 : decode cX5_read 28 = .ok (.aload_n 0, 1) := by decide +kernel
theorem dX5_read_29 : decode cX5_read 29 = .ok (.invokevirtual 54, 3) := by decide +kernel
theorem dX5_read_32 : decode cX5_read 32 = .ok (.iconst 0, 1) := by decide +kernel
theorem dX5_read_33 : decode cX5_read 33 = .ok (.istore_n 3, 1) := by decide +kernel
theorem dX5_read_34 : decode cX5_read 34 = .ok (.iload_n 3, 1) := by decide +kernel
theorem dX5_read_35 : decode cX5_read 35 = .ok (.sipush 1600, 3) := by decide +kernel
theorem dX5_read_38 : decode cX5_read 38 = .ok (.if_icmp .gt 25, 3) := by decide +kernel
theorem dX5_read_41 : decode cX5_read 41 = .ok (.aload_n 0, 1) := by decide +kernel
theorem dX5_read_42 : decode cX5_read 42 = .ok (.getfield 23, 3) := by decide +kernel
theorem dX5_read_45 : decode cX5_read 45 = .ok (.ifCond .eq 18, 3) := by decide +kernel
theorem dX5_read_48 : decode cX5_read 48 = .ok (.aload_n 0, 1) := by decide +kernel
theorem dX5_read_49 : decode cX5_read 49 = .ok (.invokevirtual 57, 3) := by decide +kernel
theorem dX5_read_52 : decode cX5_read 52 = .ok (.ifCond .ne 5, 3) := by decide +kernel
theorem dX5_read_55 : decode cX5_read 55 = .ok (.iconst 0, 1) := by decide +kernel
theorem dX5_read_56 : decode cX5_read 56 = .ok (.ireturn, 1) := by decide +kernel
theorem dX5_read_57 : decode cX5_read 57 = .ok (.iinc 3 1, 3) := by decide +kernel
theorem dX5_read_60 : decode cX5_read 60 = .ok (.goto (-26), 3) := by decide +kernel
theorem dX5_read_63 : decode cX5_read 63 = .ok (.iconst 1, 1) := by decide +kernel
theorem dX5_read_64 : decode cX5_read 64 = .ok (.ireturn, 1) := by decide +kernel
def rm_X5_read : Room := { frames := 9, cells := 0, slots := 0, locals := 197 }
abbrev wS_X5_read : List (Nat × Nat) := [(5, 1), (5, 2), (5, 3), (5, 4), (5, 5), (5, 6), (6, 0), (6, 1), (6, 3), (6, 4), (6, 5), (6, 6), (6, 7), (6, 8), (10, 0), (10, 4), (11, 0), (11, 1), (11, 2), (11, 3), (11, 4), (39, 99), (48, 99), (49, 99), (51, 99), (52, 99), (53, 99), (54, 99), (55, 99), (56, 99), (57, 99)]
set_option maxRecDepth 100000 in
set_option maxHeartbeats 4000000 in
theorem c_X5_read (l : Launch) (E : zE) (hV : zV E) (H0 : Heap) (hT0 : HT E H0) (h0 : Nat) (kh0 : eK E h0 = 6) (p0 : Int32) (p0_lo : 0 ≤ p0.toInt) (p0_hi : p0.toInt ≤ 1600) (p1 : Nat) (kp1 : eK E p1 = 11) : Met l yX5_read (zws yX5_read cX5_read 4 (some .boolean)) rm_X5_read (zP E H0 [.ref h0, .int p0, .ref p1]) (zQI E E wS_X5_read (fun r H1 => 0 ≤ r.toInt ∧ r.toInt ≤ 1)) 0 0 (zfr E) := by
  refine zEnt (by decide) (Nat.le_of_ble_eq_true rfl) (fun p e s m args below meth c ls Q B hr hlk hh hQ hl => ?_)
  have hx := B.1
  have hb := B.2.1
  have hG0 : zG E wS_X5_read H0 H0 [] := zG.rf hT0
  have hl : lv_has ls 4 [(0, .ref h0), (1, .int p0), (2, .ref p1)] := hl
  have b34 : ∀ (n34 : Nat) (H34 : Heap) (lc34 : List Loc) (ls : Array Slot) (v34_3 : Int32) (u34_h0_4 : Int32), 1601 - v34_3.toInt < (n34 : Int) → zG E wS_X5_read H0 H34 lc34 → lv_has ls 4 [(0, .ref h0), (3, .int v34_3)] → 0 ≤ v34_3.toInt → v34_3.toInt ≤ 1601 → 0 ≤ u34_h0_4.toInt → u34_h0_4.toInt ≤ 50000 → sl H34 h0 (zix E 6 4) = some (.int u34_h0_4) → u34_h0_4.toInt ≤ 30 * v34_3.toInt → W p l e rm_X5_read s m args below meth c H34 lc34 0 0 Q (F0 m 34 ls []) := by
    intro n34
    induction n34 with
    | zero =>
      intro H34 lc34 ls v34_3 u34_h0_4 hm34 gH34 hl f34_1 f34_2 f34_3 f34_4 s34_u34_h0_4 f34_5
      exact absurd hm34 (by omega)
    | succ n34 ih34 =>
      intro H34 lc34 ls v34_3 u34_h0_4 hm34 gH34 hl f34_1 f34_2 f34_3 f34_4 s34_u34_h0_4 f34_5
      refine lv_iload_n hx hb dX5_read_34 rfl (lv_at hl 1 rfl) ?_
      refine lv_sipush (v := 1600) hx hb dX5_read_35 (by decide) ?_
      refine lv_icmp_gt (tgt := 63) hx hb dX5_read_38 (by decide) (fun c_1 => ?_) (fun c_1 => ?_)
      · have f_1 := z_lt c_1 kl_1600 rfl
        refine lv_iconst (v := 1) hx hb dX5_read_63 (by decide) ?_
        have := kl_1
        have := kl_1
        exact rtI (v := 1) B hr hlk hh hQ gH34 rfl ⟨by omega, by omega⟩ dX5_read_64
      · have f_1 := z_nlt c_1 kl_1600 rfl
        refine lv_aload_n hx hb dX5_read_41 rfl (lv_at hl 0 rfl) ?_
        refine g_getI B fl_RX5_23 gH34.1 kh0 rfl rfl rfl rfl rfl dX5_read_42 (fun x_2 s_2 a_2 b_2 => ?_)
        refine lv_if_eq (tgt := 63) hx hb dX5_read_45 (by decide) (fun c_3 => ?_) (fun c_3 => ?_)
        · have f_3 := z_eq c_3 rfl kl_0
          refine lv_iconst (v := 1) hx hb dX5_read_63 (by decide) ?_
          have := kl_1
          have := kl_1
          exact rtI (v := 1) B hr hlk hh hQ gH34 rfl ⟨by omega, by omega⟩ dX5_read_64
        · have f_3 := z_ne c_3 rfl kl_0
          refine lv_aload_n hx hb dX5_read_48 rfl (lv_at hl 0 rfl) ?_
          refine zkI (zrV (rest := []) B (c_X5_readLine l E hV H34 gH34.1 h0 kh0 u34_h0_4 s34_u34_h0_4 (by omega) (by omega)) cl_RX5_57 gH34.1 kh0 rfl rfl rfl rfl hl.1 rfl (Nat.le_of_ble_eq_true rfl) dX5_read_49 rfl rfl ⟨rfl, rfl⟩ ⟨Nat.zero_le _, Nat.zero_le _⟩ (zO.of gH34 hh)) gH34 rfl (fun x_4 H4 lc4 hp_4 gH4 rH4 => ?_)
          obtain ⟨hp_4_1, hp_4_2, ⟨k_5, sk_5, ak_5, fk_5_0⟩⟩ := hp_4
          refine lv_if_ne (tgt := 57) hx hb dX5_read_52 (by decide) (fun c_6 => ?_) (fun c_6 => ?_)
          · have f_6 := z_ne c_6 rfl kl_0
            obtain ⟨x_7, e_7⟩ : ∃ y : Int32, (v34_3 : Int32) + Int32.ofInt 1 = y := ⟨_, rfl⟩
            refine lv_iinc (v := x_7) (lv' := [(3, .int x_7), (0, .ref h0)]) hx hb dX5_read_57 hl (k := 1) rfl e_7 (by decide) rfl (fun ls hl => ?_)
            have t_7 := z_inc2 e_7 rfl (by decide) (by omega) (by omega)
            refine lv_goto (tgt := 34) hx hb dX5_read_60 (by decide) ?_
            exact ih34 H4 lc4 ls x_7 k_5 (by omega) gH4 (lv_sub hl [1, 0] rfl) (by omega) (by omega) (by omega) (by omega) sk_5 (by omega)
          · have f_6 := z_eq c_6 rfl kl_0
            refine lv_iconst (v := 0) hx hb dX5_read_55 (by decide) ?_
            have := kl_0
            have := kl_0
            exact rtI (v := 0) B hr hlk hh hQ gH4 rfl ⟨by omega, by omega⟩ dX5_read_56
  refine lv_aload_n hx hb dX5_read_0 rfl (lv_at hl 0 rfl) ?_
  refine lv_aload_n hx hb dX5_read_1 rfl (lv_at hl 2 rfl) ?_
  refine g_putR B fp_RX5_46 hV hG0 kh0 rfl rfl rfl rfl rfl kp1 rfl rfl rfl dX5_read_2 (fun H8 lc8 gH8 uH8 => ?_)
  refine lv_aload_n hx hb dX5_read_5 rfl (lv_at hl 0 rfl) ?_
  refine lv_iconst (v := 0) hx hb dX5_read_6 (by decide) ?_
  have := kl_0
  refine g_putI B fp_RX5_9 hV gH8 kh0 rfl rfl rfl rfl rfl (z_rng _).1 (z_rng _).2 rfl dX5_read_7 (fun H9 lc9 gH9 uH9 => ?_)
  refine lv_aload_n hx hb dX5_read_10 rfl (lv_at hl 0 rfl) ?_
  refine lv_iconst (v := (-1)) hx hb dX5_read_11 (by decide) ?_
  have := kl_m1
  refine g_putI B fp_RX5_15 hV gH9 kh0 rfl rfl rfl rfl rfl (z_rng _).1 (z_rng _).2 rfl dX5_read_12 (fun H10 lc10 gH10 uH10 => ?_)
  refine lv_aload_n hx hb dX5_read_15 rfl (lv_at hl 0 rfl) ?_
  refine g_getR B fl_RX5_42 gH10.1 kh0 rfl rfl rfl rfl rfl dX5_read_16 (fun q_11 s_11 k_q_11 => ?_)
  refine lv_iload_n hx hb dX5_read_19 rfl (lv_at hl 1 rfl) ?_
  refine zkV (zrV (rest := []) B (c_X9_scan l E hV H10 gH10.1 q_11 k_q_11 p0 (by omega) (by omega)) cl_RX5_50 gH10.1 k_q_11 rfl rfl rfl rfl hl.1 rfl (Nat.le_of_ble_eq_true rfl) dX5_read_20 rfl rfl ⟨rfl, rfl⟩ ⟨Nat.zero_le _, Nat.zero_le _⟩ (zO.of gH10 hh)) gH10 rfl (fun H12 lc12 hp_12 gH12 rH12 => ?_)
  refine lv_aload_n hx hb dX5_read_23 rfl (lv_at hl 0 rfl) ?_
  refine lv_iconst (v := 0) hx hb dX5_read_24 (by decide) ?_
  have := kl_0
  refine g_putI B fp_RX5_18 hV gH12 kh0 rfl rfl rfl rfl rfl (z_rng _).1 (z_rng _).2 rfl dX5_read_25 (fun H13 lc13 gH13 uH13 => ?_)
  refine lv_aload_n hx hb dX5_read_28 rfl (lv_at hl 0 rfl) ?_
  have := kl_0
  refine zkV (zrV (rest := []) B (c_X5_look l E hV H13 gH13.1 h0 kh0 0 uH13.2.1 (by omega)) cl_RX5_54 gH13.1 kh0 rfl rfl rfl rfl hl.1 rfl (Nat.le_of_ble_eq_true rfl) dX5_read_29 rfl rfl ⟨rfl, rfl⟩ ⟨Nat.zero_le _, Nat.zero_le _⟩ (zO.of gH13 hh)) gH13 rfl (fun H14 lc14 hp_14 gH14 rH14 => ?_)
  have s_15 := rH14.keep hV kh0 rfl uH13.2.1
  refine lv_iconst (v := 0) hx hb dX5_read_32 (by decide) ?_
  refine lv_istore_n (lv' := [(3, .int 0), (0, .ref h0), (1, .int p0), (2, .ref p1)]) hx hb dX5_read_33 rfl hl (by decide) rfl (fun ls hl => ?_)
  have := kl_0
  have := kl_0
  exact b34 1602 H14 lc14 ls 0 0 (by omega) gH14 (lv_sub hl [1, 0] rfl) (by omega) (by omega) (by omega) (by omega) s_15 (by omega)
