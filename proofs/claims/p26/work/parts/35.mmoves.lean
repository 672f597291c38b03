theorem dX12_areAlike_0 : decode cX12_areAlike 0 = .ok (.iconst 0, 1) := by decide +kernel
theorem dX12_areAlike_1 : decode cX12_areAlike 1 = .ok (.istore_n 3, 1) := by decide +kernel
theorem dX12_areAlike_2 : decode cX12_areAlike 2 = .ok (.iload_n 3, 1) := by decide +kernel
theorem dX12_areAlike_3 : decode cX12_areAlike 3 = .ok (.bipush 31, 2) := by decide +kernel
theorem dX12_areAlike_5 : decode cX12_areAlike 5 = .ok (.if_icmp .ge 26, 3) := by decide +kernel
theorem dX12_areAlike_8 : decode cX12_areAlike 8 = .ok (.aload_n 0, 1) := by decide +kernel
theorem dX12_areAlike_9 : decode cX12_areAlike 9 = .ok (.iload_n 1, 1) := by decide +kernel
theorem dX12_areAlike_10 : decode cX12_areAlike 10 = .ok (.iload_n 3, 1) := by decide +kernel
theorem dX12_areAlike_11 : decode cX12_areAlike 11 = .ok (.invokevirtual 257, 3) := by decide +kernel
theorem dX12_areAlike_14 : decode cX12_areAlike 14 = .ok (.aload_n 0, 1) := by decide +kernel
theorem dX12_areAlike_15 : decode cX12_areAlike 15 = .ok (.iload_n 2, 1) := by decide +kernel
theorem dX12_areAlike_16 : decode cX12_areAlike 16 = .ok (.iload_n 3, 1) := by decide +kernel
theorem dX12_areAlike_17 : decode cX12_areAlike 17 = .ok (.invokevirtual 257, 3) := by decide +kernel
theorem dX12_areAlike_20 : decode cX12_areAlike 20 = .ok (.if_icmp .eq 5, 3) := by decide +kernel
theorem dX12_areAlike_23 : decode cX12_areAlike 23 = .ok (.iconst 0, 1) := by decide +kernel
theorem dX12_areAlike_24 : decode cX12_areAlike 24 = .ok (.ireturn, 1) := by decide +kernel
theorem dX12_areAlike_25 : decode cX12_areAlike 25 = .ok (.iinc 3 1, 3) := by decide +kernel
theorem dX12_areAlike_28 : decode cX12_areAlike 28 = .ok (.goto (-26), 3) := by decide +kernel
theorem dX12_areAlike_31 : decode cX12_areAlike 31 = .ok (.iconst 1, 1) := by decide +kernel
theorem dX12_areAlike_32 : decode cX12_areAlike 32 = .ok (.ireturn, 1) := by decide +kernel
def rm_X12_areAlike : Room := { frames := 1, cells := 0, slots := 0, locals := 22 }
set_option maxRecDepth 100000 in
set_option maxHeartbeats 4000000 in
theorem c_X12_areAlike (l : Launch) (E : zE) (hV : zV E) (H0 : Heap) (hT0 : HT E H0) (h0 : Nat) (kh0 : eK E h0 = 13) (p0 : Int32) (p0_lo : 0 ≤ p0.toInt) (p0_hi : p0.toInt ≤ 195) (p1 : Int32) (p1_lo : 0 ≤ p1.toInt) (p1_hi : p1.toInt ≤ 195) : Met l yX12_areAlike (zws yX12_areAlike cX12_areAlike 4 (some .boolean)) rm_X12_areAlike (zP E H0 [.ref h0, .int p0, .int p1]) (zPI (fun r => 0 ≤ r.toInt ∧ r.toInt ≤ 1)) 0 0 (fun _ => False) := by
  refine zEnt (by decide) (Nat.le_of_ble_eq_true rfl) (fun p e s m args below meth c ls Q B hr hlk hh hQ hl => ?_)
  have hx := B.1
  have hb := B.2.1
  have hl : lv_has ls 4 [(0, .ref h0), (1, .int p0), (2, .int p1)] := hl
  have b2 : ∀ (n2 : Nat) (ls : Array Slot) (v2_3 : Int32), 31 - v2_3.toInt < (n2 : Int) → lv_has ls 4 [(0, .ref h0), (1, .int p0), (2, .int p1), (3, .int v2_3)] → 0 ≤ v2_3.toInt → v2_3.toInt ≤ 31 → W p l e rm_X12_areAlike s m args below meth c H0 [] 0 0 Q (F0 m 2 ls []) := by
    intro n2
    induction n2 with
    | zero =>
      intro ls v2_3 hm2 hl f2_1 f2_2
      exact absurd hm2 (by omega)
    | succ n2 ih2 =>
      intro ls v2_3 hm2 hl f2_1 f2_2
      refine lv_iload_n hx hb dX12_areAlike_2 rfl (lv_at hl 3 rfl) ?_
      refine lv_bipush (v := 31) hx hb dX12_areAlike_3 (by decide) ?_
      refine lv_icmp_ge (tgt := 31) hx hb dX12_areAlike_5 (by decide) (fun c_1 => ?_) (fun c_1 => ?_)
      · have f_1 := z_le c_1 kl_31 rfl
        refine lv_iconst (v := 1) hx hb dX12_areAlike_31 (by decide) ?_
        have := kl_1
        have := kl_1
        exact rtPI (v := 1) B hr hlk hh hQ rfl ⟨by omega, by omega⟩ dX12_areAlike_32
      · have f_1 := z_nle c_1 kl_31 rfl
        refine lv_aload_n hx hb dX12_areAlike_8 rfl (lv_at hl 0 rfl) ?_
        refine lv_iload_n hx hb dX12_areAlike_9 rfl (lv_at hl 1 rfl) ?_
        refine lv_iload_n hx hb dX12_areAlike_10 rfl (lv_at hl 3 rfl) ?_
        obtain ⟨q_2, s_2, k_q_2⟩ := HT.atR hT0 kh0 rfl (j := 2) (by decide) rfl
        refine zkPI (zrV (rest := []) B (c_X12_of l E hV H0 hT0 h0 kh0 p0 (by omega) (by omega) v2_3 (by omega) (by omega) q_2 k_q_2 s_2) cl_RX12_257 hT0 kh0 rfl rfl rfl rfl hl.1 rfl (Nat.le_of_ble_eq_true rfl) dX12_areAlike_11 rfl rfl ⟨rfl, rfl⟩ ⟨Nat.zero_le _, Nat.zero_le _⟩ (zO.rf hh)) (fun x_3 hp_3 => ?_)
        obtain ⟨hp_3_1, hp_3_2⟩ := hp_3
        refine lv_aload_n hx hb dX12_areAlike_14 rfl (lv_at hl 0 rfl) ?_
        refine lv_iload_n hx hb dX12_areAlike_15 rfl (lv_at hl 2 rfl) ?_
        refine lv_iload_n hx hb dX12_areAlike_16 rfl (lv_at hl 3 rfl) ?_
        refine zkPI (zrV (rest := [.int x_3]) B (c_X12_of l E hV H0 hT0 h0 kh0 p1 (by omega) (by omega) v2_3 (by omega) (by omega) q_2 k_q_2 s_2) cl_RX12_257 hT0 kh0 rfl rfl rfl rfl hl.1 rfl (Nat.le_of_ble_eq_true rfl) dX12_areAlike_17 rfl rfl ⟨rfl, rfl⟩ ⟨Nat.zero_le _, Nat.zero_le _⟩ (zO.rf hh)) (fun x_4 hp_4 => ?_)
        obtain ⟨hp_4_1, hp_4_2⟩ := hp_4
        refine lv_icmp_eq (tgt := 25) hx hb dX12_areAlike_20 (by decide) (fun c_5 => ?_) (fun c_5 => ?_)
        · have f_5 := z_eq c_5 rfl rfl
          obtain ⟨x_6, e_6⟩ : ∃ y : Int32, (v2_3 : Int32) + Int32.ofInt 1 = y := ⟨_, rfl⟩
          refine lv_iinc (v := x_6) (lv' := [(3, .int x_6), (0, .ref h0), (1, .int p0), (2, .int p1)]) hx hb dX12_areAlike_25 hl (k := 3) rfl e_6 (by decide) rfl (fun ls hl => ?_)
          have t_6 := z_inc2 e_6 rfl (by decide) (by omega) (by omega)
          refine lv_goto (tgt := 2) hx hb dX12_areAlike_28 (by decide) ?_
          exact ih2 ls x_6 (by omega) (lv_sub hl [1, 2, 3, 0] rfl) (by omega) (by omega)
        · have f_5 := z_ne c_5 rfl rfl
          refine lv_iconst (v := 0) hx hb dX12_areAlike_23 (by decide) ?_
          have := kl_0
          have := kl_0
          exact rtPI (v := 0) B hr hlk hh hQ rfl ⟨by omega, by omega⟩ dX12_areAlike_24
  refine lv_iconst (v := 0) hx hb dX12_areAlike_0 (by decide) ?_
  refine lv_istore_n (lv' := [(3, .int 0), (0, .ref h0), (1, .int p0), (2, .int p1)]) hx hb dX12_areAlike_1 rfl hl (by decide) rfl (fun ls hl => ?_)
  have := kl_0
  exact b2 32 ls 0 (by omega) (lv_sub hl [1, 2, 3, 0] rfl) (by omega) (by omega)

theorem dX12_turnOf_0 : decode cX12_turnOf 0 = .ok (.aload_n 0, 1) := by decide +kernel
theorem dX12_turnOf_1 : decode cX12_turnOf 1 = .ok (.iload_n 1, 1) := by decide +kernel
theorem dX12_turnOf_2 : decode cX12_turnOf 2 = .ok (.bipush 30, 2) := by decide +kernel
theorem dX12_turnOf_4 : decode cX12_turnOf 4 = .ok (.invokevirtual 257, 3) := by decide +kernel
theorem dX12_turnOf_7 : decode cX12_turnOf 7 = .ok (.ireturn, 1) := by decide +kernel
def rm_X12_turnOf : Room := { frames := 1, cells := 0, slots := 0, locals := 22 }
set_option maxRecDepth 100000 in
set_option maxHeartbeats 4000000 in
theorem c_X12_turnOf (l : Launch) (E : zE) (hV : zV E) (H0 : Heap) (hT0 : HT E H0) (h0 : Nat) (kh0 : eK E h0 = 13) (p0 : Int32) (p0_lo : 0 ≤ p0.toInt) (p0_hi : p0.toInt ≤ 195) : Met l yX12_turnOf (zws yX12_turnOf cX12_turnOf 2 (some .int)) rm_X12_turnOf (zP E H0 [.ref h0, .int p0]) (zPI (fun r => True)) 0 0 (fun _ => False) := by
  refine zEnt (by decide) (Nat.le_of_ble_eq_true rfl) (fun p e s m args below meth c ls Q B hr hlk hh hQ hl => ?_)
  have hx := B.1
  have hb := B.2.1
  have hl : lv_has ls 2 [(0, .ref h0), (1, .int p0)] := hl
  refine lv_aload_n hx hb dX12_turnOf_0 rfl (lv_at hl 0 rfl) ?_
  refine lv_iload_n hx hb dX12_turnOf_1 rfl (lv_at hl 1 rfl) ?_
  refine lv_bipush (v := 30) hx hb dX12_turnOf_2 (by decide) ?_
  have := kl_30
  obtain ⟨q_1, s_1, k_q_1⟩ := HT.atR hT0 kh0 rfl (j := 2) (by decide) rfl
  refine zkPI (zrV (rest := []) B (c_X12_of l E hV H0 hT0 h0 kh0 p0 (by omega) (by omega) 30 (by omega) (by omega) q_1 k_q_1 s_1) cl_RX12_257 hT0 kh0 rfl rfl rfl rfl hl.1 rfl (Nat.le_of_ble_eq_true rfl) dX12_turnOf_4 rfl rfl ⟨rfl, rfl⟩ ⟨Nat.zero_le _, Nat.zero_le _⟩ (zO.rf hh)) (fun x_2 hp_2 => ?_)
  obtain ⟨hp_2_1, hp_2_2⟩ := hp_2
  have := kl_30
  exact rtPI (v := x_2) B hr hlk hh hQ rfl trivial dX12_turnOf_7

theorem dX12_isOn_0 : decode cX12_isOn 0 = .ok (.iload_n 1, 1) := by decide +kernel
theorem dX12_isOn_1 : decode cX12_isOn 1 = .ok (.iconst 0, 1) := by decide +kernel
theorem dX12_isOn_2 : decode cX12_isOn 2 = .ok (.aload_n 0, 1) := by decide +kernel
theorem dX12_isOn_3 : decode cX12_isOn 3 = .ok (.getfield 24, 3) := by decide +kernel
theorem dX12_isOn_6 : decode cX12_isOn 6 = .ok (.aload_n 0, 1) := by decide +kernel
theorem dX12_isOn_7 : decode cX12_isOn 7 = .ok (.getfield 217, 3) := by decide +kernel
theorem dX12_isOn_10 : decode cX12_isOn 10 = .ok (.iaload, 1) := by decide +kernel
theorem dX12_isOn_11 : decode cX12_isOn 11 = .ok (.iconst 1, 1) := by decide +kernel
theorem dX12_isOn_12 : decode cX12_isOn 12 = .ok (.isub, 1) := by decide +kernel
theorem dX12_isOn_13 : decode cX12_isOn 13 = .ok (.invokestatic 260, 3) := by decide +kernel
theorem dX12_isOn_16 : decode cX12_isOn 16 = .ok (.ifCond .eq 26, 3) := by decide +kernel
theorem dX12_isOn_19 : decode cX12_isOn 19 = .ok (.iload_n 2, 1) := by decide +kernel
theorem dX12_isOn_20 : decode cX12_isOn 20 = .ok (.iconst 0, 1) := by decide +kernel
theorem dX12_isOn_21 : decode cX12_isOn 21 = .ok (.aload_n 0, 1) := by decide +kernel
theorem dX12_isOn_22 : decode cX12_isOn 22 = .ok (.getfield 27, 3) := by decide +kernel
theorem dX12_isOn_25 : decode cX12_isOn 25 = .ok (.aload_n 0, 1) := by decide +kernel
theorem dX12_isOn_26 : decode cX12_isOn 26 = .ok (.getfield 217, 3) := by decide +kernel
theorem dX12_isOn_29 : decode cX12_isOn 29 = .ok (.iaload, 1) := by decide +kernel
theorem dX12_isOn_30 : decode cX12_isOn 30 = .ok (.iconst 1, 1) := by decide +kernel
theorem dX12_isOn_31 : decode cX12_isOn 31 = .ok (.isub, 1) := by decide +kernel
theorem dX12_isOn_32 : decode cX12_isOn 32 = .ok (.invokestatic 260, 3) := by decide +kernel
theorem dX12_isOn_35 : decode cX12_isOn 35 = .ok (.ifCond .eq 7, 3) := by decide +kernel
theorem dX12_isOn_38 : decode cX12_isOn 38 = .ok (.iconst 1, 1) := by decide +kernel
theorem dX12_isOn_39 : decode cX12_isOn 39 = .ok (.goto 4, 3) := by decide +kernel
theorem dX12_isOn_42 : decode cX12_isOn 42 = .ok (.iconst 0, 1) := by decide +kernel
theorem dX12_isOn_43 : decode cX12_isOn 43 = .ok (.ireturn, 1) := by decide +kernel
def rm_X12_isOn : Room := { frames := 1, cells := 0, slots := 0, locals := 22 }
set_option maxRecDepth 100000 in
set_option maxHeartbeats 4000000 in
theorem c_X12_isOn (l : Launch) (E : zE) (hV : zV E) (H0 : Heap) (hT0 : HT E H0) (h0 : Nat) (kh0 : eK E h0 = 13) (p0 : Int32) (p1 : Int32) (fa : Nat) (kfa : eK E fa = 61) (s_fa : sl H0 h0 (zix E 13 12) = some (.ref fa)) (bk : Int32) (s_bk : sl H0 h0 (zix E 13 26) = some (.int bk)) (fv : Int32) (s_fv : sl H0 fa bk.toNatClampNeg = some (.int fv)) : Met l yX12_isOn (zws yX12_isOn cX12_isOn 3 (some .boolean)) rm_X12_isOn (zP E H0 [.ref h0, .int p0, .int p1]) (zPI (fun r => 0 ≤ r.toInt ∧ r.toInt ≤ 1 ∧ (r.toInt = 0 ∨ (0 ≤ p0.toInt ∧ p0.toInt ≤ fv.toInt - 1 ∧ 0 ≤ p1.toInt ∧ p1.toInt ≤ 5)))) 0 0 (fun _ => False) := by
  refine zEnt (by decide) (Nat.le_of_ble_eq_true rfl) (fun p e s m args below meth c ls Q B hr hlk hh hQ hl => ?_)
  have hx := B.1
  have hb := B.2.1
  have hl : lv_has ls 3 [(0, .ref h0), (1, .int p0), (2, .int p1)] := hl
  have bd_bk := HT.bdI hT0 kh0 rfl (j := 26) (by decide) rfl s_bk
  have bd_fv := HT.bdE (i := bk) (N := 2) hT0 kfa rfl rfl rfl (by omega) (by omega) rfl s_fv
  refine lv_iload_n hx hb dX12_isOn_0 rfl (lv_at hl 1 rfl) ?_
  refine lv_iconst (v := 0) hx hb dX12_isOn_1 (by decide) ?_
  refine lv_aload_n hx hb dX12_isOn_2 rfl (lv_at hl 0 rfl) ?_
  refine g_get B fl_RX12_24 hT0 kh0 rfl rfl rfl dX12_isOn_3 s_fa ?_
  refine lv_aload_n hx hb dX12_isOn_6 rfl (lv_at hl 0 rfl) ?_
  refine g_get B fl_RX12_217 hT0 kh0 rfl rfl rfl dX12_isOn_7 s_bk ?_
  refine g_iald (i := bk) (N := 2) B hT0 kfa rfl rfl rfl rfl (by omega) (by omega) s_fv dX12_isOn_10 ?_
  refine lv_iconst (v := 1) hx hb dX12_isOn_11 (by decide) ?_
  refine lv_isub hx hb dX12_isOn_12 ?_
  refine lv_topi (fun x_1 e_1 => ?_)
  have t_1 := z_sub e_1 rfl kl_1 (by omega) (by omega)
  refine zkPI (zrS (rest := []) B (c_X12_isIn l E hV H0 hT0 p0 0 x_1) cs_RX12_260 rfl hl.1 rfl (Nat.le_of_ble_eq_true rfl) dX12_isOn_13 rfl rfl ⟨rfl, rfl⟩ ⟨Nat.zero_le _, Nat.zero_le _⟩ (zO.rf hh)) (fun x_2 hp_2 => ?_)
  obtain ⟨hp_2_1, hp_2_2, hp_2_3⟩ := hp_2
  have := kl_0
  refine lv_if_eq (tgt := 42) hx hb dX12_isOn_16 (by decide) (fun c_3 => ?_) (fun c_3 => ?_)
  · have f_3 := z_eq c_3 rfl kl_0
    refine lv_iconst (v := 0) hx hb dX12_isOn_42 (by decide) ?_
    have := kl_0
    have := kl_0
    exact rtPI (v := 0) B hr hlk hh hQ rfl ⟨by omega, by omega, by omega⟩ dX12_isOn_43
  · have f_3 := z_ne c_3 rfl kl_0
    refine lv_iload_n hx hb dX12_isOn_19 rfl (lv_at hl 2 rfl) ?_
    refine lv_iconst (v := 0) hx hb dX12_isOn_20 (by decide) ?_
    refine lv_aload_n hx hb dX12_isOn_21 rfl (lv_at hl 0 rfl) ?_
    refine g_getR B fl_RX12_27 hT0 kh0 rfl rfl rfl rfl rfl dX12_isOn_22 (fun q_4 s_4 k_q_4 => ?_)
    refine lv_aload_n hx hb dX12_isOn_25 rfl (lv_at hl 0 rfl) ?_
    refine g_get B fl_RX12_217 hT0 kh0 rfl rfl rfl dX12_isOn_26 s_bk ?_
    refine g_ialdI (i := bk) (N := 2) B hT0 k_q_4 rfl rfl rfl rfl (by omega) (by omega) rfl dX12_isOn_29 (fun x_5 s_5 a_5 b_5 => ?_)
    refine lv_iconst (v := 1) hx hb dX12_isOn_30 (by decide) ?_
    refine lv_isub hx hb dX12_isOn_31 ?_
    refine lv_topi (fun x_6 e_6 => ?_)
    have t_6 := z_sub e_6 rfl kl_1 (by omega) (by omega)
    refine zkPI (zrS (rest := []) B (c_X12_isIn l E hV H0 hT0 p1 0 x_6) cs_RX12_260 rfl hl.1 rfl (Nat.le_of_ble_eq_true rfl) dX12_isOn_32 rfl rfl ⟨rfl, rfl⟩ ⟨Nat.zero_le _, Nat.zero_le _⟩ (zO.rf hh)) (fun x_7 hp_7 => ?_)
    obtain ⟨hp_7_1, hp_7_2, hp_7_3⟩ := hp_7
    have := kl_0
    refine lv_if_eq (tgt := 42) hx hb dX12_isOn_35 (by decide) (fun c_8 => ?_) (fun c_8 => ?_)
    · have f_8 := z_eq c_8 rfl kl_0
      refine lv_iconst (v := 0) hx hb dX12_isOn_42 (by decide) ?_
      have := kl_0
      have := kl_0
      exact rtPI (v := 0) B hr hlk hh hQ rfl ⟨by omega, by omega, by omega⟩ dX12_isOn_43
    · have f_8 := z_ne c_8 rfl kl_0
      refine lv_iconst (v := 1) hx hb dX12_isOn_38 (by decide) ?_
      refine lv_goto (tgt := 43) hx hb dX12_isOn_39 (by decide) ?_
      have := kl_1
      have := kl_1
      exact rtPI (v := 1) B hr hlk hh hQ rfl ⟨by omega, by omega, by omega⟩ dX12_isOn_43

theorem dX12_byWay_0 : decode cX12_byWay 0 = .ok (.iconst 0, 1) := by decide +kernel
theorem dX12_byWay_1 : decode cX12_byWay 1 = .ok (.istore 6, 2) := by decide +kernel
theorem dX12_byWay_3 : decode cX12_byWay 3 = .ok (.aload_n 0, 1) := by decide +kernel
theorem dX12_byWay_4 : decode cX12_byWay 4 = .ok (.iload_n 1, 1) := by decide +kernel
theorem dX12_byWay_5 : decode cX12_byWay 5 = .ok (.iload_n 2, 1) := by decide +kernel
theorem dX12_byWay_6 : decode cX12_byWay 6 = .ok (.invokevirtual 257, 3) := by decide +kernel
theorem dX12_byWay_9 : decode cX12_byWay 9 = .ok (.iconst 1, 1) := by decide +kernel
theorem dX12_byWay_10 : decode cX12_byWay 10 = .ok (.iand, 1) := by decide +kernel
theorem dX12_byWay_11 : decode cX12_byWay 11 = .ok (.istore 7, 2) := by decide +kernel
theorem dX12_byWay_13 : decode cX12_byWay 13 = .ok (.iload_n 2, 1) := by decide +kernel
theorem dX12_byWay_14 : decode cX12_byWay 14 = .ok (.aload_n 0, 1) := by decide +kernel
theorem dX12_byWay_15 : decode cX12_byWay 15 = .ok (.getfield 24, 3) := by decide +kernel
theorem dX12_byWay_18 : decode cX12_byWay 18 = .ok (.aload_n 0, 1) := by decide +kernel
theorem dX12_byWay_19 : decode cX12_byWay 19 = .ok (.getfield 217, 3) := by decide +kernel
theorem dX12_byWay_22 : decode cX12_byWay 22 = .ok (.iaload, 1) := by decide +kernel
theorem dX12_byWay_23 : decode cX12_byWay 23 = .ok (.irem, 1) := by decide +kernel
theorem dX12_byWay_24 : decode cX12_byWay 24 = .ok (.iload_n 3, 1) := by decide +kernel
theorem dX12_byWay_25 : decode cX12_byWay 25 = .ok (.iadd, 1) := by decide +kernel
theorem dX12_byWay_26 : decode cX12_byWay 26 = .ok (.istore 8, 2) := by decide +kernel
theorem dX12_byWay_28 : decode cX12_byWay 28 = .ok (.iload_n 2, 1) := by decide +kernel
theorem dX12_byWay_29 : decode cX12_byWay 29 = .ok (.aload_n 0, 1) := by decide +kernel
theorem dX12_byWay_30 : decode cX12_byWay 30 = .ok (.getfield 24, 3) := by decide +kernel
theorem dX12_byWay_33 : decode cX12_byWay 33 = .ok (.aload_n 0, 1) := by decide +kernel
theorem dX12_byWay_34 : decode cX12_byWay 34 = .ok (.getfield 217, 3) := by decide +kernel
theorem dX12_byWay_37 : decode cX12_byWay 37 = .ok (.iaload, 1) := by decide +kernel
theorem dX12_byWay_38 : decode cX12_byWay 38 = .ok (.idiv, 1) := by decide +kernel
theorem dX12_byWay_39 : decode cX12_byWay 39 = .ok (.iload 4, 2) := by decide +kernel
theorem dX12_byWay_41 : decode cX12_byWay 41 = .ok (.iadd, 1) := by decide +kernel
theorem dX12_byWay_42 : decode cX12_byWay 42 = .ok (.istore 9, 2) := by decide +kernel
theorem dX12_byWay_44 : decode cX12_byWay 44 = .ok (.aload_n 0, 1) := by decide +kernel
theorem dX12_byWay_45 : decode cX12_byWay 45 = .ok (.iload 8, 2) := by decide +kernel
theorem dX12_byWay_47 : decode cX12_byWay 47 = .ok (.iload 9, 2) := by decide +kernel
theorem dX12_byWay_49 : decode cX12_byWay 49 = .ok (.invokevirtual 264, 3) := by decide +kernel
theorem dX12_byWay_52 : decode cX12_byWay 52 = .ok (.ifCond .eq 90, 3) := by decide +kernel
theorem dX12_byWay_55 : decode cX12_byWay 55 = .ok (.aload_n 0, 1) := by decide +kernel
theorem dX12_byWay_56 : decode cX12_byWay 56 = .ok (.iload_n 1, 1) := by decide +kernel
theorem dX12_byWay_57 : decode cX12_byWay 57 = .ok (.iload 8, 2) := by decide +kernel
theorem dX12_byWay_59 : decode cX12_byWay 59 = .ok (.aload_n 0, 1) := by decide +kernel
theorem dX12_byWay_60 : decode cX12_byWay 60 = .ok (.getfield 24, 3) := by decide +kernel
theorem dX12_byWay_63 : decode cX12_byWay 63 = .ok (.aload_n 0, 1) := by decide +kernel
theorem dX12_byWay_64 : decode cX12_byWay 64 = .ok (.getfield 217, 3) := by decide +kernel
theorem dX12_byWay_67 : decode cX12_byWay 67 = .ok (.iaload, 1) := by decide +kernel
theorem dX12_byWay_68 : decode cX12_byWay 68 = .ok (.iload 9, 2) := by decide +kernel
theorem dX12_byWay_70 : decode cX12_byWay 70 = .ok (.imul, 1) := by decide +kernel
theorem dX12_byWay_71 : decode cX12_byWay 71 = .ok (.iadd, 1) := by decide +kernel
theorem dX12_byWay_72 : decode cX12_byWay 72 = .ok (.invokevirtual 257, 3) := by decide +kernel
theorem dX12_byWay_75 : decode cX12_byWay 75 = .ok (.istore 10, 2) := by decide +kernel
theorem dX12_byWay_77 : decode cX12_byWay 77 = .ok (.iload 10, 2) := by decide +kernel
theorem dX12_byWay_79 : decode cX12_byWay 79 = .ok (.ifCond .lt 12, 3) := by decide +kernel
theorem dX12_byWay_82 : decode cX12_byWay 82 = .ok (.iload 10, 2) := by decide +kernel
theorem dX12_byWay_84 : decode cX12_byWay 84 = .ok (.iconst 1, 1) := by decide +kernel
theorem dX12_byWay_85 : decode cX12_byWay 85 = .ok (.iand, 1) := by decide +kernel
theorem dX12_byWay_86 : decode cX12_byWay 86 = .ok (.iload 7, 2) := by decide +kernel
theorem dX12_byWay_88 : decode cX12_byWay 88 = .ok (.if_icmp .eq 25, 3) := by decide +kernel
theorem dX12_byWay_91 : decode cX12_byWay 91 = .ok (.iload 6, 2) := by decide +kernel
theorem dX12_byWay_93 : decode cX12_byWay 93 = .ok (.iconst 1, 1) := by decide +kernel
theorem dX12_byWay_94 : decode cX12_byWay 94 = .ok (.iload 8, 2) := by decide +kernel
theorem dX12_byWay_96 : decode cX12_byWay 96 = .ok (.aload_n 0, 1) := by decide +kernel
theorem dX12_byWay_97 : decode cX12_byWay 97 = .ok (.getfield 24, 3) := by decide +kernel
theorem dX12_byWay_100 : decode cX12_byWay 100 = .ok (.aload_n 0, 1) := by decide +kernel
theorem dX12_byWay_101 : decode cX12_byWay 101 = .ok (.getfield 217, 3) := by decide +kernel
theorem dX12_byWay_104 : decode cX12_byWay 104 = .ok (.iaload, 1) := by decide +kernel
theorem dX12_byWay_105 : decode cX12_byWay 105 = .ok (.iload 9, 2) := by decide +kernel
theorem dX12_byWay_107 : decode cX12_byWay 107 = .ok (.imul, 1) := by decide +kernel
theorem dX12_byWay_108 : decode cX12_byWay 108 = .ok (.iadd, 1) := by decide +kernel
theorem dX12_byWay_109 : decode cX12_byWay 109 = .ok (.ishl, 1) := by decide +kernel
theorem dX12_byWay_110 : decode cX12_byWay 110 = .ok (.ior, 1) := by decide +kernel
theorem dX12_byWay_111 : decode cX12_byWay 111 = .ok (.istore 6, 2) := by decide +kernel
theorem dX12_byWay_113 : decode cX12_byWay 113 = .ok (.iload 10, 2) := by decide +kernel
theorem dX12_byWay_115 : decode cX12_byWay 115 = .ok (.ifCond .ge 8, 3) := by decide +kernel
theorem dX12_byWay_118 : decode cX12_byWay 118 = .ok (.iload 5, 2) := by decide +kernel
theorem dX12_byWay_120 : decode cX12_byWay 120 = .ok (.ifCond .ne 6, 3) := by decide +kernel
theorem dX12_byWay_123 : decode cX12_byWay 123 = .ok (.iload 6, 2) := by decide +kernel
theorem dX12_byWay_125 : decode cX12_byWay 125 = .ok (.ireturn, 1) := by decide +kernel
theorem dX12_byWay_126 : decode cX12_byWay 126 = .ok (.iload 8, 2) := by decide +kernel
theorem dX12_byWay_128 : decode cX12_byWay 128 = .ok (.iload_n 3, 1) := by decide +kernel
theorem dX12_byWay_129 : decode cX12_byWay 129 = .ok (.iadd, 1) := by decide +kernel
theorem dX12_byWay_130 : decode cX12_byWay 130 = .ok (.istore 8, 2) := by decide +kernel
theorem dX12_byWay_132 : decode cX12_byWay 132 = .ok (.iload 9, 2) := by decide +kernel
theorem dX12_byWay_134 : decode cX12_byWay 134 = .ok (.iload 4, 2) := by decide +kernel
theorem dX12_byWay_136 : decode cX12_byWay 136 = .ok (.iadd, 1) := by decide +kernel
theorem dX12_byWay_137 : decode cX12_byWay 137 = .ok (.istore 9, 2) := by decide +kernel
theorem dX12_byWay_139 : decode cX12_byWay 139 = .ok (.goto (-95), 3) := by decide +kernel
theorem dX12_byWay_142 : decode cX12_byWay 142 = .ok (.iload 6, 2) := by decide +kernel
theorem dX12_byWay_144 : decode cX12_byWay 144 = .ok (.ireturn, 1) := by decide +kernel
def rm_X12_byWay : Room := { frames := 2, cells := 0, slots := 0, locals := 44 }
set_option maxRecDepth 100000 in
set_option maxHeartbeats 4000000 in
theorem c_X12_byWay (l : Launch) (E : zE) (hV : zV E) (H0 : Heap) (hT0 : HT E H0) (h0 : Nat) (kh0 : eK E h0 = 13) (p0 : Int32) (p0_lo : 0 ≤ p0.toInt) (p0_hi : p0.toInt ≤ 195) (p1 : Int32) (p1_lo : 0 ≤ p1.toInt) (p1_hi : p1.toInt ≤ 29) (p2 : Int32) (p2_lo : (-4) ≤ p2.toInt) (p2_hi : p2.toInt ≤ 4) (p3 : Int32) (p3_lo : (-4) ≤ p3.toInt) (p3_hi : p3.toInt ≤ 4) (p4 : Int32) (p4_lo : 0 ≤ p4.toInt) (p4_hi : p4.toInt ≤ 1) (fa : Nat) (kfa : eK E fa = 61) (s_fa : sl H0 h0 (zix E 13 12) = some (.ref fa)) (bk : Int32) (s_bk : sl H0 h0 (zix E 13 26) = some (.int bk)) (fv : Int32) (s_fv : sl H0 fa bk.toNatClampNeg = some (.int fv)) (fv_lo : 1 ≤ fv.toInt) (fv_hi : fv.toInt ≤ 5) (pl : Nat) (kpl : eK E pl = 60) (s_pl : sl H0 h0 (zix E 13 2) = some (.ref pl)) (pr_0 : zOw H0 pl p0 p1) : Met l yX12_byWay (zws yX12_byWay cX12_byWay 11 (some .int)) rm_X12_byWay (zP E H0 [.ref h0, .int p0, .int p1, .int p2, .int p3, .int p4]) (zPI (fun r => 0 ≤ r.toInt ∧ r.toInt ≤ 1073741823)) 0 0 (fun _ => False) := by
  refine zEnt (by decide) (Nat.le_of_ble_eq_true rfl) (fun p e s m args below meth c ls Q B hr hlk hh hQ hl => ?_)
  have hx := B.1
  have hb := B.2.1
  have hl : lv_has ls 11 [(0, .ref h0), (1, .int p0), (2, .int p1), (3, .int p2), (4, .int p3), (5, .int p4)] := hl
  have bd_bk := HT.bdI hT0 kh0 rfl (j := 26) (by decide) rfl s_bk
  have b44 : ∀ (n44 : Nat) (ls : Array Slot) (v44_6 : Int32) (v44_7 : Int32) (v44_8 : Int32) (v44_9 : Int32), ((p2.toInt > 0 → 5 - v44_8.toInt < (n44 : Int)) ∧ (p2.toInt < 0 → v44_8.toInt + 1 < (n44 : Int)) ∧ (p2.toInt = 0 → p3.toInt > 0 → 6 - v44_9.toInt < (n44 : Int)) ∧ (p2.toInt = 0 → p3.toInt < 0 → v44_9.toInt + 1 < (n44 : Int)) ∧ 0 < (n44 : Int)) → lv_has ls 11 [(0, .ref h0), (1, .int p0), (3, .int p2), (4, .int p3), (5, .int p4), (6, .int v44_6), (7, .int v44_7), (8, .int v44_8), (9, .int v44_9)] → 0 ≤ v44_6.toInt → v44_6.toInt ≤ 1073741823 → 0 ≤ v44_7.toInt → v44_7.toInt ≤ 1 → (-4) ≤ v44_8.toInt → v44_8.toInt ≤ 8 → (-4) ≤ v44_9.toInt → v44_9.toInt ≤ 33 → sl H0 h0 (zix E 13 12) = some (.ref fa) → sl H0 h0 (zix E 13 26) = some (.int bk) → sl H0 fa bk.toNatClampNeg = some (.int fv) → sl H0 h0 (zix E 13 2) = some (.ref pl) → p2.toInt ≠ 0 ∨ p3.toInt ≠ 0 ∨ v44_8.toInt + fv.toInt * v44_9.toInt = p1.toInt → W p l e rm_X12_byWay s m args below meth c H0 [] 0 0 Q (F0 m 44 ls []) := by
    intro n44
    induction n44 with
    | zero =>
      intro ls v44_6 v44_7 v44_8 v44_9 hm44 hl f44_1 f44_2 f44_3 f44_4 f44_5 f44_6 f44_7 f44_8 s44_u44_h0_12 s44_u44_h0_26 s44_u44_fa_ebk s44_u44_h0_2 f44_9
      exact False.elim (by omega)
    | succ n44 ih44 =>
      intro ls v44_6 v44_7 v44_8 v44_9 hm44 hl f44_1 f44_2 f44_3 f44_4 f44_5 f44_6 f44_7 f44_8 s44_u44_h0_12 s44_u44_h0_26 s44_u44_fa_ebk s44_u44_h0_2 f44_9
      have b113 : ∀ (ls : Array Slot) (v113_6 : Int32) (v113_10 : Int32), lv_has ls 11 [(0, .ref h0), (1, .int p0), (3, .int p2), (4, .int p3), (5, .int p4), (6, .int v113_6), (7, .int v44_7), (8, .int v44_8), (9, .int v44_9), (10, .int v113_10)] → 0 ≤ v113_6.toInt → v113_6.toInt ≤ 1073741823 → 0 ≤ v44_8.toInt → v44_8.toInt ≤ 4 → 0 ≤ v44_9.toInt → v44_9.toInt ≤ 5 → (-1) ≤ v113_10.toInt → v113_10.toInt ≤ 11 → sl H0 h0 (zix E 13 12) = some (.ref fa) → sl H0 h0 (zix E 13 26) = some (.int bk) → sl H0 fa bk.toNatClampNeg = some (.int fv) → sl H0 h0 (zix E 13 2) = some (.ref pl) → p2.toInt ≠ 0 ∨ p3.toInt ≠ 0 ∨ 0 ≤ v113_10.toInt → W p l e rm_X12_byWay s m args below meth c H0 [] 0 0 Q (F0 m 113 ls []) := by
        intro ls v113_6 v113_10 hl f113_1 f113_2 f113_3 f113_4 f113_5 f113_6 f113_7 f113_8 s113_u113_h0_12 s113_u113_h0_26 s113_u113_fa_ebk s113_u113_h0_2 f113_9
        refine lv_iload hx hb dX12_byWay_113 (lv_at hl 9 rfl) ?_
        refine lv_if_ge (tgt := 123) hx hb dX12_byWay_115 (by decide) (fun c_1 => ?_) (fun c_1 => ?_)
        · have f_1 := z_le c_1 kl_0 rfl
          refine lv_iload hx hb dX12_byWay_123 (lv_at hl 5 rfl) ?_
          exact rtPI (v := v113_6) B hr hlk hh hQ rfl ⟨by omega, by omega⟩ dX12_byWay_125
        · have f_1 := z_nle c_1 kl_0 rfl
          refine lv_iload hx hb dX12_byWay_118 (lv_at hl 4 rfl) ?_
          refine lv_if_ne (tgt := 126) hx hb dX12_byWay_120 (by decide) (fun c_2 => ?_) (fun c_2 => ?_)
          · have f_2 := z_ne c_2 rfl kl_0
            refine lv_iload hx hb dX12_byWay_126 (lv_at hl 7 rfl) ?_
            refine lv_iload_n hx hb dX12_byWay_128 rfl (lv_at hl 2 rfl) ?_
            refine lv_iadd hx hb dX12_byWay_129 ?_
            refine lv_topi (fun x_3 e_3 => ?_)
            have t_3 := z_add e_3 rfl rfl (by omega) (by omega)
            refine lv_istore (lv' := [(8, .int x_3), (0, .ref h0), (1, .int p0), (3, .int p2), (4, .int p3), (5, .int p4), (6, .int v113_6), (7, .int v44_7), (9, .int v44_9), (10, .int v113_10)]) hx hb dX12_byWay_130 hl (by decide) rfl (fun ls hl => ?_)
            refine lv_iload hx hb dX12_byWay_132 (lv_at hl 8 rfl) ?_
            refine lv_iload hx hb dX12_byWay_134 (lv_at hl 4 rfl) ?_
            refine lv_iadd hx hb dX12_byWay_136 ?_
            refine lv_topi (fun x_4 e_4 => ?_)
            have t_4 := z_add e_4 rfl rfl (by omega) (by omega)
            refine lv_istore (lv' := [(9, .int x_4), (8, .int x_3), (0, .ref h0), (1, .int p0), (3, .int p2), (4, .int p3), (5, .int p4), (6, .int v113_6), (7, .int v44_7), (10, .int v113_10)]) hx hb dX12_byWay_137 hl (by decide) rfl (fun ls hl => ?_)
            refine lv_goto (tgt := 44) hx hb dX12_byWay_139 (by decide) ?_
            exact ih44 ls v113_6 v44_7 x_3 x_4 (by omega) (lv_sub hl [2, 3, 4, 5, 6, 7, 8, 1, 0] rfl) (by omega) (by omega) (by omega) (by omega) (by omega) (by omega) (by omega) (by omega) s113_u113_h0_12 s113_u113_h0_26 s113_u113_fa_ebk s113_u113_h0_2 (by omega)
          · have f_2 := z_eq c_2 rfl kl_0
            refine lv_iload hx hb dX12_byWay_123 (lv_at hl 5 rfl) ?_
            exact rtPI (v := v113_6) B hr hlk hh hQ rfl ⟨by omega, by omega⟩ dX12_byWay_125
      have b91 : ∀ (ls : Array Slot) (v91_10 : Int32), lv_has ls 11 [(0, .ref h0), (1, .int p0), (3, .int p2), (4, .int p3), (5, .int p4), (6, .int v44_6), (7, .int v44_7), (8, .int v44_8), (9, .int v44_9), (10, .int v91_10)] → 0 ≤ v44_8.toInt → v44_8.toInt ≤ 4 → 0 ≤ v44_9.toInt → v44_9.toInt ≤ 5 → (-1) ≤ v91_10.toInt → v91_10.toInt ≤ 11 → sl H0 h0 (zix E 13 12) = some (.ref fa) → sl H0 h0 (zix E 13 26) = some (.int bk) → sl H0 fa bk.toNatClampNeg = some (.int fv) → sl H0 h0 (zix E 13 2) = some (.ref pl) → p2.toInt ≠ 0 ∨ p3.toInt ≠ 0 ∨ 0 ≤ v91_10.toInt → W p l e rm_X12_byWay s m args below meth c H0 [] 0 0 Q (F0 m 91 ls []) := by
        intro ls v91_10 hl f91_1 f91_2 f91_3 f91_4 f91_5 f91_6 s91_u91_h0_12 s91_u91_h0_26 s91_u91_fa_ebk s91_u91_h0_2 f91_7
        refine lv_iload hx hb dX12_byWay_91 (lv_at hl 5 rfl) ?_
        refine lv_iconst (v := 1) hx hb dX12_byWay_93 (by decide) ?_
        refine lv_iload hx hb dX12_byWay_94 (lv_at hl 7 rfl) ?_
        refine lv_aload_n hx hb dX12_byWay_96 rfl (lv_at hl 0 rfl) ?_
        refine g_get B fl_RX12_24 hT0 kh0 rfl rfl rfl dX12_byWay_97 s91_u91_h0_12 ?_
        refine lv_aload_n hx hb dX12_byWay_100 rfl (lv_at hl 0 rfl) ?_
        refine g_get B fl_RX12_217 hT0 kh0 rfl rfl rfl dX12_byWay_101 s91_u91_h0_26 ?_
        refine g_iald (i := bk) (N := 2) B hT0 kfa rfl rfl rfl rfl (by omega) (by omega) s91_u91_fa_ebk dX12_byWay_104 ?_
        refine lv_iload hx hb dX12_byWay_105 (lv_at hl 8 rfl) ?_
        refine lv_imul hx hb dX12_byWay_107 ?_
        refine lv_topi (fun x_5 e_5 => ?_)
        have m_5 := z_mulB (a := fv.toInt) (b := v44_9.toInt) (A := 5) (B := 5) (by omega) (by omega) (by omega) (by omega)
        have t_5 := z_mul e_5 rfl rfl (by omega) (by omega)
        refine lv_iadd hx hb dX12_byWay_108 ?_
        refine lv_topi (fun x_6 e_6 => ?_)
        have t_6 := z_add e_6 rfl rfl (by omega) (by omega)
        refine lv_ishl hx hb dX12_byWay_109 ?_
        refine lv_topi (fun x_7 e_7 => ?_)
        have t_7 := z_shlV (A := 1) 29 e_7 kl_1 rfl (by omega) (by omega) rfl (by omega) (by omega) (by decide)
        refine lv_ior hx hb dX12_byWay_110 ?_
        refine lv_topi (fun x_8 e_8 => ?_)
        have t_8 := z_or 30 e_8 rfl rfl rfl (by omega) (by omega) (by omega) (by omega)
        refine lv_istore (lv' := [(6, .int x_8), (0, .ref h0), (1, .int p0), (3, .int p2), (4, .int p3), (5, .int p4), (7, .int v44_7), (8, .int v44_8), (9, .int v44_9), (10, .int v91_10)]) hx hb dX12_byWay_111 hl (by decide) rfl (fun ls hl => ?_)
        exact b113 ls x_8 v91_10 (lv_sub hl [1, 2, 3, 4, 5, 0, 6, 7, 8, 9] rfl) (by omega) (by omega) (by omega) (by omega) (by omega) (by omega) (by omega) (by omega) s91_u91_h0_12 s91_u91_h0_26 s91_u91_fa_ebk s91_u91_h0_2 (by omega)
      refine lv_aload_n hx hb dX12_byWay_44 rfl (lv_at hl 0 rfl) ?_
      refine lv_iload hx hb dX12_byWay_45 (lv_at hl 7 rfl) ?_
      refine lv_iload hx hb dX12_byWay_47 (lv_at hl 8 rfl) ?_
      refine zkPI (zrV (rest := []) B (c_X12_isOn l E hV H0 hT0 h0 kh0 v44_8 v44_9 fa kfa s44_u44_h0_12 bk s44_u44_h0_26 fv s44_u44_fa_ebk) cl_RX12_264 hT0 kh0 rfl rfl rfl rfl hl.1 rfl (Nat.le_of_ble_eq_true rfl) dX12_byWay_49 rfl rfl ⟨rfl, rfl⟩ ⟨Nat.zero_le _, Nat.zero_le _⟩ (zO.rf hh)) (fun x_9 hp_9 => ?_)
      obtain ⟨hp_9_1, hp_9_2, hp_9_3⟩ := hp_9
      refine lv_if_eq (tgt := 142) hx hb dX12_byWay_52 (by decide) (fun c_10 => ?_) (fun c_10 => ?_)
      · have f_10 := z_eq c_10 rfl kl_0
        refine lv_iload hx hb dX12_byWay_142 (lv_at hl 5 rfl) ?_
        exact rtPI (v := v44_6) B hr hlk hh hQ rfl ⟨by omega, by omega⟩ dX12_byWay_144
      · have f_10 := z_ne c_10 rfl kl_0
        refine lv_aload_n hx hb dX12_byWay_55 rfl (lv_at hl 0 rfl) ?_
        refine lv_iload_n hx hb dX12_byWay_56 rfl (lv_at hl 1 rfl) ?_
        refine lv_iload hx hb dX12_byWay_57 (lv_at hl 7 rfl) ?_
        refine lv_aload_n hx hb dX12_byWay_59 rfl (lv_at hl 0 rfl) ?_
        refine g_get B fl_RX12_24 hT0 kh0 rfl rfl rfl dX12_byWay_60 s44_u44_h0_12 ?_
        refine lv_aload_n hx hb dX12_byWay_63 rfl (lv_at hl 0 rfl) ?_
        refine g_get B fl_RX12_217 hT0 kh0 rfl rfl rfl dX12_byWay_64 s44_u44_h0_26 ?_
        refine g_iald (i := bk) (N := 2) B hT0 kfa rfl rfl rfl rfl (by omega) (by omega) s44_u44_fa_ebk dX12_byWay_67 ?_
        refine lv_iload hx hb dX12_byWay_68 (lv_at hl 8 rfl) ?_
        refine lv_imul hx hb dX12_byWay_70 ?_
        refine lv_topi (fun x_11 e_11 => ?_)
        have m_11 := z_mulB (a := fv.toInt) (b := v44_9.toInt) (A := 5) (B := 5) (by omega) (by omega) (by omega) (by omega)
        have t_11 := z_mul e_11 rfl rfl (by omega) (by omega)
        refine lv_iadd hx hb dX12_byWay_71 ?_
        refine lv_topi (fun x_12 e_12 => ?_)
        have t_12 := z_add e_12 rfl rfl (by omega) (by omega)
        refine zkPI (zrV (rest := []) B (c_X12_of l E hV H0 hT0 h0 kh0 p0 (by omega) (by omega) x_12 (by omega) (by omega) pl kpl s44_u44_h0_2) cl_RX12_257 hT0 kh0 rfl rfl rfl rfl hl.1 rfl (Nat.le_of_ble_eq_true rfl) dX12_byWay_72 rfl rfl ⟨rfl, rfl⟩ ⟨Nat.zero_le _, Nat.zero_le _⟩ (zO.rf hh)) (fun x_13 hp_13 => ?_)
        obtain ⟨hp_13_1, hp_13_2⟩ := hp_13
        have hz_13 := z_own pr_0 hp_13_2 (A := p2.toInt ≠ 0) (B := p3.toInt ≠ 0) (by omega)
        refine lv_istore (lv' := [(10, .int x_13), (0, .ref h0), (1, .int p0), (3, .int p2), (4, .int p3), (5, .int p4), (6, .int v44_6), (7, .int v44_7), (8, .int v44_8), (9, .int v44_9)]) hx hb dX12_byWay_75 hl (by decide) rfl (fun ls hl => ?_)
        refine lv_iload hx hb dX12_byWay_77 (lv_at hl 0 rfl) ?_
        refine lv_if_lt (tgt := 91) hx hb dX12_byWay_79 (by decide) (fun c_14 => ?_) (fun c_14 => ?_)
        · have f_14 := z_lt c_14 rfl kl_0
          exact b91 ls x_13 (lv_sub hl [1, 2, 3, 4, 5, 6, 7, 8, 9, 0] rfl) (by omega) (by omega) (by omega) (by omega) (by omega) (by omega) s44_u44_h0_12 s44_u44_h0_26 s44_u44_fa_ebk s44_u44_h0_2 (by omega)
        · have f_14 := z_nlt c_14 rfl kl_0
          refine lv_iload hx hb dX12_byWay_82 (lv_at hl 0 rfl) ?_
          refine lv_iconst (v := 1) hx hb dX12_byWay_84 (by decide) ?_
          refine lv_iand hx hb dX12_byWay_85 ?_
          refine lv_topi (fun x_15 e_15 => ?_)
          have t_15 := z_andR e_15 kl_1 (by omega)
          refine lv_iload hx hb dX12_byWay_86 (lv_at hl 7 rfl) ?_
          refine lv_icmp_eq (tgt := 113) hx hb dX12_byWay_88 (by decide) (fun c_16 => ?_) (fun c_16 => ?_)
          · have f_16 := z_eq c_16 rfl rfl
            exact b113 ls v44_6 x_13 (lv_sub hl [1, 2, 3, 4, 5, 6, 7, 8, 9, 0] rfl) (by omega) (by omega) (by omega) (by omega) (by omega) (by omega) (by omega) (by omega) s44_u44_h0_12 s44_u44_h0_26 s44_u44_fa_ebk s44_u44_h0_2 (by omega)
          · have f_16 := z_ne c_16 rfl rfl
            exact b91 ls x_13 (lv_sub hl [1, 2, 3, 4, 5, 6, 7, 8, 9, 0] rfl) (by omega) (by omega) (by omega) (by omega) (by omega) (by omega) s44_u44_h0_12 s44_u44_h0_26 s44_u44_fa_ebk s44_u44_h0_2 (by omega)
  refine lv_iconst (v := 0) hx hb dX12_byWay_0 (by decide) ?_
  refine lv_istore (lv' := [(6, .int 0), (0, .ref h0), (1, .int p0), (2, .int p1), (3, .int p2), (4, .int p3), (5, .int p4)]) hx hb dX12_byWay_1 hl (by decide) rfl (fun ls hl => ?_)
  refine lv_aload_n hx hb dX12_byWay_3 rfl (lv_at hl 1 rfl) ?_
  refine lv_iload_n hx hb dX12_byWay_4 rfl (lv_at hl 2 rfl) ?_
  refine lv_iload_n hx hb dX12_byWay_5 rfl (lv_at hl 3 rfl) ?_
  refine zkPI (zrV (rest := []) B (c_X12_of l E hV H0 hT0 h0 kh0 p0 (by omega) (by omega) p1 (by omega) (by omega) pl kpl s_pl) cl_RX12_257 hT0 kh0 rfl rfl rfl rfl hl.1 rfl (Nat.le_of_ble_eq_true rfl) dX12_byWay_6 rfl rfl ⟨rfl, rfl⟩ ⟨Nat.zero_le _, Nat.zero_le _⟩ (zO.rf hh)) (fun x_17 hp_17 => ?_)
  obtain ⟨hp_17_1, hp_17_2⟩ := hp_17
  refine lv_iconst (v := 1) hx hb dX12_byWay_9 (by decide) ?_
  refine lv_iand hx hb dX12_byWay_10 ?_
  refine lv_topi (fun x_18 e_18 => ?_)
  have t_18 := z_andR e_18 kl_1 (by omega)
  refine lv_istore (lv' := [(7, .int x_18), (6, .int 0), (0, .ref h0), (1, .int p0), (2, .int p1), (3, .int p2), (4, .int p3), (5, .int p4)]) hx hb dX12_byWay_11 hl (by decide) rfl (fun ls hl => ?_)
  refine lv_iload_n hx hb dX12_byWay_13 rfl (lv_at hl 4 rfl) ?_
  refine lv_aload_n hx hb dX12_byWay_14 rfl (lv_at hl 2 rfl) ?_
  refine g_get B fl_RX12_24 hT0 kh0 rfl rfl rfl dX12_byWay_15 s_fa ?_
  refine lv_aload_n hx hb dX12_byWay_18 rfl (lv_at hl 2 rfl) ?_
  refine g_get B fl_RX12_217 hT0 kh0 rfl rfl rfl dX12_byWay_19 s_bk ?_
  refine g_iald (i := bk) (N := 2) B hT0 kfa rfl rfl rfl rfl (by omega) (by omega) s_fv dX12_byWay_22 ?_
  refine lv_irem hx hb dX12_byWay_23 (z_ne0 (by omega)) ?_
  refine lv_topi (fun x_19 e_19 => ?_)
  have t_19 := z_rem e_19 rfl rfl (by omega) (by omega)
  refine lv_iload_n hx hb dX12_byWay_24 rfl (lv_at hl 5 rfl) ?_
  refine lv_iadd hx hb dX12_byWay_25 ?_
  refine lv_topi (fun x_20 e_20 => ?_)
  have t_20 := z_add e_20 rfl rfl (by omega) (by omega)
  refine lv_istore (lv' := [(8, .int x_20), (7, .int x_18), (6, .int 0), (0, .ref h0), (1, .int p0), (2, .int p1), (3, .int p2), (4, .int p3), (5, .int p4)]) hx hb dX12_byWay_26 hl (by decide) rfl (fun ls hl => ?_)
  refine lv_iload_n hx hb dX12_byWay_28 rfl (lv_at hl 5 rfl) ?_
  refine lv_aload_n hx hb dX12_byWay_29 rfl (lv_at hl 3 rfl) ?_
  refine g_get B fl_RX12_24 hT0 kh0 rfl rfl rfl dX12_byWay_30 s_fa ?_
  refine lv_aload_n hx hb dX12_byWay_33 rfl (lv_at hl 3 rfl) ?_
  refine g_get B fl_RX12_217 hT0 kh0 rfl rfl rfl dX12_byWay_34 s_bk ?_
  refine g_iald (i := bk) (N := 2) B hT0 kfa rfl rfl rfl rfl (by omega) (by omega) s_fv dX12_byWay_37 ?_
  refine lv_idiv hx hb dX12_byWay_38 (z_ne0 (by omega)) ?_
  refine lv_topi (fun x_21 e_21 => ?_)
  have t_21 := z_div e_21 rfl rfl (by omega) (by omega)
  refine lv_iload hx hb dX12_byWay_39 (lv_at hl 7 rfl) ?_
  refine lv_iadd hx hb dX12_byWay_41 ?_
  refine lv_topi (fun x_22 e_22 => ?_)
  have t_22 := z_add e_22 rfl rfl (by omega) (by omega)
  refine lv_istore (lv' := [(9, .int x_22), (8, .int x_20), (7, .int x_18), (6, .int 0), (0, .ref h0), (1, .int p0), (2, .int p1), (3, .int p2), (4, .int p3), (5, .int p4)]) hx hb dX12_byWay_42 hl (by decide) rfl (fun ls hl => ?_)
  have := kl_0
  exact b44 60 ls 0 x_18 x_20 x_22 (by omega) (lv_sub hl [4, 5, 7, 8, 9, 3, 2, 1, 0] rfl) (by omega) (by omega) (by omega) (by omega) (by omega) (by omega) (by omega) (by omega) s_fa s_bk s_fv s_pl (by by_cases h2 : p2.toInt = 0 <;> by_cases h3 : p3.toInt = 0 <;> first | omega | (have e9 : x_22.toInt = p1.toInt / fv.toInt := (by omega); have e8 : x_20.toInt = p1.toInt % fv.toInt := (by omega); have e := Int.mul_ediv_add_emod p1.toInt fv.toInt; right; right; rw [e8, e9]; omega))

theorem dX12_byForward_0 : decode cX12_byForward 0 = .ok (.iconst 0, 1) := by decide +kernel
theorem dX12_byForward_1 : decode cX12_byForward 1 = .ok (.istore_n 3, 1) := by decide +kernel
theorem dX12_byForward_2 : decode cX12_byForward 2 = .ok (.aload_n 0, 1) := by decide +kernel
theorem dX12_byForward_3 : decode cX12_byForward 3 = .ok (.iload_n 1, 1) := by decide +kernel
theorem dX12_byForward_4 : decode cX12_byForward 4 = .ok (.iload_n 2, 1) := by decide +kernel
theorem dX12_byForward_5 : decode cX12_byForward 5 = .ok (.invokevirtual 257, 3) := by decide +kernel
theorem dX12_byForward_8 : decode cX12_byForward 8 = .ok (.iconst 1, 1) := by decide +kernel
theorem dX12_byForward_9 : decode cX12_byForward 9 = .ok (.iand, 1) := by decide +kernel
theorem dX12_byForward_10 : decode cX12_byForward 10 = .ok (.istore 4, 2) := by decide +kernel
theorem dX12_byForward_12 : decode cX12_byForward 12 = .ok (.iload_n 2, 1) := by decide +kernel
theorem dX12_byForward_13 : decode cX12_byForward 13 = .ok (.aload_n 0, 1) := by decide +kernel
theorem dX12_byForward_14 : decode cX12_byForward 14 = .ok (.getfield 24, 3) := by decide +kernel
theorem dX12_byForward_17 : decode cX12_byForward 17 = .ok (.aload_n 0, 1) := by decide +kernel
theorem dX12_byForward_18 : decode cX12_byForward 18 = .ok (.getfield 217, 3) := by decide +kernel
theorem dX12_byForward_21 : decode cX12_byForward 21 = .ok (.iaload, 1) := by decide +kernel
theorem dX12_byForward_22 : decode cX12_byForward 22 = .ok (.idiv, 1) := by decide +kernel
theorem dX12_byForward_23 : decode cX12_byForward 23 = .ok (.iload 4, 2) := by decide +kernel
theorem dX12_byForward_25 : decode cX12_byForward 25 = .ok (.ifCond .ne 7, 3) := by decide +kernel
theorem dX12_byForward_28 : decode cX12_byForward 28 = .ok (.iconst 1, 1) := by decide +kernel
theorem dX12_byForward_29 : decode cX12_byForward 29 = .ok (.goto 4, 3) := by decide +kernel
theorem dX12_byForward_32 : decode cX12_byForward 32 = .ok (.iconst (-1), 1) := by decide +kernel
theorem dX12_byForward_33 : decode cX12_byForward 33 = .ok (.iadd, 1) := by decide +kernel
theorem dX12_byForward_34 : decode cX12_byForward 34 = .ok (.istore 5, 2) := by decide +kernel
theorem dX12_byForward_36 : decode cX12_byForward 36 = .ok (.iload_n 2, 1) := by decide +kernel
theorem dX12_byForward_37 : decode cX12_byForward 37 = .ok (.aload_n 0, 1) := by decide +kernel
theorem dX12_byForward_38 : decode cX12_byForward 38 = .ok (.getfield 24, 3) := by decide +kernel
theorem dX12_byForward_41 : decode cX12_byForward 41 = .ok (.aload_n 0, 1) := by decide +kernel
theorem dX12_byForward_42 : decode cX12_byForward 42 = .ok (.getfield 217, 3) := by decide +kernel
theorem dX12_byForward_45 : decode cX12_byForward 45 = .ok (.iaload, 1) := by decide +kernel
theorem dX12_byForward_46 : decode cX12_byForward 46 = .ok (.irem, 1) := by decide +kernel
theorem dX12_byForward_47 : decode cX12_byForward 47 = .ok (.iconst 1, 1) := by decide +kernel
theorem dX12_byForward_48 : decode cX12_byForward 48 = .ok (.isub, 1) := by decide +kernel
theorem dX12_byForward_49 : decode cX12_byForward 49 = .ok (.istore 6, 2) := by decide +kernel
theorem dX12_byForward_51 : decode cX12_byForward 51 = .ok (.iload 6, 2) := by decide +kernel
theorem dX12_byForward_53 : decode cX12_byForward 53 = .ok (.iload_n 2, 1) := by decide +kernel
theorem dX12_byForward_54 : decode cX12_byForward 54 = .ok (.aload_n 0, 1) := by decide +kernel
theorem dX12_byForward_55 : decode cX12_byForward 55 = .ok (.getfield 24, 3) := by decide +kernel
theorem dX12_byForward_58 : decode cX12_byForward 58 = .ok (.aload_n 0, 1) := by decide +kernel
theorem dX12_byForward_59 : decode cX12_byForward 59 = .ok (.getfield 217, 3) := by decide +kernel
theorem dX12_byForward_62 : decode cX12_byForward 62 = .ok (.iaload, 1) := by decide +kernel
theorem dX12_byForward_63 : decode cX12_byForward 63 = .ok (.irem, 1) := by decide +kernel
theorem dX12_byForward_64 : decode cX12_byForward 64 = .ok (.iconst 1, 1) := by decide +kernel
theorem dX12_byForward_65 : decode cX12_byForward 65 = .ok (.iadd, 1) := by decide +kernel
theorem dX12_byForward_66 : decode cX12_byForward 66 = .ok (.if_icmp .gt 115, 3) := by decide +kernel
theorem dX12_byForward_69 : decode cX12_byForward 69 = .ok (.aload_n 0, 1) := by decide +kernel
theorem dX12_byForward_70 : decode cX12_byForward 70 = .ok (.iload 6, 2) := by decide +kernel
theorem dX12_byForward_72 : decode cX12_byForward 72 = .ok (.iload 5, 2) := by decide +kernel
theorem dX12_byForward_74 : decode cX12_byForward 74 = .ok (.invokevirtual 264, 3) := by decide +kernel
theorem dX12_byForward_77 : decode cX12_byForward 77 = .ok (.ifCond .ne 6, 3) := by decide +kernel
theorem dX12_byForward_80 : decode cX12_byForward 80 = .ok (.goto 95, 3) := by decide +kernel
theorem dX12_byForward_83 : decode cX12_byForward 83 = .ok (.aload_n 0, 1) := by decide +kernel
theorem dX12_byForward_84 : decode cX12_byForward 84 = .ok (.iload_n 1, 1) := by decide +kernel
theorem dX12_byForward_85 : decode cX12_byForward 85 = .ok (.iload 6, 2) := by decide +kernel
theorem dX12_byForward_87 : decode cX12_byForward 87 = .ok (.aload_n 0, 1) := by decide +kernel
theorem dX12_byForward_88 : decode cX12_byForward 88 = .ok (.getfield 24, 3) := by decide +kernel
theorem dX12_byForward_91 : decode cX12_byForward 91 = .ok (.aload_n 0, 1) := by decide +kernel
theorem dX12_byForward_92 : decode cX12_byForward 92 = .ok (.getfield 217, 3) := by decide +kernel
theorem dX12_byForward_95 : decode cX12_byForward 95 = .ok (.iaload, 1) := by decide +kernel
theorem dX12_byForward_96 : decode cX12_byForward 96 = .ok (.iload 5, 2) := by decide +kernel
theorem dX12_byForward_98 : decode cX12_byForward 98 = .ok (.imul, 1) := by decide +kernel
theorem dX12_byForward_99 : decode cX12_byForward 99 = .ok (.iadd, 1) := by decide +kernel
theorem dX12_byForward_100 : decode cX12_byForward 100 = .ok (.invokevirtual 257, 3) := by decide +kernel
theorem dX12_byForward_103 : decode cX12_byForward 103 = .ok (.istore 7, 2) := by decide +kernel
theorem dX12_byForward_105 : decode cX12_byForward 105 = .ok (.iload 6, 2) := by decide +kernel
theorem dX12_byForward_107 : decode cX12_byForward 107 = .ok (.iload_n 2, 1) := by decide +kernel
theorem dX12_byForward_108 : decode cX12_byForward 108 = .ok (.aload_n 0, 1) := by decide +kernel
theorem dX12_byForward_109 : decode cX12_byForward 109 = .ok (.getfield 24, 3) := by decide +kernel
theorem dX12_byForward_112 : decode cX12_byForward 112 = .ok (.aload_n 0, 1) := by decide +kernel
theorem dX12_byForward_113 : decode cX12_byForward 113 = .ok (.getfield 217, 3) := by decide +kernel
theorem dX12_byForward_116 : decode cX12_byForward 116 = .ok (.iaload, 1) := by decide +kernel
theorem dX12_byForward_117 : decode cX12_byForward 117 = .ok (.irem, 1) := by decide +kernel
theorem dX12_byForward_118 : decode cX12_byForward 118 = .ok (.if_icmp .ne 7, 3) := by decide +kernel
theorem dX12_byForward_121 : decode cX12_byForward 121 = .ok (.iconst 1, 1) := by decide +kernel
theorem dX12_byForward_122 : decode cX12_byForward 122 = .ok (.goto 4, 3) := by decide +kernel
theorem dX12_byForward_125 : decode cX12_byForward 125 = .ok (.iconst 0, 1) := by decide +kernel
theorem dX12_byForward_126 : decode cX12_byForward 126 = .ok (.istore 8, 2) := by decide +kernel
theorem dX12_byForward_128 : decode cX12_byForward 128 = .ok (.iload 8, 2) := by decide +kernel
theorem dX12_byForward_130 : decode cX12_byForward 130 = .ok (.ifCond .eq 11, 3) := by decide +kernel
theorem dX12_byForward_133 : decode cX12_byForward 133 = .ok (.iload 7, 2) := by decide +kernel
theorem dX12_byForward_135 : decode cX12_byForward 135 = .ok (.ifCond .ge 40, 3) := by decide +kernel
theorem dX12_byForward_138 : decode cX12_byForward 138 = .ok (.goto 17, 3) := by decide +kernel
theorem dX12_byForward_141 : decode cX12_byForward 141 = .ok (.iload 7, 2) := by decide +kernel
theorem dX12_byForward_143 : decode cX12_byForward 143 = .ok (.ifCond .lt 32, 3) := by decide +kernel
theorem dX12_byForward_146 : decode cX12_byForward 146 = .ok (.iload 7, 2) := by decide +kernel
theorem dX12_byForward_148 : decode cX12_byForward 148 = .ok (.iconst 1, 1) := by decide +kernel
theorem dX12_byForward_149 : decode cX12_byForward 149 = .ok (.iand, 1) := by decide +kernel
theorem dX12_byForward_150 : decode cX12_byForward 150 = .ok (.iload 4, 2) := by decide +kernel
theorem dX12_byForward_152 : decode cX12_byForward 152 = .ok (.if_icmp .eq 23, 3) := by decide +kernel
theorem dX12_byForward_155 : decode cX12_byForward 155 = .ok (.iload_n 3, 1) := by decide +kernel
theorem dX12_byForward_156 : decode cX12_byForward 156 = .ok (.iconst 1, 1) := by decide +kernel
theorem dX12_byForward_157 : decode cX12_byForward 157 = .ok (.iload 6, 2) := by decide +kernel
theorem dX12_byForward_159 : decode cX12_byForward 159 = .ok (.aload_n 0, 1) := by decide +kernel
theorem dX12_byForward_160 : decode cX12_byForward 160 = .ok (.getfield 24, 3) := by decide +kernel
theorem dX12_byForward_163 : decode cX12_byForward 163 = .ok (.aload_n 0, 1) := by decide +kernel
theorem dX12_byForward_164 : decode cX12_byForward 164 = .ok (.getfield 217, 3) := by decide +kernel
theorem dX12_byForward_167 : decode cX12_byForward 167 = .ok (.iaload, 1) := by decide +kernel
theorem dX12_byForward_168 : decode cX12_byForward 168 = .ok (.iload 5, 2) := by decide +kernel
theorem dX12_byForward_170 : decode cX12_byForward 170 = .ok (.imul, 1) := by decide +kernel
theorem dX12_byForward_171 : decode cX12_byForward 171 = .ok (.iadd, 1) := by decide +kernel
theorem dX12_byForward_172 : decode cX12_byForward 172 = .ok (.ishl, 1) := by decide +kernel
theorem dX12_byForward_173 : decode cX12_byForward 173 = .ok (.ior, 1) := by decide +kernel
theorem dX12_byForward_174 : decode cX12_byForward 174 = .ok (.istore_n 3, 1) := by decide +kernel
theorem dX12_byForward_175 : decode cX12_byForward 175 = .ok (.iinc 6 1, 3) := by decide +kernel
theorem dX12_byForward_178 : decode cX12_byForward 178 = .ok (.goto (-127), 3) := by decide +kernel
theorem dX12_byForward_181 : decode cX12_byForward 181 = .ok (.iload_n 3, 1) := by decide +kernel
theorem dX12_byForward_182 : decode cX12_byForward 182 = .ok (.ireturn, 1) := by decide +kernel
def rm_X12_byForward : Room := { frames := 2, cells := 0, slots := 0, locals := 44 }
set_option maxRecDepth 100000 in
set_option maxHeartbeats 4000000 in
theorem c_X12_byForward (l : Launch) (E : zE) (hV : zV E) (H0 : Heap) (hT0 : HT E H0) (h0 : Nat) (kh0 : eK E h0 = 13) (p0 : Int32) (p0_lo : 0 ≤ p0.toInt) (p0_hi : p0.toInt ≤ 195) (p1 : Int32) (p1_lo : 0 ≤ p1.toInt) (p1_hi : p1.toInt ≤ 29) (fa : Nat) (kfa : eK E fa = 61) (s_fa : sl H0 h0 (zix E 13 12) = some (.ref fa)) (bk : Int32) (s_bk : sl H0 h0 (zix E 13 26) = some (.int bk)) (fv : Int32) (s_fv : sl H0 fa bk.toNatClampNeg = some (.int fv)) (fv_lo : 1 ≤ fv.toInt) (fv_hi : fv.toInt ≤ 5) : Met l yX12_byForward (zws yX12_byForward cX12_byForward 9 (some .int)) rm_X12_byForward (zP E H0 [.ref h0, .int p0, .int p1]) (zPI (fun r => 0 ≤ r.toInt ∧ r.toInt ≤ 1073741823)) 0 0 (fun _ => False) := by
  refine zEnt (by decide) (Nat.le_of_ble_eq_true rfl) (fun p e s m args below meth c ls Q B hr hlk hh hQ hl => ?_)
  have hx := B.1
  have hb := B.2.1
  have hl : lv_has ls 9 [(0, .ref h0), (1, .int p0), (2, .int p1)] := hl
  have bd_bk := HT.bdI hT0 kh0 rfl (j := 26) (by decide) rfl s_bk
  have b51 : ∀ (n51 : Nat) (ls : Array Slot) (v51_3 : Int32) (v51_4 : Int32) (v51_5 : Int32) (v51_6 : Int32), 6 - v51_6.toInt < (n51 : Int) → lv_has ls 9 [(0, .ref h0), (1, .int p0), (2, .int p1), (3, .int v51_3), (4, .int v51_4), (5, .int v51_5), (6, .int v51_6)] → 0 ≤ v51_3.toInt → v51_3.toInt ≤ 1073741823 → 0 ≤ v51_4.toInt → v51_4.toInt ≤ 1 → (-1) ≤ v51_5.toInt → v51_5.toInt ≤ 30 → (-1) ≤ v51_6.toInt → v51_6.toInt ≤ 6 → sl H0 h0 (zix E 13 12) = some (.ref fa) → sl H0 h0 (zix E 13 26) = some (.int bk) → sl H0 fa bk.toNatClampNeg = some (.int fv) → W p l e rm_X12_byForward s m args below meth c H0 [] 0 0 Q (F0 m 51 ls []) := by
    intro n51
    induction n51 with
    | zero =>
      intro ls v51_3 v51_4 v51_5 v51_6 hm51 hl f51_1 f51_2 f51_3 f51_4 f51_5 f51_6 f51_7 f51_8 s51_u51_h0_12 s51_u51_h0_26 s51_u51_fa_ebk
      exact absurd hm51 (by omega)
    | succ n51 ih51 =>
      intro ls v51_3 v51_4 v51_5 v51_6 hm51 hl f51_1 f51_2 f51_3 f51_4 f51_5 f51_6 f51_7 f51_8 s51_u51_h0_12 s51_u51_h0_26 s51_u51_fa_ebk
      have b175 : ∀ (ls : Array Slot) (v175_3 : Int32), lv_has ls 9 [(0, .ref h0), (1, .int p0), (2, .int p1), (3, .int v175_3), (4, .int v51_4), (5, .int v51_5), (6, .int v51_6)] → 0 ≤ v175_3.toInt → v175_3.toInt ≤ 1073741823 → v51_6.toInt ≤ 5 → sl H0 h0 (zix E 13 12) = some (.ref fa) → sl H0 h0 (zix E 13 26) = some (.int bk) → sl H0 fa bk.toNatClampNeg = some (.int fv) → W p l e rm_X12_byForward s m args below meth c H0 [] 0 0 Q (F0 m 175 ls []) := by
        intro ls v175_3 hl f175_1 f175_2 f175_3 s175_u175_h0_12 s175_u175_h0_26 s175_u175_fa_ebk
        obtain ⟨x_1, e_1⟩ : ∃ y : Int32, (v51_6 : Int32) + Int32.ofInt 1 = y := ⟨_, rfl⟩
        refine lv_iinc (v := x_1) (lv' := [(6, .int x_1), (0, .ref h0), (1, .int p0), (2, .int p1), (3, .int v175_3), (4, .int v51_4), (5, .int v51_5)]) hx hb dX12_byForward_175 hl (k := 6) rfl e_1 (by decide) rfl (fun ls hl => ?_)
        have t_1 := z_inc2 e_1 rfl (by decide) (by omega) (by omega)
        refine lv_goto (tgt := 51) hx hb dX12_byForward_178 (by decide) ?_
        exact ih51 ls v175_3 v51_4 v51_5 x_1 (by omega) (lv_sub hl [1, 2, 3, 4, 5, 6, 0] rfl) (by omega) (by omega) (by omega) (by omega) (by omega) (by omega) (by omega) (by omega) s175_u175_h0_12 s175_u175_h0_26 s175_u175_fa_ebk
      have b155 : ∀ (ls : Array Slot), lv_has ls 9 [(0, .ref h0), (1, .int p0), (2, .int p1), (3, .int v51_3), (4, .int v51_4), (5, .int v51_5), (6, .int v51_6)] → 0 ≤ v51_5.toInt → v51_5.toInt ≤ 5 → 0 ≤ v51_6.toInt → v51_6.toInt ≤ 4 → sl H0 h0 (zix E 13 12) = some (.ref fa) → sl H0 h0 (zix E 13 26) = some (.int bk) → sl H0 fa bk.toNatClampNeg = some (.int fv) → W p l e rm_X12_byForward s m args below meth c H0 [] 0 0 Q (F0 m 155 ls []) := by
        intro ls hl f155_1 f155_2 f155_3 f155_4 s155_u155_h0_12 s155_u155_h0_26 s155_u155_fa_ebk
        refine lv_iload_n hx hb dX12_byForward_155 rfl (lv_at hl 3 rfl) ?_
        refine lv_iconst (v := 1) hx hb dX12_byForward_156 (by decide) ?_
        refine lv_iload hx hb dX12_byForward_157 (lv_at hl 6 rfl) ?_
        refine lv_aload_n hx hb dX12_byForward_159 rfl (lv_at hl 0 rfl) ?_
        refine g_get B fl_RX12_24 hT0 kh0 rfl rfl rfl dX12_byForward_160 s155_u155_h0_12 ?_
        refine lv_aload_n hx hb dX12_byForward_163 rfl (lv_at hl 0 rfl) ?_
        refine g_get B fl_RX12_217 hT0 kh0 rfl rfl rfl dX12_byForward_164 s155_u155_h0_26 ?_
        refine g_iald (i := bk) (N := 2) B hT0 kfa rfl rfl rfl rfl (by omega) (by omega) s155_u155_fa_ebk dX12_byForward_167 ?_
        refine lv_iload hx hb dX12_byForward_168 (lv_at hl 5 rfl) ?_
        refine lv_imul hx hb dX12_byForward_170 ?_
        refine lv_topi (fun x_2 e_2 => ?_)
        have m_2 := z_mulB (a := fv.toInt) (b := v51_5.toInt) (A := 5) (B := 5) (by omega) (by omega) (by omega) (by omega)
        have t_2 := z_mul e_2 rfl rfl (by omega) (by omega)
        refine lv_iadd hx hb dX12_byForward_171 ?_
        refine lv_topi (fun x_3 e_3 => ?_)
        have t_3 := z_add e_3 rfl rfl (by omega) (by omega)
        refine lv_ishl hx hb dX12_byForward_172 ?_
        refine lv_topi (fun x_4 e_4 => ?_)
        have t_4 := z_shlV (A := 1) 29 e_4 kl_1 rfl (by omega) (by omega) rfl (by omega) (by omega) (by decide)
        refine lv_ior hx hb dX12_byForward_173 ?_
        refine lv_topi (fun x_5 e_5 => ?_)
        have t_5 := z_or 30 e_5 rfl rfl rfl (by omega) (by omega) (by omega) (by omega)
        refine lv_istore_n (lv' := [(3, .int x_5), (0, .ref h0), (1, .int p0), (2, .int p1), (4, .int v51_4), (5, .int v51_5), (6, .int v51_6)]) hx hb dX12_byForward_174 rfl hl (by decide) rfl (fun ls hl => ?_)
        exact b175 ls x_5 (lv_sub hl [1, 2, 3, 0, 4, 5, 6] rfl) (by omega) (by omega) (by omega) s155_u155_h0_12 s155_u155_h0_26 s155_u155_fa_ebk
      have b126 : ∀ (ls : Array Slot) (v126_7 : Int32) (w126_0 : Int32), lv_has ls 9 [(0, .ref h0), (1, .int p0), (2, .int p1), (3, .int v51_3), (4, .int v51_4), (5, .int v51_5), (6, .int v51_6), (7, .int v126_7)] → 0 ≤ v51_5.toInt → v51_5.toInt ≤ 5 → 0 ≤ v51_6.toInt → v51_6.toInt ≤ 4 → (-1) ≤ v126_7.toInt → v126_7.toInt ≤ 11 → 0 ≤ w126_0.toInt → w126_0.toInt ≤ 1 → sl H0 h0 (zix E 13 12) = some (.ref fa) → sl H0 h0 (zix E 13 26) = some (.int bk) → sl H0 fa bk.toNatClampNeg = some (.int fv) → W p l e rm_X12_byForward s m args below meth c H0 [] 0 0 Q (F0 m 126 ls [.int w126_0]) := by
        intro ls v126_7 w126_0 hl f126_1 f126_2 f126_3 f126_4 f126_5 f126_6 f126_7 f126_8 s126_u126_h0_12 s126_u126_h0_26 s126_u126_fa_ebk
        refine lv_istore (lv' := [(8, .int w126_0), (0, .ref h0), (1, .int p0), (2, .int p1), (3, .int v51_3), (4, .int v51_4), (5, .int v51_5), (6, .int v51_6), (7, .int v126_7)]) hx hb dX12_byForward_126 hl (by decide) rfl (fun ls hl => ?_)
        refine lv_iload hx hb dX12_byForward_128 (lv_at hl 0 rfl) ?_
        refine lv_if_eq (tgt := 141) hx hb dX12_byForward_130 (by decide) (fun c_6 => ?_) (fun c_6 => ?_)
        · have f_6 := z_eq c_6 rfl kl_0
          refine lv_iload hx hb dX12_byForward_141 (lv_at hl 8 rfl) ?_
          refine lv_if_lt (tgt := 175) hx hb dX12_byForward_143 (by decide) (fun c_7 => ?_) (fun c_7 => ?_)
          · have f_7 := z_lt c_7 rfl kl_0
            exact b175 ls v51_3 (lv_sub hl [1, 2, 3, 4, 5, 6, 7] rfl) (by omega) (by omega) (by omega) s126_u126_h0_12 s126_u126_h0_26 s126_u126_fa_ebk
          · have f_7 := z_nlt c_7 rfl kl_0
            refine lv_iload hx hb dX12_byForward_146 (lv_at hl 8 rfl) ?_
            refine lv_iconst (v := 1) hx hb dX12_byForward_148 (by decide) ?_
            refine lv_iand hx hb dX12_byForward_149 ?_
            refine lv_topi (fun x_8 e_8 => ?_)
            have t_8 := z_andR e_8 kl_1 (by omega)
            refine lv_iload hx hb dX12_byForward_150 (lv_at hl 5 rfl) ?_
            refine lv_icmp_eq (tgt := 175) hx hb dX12_byForward_152 (by decide) (fun c_9 => ?_) (fun c_9 => ?_)
            · have f_9 := z_eq c_9 rfl rfl
              exact b175 ls v51_3 (lv_sub hl [1, 2, 3, 4, 5, 6, 7] rfl) (by omega) (by omega) (by omega) s126_u126_h0_12 s126_u126_h0_26 s126_u126_fa_ebk
            · have f_9 := z_ne c_9 rfl rfl
              exact b155 ls (lv_sub hl [1, 2, 3, 4, 5, 6, 7] rfl) (by omega) (by omega) (by omega) (by omega) s126_u126_h0_12 s126_u126_h0_26 s126_u126_fa_ebk
        · have f_6 := z_ne c_6 rfl kl_0
          refine lv_iload hx hb dX12_byForward_133 (lv_at hl 8 rfl) ?_
          refine lv_if_ge (tgt := 175) hx hb dX12_byForward_135 (by decide) (fun c_10 => ?_) (fun c_10 => ?_)
          · have f_10 := z_le c_10 kl_0 rfl
            exact b175 ls v51_3 (lv_sub hl [1, 2, 3, 4, 5, 6, 7] rfl) (by omega) (by omega) (by omega) s126_u126_h0_12 s126_u126_h0_26 s126_u126_fa_ebk
          · have f_10 := z_nle c_10 kl_0 rfl
            refine lv_goto (tgt := 155) hx hb dX12_byForward_138 (by decide) ?_
            exact b155 ls (lv_sub hl [1, 2, 3, 4, 5, 6, 7] rfl) (by omega) (by omega) (by omega) (by omega) s126_u126_h0_12 s126_u126_h0_26 s126_u126_fa_ebk
      refine lv_iload hx hb dX12_byForward_51 (lv_at hl 6 rfl) ?_
      refine lv_iload_n hx hb dX12_byForward_53 rfl (lv_at hl 2 rfl) ?_
      refine lv_aload_n hx hb dX12_byForward_54 rfl (lv_at hl 0 rfl) ?_
      refine g_get B fl_RX12_24 hT0 kh0 rfl rfl rfl dX12_byForward_55 s51_u51_h0_12 ?_
      refine lv_aload_n hx hb dX12_byForward_58 rfl (lv_at hl 0 rfl) ?_
      refine g_get B fl_RX12_217 hT0 kh0 rfl rfl rfl dX12_byForward_59 s51_u51_h0_26 ?_
      refine g_iald (i := bk) (N := 2) B hT0 kfa rfl rfl rfl rfl (by omega) (by omega) s51_u51_fa_ebk dX12_byForward_62 ?_
      refine lv_irem hx hb dX12_byForward_63 (z_ne0 (by omega)) ?_
      refine lv_topi (fun x_11 e_11 => ?_)
      have t_11 := z_rem e_11 rfl rfl (by omega) (by omega)
      refine lv_iconst (v := 1) hx hb dX12_byForward_64 (by decide) ?_
      refine lv_iadd hx hb dX12_byForward_65 ?_
      refine lv_topi (fun x_12 e_12 => ?_)
      have t_12 := z_add e_12 rfl kl_1 (by omega) (by omega)
      refine lv_icmp_gt (tgt := 181) hx hb dX12_byForward_66 (by decide) (fun c_13 => ?_) (fun c_13 => ?_)
      · have f_13 := z_lt c_13 rfl rfl
        refine lv_iload_n hx hb dX12_byForward_181 rfl (lv_at hl 3 rfl) ?_
        exact rtPI (v := v51_3) B hr hlk hh hQ rfl ⟨by omega, by omega⟩ dX12_byForward_182
      · have f_13 := z_nlt c_13 rfl rfl
        refine lv_aload_n hx hb dX12_byForward_69 rfl (lv_at hl 0 rfl) ?_
        refine lv_iload hx hb dX12_byForward_70 (lv_at hl 6 rfl) ?_
        refine lv_iload hx hb dX12_byForward_72 (lv_at hl 5 rfl) ?_
        refine zkPI (zrV (rest := []) B (c_X12_isOn l E hV H0 hT0 h0 kh0 v51_6 v51_5 fa kfa s51_u51_h0_12 bk s51_u51_h0_26 fv s51_u51_fa_ebk) cl_RX12_264 hT0 kh0 rfl rfl rfl rfl hl.1 rfl (Nat.le_of_ble_eq_true rfl) dX12_byForward_74 rfl rfl ⟨rfl, rfl⟩ ⟨Nat.zero_le _, Nat.zero_le _⟩ (zO.rf hh)) (fun x_14 hp_14 => ?_)
        obtain ⟨hp_14_1, hp_14_2, hp_14_3⟩ := hp_14
        refine lv_if_ne (tgt := 83) hx hb dX12_byForward_77 (by decide) (fun c_15 => ?_) (fun c_15 => ?_)
        · have f_15 := z_ne c_15 rfl kl_0
          refine lv_aload_n hx hb dX12_byForward_83 rfl (lv_at hl 0 rfl) ?_
          refine lv_iload_n hx hb dX12_byForward_84 rfl (lv_at hl 1 rfl) ?_
          refine lv_iload hx hb dX12_byForward_85 (lv_at hl 6 rfl) ?_
          refine lv_aload_n hx hb dX12_byForward_87 rfl (lv_at hl 0 rfl) ?_
          refine g_get B fl_RX12_24 hT0 kh0 rfl rfl rfl dX12_byForward_88 s51_u51_h0_12 ?_
          refine lv_aload_n hx hb dX12_byForward_91 rfl (lv_at hl 0 rfl) ?_
          refine g_get B fl_RX12_217 hT0 kh0 rfl rfl rfl dX12_byForward_92 s51_u51_h0_26 ?_
          refine g_iald (i := bk) (N := 2) B hT0 kfa rfl rfl rfl rfl (by omega) (by omega) s51_u51_fa_ebk dX12_byForward_95 ?_
          refine lv_iload hx hb dX12_byForward_96 (lv_at hl 5 rfl) ?_
          refine lv_imul hx hb dX12_byForward_98 ?_
          refine lv_topi (fun x_16 e_16 => ?_)
          have m_16 := z_mulB (a := fv.toInt) (b := v51_5.toInt) (A := 5) (B := 5) (by omega) (by omega) (by omega) (by omega)
          have t_16 := z_mul e_16 rfl rfl (by omega) (by omega)
          refine lv_iadd hx hb dX12_byForward_99 ?_
          refine lv_topi (fun x_17 e_17 => ?_)
          have t_17 := z_add e_17 rfl rfl (by omega) (by omega)
          obtain ⟨q_18, s_18, k_q_18⟩ := HT.atR hT0 kh0 rfl (j := 2) (by decide) rfl
          refine zkPI (zrV (rest := []) B (c_X12_of l E hV H0 hT0 h0 kh0 p0 (by omega) (by omega) x_17 (by omega) (by omega) q_18 k_q_18 s_18) cl_RX12_257 hT0 kh0 rfl rfl rfl rfl hl.1 rfl (Nat.le_of_ble_eq_true rfl) dX12_byForward_100 rfl rfl ⟨rfl, rfl⟩ ⟨Nat.zero_le _, Nat.zero_le _⟩ (zO.rf hh)) (fun x_19 hp_19 => ?_)
          obtain ⟨hp_19_1, hp_19_2⟩ := hp_19
          refine lv_istore (lv' := [(7, .int x_19), (0, .ref h0), (1, .int p0), (2, .int p1), (3, .int v51_3), (4, .int v51_4), (5, .int v51_5), (6, .int v51_6)]) hx hb dX12_byForward_103 hl (by decide) rfl (fun ls hl => ?_)
          refine lv_iload hx hb dX12_byForward_105 (lv_at hl 7 rfl) ?_
          refine lv_iload_n hx hb dX12_byForward_107 rfl (lv_at hl 3 rfl) ?_
          refine lv_aload_n hx hb dX12_byForward_108 rfl (lv_at hl 1 rfl) ?_
          refine g_get B fl_RX12_24 hT0 kh0 rfl rfl rfl dX12_byForward_109 s51_u51_h0_12 ?_
          refine lv_aload_n hx hb dX12_byForward_112 rfl (lv_at hl 1 rfl) ?_
          refine g_get B fl_RX12_217 hT0 kh0 rfl rfl rfl dX12_byForward_113 s51_u51_h0_26 ?_
          refine g_iald (i := bk) (N := 2) B hT0 kfa rfl rfl rfl rfl (by omega) (by omega) s51_u51_fa_ebk dX12_byForward_116 ?_
          refine lv_irem hx hb dX12_byForward_117 (z_ne0 (by omega)) ?_
          refine lv_topi (fun x_20 e_20 => ?_)
          have t_20 := z_rem e_20 rfl rfl (by omega) (by omega)
          refine lv_icmp_ne (tgt := 125) hx hb dX12_byForward_118 (by decide) (fun c_21 => ?_) (fun c_21 => ?_)
          · have f_21 := z_ne c_21 rfl rfl
            refine lv_iconst (v := 0) hx hb dX12_byForward_125 (by decide) ?_
            have := kl_0
            exact b126 ls x_19 0 (lv_sub hl [1, 2, 3, 4, 5, 6, 7, 0] rfl) (by omega) (by omega) (by omega) (by omega) (by omega) (by omega) (by omega) (by omega) s51_u51_h0_12 s51_u51_h0_26 s51_u51_fa_ebk
          · have f_21 := z_eq c_21 rfl rfl
            refine lv_iconst (v := 1) hx hb dX12_byForward_121 (by decide) ?_
            refine lv_goto (tgt := 126) hx hb dX12_byForward_122 (by decide) ?_
            have := kl_1
            exact b126 ls x_19 1 (lv_sub hl [1, 2, 3, 4, 5, 6, 7, 0] rfl) (by omega) (by omega) (by omega) (by omega) (by omega) (by omega) (by omega) (by omega) s51_u51_h0_12 s51_u51_h0_26 s51_u51_fa_ebk
        · have f_15 := z_eq c_15 rfl kl_0
          refine lv_goto (tgt := 175) hx hb dX12_byForward_80 (by decide) ?_
          exact b175 ls v51_3 (lv_sub hl [0, 1, 2, 3, 4, 5, 6] rfl) (by omega) (by omega) (by omega) s51_u51_h0_12 s51_u51_h0_26 s51_u51_fa_ebk
  have b33 : ∀ (ls : Array Slot) (v33_4 : Int32) (w33_0 : Int32) (w33_1 : Int32), lv_has ls 9 [(0, .ref h0), (1, .int p0), (2, .int p1), (3, .int 0), (4, .int v33_4)] → 0 ≤ v33_4.toInt → v33_4.toInt ≤ 1 → (-1) ≤ w33_0.toInt → w33_0.toInt ≤ 1 → 0 ≤ w33_1.toInt → w33_1.toInt ≤ 29 → sl H0 h0 (zix E 13 12) = some (.ref fa) → sl H0 h0 (zix E 13 26) = some (.int bk) → sl H0 fa bk.toNatClampNeg = some (.int fv) → W p l e rm_X12_byForward s m args below meth c H0 [] 0 0 Q (F0 m 33 ls [.int w33_0, .int w33_1]) := by
    intro ls v33_4 w33_0 w33_1 hl f33_1 f33_2 f33_3 f33_4 f33_5 f33_6 s33_u33_h0_12 s33_u33_h0_26 s33_u33_fa_ebk
    refine lv_iadd hx hb dX12_byForward_33 ?_
    refine lv_topi (fun x_22 e_22 => ?_)
    have t_22 := z_add e_22 rfl rfl (by omega) (by omega)
    refine lv_istore (lv' := [(5, .int x_22), (0, .ref h0), (1, .int p0), (2, .int p1), (3, .int 0), (4, .int v33_4)]) hx hb dX12_byForward_34 hl (by decide) rfl (fun ls hl => ?_)
    refine lv_iload_n hx hb dX12_byForward_36 rfl (lv_at hl 3 rfl) ?_
    refine lv_aload_n hx hb dX12_byForward_37 rfl (lv_at hl 1 rfl) ?_
    refine g_get B fl_RX12_24 hT0 kh0 rfl rfl rfl dX12_byForward_38 s33_u33_h0_12 ?_
    refine lv_aload_n hx hb dX12_byForward_41 rfl (lv_at hl 1 rfl) ?_
    refine g_get B fl_RX12_217 hT0 kh0 rfl rfl rfl dX12_byForward_42 s33_u33_h0_26 ?_
    refine g_iald (i := bk) (N := 2) B hT0 kfa rfl rfl rfl rfl (by omega) (by omega) s33_u33_fa_ebk dX12_byForward_45 ?_
    refine lv_irem hx hb dX12_byForward_46 (z_ne0 (by omega)) ?_
    refine lv_topi (fun x_23 e_23 => ?_)
    have t_23 := z_rem e_23 rfl rfl (by omega) (by omega)
    refine lv_iconst (v := 1) hx hb dX12_byForward_47 (by decide) ?_
    refine lv_isub hx hb dX12_byForward_48 ?_
    refine lv_topi (fun x_24 e_24 => ?_)
    have t_24 := z_sub e_24 rfl kl_1 (by omega) (by omega)
    refine lv_istore (lv' := [(6, .int x_24), (5, .int x_22), (0, .ref h0), (1, .int p0), (2, .int p1), (3, .int 0), (4, .int v33_4)]) hx hb dX12_byForward_49 hl (by decide) rfl (fun ls hl => ?_)
    have := kl_0
    exact b51 8 ls 0 v33_4 x_22 x_24 (by omega) (lv_sub hl [2, 3, 4, 5, 6, 1, 0] rfl) (by omega) (by omega) (by omega) (by omega) (by omega) (by omega) (by omega) (by omega) s33_u33_h0_12 s33_u33_h0_26 s33_u33_fa_ebk
  refine lv_iconst (v := 0) hx hb dX12_byForward_0 (by decide) ?_
  refine lv_istore_n (lv' := [(3, .int 0), (0, .ref h0), (1, .int p0), (2, .int p1)]) hx hb dX12_byForward_1 rfl hl (by decide) rfl (fun ls hl => ?_)
  refine lv_aload_n hx hb dX12_byForward_2 rfl (lv_at hl 1 rfl) ?_
  refine lv_iload_n hx hb dX12_byForward_3 rfl (lv_at hl 2 rfl) ?_
  refine lv_iload_n hx hb dX12_byForward_4 rfl (lv_at hl 3 rfl) ?_
  obtain ⟨q_25, s_25, k_q_25⟩ := HT.atR hT0 kh0 rfl (j := 2) (by decide) rfl
  refine zkPI (zrV (rest := []) B (c_X12_of l E hV H0 hT0 h0 kh0 p0 (by omega) (by omega) p1 (by omega) (by omega) q_25 k_q_25 s_25) cl_RX12_257 hT0 kh0 rfl rfl rfl rfl hl.1 rfl (Nat.le_of_ble_eq_true rfl) dX12_byForward_5 rfl rfl ⟨rfl, rfl⟩ ⟨Nat.zero_le _, Nat.zero_le _⟩ (zO.rf hh)) (fun x_26 hp_26 => ?_)
  obtain ⟨hp_26_1, hp_26_2⟩ := hp_26
  refine lv_iconst (v := 1) hx hb dX12_byForward_8 (by decide) ?_
  refine lv_iand hx hb dX12_byForward_9 ?_
  refine lv_topi (fun x_27 e_27 => ?_)
  have t_27 := z_andR e_27 kl_1 (by omega)
  refine lv_istore (lv' := [(4, .int x_27), (3, .int 0), (0, .ref h0), (1, .int p0), (2, .int p1)]) hx hb dX12_byForward_10 hl (by decide) rfl (fun ls hl => ?_)
  refine lv_iload_n hx hb dX12_byForward_12 rfl (lv_at hl 4 rfl) ?_
  refine lv_aload_n hx hb dX12_byForward_13 rfl (lv_at hl 2 rfl) ?_
  refine g_get B fl_RX12_24 hT0 kh0 rfl rfl rfl dX12_byForward_14 s_fa ?_
  refine lv_aload_n hx hb dX12_byForward_17 rfl (lv_at hl 2 rfl) ?_
  refine g_get B fl_RX12_217 hT0 kh0 rfl rfl rfl dX12_byForward_18 s_bk ?_
  refine g_iald (i := bk) (N := 2) B hT0 kfa rfl rfl rfl rfl (by omega) (by omega) s_fv dX12_byForward_21 ?_
  refine lv_idiv hx hb dX12_byForward_22 (z_ne0 (by omega)) ?_
  refine lv_topi (fun x_28 e_28 => ?_)
  have t_28 := z_div e_28 rfl rfl (by omega) (by omega)
  refine lv_iload hx hb dX12_byForward_23 (lv_at hl 0 rfl) ?_
  refine lv_if_ne (tgt := 32) hx hb dX12_byForward_25 (by decide) (fun c_29 => ?_) (fun c_29 => ?_)
  · have f_29 := z_ne c_29 rfl kl_0
    refine lv_iconst (v := (-1)) hx hb dX12_byForward_32 (by decide) ?_
    have := kl_0
    have := kl_m1
    exact b33 ls x_27 (-1) x_28 (lv_sub hl [2, 3, 4, 1, 0] rfl) (by omega) (by omega) (by omega) (by omega) (by omega) (by omega) s_fa s_bk s_fv
  · have f_29 := z_eq c_29 rfl kl_0
    refine lv_iconst (v := 1) hx hb dX12_byForward_28 (by decide) ?_
    refine lv_goto (tgt := 33) hx hb dX12_byForward_29 (by decide) ?_
    have := kl_0
    have := kl_1
    exact b33 ls x_27 1 x_28 (lv_sub hl [2, 3, 4, 1, 0] rfl) (by omega) (by omega) (by omega) (by omega) (by omega) (by omega) s_fa s_bk s_fv

theorem dX12_goesTo_0 : decode cX12_goesTo 0 = .ok (.bipush 6, 2) := by decide +kernel
theorem dX12_goesTo_2 : decode cX12_goesTo 2 = .ok (.aload_n 0, 1) := by decide +kernel
theorem dX12_goesTo_3 : decode cX12_goesTo 3 = .ok (.getfield 217, 3) := by decide +kernel
theorem dX12_goesTo_6 : decode cX12_goesTo 6 = .ok (.imul, 1) := by decide +kernel
theorem dX12_goesTo_7 : decode cX12_goesTo 7 = .ok (.aload_n 0, 1) := by decide +kernel
theorem dX12_goesTo_8 : decode cX12_goesTo 8 = .ok (.iload_n 1, 1) := by decide +kernel
theorem dX12_goesTo_9 : decode cX12_goesTo 9 = .ok (.iload_n 2, 1) := by decide +kernel
theorem dX12_goesTo_10 : decode cX12_goesTo 10 = .ok (.invokevirtual 257, 3) := by decide +kernel
theorem dX12_goesTo_13 : decode cX12_goesTo 13 = .ok (.iconst 2, 1) := by decide +kernel
theorem dX12_goesTo_14 : decode cX12_goesTo 14 = .ok (.idiv, 1) := by decide +kernel
theorem dX12_goesTo_15 : decode cX12_goesTo 15 = .ok (.iadd, 1) := by decide +kernel
theorem dX12_goesTo_16 : decode cX12_goesTo 16 = .ok (.istore_n 3, 1) := by decide +kernel
theorem dX12_goesTo_17 : decode cX12_goesTo 17 = .ok (.aload_n 0, 1) := by decide +kernel
theorem dX12_goesTo_18 : decode cX12_goesTo 18 = .ok (.getfield 55, 3) := by decide +kernel
theorem dX12_goesTo_21 : decode cX12_goesTo 21 = .ok (.iload_n 3, 1) := by decide +kernel
theorem dX12_goesTo_22 : decode cX12_goesTo 22 = .ok (.baload, 1) := by decide +kernel
theorem dX12_goesTo_23 : decode cX12_goesTo 23 = .ok (.ifCond .eq 12, 3) := by decide +kernel
theorem dX12_goesTo_26 : decode cX12_goesTo 26 = .ok (.aload_n 0, 1) := by decide +kernel
theorem dX12_goesTo_27 : decode cX12_goesTo 27 = .ok (.iload_n 1, 1) := by decide +kernel
theorem dX12_goesTo_28 : decode cX12_goesTo 28 = .ok (.iload_n 2, 1) := by decide +kernel
theorem dX12_goesTo_29 : decode cX12_goesTo 29 = .ok (.invokevirtual 268, 3) := by decide +kernel
theorem dX12_goesTo_32 : decode cX12_goesTo 32 = .ok (.goto 4, 3) := by decide +kernel
theorem dX12_goesTo_35 : decode cX12_goesTo 35 = .ok (.iconst 0, 1) := by decide +kernel
theorem dX12_goesTo_36 : decode cX12_goesTo 36 = .ok (.istore 4, 2) := by decide +kernel
theorem dX12_goesTo_38 : decode cX12_goesTo 38 = .ok (.bipush 6, 2) := by decide +kernel
theorem dX12_goesTo_40 : decode cX12_goesTo 40 = .ok (.iload_n 3, 1) := by decide +kernel
theorem dX12_goesTo_41 : decode cX12_goesTo 41 = .ok (.imul, 1) := by decide +kernel
theorem dX12_goesTo_42 : decode cX12_goesTo 42 = .ok (.istore 5, 2) := by decide +kernel
theorem dX12_goesTo_44 : decode cX12_goesTo 44 = .ok (.iload 5, 2) := by decide +kernel
theorem dX12_goesTo_46 : decode cX12_goesTo 46 = .ok (.bipush 6, 2) := by decide +kernel
theorem dX12_goesTo_48 : decode cX12_goesTo 48 = .ok (.iload_n 3, 1) := by decide +kernel
theorem dX12_goesTo_49 : decode cX12_goesTo 49 = .ok (.imul, 1) := by decide +kernel
theorem dX12_goesTo_50 : decode cX12_goesTo 50 = .ok (.aload_n 0, 1) := by decide +kernel
theorem dX12_goesTo_51 : decode cX12_goesTo 51 = .ok (.getfield 42, 3) := by decide +kernel
theorem dX12_goesTo_54 : decode cX12_goesTo 54 = .ok (.iload_n 3, 1) := by decide +kernel
theorem dX12_goesTo_55 : decode cX12_goesTo 55 = .ok (.iaload, 1) := by decide +kernel
theorem dX12_goesTo_56 : decode cX12_goesTo 56 = .ok (.iadd, 1) := by decide +kernel
theorem dX12_goesTo_57 : decode cX12_goesTo 57 = .ok (.if_icmp .ge 125, 3) := by decide +kernel
theorem dX12_goesTo_60 : decode cX12_goesTo 60 = .ok (.iconst 0, 1) := by decide +kernel
theorem dX12_goesTo_61 : decode cX12_goesTo 61 = .ok (.istore 6, 2) := by decide +kernel
theorem dX12_goesTo_63 : decode cX12_goesTo 63 = .ok (.iload 6, 2) := by decide +kernel
theorem dX12_goesTo_65 : decode cX12_goesTo 65 = .ok (.bipush 8, 2) := by decide +kernel
theorem dX12_goesTo_67 : decode cX12_goesTo 67 = .ok (.if_icmp .ge 109, 3) := by decide +kernel
theorem dX12_goesTo_70 : decode cX12_goesTo 70 = .ok (.iload 6, 2) := by decide +kernel
theorem dX12_goesTo_72 : decode cX12_goesTo 72 = .ok (.iconst 4, 1) := by decide +kernel
theorem dX12_goesTo_73 : decode cX12_goesTo 73 = .ok (.iand, 1) := by decide +kernel
theorem dX12_goesTo_74 : decode cX12_goesTo 74 = .ok (.ifCond .ne 13, 3) := by decide +kernel
theorem dX12_goesTo_77 : decode cX12_goesTo 77 = .ok (.aload_n 0, 1) := by decide +kernel
theorem dX12_goesTo_78 : decode cX12_goesTo 78 = .ok (.getfield 45, 3) := by decide +kernel
theorem dX12_goesTo_81 : decode cX12_goesTo 81 = .ok (.iload 5, 2) := by decide +kernel
theorem dX12_goesTo_83 : decode cX12_goesTo 83 = .ok (.iaload, 1) := by decide +kernel
theorem dX12_goesTo_84 : decode cX12_goesTo 84 = .ok (.goto 10, 3) := by decide +kernel
theorem dX12_goesTo_87 : decode cX12_goesTo 87 = .ok (.aload_n 0, 1) := by decide +kernel
theorem dX12_goesTo_88 : decode cX12_goesTo 88 = .ok (.getfield 48, 3) := by decide +kernel
theorem dX12_goesTo_91 : decode cX12_goesTo 91 = .ok (.iload 5, 2) := by decide +kernel
theorem dX12_goesTo_93 : decode cX12_goesTo 93 = .ok (.iaload, 1) := by decide +kernel
theorem dX12_goesTo_94 : decode cX12_goesTo 94 = .ok (.istore 7, 2) := by decide +kernel
theorem dX12_goesTo_96 : decode cX12_goesTo 96 = .ok (.iload 6, 2) := by decide +kernel
theorem dX12_goesTo_98 : decode cX12_goesTo 98 = .ok (.iconst 4, 1) := by decide +kernel
theorem dX12_goesTo_99 : decode cX12_goesTo 99 = .ok (.iand, 1) := by decide +kernel
theorem dX12_goesTo_100 : decode cX12_goesTo 100 = .ok (.ifCond .ne 13, 3) := by decide +kernel
theorem dX12_goesTo_103 : decode cX12_goesTo 103 = .ok (.aload_n 0, 1) := by decide +kernel
theorem dX12_goesTo_104 : decode cX12_goesTo 104 = .ok (.getfield 48, 3) := by decide +kernel
theorem dX12_goesTo_107 : decode cX12_goesTo 107 = .ok (.iload 5, 2) := by decide +kernel
theorem dX12_goesTo_109 : decode cX12_goesTo 109 = .ok (.iaload, 1) := by decide +kernel
theorem dX12_goesTo_110 : decode cX12_goesTo 110 = .ok (.goto 10, 3) := by decide +kernel
theorem dX12_goesTo_113 : decode cX12_goesTo 113 = .ok (.aload_n 0, 1) := by decide +kernel
theorem dX12_goesTo_114 : decode cX12_goesTo 114 = .ok (.getfield 45, 3) := by decide +kernel
theorem dX12_goesTo_117 : decode cX12_goesTo 117 = .ok (.iload 5, 2) := by decide +kernel
theorem dX12_goesTo_119 : decode cX12_goesTo 119 = .ok (.iaload, 1) := by decide +kernel
theorem dX12_goesTo_120 : decode cX12_goesTo 120 = .ok (.istore 8, 2) := by decide +kernel
theorem dX12_goesTo_122 : decode cX12_goesTo 122 = .ok (.iload 4, 2) := by decide +kernel
theorem dX12_goesTo_124 : decode cX12_goesTo 124 = .ok (.aload_n 0, 1) := by decide +kernel
theorem dX12_goesTo_125 : decode cX12_goesTo 125 = .ok (.iload_n 1, 1) := by decide +kernel
theorem dX12_goesTo_126 : decode cX12_goesTo 126 = .ok (.iload_n 2, 1) := by decide +kernel
theorem dX12_goesTo_127 : decode cX12_goesTo 127 = .ok (.iload 6, 2) := by decide +kernel
theorem dX12_goesTo_129 : decode cX12_goesTo 129 = .ok (.iconst 1, 1) := by decide +kernel
theorem dX12_goesTo_130 : decode cX12_goesTo 130 = .ok (.iand, 1) := by decide +kernel
theorem dX12_goesTo_131 : decode cX12_goesTo 131 = .ok (.ifCond .ne 8, 3) := by decide +kernel
theorem dX12_goesTo_134 : decode cX12_goesTo 134 = .ok (.iload 7, 2) := by decide +kernel
theorem dX12_goesTo_136 : decode cX12_goesTo 136 = .ok (.goto 6, 3) := by decide +kernel
theorem dX12_goesTo_139 : decode cX12_goesTo 139 = .ok (.iload 7, 2) := by decide +kernel
theorem dX12_goesTo_141 : decode cX12_goesTo 141 = .ok (.ineg, 1) := by decide +kernel
theorem dX12_goesTo_142 : decode cX12_goesTo 142 = .ok (.iload 6, 2) := by decide +kernel
theorem dX12_goesTo_144 : decode cX12_goesTo 144 = .ok (.iconst 2, 1) := by decide +kernel
theorem dX12_goesTo_145 : decode cX12_goesTo 145 = .ok (.iand, 1) := by decide +kernel
theorem dX12_goesTo_146 : decode cX12_goesTo 146 = .ok (.ifCond .ne 8, 3) := by decide +kernel
theorem dX12_goesTo_149 : decode cX12_goesTo 149 = .ok (.iload 8, 2) := by decide +kernel
theorem dX12_goesTo_151 : decode cX12_goesTo 151 = .ok (.goto 6, 3) := by decide +kernel
theorem dX12_goesTo_154 : decode cX12_goesTo 154 = .ok (.iload 8, 2) := by decide +kernel
theorem dX12_goesTo_156 : decode cX12_goesTo 156 = .ok (.ineg, 1) := by decide +kernel
theorem dX12_goesTo_157 : decode cX12_goesTo 157 = .ok (.aload_n 0, 1) := by decide +kernel
theorem dX12_goesTo_158 : decode cX12_goesTo 158 = .ok (.getfield 58, 3) := by decide +kernel
theorem dX12_goesTo_161 : decode cX12_goesTo 161 = .ok (.iload 5, 2) := by decide +kernel
theorem dX12_goesTo_163 : decode cX12_goesTo 163 = .ok (.baload, 1) := by decide +kernel
theorem dX12_goesTo_164 : decode cX12_goesTo 164 = .ok (.invokevirtual 271, 3) := by decide +kernel
theorem dX12_goesTo_167 : decode cX12_goesTo 167 = .ok (.ior, 1) := by decide +kernel
theorem dX12_goesTo_168 : decode cX12_goesTo 168 = .ok (.istore 4, 2) := by decide +kernel
theorem dX12_goesTo_170 : decode cX12_goesTo 170 = .ok (.iinc 6 1, 3) := by decide +kernel
theorem dX12_goesTo_173 : decode cX12_goesTo 173 = .ok (.goto (-110), 3) := by decide +kernel
theorem dX12_goesTo_176 : decode cX12_goesTo 176 = .ok (.iinc 5 1, 3) := by decide +kernel
theorem dX12_goesTo_179 : decode cX12_goesTo 179 = .ok (.goto (-135), 3) := by decide +kernel
theorem dX12_goesTo_182 : decode cX12_goesTo 182 = .ok (.iload 4, 2) := by decide +kernel
theorem dX12_goesTo_184 : decode cX12_goesTo 184 = .ok (.ireturn, 1) := by decide +kernel
def rm_X12_goesTo : Room := { frames := 3, cells := 0, slots := 0, locals := 74 }
set_option maxRecDepth 100000 in
set_option maxHeartbeats 4000000 in
theorem c_X12_goesTo (l : Launch) (E : zE) (hV : zV E) (H0 : Heap) (hT0 : HT E H0) (h0 : Nat) (kh0 : eK E h0 = 13) (p0 : Int32) (p0_lo : 0 ≤ p0.toInt) (p0_hi : p0.toInt ≤ 195) (p1 : Int32) (p1_lo : 0 ≤ p1.toInt) (p1_hi : p1.toInt ≤ 29) (fa : Nat) (kfa : eK E fa = 61) (s_fa : sl H0 h0 (zix E 13 12) = some (.ref fa)) (bk : Int32) (s_bk : sl H0 h0 (zix E 13 26) = some (.int bk)) (fv : Int32) (s_fv : sl H0 fa bk.toNatClampNeg = some (.int fv)) (fv_lo : 1 ≤ fv.toInt) (fv_hi : fv.toInt ≤ 5) (pl : Nat) (kpl : eK E pl = 60) (s_pl : sl H0 h0 (zix E 13 2) = some (.ref pl)) (pr_0 : zOw H0 pl p0 p1) : Met l yX12_goesTo (zws yX12_goesTo cX12_goesTo 9 (some .int)) rm_X12_goesTo (zP E H0 [.ref h0, .int p0, .int p1]) (zPI (fun r => 0 ≤ r.toInt ∧ r.toInt ≤ 1073741823)) 0 0 (fun _ => False) := by
  refine zEnt (by decide) (Nat.le_of_ble_eq_true rfl) (fun p e s m args below meth c ls Q B hr hlk hh hQ hl => ?_)
  have hx := B.1
  have hb := B.2.1
  have hl : lv_has ls 9 [(0, .ref h0), (1, .int p0), (2, .int p1)] := hl
  have bd_bk := HT.bdI hT0 kh0 rfl (j := 26) (by decide) rfl s_bk
  have b44 : ∀ (n44 : Nat) (ls : Array Slot) (v44_3 : Int32) (v44_4 : Int32) (v44_5 : Int32), 72 - v44_5.toInt < (n44 : Int) → lv_has ls 9 [(0, .ref h0), (1, .int p0), (2, .int p1), (3, .int v44_3), (4, .int v44_4), (5, .int v44_5)] → 0 ≤ v44_3.toInt → v44_3.toInt ≤ 11 → 0 ≤ v44_4.toInt → v44_4.toInt ≤ 1073741823 → 0 ≤ v44_5.toInt → v44_5.toInt ≤ 72 → sl H0 h0 (zix E 13 12) = some (.ref fa) → sl H0 h0 (zix E 13 26) = some (.int bk) → sl H0 fa bk.toNatClampNeg = some (.int fv) → sl H0 h0 (zix E 13 2) = some (.ref pl) → W p l e rm_X12_goesTo s m args below meth c H0 [] 0 0 Q (F0 m 44 ls []) := by
    intro n44
    induction n44 with
    | zero =>
      intro ls v44_3 v44_4 v44_5 hm44 hl f44_1 f44_2 f44_3 f44_4 f44_5 f44_6 s44_u44_h0_12 s44_u44_h0_26 s44_u44_fa_ebk s44_u44_h0_2
      exact absurd hm44 (by omega)
    | succ n44 ih44 =>
      intro ls v44_3 v44_4 v44_5 hm44 hl f44_1 f44_2 f44_3 f44_4 f44_5 f44_6 s44_u44_h0_12 s44_u44_h0_26 s44_u44_fa_ebk s44_u44_h0_2
      have b63 : ∀ (n63 : Nat) (ls : Array Slot) (v63_4 : Int32) (v63_6 : Int32) (u63_h0_18 : Nat), 8 - v63_6.toInt < (n63 : Int) → lv_has ls 9 [(0, .ref h0), (1, .int p0), (2, .int p1), (3, .int v44_3), (4, .int v63_4), (5, .int v44_5), (6, .int v63_6)] → eK E u63_h0_18 = 67 → 0 ≤ v63_4.toInt → v63_4.toInt ≤ 1073741823 → v44_5.toInt ≤ 71 → 0 ≤ v63_6.toInt → v63_6.toInt ≤ 8 → sl H0 h0 (zix E 13 12) = some (.ref fa) → sl H0 h0 (zix E 13 26) = some (.int bk) → sl H0 fa bk.toNatClampNeg = some (.int fv) → sl H0 h0 (zix E 13 2) = some (.ref pl) → sl H0 h0 (zix E 13 18) = some (.ref u63_h0_18) → W p l e rm_X12_goesTo s m args below meth c H0 [] 0 0 Q (F0 m 63 ls []) := by
        intro n63
        induction n63 with
        | zero =>
          intro ls v63_4 v63_6 u63_h0_18 hm63 hl k_u63_h0_18 f63_1 f63_2 f63_3 f63_4 f63_5 s63_u63_h0_12 s63_u63_h0_26 s63_u63_fa_ebk s63_u63_h0_2 s63_u63_h0_18
          exact absurd hm63 (by omega)
        | succ n63 ih63 =>
          intro ls v63_4 v63_6 u63_h0_18 hm63 hl k_u63_h0_18 f63_1 f63_2 f63_3 f63_4 f63_5 s63_u63_h0_12 s63_u63_h0_26 s63_u63_fa_ebk s63_u63_h0_2 s63_u63_h0_18
          have b157 : ∀ (ls : Array Slot) (w157_0 : Int32) (w157_1 : Int32), lv_has ls 9 [(0, .ref h0), (1, .int p0), (2, .int p1), (3, .int v44_3), (5, .int v44_5), (6, .int v63_6)] → v63_6.toInt ≤ 7 → (-4) ≤ w157_0.toInt → w157_0.toInt ≤ 4 → (-4) ≤ w157_1.toInt → w157_1.toInt ≤ 4 → sl H0 h0 (zix E 13 12) = some (.ref fa) → sl H0 h0 (zix E 13 26) = some (.int bk) → sl H0 fa bk.toNatClampNeg = some (.int fv) → sl H0 h0 (zix E 13 2) = some (.ref pl) → sl H0 h0 (zix E 13 18) = some (.ref u63_h0_18) → W p l e rm_X12_goesTo s m args below meth c H0 [] 0 0 Q (F0 m 157 ls [.int w157_0, .int w157_1, .int p1, .int p0, .ref h0, .int v63_4]) := by
            intro ls w157_0 w157_1 hl f157_1 f157_2 f157_3 f157_4 f157_5 s157_u157_h0_12 s157_u157_h0_26 s157_u157_fa_ebk s157_u157_h0_2 s157_u157_h0_18
            refine lv_aload_n hx hb dX12_goesTo_157 rfl (lv_at hl 0 rfl) ?_
            refine g_getR B fl_RX12_58 hT0 kh0 rfl rfl rfl rfl rfl dX12_goesTo_158 (fun q_1 s_1 k_q_1 => ?_)
            refine lv_iload hx hb dX12_goesTo_161 (lv_at hl 4 rfl) ?_
            refine g_zaldI (i := v44_5) (N := 72) B hT0 k_q_1 rfl rfl rfl rfl (by omega) (by omega) rfl dX12_goesTo_163 (fun x_2 s_2 a_2 b_2 => ?_)
            refine zkPI (zrV (rest := [.int v63_4]) B (c_X12_byWay l E hV H0 hT0 h0 kh0 p0 (by omega) (by omega) p1 (by omega) (by omega) w157_1 (by omega) (by omega) w157_0 (by omega) (by omega) x_2 (by omega) (by omega) fa kfa s157_u157_h0_12 bk s157_u157_h0_26 fv s157_u157_fa_ebk (by omega) (by omega) pl kpl s157_u157_h0_2 (pr_0)) cl_RX12_271 hT0 kh0 rfl rfl rfl rfl hl.1 rfl (Nat.le_of_ble_eq_true rfl) dX12_goesTo_164 rfl rfl ⟨rfl, rfl⟩ ⟨Nat.zero_le _, Nat.zero_le _⟩ (zO.rf hh)) (fun x_3 hp_3 => ?_)
            obtain ⟨hp_3_1, hp_3_2⟩ := hp_3
            refine lv_ior hx hb dX12_goesTo_167 ?_
            refine lv_topi (fun x_4 e_4 => ?_)
            have t_4 := z_or 30 e_4 rfl rfl rfl (by omega) (by omega) (by omega) (by omega)
            refine lv_istore (lv' := [(4, .int x_4), (0, .ref h0), (1, .int p0), (2, .int p1), (3, .int v44_3), (5, .int v44_5), (6, .int v63_6)]) hx hb dX12_goesTo_168 hl (by decide) rfl (fun ls hl => ?_)
            obtain ⟨x_5, e_5⟩ : ∃ y : Int32, (v63_6 : Int32) + Int32.ofInt 1 = y := ⟨_, rfl⟩
            refine lv_iinc (v := x_5) (lv' := [(6, .int x_5), (4, .int x_4), (0, .ref h0), (1, .int p0), (2, .int p1), (3, .int v44_3), (5, .int v44_5)]) hx hb dX12_goesTo_170 hl (k := 6) rfl e_5 (by decide) rfl (fun ls hl => ?_)
            have t_5 := z_inc2 e_5 rfl (by decide) (by omega) (by omega)
            refine lv_goto (tgt := 63) hx hb dX12_goesTo_173 (by decide) ?_
            exact ih63 ls x_4 x_5 u63_h0_18 (by omega) (lv_sub hl [2, 3, 4, 5, 1, 6, 0] rfl) k_u63_h0_18 (by omega) (by omega) (by omega) (by omega) (by omega) s157_u157_h0_12 s157_u157_h0_26 s157_u157_fa_ebk s157_u157_h0_2 s157_u157_h0_18
          have b142 : ∀ (ls : Array Slot) (v142_8 : Int32) (w142_0 : Int32), lv_has ls 9 [(0, .ref h0), (1, .int p0), (2, .int p1), (3, .int v44_3), (5, .int v44_5), (6, .int v63_6), (8, .int v142_8)] → v63_6.toInt ≤ 7 → 0 ≤ v142_8.toInt → v142_8.toInt ≤ 4 → (-4) ≤ w142_0.toInt → w142_0.toInt ≤ 4 → sl H0 h0 (zix E 13 12) = some (.ref fa) → sl H0 h0 (zix E 13 26) = some (.int bk) → sl H0 fa bk.toNatClampNeg = some (.int fv) → sl H0 h0 (zix E 13 2) = some (.ref pl) → sl H0 h0 (zix E 13 18) = some (.ref u63_h0_18) → W p l e rm_X12_goesTo s m args below meth c H0 [] 0 0 Q (F0 m 142 ls [.int w142_0, .int p1, .int p0, .ref h0, .int v63_4]) := by
            intro ls v142_8 w142_0 hl f142_1 f142_2 f142_3 f142_4 f142_5 s142_u142_h0_12 s142_u142_h0_26 s142_u142_fa_ebk s142_u142_h0_2 s142_u142_h0_18
            refine lv_iload hx hb dX12_goesTo_142 (lv_at hl 5 rfl) ?_
            refine lv_iconst (v := 2) hx hb dX12_goesTo_144 (by decide) ?_
            refine lv_iand hx hb dX12_goesTo_145 ?_
            refine lv_topi (fun x_6 e_6 => ?_)
            have t_6 := z_andR e_6 kl_2 (by omega)
            refine lv_if_ne (tgt := 154) hx hb dX12_goesTo_146 (by decide) (fun c_7 => ?_) (fun c_7 => ?_)
            · have f_7 := z_ne c_7 rfl kl_0
              refine lv_iload hx hb dX12_goesTo_154 (lv_at hl 6 rfl) ?_
              refine lv_ineg hx hb dX12_goesTo_156 ?_
              refine lv_topi (fun x_8 e_8 => ?_)
              have t_8 := z_neg e_8 rfl (by omega)
              exact b157 ls x_8 w142_0 (lv_sub hl [0, 1, 2, 3, 4, 5] rfl) (by omega) (by omega) (by omega) (by omega) (by omega) s142_u142_h0_12 s142_u142_h0_26 s142_u142_fa_ebk s142_u142_h0_2 s142_u142_h0_18
            · have f_7 := z_eq c_7 rfl kl_0
              refine lv_iload hx hb dX12_goesTo_149 (lv_at hl 6 rfl) ?_
              refine lv_goto (tgt := 157) hx hb dX12_goesTo_151 (by decide) ?_
              exact b157 ls v142_8 w142_0 (lv_sub hl [0, 1, 2, 3, 4, 5] rfl) (by omega) (by omega) (by omega) (by omega) (by omega) s142_u142_h0_12 s142_u142_h0_26 s142_u142_fa_ebk s142_u142_h0_2 s142_u142_h0_18
          have b120 : ∀ (ls : Array Slot) (v120_7 : Int32) (w120_0 : Int32), lv_has ls 9 [(0, .ref h0), (1, .int p0), (2, .int p1), (3, .int v44_3), (4, .int v63_4), (5, .int v44_5), (6, .int v63_6), (7, .int v120_7)] → v63_6.toInt ≤ 7 → 0 ≤ v120_7.toInt → v120_7.toInt ≤ 4 → 0 ≤ w120_0.toInt → w120_0.toInt ≤ 4 → sl H0 h0 (zix E 13 12) = some (.ref fa) → sl H0 h0 (zix E 13 26) = some (.int bk) → sl H0 fa bk.toNatClampNeg = some (.int fv) → sl H0 h0 (zix E 13 2) = some (.ref pl) → sl H0 h0 (zix E 13 18) = some (.ref u63_h0_18) → W p l e rm_X12_goesTo s m args below meth c H0 [] 0 0 Q (F0 m 120 ls [.int w120_0]) := by
            intro ls v120_7 w120_0 hl f120_1 f120_2 f120_3 f120_4 f120_5 s120_u120_h0_12 s120_u120_h0_26 s120_u120_fa_ebk s120_u120_h0_2 s120_u120_h0_18
            refine lv_istore (lv' := [(8, .int w120_0), (0, .ref h0), (1, .int p0), (2, .int p1), (3, .int v44_3), (4, .int v63_4), (5, .int v44_5), (6, .int v63_6), (7, .int v120_7)]) hx hb dX12_goesTo_120 hl (by decide) rfl (fun ls hl => ?_)
            refine lv_iload hx hb dX12_goesTo_122 (lv_at hl 5 rfl) ?_
            refine lv_aload_n hx hb dX12_goesTo_124 rfl (lv_at hl 1 rfl) ?_
            refine lv_iload_n hx hb dX12_goesTo_125 rfl (lv_at hl 2 rfl) ?_
            refine lv_iload_n hx hb dX12_goesTo_126 rfl (lv_at hl 3 rfl) ?_
            refine lv_iload hx hb dX12_goesTo_127 (lv_at hl 7 rfl) ?_
            refine lv_iconst (v := 1) hx hb dX12_goesTo_129 (by decide) ?_
            refine lv_iand hx hb dX12_goesTo_130 ?_
            refine lv_topi (fun x_9 e_9 => ?_)
            have t_9 := z_andR e_9 kl_1 (by omega)
            refine lv_if_ne (tgt := 139) hx hb dX12_goesTo_131 (by decide) (fun c_10 => ?_) (fun c_10 => ?_)
            · have f_10 := z_ne c_10 rfl kl_0
              refine lv_iload hx hb dX12_goesTo_139 (lv_at hl 8 rfl) ?_
              refine lv_ineg hx hb dX12_goesTo_141 ?_
              refine lv_topi (fun x_11 e_11 => ?_)
              have t_11 := z_neg e_11 rfl (by omega)
              exact b142 ls w120_0 x_11 (lv_sub hl [1, 2, 3, 4, 6, 7, 0] rfl) (by omega) (by omega) (by omega) (by omega) (by omega) s120_u120_h0_12 s120_u120_h0_26 s120_u120_fa_ebk s120_u120_h0_2 s120_u120_h0_18
            · have f_10 := z_eq c_10 rfl kl_0
              refine lv_iload hx hb dX12_goesTo_134 (lv_at hl 8 rfl) ?_
              refine lv_goto (tgt := 142) hx hb dX12_goesTo_136 (by decide) ?_
              exact b142 ls w120_0 v120_7 (lv_sub hl [1, 2, 3, 4, 6, 7, 0] rfl) (by omega) (by omega) (by omega) (by omega) (by omega) s120_u120_h0_12 s120_u120_h0_26 s120_u120_fa_ebk s120_u120_h0_2 s120_u120_h0_18
          have b94 : ∀ (ls : Array Slot) (w94_0 : Int32), lv_has ls 9 [(0, .ref h0), (1, .int p0), (2, .int p1), (3, .int v44_3), (4, .int v63_4), (5, .int v44_5), (6, .int v63_6)] → v63_6.toInt ≤ 7 → 0 ≤ w94_0.toInt → w94_0.toInt ≤ 4 → sl H0 h0 (zix E 13 12) = some (.ref fa) → sl H0 h0 (zix E 13 26) = some (.int bk) → sl H0 fa bk.toNatClampNeg = some (.int fv) → sl H0 h0 (zix E 13 2) = some (.ref pl) → sl H0 h0 (zix E 13 18) = some (.ref u63_h0_18) → W p l e rm_X12_goesTo s m args below meth c H0 [] 0 0 Q (F0 m 94 ls [.int w94_0]) := by
            intro ls w94_0 hl f94_1 f94_2 f94_3 s94_u94_h0_12 s94_u94_h0_26 s94_u94_fa_ebk s94_u94_h0_2 s94_u94_h0_18
            refine lv_istore (lv' := [(7, .int w94_0), (0, .ref h0), (1, .int p0), (2, .int p1), (3, .int v44_3), (4, .int v63_4), (5, .int v44_5), (6, .int v63_6)]) hx hb dX12_goesTo_94 hl (by decide) rfl (fun ls hl => ?_)
            refine lv_iload hx hb dX12_goesTo_96 (lv_at hl 7 rfl) ?_
            refine lv_iconst (v := 4) hx hb dX12_goesTo_98 (by decide) ?_
            refine lv_iand hx hb dX12_goesTo_99 ?_
            refine lv_topi (fun x_12 e_12 => ?_)
            have t_12 := z_andR e_12 kl_4 (by omega)
            refine lv_if_ne (tgt := 113) hx hb dX12_goesTo_100 (by decide) (fun c_13 => ?_) (fun c_13 => ?_)
            · have f_13 := z_ne c_13 rfl kl_0
              refine lv_aload_n hx hb dX12_goesTo_113 rfl (lv_at hl 1 rfl) ?_
              refine g_getR B fl_RX12_45 hT0 kh0 rfl rfl rfl rfl rfl dX12_goesTo_114 (fun q_14 s_14 k_q_14 => ?_)
              refine lv_iload hx hb dX12_goesTo_117 (lv_at hl 6 rfl) ?_
              refine g_ialdI (i := v44_5) (N := 72) B hT0 k_q_14 rfl rfl rfl rfl (by omega) (by omega) rfl dX12_goesTo_119 (fun x_15 s_15 a_15 b_15 => ?_)
              exact b120 ls w94_0 x_15 (lv_sub hl [1, 2, 3, 4, 5, 6, 7, 0] rfl) (by omega) (by omega) (by omega) (by omega) (by omega) s94_u94_h0_12 s94_u94_h0_26 s94_u94_fa_ebk s94_u94_h0_2 s94_u94_h0_18
            · have f_13 := z_eq c_13 rfl kl_0
              refine lv_aload_n hx hb dX12_goesTo_103 rfl (lv_at hl 1 rfl) ?_
              refine g_getR B fl_RX12_48 hT0 kh0 rfl rfl rfl rfl rfl dX12_goesTo_104 (fun q_16 s_16 k_q_16 => ?_)
              refine lv_iload hx hb dX12_goesTo_107 (lv_at hl 6 rfl) ?_
              refine g_ialdI (i := v44_5) (N := 72) B hT0 k_q_16 rfl rfl rfl rfl (by omega) (by omega) rfl dX12_goesTo_109 (fun x_17 s_17 a_17 b_17 => ?_)
              refine lv_goto (tgt := 120) hx hb dX12_goesTo_110 (by decide) ?_
              exact b120 ls w94_0 x_17 (lv_sub hl [1, 2, 3, 4, 5, 6, 7, 0] rfl) (by omega) (by omega) (by omega) (by omega) (by omega) s94_u94_h0_12 s94_u94_h0_26 s94_u94_fa_ebk s94_u94_h0_2 s94_u94_h0_18
          refine lv_iload hx hb dX12_goesTo_63 (lv_at hl 6 rfl) ?_
          refine lv_bipush (v := 8) hx hb dX12_goesTo_65 (by decide) ?_
          refine lv_icmp_ge (tgt := 176) hx hb dX12_goesTo_67 (by decide) (fun c_18 => ?_) (fun c_18 => ?_)
          · have f_18 := z_le c_18 kl_8 rfl
            obtain ⟨x_19, e_19⟩ : ∃ y : Int32, (v44_5 : Int32) + Int32.ofInt 1 = y := ⟨_, rfl⟩
            refine lv_iinc (v := x_19) (lv' := [(5, .int x_19), (0, .ref h0), (1, .int p0), (2, .int p1), (3, .int v44_3), (4, .int v63_4), (6, .int v63_6)]) hx hb dX12_goesTo_176 hl (k := 5) rfl e_19 (by decide) rfl (fun ls hl => ?_)
            have t_19 := z_inc2 e_19 rfl (by decide) (by omega) (by omega)
            refine lv_goto (tgt := 44) hx hb dX12_goesTo_179 (by decide) ?_
            exact ih44 ls v44_3 v63_4 x_19 (by omega) (lv_sub hl [1, 2, 3, 4, 5, 0] rfl) (by omega) (by omega) (by omega) (by omega) (by omega) (by omega) s63_u63_h0_12 s63_u63_h0_26 s63_u63_fa_ebk s63_u63_h0_2
          · have f_18 := z_nle c_18 kl_8 rfl
            refine lv_iload hx hb dX12_goesTo_70 (lv_at hl 6 rfl) ?_
            refine lv_iconst (v := 4) hx hb dX12_goesTo_72 (by decide) ?_
            refine lv_iand hx hb dX12_goesTo_73 ?_
            refine lv_topi (fun x_20 e_20 => ?_)
            have t_20 := z_andR e_20 kl_4 (by omega)
            refine lv_if_ne (tgt := 87) hx hb dX12_goesTo_74 (by decide) (fun c_21 => ?_) (fun c_21 => ?_)
            · have f_21 := z_ne c_21 rfl kl_0
              refine lv_aload_n hx hb dX12_goesTo_87 rfl (lv_at hl 0 rfl) ?_
              refine g_getR B fl_RX12_48 hT0 kh0 rfl rfl rfl rfl rfl dX12_goesTo_88 (fun q_22 s_22 k_q_22 => ?_)
              refine lv_iload hx hb dX12_goesTo_91 (lv_at hl 5 rfl) ?_
              refine g_ialdI (i := v44_5) (N := 72) B hT0 k_q_22 rfl rfl rfl rfl (by omega) (by omega) rfl dX12_goesTo_93 (fun x_23 s_23 a_23 b_23 => ?_)
              exact b94 ls x_23 (lv_sub hl [0, 1, 2, 3, 4, 5, 6] rfl) (by omega) (by omega) (by omega) s63_u63_h0_12 s63_u63_h0_26 s63_u63_fa_ebk s63_u63_h0_2 s63_u63_h0_18
            · have f_21 := z_eq c_21 rfl kl_0
              refine lv_aload_n hx hb dX12_goesTo_77 rfl (lv_at hl 0 rfl) ?_
              refine g_getR B fl_RX12_45 hT0 kh0 rfl rfl rfl rfl rfl dX12_goesTo_78 (fun q_24 s_24 k_q_24 => ?_)
              refine lv_iload hx hb dX12_goesTo_81 (lv_at hl 5 rfl) ?_
              refine g_ialdI (i := v44_5) (N := 72) B hT0 k_q_24 rfl rfl rfl rfl (by omega) (by omega) rfl dX12_goesTo_83 (fun x_25 s_25 a_25 b_25 => ?_)
              refine lv_goto (tgt := 94) hx hb dX12_goesTo_84 (by decide) ?_
              exact b94 ls x_25 (lv_sub hl [0, 1, 2, 3, 4, 5, 6] rfl) (by omega) (by omega) (by omega) s63_u63_h0_12 s63_u63_h0_26 s63_u63_fa_ebk s63_u63_h0_2 s63_u63_h0_18
      refine lv_iload hx hb dX12_goesTo_44 (lv_at hl 5 rfl) ?_
      refine lv_bipush (v := 6) hx hb dX12_goesTo_46 (by decide) ?_
      refine lv_iload_n hx hb dX12_goesTo_48 rfl (lv_at hl 3 rfl) ?_
      refine lv_imul hx hb dX12_goesTo_49 ?_
      refine lv_topi (fun x_26 e_26 => ?_)
      have t_26 := z_mul e_26 kl_6 rfl (by omega) (by omega)
      refine lv_aload_n hx hb dX12_goesTo_50 rfl (lv_at hl 0 rfl) ?_
      refine g_getR B fl_RX12_42 hT0 kh0 rfl rfl rfl rfl rfl dX12_goesTo_51 (fun q_27 s_27 k_q_27 => ?_)
      refine lv_iload_n hx hb dX12_goesTo_54 rfl (lv_at hl 3 rfl) ?_
      refine g_ialdI (i := v44_3) (N := 12) B hT0 k_q_27 rfl rfl rfl rfl (by omega) (by omega) rfl dX12_goesTo_55 (fun x_28 s_28 a_28 b_28 => ?_)
      refine lv_iadd hx hb dX12_goesTo_56 ?_
      refine lv_topi (fun x_29 e_29 => ?_)
      have t_29 := z_add e_29 rfl rfl (by omega) (by omega)
      refine lv_icmp_ge (tgt := 182) hx hb dX12_goesTo_57 (by decide) (fun c_30 => ?_) (fun c_30 => ?_)
      · have f_30 := z_le c_30 rfl rfl
        refine lv_iload hx hb dX12_goesTo_182 (lv_at hl 4 rfl) ?_
        exact rtPI (v := v44_4) B hr hlk hh hQ rfl ⟨by omega, by omega⟩ dX12_goesTo_184
      · have f_30 := z_nle c_30 rfl rfl
        refine lv_iconst (v := 0) hx hb dX12_goesTo_60 (by decide) ?_
        refine lv_istore (lv' := [(6, .int 0), (0, .ref h0), (1, .int p0), (2, .int p1), (3, .int v44_3), (4, .int v44_4), (5, .int v44_5)]) hx hb dX12_goesTo_61 hl (by decide) rfl (fun ls hl => ?_)
        have := kl_0
        exact b63 9 ls v44_4 0 q_27 (by omega) (lv_sub hl [1, 2, 3, 4, 5, 6, 0] rfl) k_q_27 (by omega) (by omega) (by omega) (by omega) (by omega) s44_u44_h0_12 s44_u44_h0_26 s44_u44_fa_ebk s44_u44_h0_2 s_27
  have b36 : ∀ (ls : Array Slot) (v36_3 : Int32) (w36_0 : Int32), lv_has ls 9 [(0, .ref h0), (1, .int p0), (2, .int p1), (3, .int v36_3)] → 0 ≤ v36_3.toInt → v36_3.toInt ≤ 11 → 0 ≤ w36_0.toInt → w36_0.toInt ≤ 1073741823 → sl H0 h0 (zix E 13 12) = some (.ref fa) → sl H0 h0 (zix E 13 26) = some (.int bk) → sl H0 fa bk.toNatClampNeg = some (.int fv) → sl H0 h0 (zix E 13 2) = some (.ref pl) → W p l e rm_X12_goesTo s m args below meth c H0 [] 0 0 Q (F0 m 36 ls [.int w36_0]) := by
    intro ls v36_3 w36_0 hl f36_1 f36_2 f36_3 f36_4 s36_u36_h0_12 s36_u36_h0_26 s36_u36_fa_ebk s36_u36_h0_2
    refine lv_istore (lv' := [(4, .int w36_0), (0, .ref h0), (1, .int p0), (2, .int p1), (3, .int v36_3)]) hx hb dX12_goesTo_36 hl (by decide) rfl (fun ls hl => ?_)
    refine lv_bipush (v := 6) hx hb dX12_goesTo_38 (by decide) ?_
    refine lv_iload_n hx hb dX12_goesTo_40 rfl (lv_at hl 4 rfl) ?_
    refine lv_imul hx hb dX12_goesTo_41 ?_
    refine lv_topi (fun x_31 e_31 => ?_)
    have t_31 := z_mul e_31 kl_6 rfl (by omega) (by omega)
    refine lv_istore (lv' := [(5, .int x_31), (4, .int w36_0), (0, .ref h0), (1, .int p0), (2, .int p1), (3, .int v36_3)]) hx hb dX12_goesTo_42 hl (by decide) rfl (fun ls hl => ?_)
    exact b44 73 ls v36_3 w36_0 x_31 (by omega) (lv_sub hl [2, 3, 4, 5, 1, 0] rfl) (by omega) (by omega) (by omega) (by omega) (by omega) (by omega) s36_u36_h0_12 s36_u36_h0_26 s36_u36_fa_ebk s36_u36_h0_2
  refine lv_bipush (v := 6) hx hb dX12_goesTo_0 (by decide) ?_
  refine lv_aload_n hx hb dX12_goesTo_2 rfl (lv_at hl 0 rfl) ?_
  refine g_get B fl_RX12_217 hT0 kh0 rfl rfl rfl dX12_goesTo_3 s_bk ?_
  refine lv_imul hx hb dX12_goesTo_6 ?_
  refine lv_topi (fun x_32 e_32 => ?_)
  have t_32 := z_mul e_32 kl_6 rfl (by omega) (by omega)
  refine lv_aload_n hx hb dX12_goesTo_7 rfl (lv_at hl 0 rfl) ?_
  refine lv_iload_n hx hb dX12_goesTo_8 rfl (lv_at hl 1 rfl) ?_
  refine lv_iload_n hx hb dX12_goesTo_9 rfl (lv_at hl 2 rfl) ?_
  refine zkPI (zrV (rest := [.int x_32]) B (c_X12_of l E hV H0 hT0 h0 kh0 p0 (by omega) (by omega) p1 (by omega) (by omega) pl kpl s_pl) cl_RX12_257 hT0 kh0 rfl rfl rfl rfl hl.1 rfl (Nat.le_of_ble_eq_true rfl) dX12_goesTo_10 rfl rfl ⟨rfl, rfl⟩ ⟨Nat.zero_le _, Nat.zero_le _⟩ (zO.rf hh)) (fun x_33 hp_33 => ?_)
  obtain ⟨hp_33_1, hp_33_2⟩ := hp_33
  refine lv_iconst (v := 2) hx hb dX12_goesTo_13 (by decide) ?_
  refine lv_idiv hx hb dX12_goesTo_14 (by decide) ?_
  refine lv_topi (fun x_34 e_34 => ?_)
  have t_34 := z_divs e_34 rfl kl_2 (by omega) (by omega)
  refine lv_iadd hx hb dX12_goesTo_15 ?_
  refine lv_topi (fun x_35 e_35 => ?_)
  have t_35 := z_add e_35 rfl rfl (by omega) (by omega)
  refine lv_istore_n (lv' := [(3, .int x_35), (0, .ref h0), (1, .int p0), (2, .int p1)]) hx hb dX12_goesTo_16 rfl hl (by decide) rfl (fun ls hl => ?_)
  refine lv_aload_n hx hb dX12_goesTo_17 rfl (lv_at hl 1 rfl) ?_
  refine g_getR B fl_RX12_55 hT0 kh0 rfl rfl rfl rfl rfl dX12_goesTo_18 (fun q_36 s_36 k_q_36 => ?_)
  refine lv_iload_n hx hb dX12_goesTo_21 rfl (lv_at hl 0 rfl) ?_
  refine g_zaldI (i := x_35) (N := 12) B hT0 k_q_36 rfl rfl rfl rfl (by omega) (by omega) rfl dX12_goesTo_22 (fun x_37 s_37 a_37 b_37 => ?_)
  refine lv_if_eq (tgt := 35) hx hb dX12_goesTo_23 (by decide) (fun c_38 => ?_) (fun c_38 => ?_)
  · have f_38 := z_eq c_38 rfl kl_0
    refine lv_iconst (v := 0) hx hb dX12_goesTo_35 (by decide) ?_
    have := kl_0
    exact b36 ls x_35 0 (lv_sub hl [1, 2, 3, 0] rfl) (by omega) (by omega) (by omega) (by omega) s_fa s_bk s_fv s_pl
  · have f_38 := z_ne c_38 rfl kl_0
    refine lv_aload_n hx hb dX12_goesTo_26 rfl (lv_at hl 1 rfl) ?_
    refine lv_iload_n hx hb dX12_goesTo_27 rfl (lv_at hl 2 rfl) ?_
    refine lv_iload_n hx hb dX12_goesTo_28 rfl (lv_at hl 3 rfl) ?_
    refine zkPI (zrV (rest := []) B (c_X12_byForward l E hV H0 hT0 h0 kh0 p0 (by omega) (by omega) p1 (by omega) (by omega) fa kfa s_fa bk s_bk fv s_fv (by omega) (by omega)) cl_RX12_268 hT0 kh0 rfl rfl rfl rfl hl.1 rfl (Nat.le_of_ble_eq_true rfl) dX12_goesTo_29 rfl rfl ⟨rfl, rfl⟩ ⟨Nat.zero_le _, Nat.zero_le _⟩ (zO.rf hh)) (fun x_39 hp_39 => ?_)
    obtain ⟨hp_39_1, hp_39_2⟩ := hp_39
    refine lv_goto (tgt := 36) hx hb dX12_goesTo_32 (by decide) ?_
    exact b36 ls x_35 x_39 (lv_sub hl [1, 2, 3, 0] rfl) (by omega) (by omega) (by omega) (by omega) s_fa s_bk s_fv s_pl

theorem dX12_hasKing_0 : decode cX12_hasKing 0 = .ok (.iconst 0, 1) := by decide +kernel
theorem dX12_hasKing_1 : decode cX12_hasKing 1 = .ok (.istore_n 3, 1) := by decide +kernel
theorem dX12_hasKing_2 : decode cX12_hasKing 2 = .ok (.iload_n 3, 1) := by decide +kernel
theorem dX12_hasKing_3 : decode cX12_hasKing 3 = .ok (.aload_n 0, 1) := by decide +kernel
theorem dX12_hasKing_4 : decode cX12_hasKing 4 = .ok (.invokevirtual 275, 3) := by decide +kernel
theorem dX12_hasKing_7 : decode cX12_hasKing 7 = .ok (.if_icmp .ge 56, 3) := by decide +kernel
theorem dX12_hasKing_10 : decode cX12_hasKing 10 = .ok (.aload_n 0, 1) := by decide +kernel
theorem dX12_hasKing_11 : decode cX12_hasKing 11 = .ok (.iload_n 1, 1) := by decide +kernel
theorem dX12_hasKing_12 : decode cX12_hasKing 12 = .ok (.iload_n 3, 1) := by decide +kernel
theorem dX12_hasKing_13 : decode cX12_hasKing 13 = .ok (.invokevirtual 257, 3) := by decide +kernel
theorem dX12_hasKing_16 : decode cX12_hasKing 16 = .ok (.ifCond .lt 41, 3) := by decide +kernel
theorem dX12_hasKing_19 : decode cX12_hasKing 19 = .ok (.aload_n 0, 1) := by decide +kernel
theorem dX12_hasKing_20 : decode cX12_hasKing 20 = .ok (.iload_n 1, 1) := by decide +kernel
theorem dX12_hasKing_21 : decode cX12_hasKing 21 = .ok (.iload_n 3, 1) := by decide +kernel
theorem dX12_hasKing_22 : decode cX12_hasKing 22 = .ok (.invokevirtual 257, 3) := by decide +kernel
theorem dX12_hasKing_25 : decode cX12_hasKing 25 = .ok (.iconst 1, 1) := by decide +kernel
theorem dX12_hasKing_26 : decode cX12_hasKing 26 = .ok (.iand, 1) := by decide +kernel
theorem dX12_hasKing_27 : decode cX12_hasKing 27 = .ok (.iload_n 2, 1) := by decide +kernel
theorem dX12_hasKing_28 : decode cX12_hasKing 28 = .ok (.if_icmp .ne 29, 3) := by decide +kernel
theorem dX12_hasKing_31 : decode cX12_hasKing 31 = .ok (.aload_n 0, 1) := by decide +kernel
theorem dX12_hasKing_32 : decode cX12_hasKing 32 = .ok (.getfield 51, 3) := by decide +kernel
theorem dX12_hasKing_35 : decode cX12_hasKing 35 = .ok (.bipush 6, 2) := by decide +kernel
theorem dX12_hasKing_37 : decode cX12_hasKing 37 = .ok (.aload_n 0, 1) := by decide +kernel
theorem dX12_hasKing_38 : decode cX12_hasKing 38 = .ok (.getfield 217, 3) := by decide +kernel
theorem dX12_hasKing_41 : decode cX12_hasKing 41 = .ok (.imul, 1) := by decide +kernel
theorem dX12_hasKing_42 : decode cX12_hasKing 42 = .ok (.aload_n 0, 1) := by decide +kernel
theorem dX12_hasKing_43 : decode cX12_hasKing 43 = .ok (.iload_n 1, 1) := by decide +kernel
theorem dX12_hasKing_44 : decode cX12_hasKing 44 = .ok (.iload_n 3, 1) := by decide +kernel
theorem dX12_hasKing_45 : decode cX12_hasKing 45 = .ok (.invokevirtual 257, 3) := by decide +kernel
theorem dX12_hasKing_48 : decode cX12_hasKing 48 = .ok (.iconst 2, 1) := by decide +kernel
theorem dX12_hasKing_49 : decode cX12_hasKing 49 = .ok (.idiv, 1) := by decide +kernel
theorem dX12_hasKing_50 : decode cX12_hasKing 50 = .ok (.iadd, 1) := by decide +kernel
theorem dX12_hasKing_51 : decode cX12_hasKing 51 = .ok (.baload, 1) := by decide +kernel
theorem dX12_hasKing_52 : decode cX12_hasKing 52 = .ok (.ifCond .eq 5, 3) := by decide +kernel
theorem dX12_hasKing_55 : decode cX12_hasKing 55 = .ok (.iconst 1, 1) := by decide +kernel
theorem dX12_hasKing_56 : decode cX12_hasKing 56 = .ok (.ireturn, 1) := by decide +kernel
theorem dX12_hasKing_57 : decode cX12_hasKing 57 = .ok (.iinc 3 1, 3) := by decide +kernel
theorem dX12_hasKing_60 : decode cX12_hasKing 60 = .ok (.goto (-58), 3) := by decide +kernel
theorem dX12_hasKing_63 : decode cX12_hasKing 63 = .ok (.iconst 0, 1) := by decide +kernel
theorem dX12_hasKing_64 : decode cX12_hasKing 64 = .ok (.ireturn, 1) := by decide +kernel
def rm_X12_hasKing : Room := { frames := 1, cells := 0, slots := 0, locals := 22 }
set_option maxRecDepth 100000 in
set_option maxHeartbeats 4000000 in
theorem c_X12_hasKing (l : Launch) (E : zE) (hV : zV E) (H0 : Heap) (hT0 : HT E H0) (h0 : Nat) (kh0 : eK E h0 = 13) (p0 : Int32) (p0_lo : 0 ≤ p0.toInt) (p0_hi : p0.toInt ≤ 195) (p1 : Int32) : Met l yX12_hasKing (zws yX12_hasKing cX12_hasKing 4 (some .boolean)) rm_X12_hasKing (zP E H0 [.ref h0, .int p0, .int p1]) (zPI (fun r => 0 ≤ r.toInt ∧ r.toInt ≤ 1)) 0 0 (fun _ => False) := by
  refine zEnt (by decide) (Nat.le_of_ble_eq_true rfl) (fun p e s m args below meth c ls Q B hr hlk hh hQ hl => ?_)
  have hx := B.1
  have hb := B.2.1
  have hl : lv_has ls 4 [(0, .ref h0), (1, .int p0), (2, .int p1)] := hl
  have b2 : ∀ (n2 : Nat) (ls : Array Slot) (v2_3 : Int32), 30 - v2_3.toInt < (n2 : Int) → lv_has ls 4 [(0, .ref h0), (1, .int p0), (2, .int p1), (3, .int v2_3)] → 0 ≤ v2_3.toInt → v2_3.toInt ≤ 30 → W p l e rm_X12_hasKing s m args below meth c H0 [] 0 0 Q (F0 m 2 ls []) := by
    intro n2
    induction n2 with
    | zero =>
      intro ls v2_3 hm2 hl f2_1 f2_2
      exact absurd hm2 (by omega)
    | succ n2 ih2 =>
      intro ls v2_3 hm2 hl f2_1 f2_2
      have b57 : ∀ (ls : Array Slot) (u57_h0_26 : Int32), lv_has ls 4 [(0, .ref h0), (1, .int p0), (2, .int p1), (3, .int v2_3)] → v2_3.toInt ≤ 29 → 0 ≤ u57_h0_26.toInt → u57_h0_26.toInt ≤ 1 → sl H0 h0 (zix E 13 26) = some (.int u57_h0_26) → W p l e rm_X12_hasKing s m args below meth c H0 [] 0 0 Q (F0 m 57 ls []) := by
        intro ls u57_h0_26 hl f57_1 f57_2 f57_3 s57_u57_h0_26
        obtain ⟨x_1, e_1⟩ : ∃ y : Int32, (v2_3 : Int32) + Int32.ofInt 1 = y := ⟨_, rfl⟩
        refine lv_iinc (v := x_1) (lv' := [(3, .int x_1), (0, .ref h0), (1, .int p0), (2, .int p1)]) hx hb dX12_hasKing_57 hl (k := 3) rfl e_1 (by decide) rfl (fun ls hl => ?_)
        have t_1 := z_inc2 e_1 rfl (by decide) (by omega) (by omega)
        refine lv_goto (tgt := 2) hx hb dX12_hasKing_60 (by decide) ?_
        exact ih2 ls x_1 (by omega) (lv_sub hl [1, 2, 3, 0] rfl) (by omega) (by omega)
      refine lv_iload_n hx hb dX12_hasKing_2 rfl (lv_at hl 3 rfl) ?_
      refine lv_aload_n hx hb dX12_hasKing_3 rfl (lv_at hl 0 rfl) ?_
      obtain ⟨q_2, s_2, k_q_2⟩ := HT.atR hT0 kh0 rfl (j := 12) (by decide) rfl
      obtain ⟨x_3, s_3, a_3, b_3⟩ := HT.atI hT0 kh0 rfl (j := 26) (by decide) rfl
      obtain ⟨x_4, s_4, a_4, b_4⟩ := HT.elI (i := x_3) (N := 2) hT0 k_q_2 rfl rfl rfl (by omega) (by omega) rfl
      refine zkPI (zrV (rest := [.int v2_3]) B (c_X12_squares l E hV H0 hT0 h0 kh0 q_2 k_q_2 s_2 x_3 s_3 x_4 s_4) cl_RX12_275 hT0 kh0 rfl rfl rfl rfl hl.1 rfl (Nat.le_of_ble_eq_true rfl) dX12_hasKing_4 rfl rfl ⟨rfl, rfl⟩ ⟨Nat.zero_le _, Nat.zero_le _⟩ (zO.rf hh)) (fun x_5 hp_5 => ?_)
      obtain ⟨hp_5_1, hp_5_2, hp_5_3⟩ := hp_5
      refine lv_icmp_ge (tgt := 63) hx hb dX12_hasKing_7 (by decide) (fun c_6 => ?_) (fun c_6 => ?_)
      · have f_6 := z_le c_6 rfl rfl
        refine lv_iconst (v := 0) hx hb dX12_hasKing_63 (by decide) ?_
        have := kl_0
        have := kl_0
        exact rtPI (v := 0) B hr hlk hh hQ rfl ⟨by omega, by omega⟩ dX12_hasKing_64
      · have f_6 := z_nle c_6 rfl rfl
        refine lv_aload_n hx hb dX12_hasKing_10 rfl (lv_at hl 0 rfl) ?_
        refine lv_iload_n hx hb dX12_hasKing_11 rfl (lv_at hl 1 rfl) ?_
        refine lv_iload_n hx hb dX12_hasKing_12 rfl (lv_at hl 3 rfl) ?_
        obtain ⟨q_7, s_7, k_q_7⟩ := HT.atR hT0 kh0 rfl (j := 2) (by decide) rfl
        refine zkPI (zrV (rest := []) B (c_X12_of l E hV H0 hT0 h0 kh0 p0 (by omega) (by omega) v2_3 (by omega) (by omega) q_7 k_q_7 s_7) cl_RX12_257 hT0 kh0 rfl rfl rfl rfl hl.1 rfl (Nat.le_of_ble_eq_true rfl) dX12_hasKing_13 rfl rfl ⟨rfl, rfl⟩ ⟨Nat.zero_le _, Nat.zero_le _⟩ (zO.rf hh)) (fun x_8 hp_8 => ?_)
        obtain ⟨hp_8_1, hp_8_2⟩ := hp_8
        refine lv_if_lt (tgt := 57) hx hb dX12_hasKing_16 (by decide) (fun c_9 => ?_) (fun c_9 => ?_)
        · have f_9 := z_lt c_9 rfl kl_0
          exact b57 ls x_3 (lv_sub hl [0, 1, 2, 3] rfl) (by omega) (by omega) (by omega) s_3
        · have f_9 := z_nlt c_9 rfl kl_0
          refine lv_aload_n hx hb dX12_hasKing_19 rfl (lv_at hl 0 rfl) ?_
          refine lv_iload_n hx hb dX12_hasKing_20 rfl (lv_at hl 1 rfl) ?_
          refine lv_iload_n hx hb dX12_hasKing_21 rfl (lv_at hl 3 rfl) ?_
          refine zkPI (zrV (rest := []) B (c_X12_of l E hV H0 hT0 h0 kh0 p0 (by omega) (by omega) v2_3 (by omega) (by omega) q_7 k_q_7 s_7) cl_RX12_257 hT0 kh0 rfl rfl rfl rfl hl.1 rfl (Nat.le_of_ble_eq_true rfl) dX12_hasKing_22 rfl rfl ⟨rfl, rfl⟩ ⟨Nat.zero_le _, Nat.zero_le _⟩ (zO.rf hh)) (fun x_10 hp_10 => ?_)
          obtain ⟨hp_10_1, hp_10_2⟩ := hp_10
          refine lv_iconst (v := 1) hx hb dX12_hasKing_25 (by decide) ?_
          refine lv_iand hx hb dX12_hasKing_26 ?_
          refine lv_topi (fun x_11 e_11 => ?_)
          have t_11 := z_andR e_11 kl_1 (by omega)
          refine lv_iload_n hx hb dX12_hasKing_27 rfl (lv_at hl 2 rfl) ?_
          refine lv_icmp_ne (tgt := 57) hx hb dX12_hasKing_28 (by decide) (fun c_12 => ?_) (fun c_12 => ?_)
          · have f_12 := z_ne c_12 rfl rfl
            exact b57 ls x_3 (lv_sub hl [0, 1, 2, 3] rfl) (by omega) (by omega) (by omega) s_3
          · have f_12 := z_eq c_12 rfl rfl
            refine lv_aload_n hx hb dX12_hasKing_31 rfl (lv_at hl 0 rfl) ?_
            refine g_getR B fl_RX12_51 hT0 kh0 rfl rfl rfl rfl rfl dX12_hasKing_32 (fun q_13 s_13 k_q_13 => ?_)
            refine lv_bipush (v := 6) hx hb dX12_hasKing_35 (by decide) ?_
            refine lv_aload_n hx hb dX12_hasKing_37 rfl (lv_at hl 0 rfl) ?_
            refine g_get B fl_RX12_217 hT0 kh0 rfl rfl rfl dX12_hasKing_38 s_3 ?_
            refine lv_imul hx hb dX12_hasKing_41 ?_
            refine lv_topi (fun x_14 e_14 => ?_)
            have t_14 := z_mul e_14 kl_6 rfl (by omega) (by omega)
            refine lv_aload_n hx hb dX12_hasKing_42 rfl (lv_at hl 0 rfl) ?_
            refine lv_iload_n hx hb dX12_hasKing_43 rfl (lv_at hl 1 rfl) ?_
            refine lv_iload_n hx hb dX12_hasKing_44 rfl (lv_at hl 3 rfl) ?_
            refine zkPI (zrV (rest := [.int x_14, .ref q_13]) B (c_X12_of l E hV H0 hT0 h0 kh0 p0 (by omega) (by omega) v2_3 (by omega) (by omega) q_7 k_q_7 s_7) cl_RX12_257 hT0 kh0 rfl rfl rfl rfl hl.1 rfl (Nat.le_of_ble_eq_true rfl) dX12_hasKing_45 rfl rfl ⟨rfl, rfl⟩ ⟨Nat.zero_le _, Nat.zero_le _⟩ (zO.rf hh)) (fun x_15 hp_15 => ?_)
            obtain ⟨hp_15_1, hp_15_2⟩ := hp_15
            refine lv_iconst (v := 2) hx hb dX12_hasKing_48 (by decide) ?_
            refine lv_idiv hx hb dX12_hasKing_49 (by decide) ?_
            refine lv_topi (fun x_16 e_16 => ?_)
            have t_16 := z_divs e_16 rfl kl_2 (by omega) (by omega)
            refine lv_iadd hx hb dX12_hasKing_50 ?_
            refine lv_topi (fun x_17 e_17 => ?_)
            have t_17 := z_add e_17 rfl rfl (by omega) (by omega)
            refine g_zaldI (i := x_17) (N := 12) B hT0 k_q_13 rfl rfl rfl rfl (by omega) (by omega) rfl dX12_hasKing_51 (fun x_18 s_18 a_18 b_18 => ?_)
            refine lv_if_eq (tgt := 57) hx hb dX12_hasKing_52 (by decide) (fun c_19 => ?_) (fun c_19 => ?_)
            · have f_19 := z_eq c_19 rfl kl_0
              exact b57 ls x_3 (lv_sub hl [0, 1, 2, 3] rfl) (by omega) (by omega) (by omega) s_3
            · have f_19 := z_ne c_19 rfl kl_0
              refine lv_iconst (v := 1) hx hb dX12_hasKing_55 (by decide) ?_
              have := kl_1
              have := kl_1
              exact rtPI (v := 1) B hr hlk hh hQ rfl ⟨by omega, by omega⟩ dX12_hasKing_56
  refine lv_iconst (v := 0) hx hb dX12_hasKing_0 (by decide) ?_
  refine lv_istore_n (lv' := [(3, .int 0), (0, .ref h0), (1, .int p0), (2, .int p1)]) hx hb dX12_hasKing_1 rfl hl (by decide) rfl (fun ls hl => ?_)
  have := kl_0
  exact b2 31 ls 0 (by omega) (lv_sub hl [1, 2, 3, 0] rfl) (by omega) (by omega)

theorem dX12_kingless_0 : decode cX12_kingless 0 = .ok (.iconst 0, 1) := by decide +kernel
theorem dX12_kingless_1 : decode cX12_kingless 1 = .ok (.istore_n 2, 1) := by decide +kernel
theorem dX12_kingless_2 : decode cX12_kingless 2 = .ok (.iload_n 2, 1) := by decide +kernel
theorem dX12_kingless_3 : decode cX12_kingless 3 = .ok (.iconst 2, 1) := by decide +kernel
theorem dX12_kingless_4 : decode cX12_kingless 4 = .ok (.if_icmp .ge 36, 3) := by decide +kernel
theorem dX12_kingless_7 : decode cX12_kingless 7 = .ok (.aload_n 0, 1) := by decide +kernel
theorem dX12_kingless_8 : decode cX12_kingless 8 = .ok (.getfield 61, 3) := by decide +kernel
theorem dX12_kingless_11 : decode cX12_kingless 11 = .ok (.iconst 2, 1) := by decide +kernel
theorem dX12_kingless_12 : decode cX12_kingless 12 = .ok (.aload_n 0, 1) := by decide +kernel
theorem dX12_kingless_13 : decode cX12_kingless 13 = .ok (.getfield 217, 3) := by decide +kernel
theorem dX12_kingless_16 : decode cX12_kingless 16 = .ok (.imul, 1) := by decide +kernel
theorem dX12_kingless_17 : decode cX12_kingless 17 = .ok (.iload_n 2, 1) := by decide +kernel
theorem dX12_kingless_18 : decode cX12_kingless 18 = .ok (.iadd, 1) := by decide +kernel
theorem dX12_kingless_19 : decode cX12_kingless 19 = .ok (.baload, 1) := by decide +kernel
theorem dX12_kingless_20 : decode cX12_kingless 20 = .ok (.ifCond .eq 14, 3) := by decide +kernel
theorem dX12_kingless_23 : decode cX12_kingless 23 = .ok (.aload_n 0, 1) := by decide +kernel
theorem dX12_kingless_24 : decode cX12_kingless 24 = .ok (.iload_n 1, 1) := by decide +kernel
theorem dX12_kingless_25 : decode cX12_kingless 25 = .ok (.iload_n 2, 1) := by decide +kernel
theorem dX12_kingless_26 : decode cX12_kingless 26 = .ok (.invokevirtual 278, 3) := by decide +kernel
theorem dX12_kingless_29 : decode cX12_kingless 29 = .ok (.ifCond .ne 5, 3) := by decide +kernel
theorem dX12_kingless_32 : decode cX12_kingless 32 = .ok (.iload_n 2, 1) := by decide +kernel
theorem dX12_kingless_33 : decode cX12_kingless 33 = .ok (.ireturn, 1) := by decide +kernel
theorem dX12_kingless_34 : decode cX12_kingless 34 = .ok (.iinc 2 1, 3) := by decide +kernel
theorem dX12_kingless_37 : decode cX12_kingless 37 = .ok (.goto (-35), 3) := by decide +kernel
theorem dX12_kingless_40 : decode cX12_kingless 40 = .ok (.iconst (-1), 1) := by decide +kernel
theorem dX12_kingless_41 : decode cX12_kingless 41 = .ok (.ireturn, 1) := by decide +kernel
def rm_X12_kingless : Room := { frames := 2, cells := 0, slots := 0, locals := 45 }
set_option maxRecDepth 100000 in
set_option maxHeartbeats 4000000 in
theorem c_X12_kingless (l : Launch) (E : zE) (hV : zV E) (H0 : Heap) (hT0 : HT E H0) (h0 : Nat) (kh0 : eK E h0 = 13) (p0 : Int32) (p0_lo : 0 ≤ p0.toInt) (p0_hi : p0.toInt ≤ 195) : Met l yX12_kingless (zws yX12_kingless cX12_kingless 3 (some .int)) rm_X12_kingless (zP E H0 [.ref h0, .int p0]) (zPI (fun r => (-1) ≤ r.toInt ∧ r.toInt ≤ 1)) 0 0 (fun _ => False) := by
  refine zEnt (by decide) (Nat.le_of_ble_eq_true rfl) (fun p e s m args below meth c ls Q B hr hlk hh hQ hl => ?_)
  have hx := B.1
  have hb := B.2.1
  have hl : lv_has ls 3 [(0, .ref h0), (1, .int p0)] := hl
  have b2 : ∀ (n2 : Nat) (ls : Array Slot) (v2_2 : Int32), 2 - v2_2.toInt < (n2 : Int) → lv_has ls 3 [(0, .ref h0), (1, .int p0), (2, .int v2_2)] → 0 ≤ v2_2.toInt → v2_2.toInt ≤ 2 → W p l e rm_X12_kingless s m args below meth c H0 [] 0 0 Q (F0 m 2 ls []) := by
    intro n2
    induction n2 with
    | zero =>
      intro ls v2_2 hm2 hl f2_1 f2_2
      exact absurd hm2 (by omega)
    | succ n2 ih2 =>
      intro ls v2_2 hm2 hl f2_1 f2_2
      have b34 : ∀ (ls : Array Slot) (u34_h0_24 : Nat) (u34_h0_26 : Int32), lv_has ls 3 [(0, .ref h0), (1, .int p0), (2, .int v2_2)] → eK E u34_h0_24 = 73 → v2_2.toInt ≤ 1 → 0 ≤ u34_h0_26.toInt → u34_h0_26.toInt ≤ 1 → sl H0 h0 (zix E 13 24) = some (.ref u34_h0_24) → sl H0 h0 (zix E 13 26) = some (.int u34_h0_26) → W p l e rm_X12_kingless s m args below meth c H0 [] 0 0 Q (F0 m 34 ls []) := by
        intro ls u34_h0_24 u34_h0_26 hl k_u34_h0_24 f34_1 f34_2 f34_3 s34_u34_h0_24 s34_u34_h0_26
        obtain ⟨x_1, e_1⟩ : ∃ y : Int32, (v2_2 : Int32) + Int32.ofInt 1 = y := ⟨_, rfl⟩
        refine lv_iinc (v := x_1) (lv' := [(2, .int x_1), (0, .ref h0), (1, .int p0)]) hx hb dX12_kingless_34 hl (k := 2) rfl e_1 (by decide) rfl (fun ls hl => ?_)
        have t_1 := z_inc2 e_1 rfl (by decide) (by omega) (by omega)
        refine lv_goto (tgt := 2) hx hb dX12_kingless_37 (by decide) ?_
        exact ih2 ls x_1 (by omega) (lv_sub hl [1, 2, 0] rfl) (by omega) (by omega)
      refine lv_iload_n hx hb dX12_kingless_2 rfl (lv_at hl 2 rfl) ?_
      refine lv_iconst (v := 2) hx hb dX12_kingless_3 (by decide) ?_
      refine lv_icmp_ge (tgt := 40) hx hb dX12_kingless_4 (by decide) (fun c_2 => ?_) (fun c_2 => ?_)
      · have f_2 := z_le c_2 kl_2 rfl
        refine lv_iconst (v := (-1)) hx hb dX12_kingless_40 (by decide) ?_
        have := kl_m1
        have := kl_m1
        exact rtPI (v := (-1)) B hr hlk hh hQ rfl ⟨by omega, by omega⟩ dX12_kingless_41
      · have f_2 := z_nle c_2 kl_2 rfl
        refine lv_aload_n hx hb dX12_kingless_7 rfl (lv_at hl 0 rfl) ?_
        refine g_getR B fl_RX12_61 hT0 kh0 rfl rfl rfl rfl rfl dX12_kingless_8 (fun q_3 s_3 k_q_3 => ?_)
        refine lv_iconst (v := 2) hx hb dX12_kingless_11 (by decide) ?_
        refine lv_aload_n hx hb dX12_kingless_12 rfl (lv_at hl 0 rfl) ?_
        refine g_getI B fl_RX12_217 hT0 kh0 rfl rfl rfl rfl rfl dX12_kingless_13 (fun x_4 s_4 a_4 b_4 => ?_)
        refine lv_imul hx hb dX12_kingless_16 ?_
        refine lv_topi (fun x_5 e_5 => ?_)
        have t_5 := z_mul e_5 kl_2 rfl (by omega) (by omega)
        refine lv_iload_n hx hb dX12_kingless_17 rfl (lv_at hl 2 rfl) ?_
        refine lv_iadd hx hb dX12_kingless_18 ?_
        refine lv_topi (fun x_6 e_6 => ?_)
        have t_6 := z_add e_6 rfl rfl (by omega) (by omega)
        refine g_zaldI (i := x_6) (N := 4) B hT0 k_q_3 rfl rfl rfl rfl (by omega) (by omega) rfl dX12_kingless_19 (fun x_7 s_7 a_7 b_7 => ?_)
        refine lv_if_eq (tgt := 34) hx hb dX12_kingless_20 (by decide) (fun c_8 => ?_) (fun c_8 => ?_)
        · have f_8 := z_eq c_8 rfl kl_0
          exact b34 ls q_3 x_4 (lv_sub hl [0, 1, 2] rfl) k_q_3 (by omega) (by omega) (by omega) s_3 s_4
        · have f_8 := z_ne c_8 rfl kl_0
          refine lv_aload_n hx hb dX12_kingless_23 rfl (lv_at hl 0 rfl) ?_
          refine lv_iload_n hx hb dX12_kingless_24 rfl (lv_at hl 1 rfl) ?_
          refine lv_iload_n hx hb dX12_kingless_25 rfl (lv_at hl 2 rfl) ?_
          refine zkPI (zrV (rest := []) B (c_X12_hasKing l E hV H0 hT0 h0 kh0 p0 (by omega) (by omega) v2_2) cl_RX12_278 hT0 kh0 rfl rfl rfl rfl hl.1 rfl (Nat.le_of_ble_eq_true rfl) dX12_kingless_26 rfl rfl ⟨rfl, rfl⟩ ⟨Nat.zero_le _, Nat.zero_le _⟩ (zO.rf hh)) (fun x_9 hp_9 => ?_)
          obtain ⟨hp_9_1, hp_9_2⟩ := hp_9
          refine lv_if_ne (tgt := 34) hx hb dX12_kingless_29 (by decide) (fun c_10 => ?_) (fun c_10 => ?_)
          · have f_10 := z_ne c_10 rfl kl_0
            exact b34 ls q_3 x_4 (lv_sub hl [0, 1, 2] rfl) k_q_3 (by omega) (by omega) (by omega) s_3 s_4
          · have f_10 := z_eq c_10 rfl kl_0
            refine lv_iload_n hx hb dX12_kingless_32 rfl (lv_at hl 2 rfl) ?_
            exact rtPI (v := v2_2) B hr hlk hh hQ rfl ⟨by omega, by omega⟩ dX12_kingless_33
  refine lv_iconst (v := 0) hx hb dX12_kingless_0 (by decide) ?_
  refine lv_istore_n (lv' := [(2, .int 0), (0, .ref h0), (1, .int p0)]) hx hb dX12_kingless_1 rfl hl (by decide) rfl (fun ls hl => ?_)
  have := kl_0
  exact b2 3 ls 0 (by omega) (lv_sub hl [1, 2, 0] rfl) (by omega) (by omega)

theorem dX12_isOwn_0 : decode cX12_isOwn 0 = .ok (.aload_n 0, 1) := by decide +kernel
theorem dX12_isOwn_1 : decode cX12_isOwn 1 = .ok (.iload_n 1, 1) := by decide +kernel
theorem dX12_isOwn_2 : decode cX12_isOwn 2 = .ok (.iload_n 2, 1) := by decide +kernel
theorem dX12_isOwn_3 : decode cX12_isOwn 3 = .ok (.invokevirtual 257, 3) := by decide +kernel
theorem dX12_isOwn_6 : decode cX12_isOwn 6 = .ok (.ifCond .lt 23, 3) := by decide +kernel
theorem dX12_isOwn_9 : decode cX12_isOwn 9 = .ok (.aload_n 0, 1) := by decide +kernel
theorem dX12_isOwn_10 : decode cX12_isOwn 10 = .ok (.iload_n 1, 1) := by decide +kernel
theorem dX12_isOwn_11 : decode cX12_isOwn 11 = .ok (.iload_n 2, 1) := by decide +kernel
theorem dX12_isOwn_12 : decode cX12_isOwn 12 = .ok (.invokevirtual 257, 3) := by decide +kernel
theorem dX12_isOwn_15 : decode cX12_isOwn 15 = .ok (.iconst 1, 1) := by decide +kernel
theorem dX12_isOwn_16 : decode cX12_isOwn 16 = .ok (.iand, 1) := by decide +kernel
theorem dX12_isOwn_17 : decode cX12_isOwn 17 = .ok (.aload_n 0, 1) := by decide +kernel
theorem dX12_isOwn_18 : decode cX12_isOwn 18 = .ok (.iload_n 1, 1) := by decide +kernel
theorem dX12_isOwn_19 : decode cX12_isOwn 19 = .ok (.invokevirtual 281, 3) := by decide +kernel
theorem dX12_isOwn_22 : decode cX12_isOwn 22 = .ok (.if_icmp .ne 7, 3) := by decide +kernel
theorem dX12_isOwn_25 : decode cX12_isOwn 25 = .ok (.iconst 1, 1) := by decide +kernel
theorem dX12_isOwn_26 : decode cX12_isOwn 26 = .ok (.goto 4, 3) := by decide +kernel
theorem dX12_isOwn_29 : decode cX12_isOwn 29 = .ok (.iconst 0, 1) := by decide +kernel
theorem dX12_isOwn_30 : decode cX12_isOwn 30 = .ok (.ireturn, 1) := by decide +kernel
def rm_X12_isOwn : Room := { frames := 2, cells := 0, slots := 0, locals := 43 }
set_option maxRecDepth 100000 in
set_option maxHeartbeats 4000000 in
theorem c_X12_isOwn (l : Launch) (E : zE) (hV : zV E) (H0 : Heap) (hT0 : HT E H0) (h0 : Nat) (kh0 : eK E h0 = 13) (p0 : Int32) (p0_lo : 0 ≤ p0.toInt) (p0_hi : p0.toInt ≤ 195) (p1 : Int32) (p1_lo : 0 ≤ p1.toInt) (p1_hi : p1.toInt ≤ 29) (pl : Nat) (kpl : eK E pl = 60) (s_pl : sl H0 h0 (zix E 13 2) = some (.ref pl)) : Met l yX12_isOwn (zws yX12_isOwn cX12_isOwn 3 (some .boolean)) rm_X12_isOwn (zP E H0 [.ref h0, .int p0, .int p1]) (zPI (fun r => 0 ≤ r.toInt ∧ r.toInt ≤ 1 ∧ (r.toInt = 0 ∨ zOw H0 pl p0 p1))) 0 0 (fun _ => False) := by
  refine zEnt (by decide) (Nat.le_of_ble_eq_true rfl) (fun p e s m args below meth c ls Q B hr hlk hh hQ hl => ?_)
  have hx := B.1
  have hb := B.2.1
  have hl : lv_has ls 3 [(0, .ref h0), (1, .int p0), (2, .int p1)] := hl
  refine lv_aload_n hx hb dX12_isOwn_0 rfl (lv_at hl 0 rfl) ?_
  refine lv_iload_n hx hb dX12_isOwn_1 rfl (lv_at hl 1 rfl) ?_
  refine lv_iload_n hx hb dX12_isOwn_2 rfl (lv_at hl 2 rfl) ?_
  refine zkPI (zrV (rest := []) B (c_X12_of l E hV H0 hT0 h0 kh0 p0 (by omega) (by omega) p1 (by omega) (by omega) pl kpl s_pl) cl_RX12_257 hT0 kh0 rfl rfl rfl rfl hl.1 rfl (Nat.le_of_ble_eq_true rfl) dX12_isOwn_3 rfl rfl ⟨rfl, rfl⟩ ⟨Nat.zero_le _, Nat.zero_le _⟩ (zO.rf hh)) (fun x_1 hp_1 => ?_)
  obtain ⟨hp_1_1, hp_1_2⟩ := hp_1
  refine lv_if_lt (tgt := 29) hx hb dX12_isOwn_6 (by decide) (fun c_2 => ?_) (fun c_2 => ?_)
  · have f_2 := z_lt c_2 rfl kl_0
    refine lv_iconst (v := 0) hx hb dX12_isOwn_29 (by decide) ?_
    have := kl_0
    have := kl_0
    exact rtPI (v := 0) B hr hlk hh hQ rfl ⟨by omega, by omega, Or.inl kl_0⟩ dX12_isOwn_30
  · have f_2 := z_nlt c_2 rfl kl_0
    refine lv_aload_n hx hb dX12_isOwn_9 rfl (lv_at hl 0 rfl) ?_
    refine lv_iload_n hx hb dX12_isOwn_10 rfl (lv_at hl 1 rfl) ?_
    refine lv_iload_n hx hb dX12_isOwn_11 rfl (lv_at hl 2 rfl) ?_
    refine zkPI (zrV (rest := []) B (c_X12_of l E hV H0 hT0 h0 kh0 p0 (by omega) (by omega) p1 (by omega) (by omega) pl kpl s_pl) cl_RX12_257 hT0 kh0 rfl rfl rfl rfl hl.1 rfl (Nat.le_of_ble_eq_true rfl) dX12_isOwn_12 rfl rfl ⟨rfl, rfl⟩ ⟨Nat.zero_le _, Nat.zero_le _⟩ (zO.rf hh)) (fun x_3 hp_3 => ?_)
    obtain ⟨hp_3_1, hp_3_2⟩ := hp_3
    refine lv_iconst (v := 1) hx hb dX12_isOwn_15 (by decide) ?_
    refine lv_iand hx hb dX12_isOwn_16 ?_
    refine lv_topi (fun x_4 e_4 => ?_)
    have t_4 := z_andR e_4 kl_1 (by omega)
    refine lv_aload_n hx hb dX12_isOwn_17 rfl (lv_at hl 0 rfl) ?_
    refine lv_iload_n hx hb dX12_isOwn_18 rfl (lv_at hl 1 rfl) ?_
    refine zkPI (zrV (rest := [.int x_4]) B (c_X12_turnOf l E hV H0 hT0 h0 kh0 p0 (by omega) (by omega)) cl_RX12_281 hT0 kh0 rfl rfl rfl rfl hl.1 rfl (Nat.le_of_ble_eq_true rfl) dX12_isOwn_19 rfl rfl ⟨rfl, rfl⟩ ⟨Nat.zero_le _, Nat.zero_le _⟩ (zO.rf hh)) (fun x_5 hp_5 => ?_)
    refine lv_icmp_ne (tgt := 29) hx hb dX12_isOwn_22 (by decide) (fun c_6 => ?_) (fun c_6 => ?_)
    · have f_6 := z_ne c_6 rfl rfl
      refine lv_iconst (v := 0) hx hb dX12_isOwn_29 (by decide) ?_
      have := kl_0
      have := kl_0
      exact rtPI (v := 0) B hr hlk hh hQ rfl ⟨by omega, by omega, Or.inl kl_0⟩ dX12_isOwn_30
    · have f_6 := z_eq c_6 rfl rfl
      refine lv_iconst (v := 1) hx hb dX12_isOwn_25 (by decide) ?_
      refine lv_goto (tgt := 30) hx hb dX12_isOwn_26 (by decide) ?_
      have := kl_1
      have := kl_1
      exact rtPI (v := 1) B hr hlk hh hQ rfl ⟨by omega, by omega, Or.inr ⟨x_1, hp_1_2, by omega⟩⟩ dX12_isOwn_30

theorem dX12_movesOf_0 : decode cX12_movesOf 0 = .ok (.aload_n 0, 1) := by decide +kernel
theorem dX12_movesOf_1 : decode cX12_movesOf 1 = .ok (.iload_n 1, 1) := by decide +kernel
theorem dX12_movesOf_2 : decode cX12_movesOf 2 = .ok (.invokevirtual 284, 3) := by decide +kernel
theorem dX12_movesOf_5 : decode cX12_movesOf 5 = .ok (.ifCond .lt 5, 3) := by decide +kernel
theorem dX12_movesOf_8 : decode cX12_movesOf 8 = .ok (.iconst 0, 1) := by decide +kernel
theorem dX12_movesOf_9 : decode cX12_movesOf 9 = .ok (.ireturn, 1) := by decide +kernel
theorem dX12_movesOf_10 : decode cX12_movesOf 10 = .ok (.iconst 0, 1) := by decide +kernel
theorem dX12_movesOf_11 : decode cX12_movesOf 11 = .ok (.istore_n 2, 1) := by decide +kernel
theorem dX12_movesOf_12 : decode cX12_movesOf 12 = .ok (.iconst 0, 1) := by decide +kernel
theorem dX12_movesOf_13 : decode cX12_movesOf 13 = .ok (.istore_n 3, 1) := by decide +kernel
theorem dX12_movesOf_14 : decode cX12_movesOf 14 = .ok (.iload_n 3, 1) := by decide +kernel
theorem dX12_movesOf_15 : decode cX12_movesOf 15 = .ok (.aload_n 0, 1) := by decide +kernel
theorem dX12_movesOf_16 : decode cX12_movesOf 16 = .ok (.invokevirtual 275, 3) := by decide +kernel
theorem dX12_movesOf_19 : decode cX12_movesOf 19 = .ok (.if_icmp .ge 30, 3) := by decide +kernel
theorem dX12_movesOf_22 : decode cX12_movesOf 22 = .ok (.aload_n 0, 1) := by decide +kernel
theorem dX12_movesOf_23 : decode cX12_movesOf 23 = .ok (.iload_n 1, 1) := by decide +kernel
theorem dX12_movesOf_24 : decode cX12_movesOf 24 = .ok (.iload_n 3, 1) := by decide +kernel
theorem dX12_movesOf_25 : decode cX12_movesOf 25 = .ok (.invokevirtual 287, 3) := by decide +kernel
theorem dX12_movesOf_28 : decode cX12_movesOf 28 = .ok (.ifCond .eq 15, 3) := by decide +kernel
theorem dX12_movesOf_31 : decode cX12_movesOf 31 = .ok (.iload_n 2, 1) := by decide +kernel
theorem dX12_movesOf_32 : decode cX12_movesOf 32 = .ok (.aload_n 0, 1) := by decide +kernel
theorem dX12_movesOf_33 : decode cX12_movesOf 33 = .ok (.iload_n 1, 1) := by decide +kernel
theorem dX12_movesOf_34 : decode cX12_movesOf 34 = .ok (.iload_n 3, 1) := by decide +kernel
theorem dX12_movesOf_35 : decode cX12_movesOf 35 = .ok (.invokevirtual 290, 3) := by decide +kernel
theorem dX12_movesOf_38 : decode cX12_movesOf 38 = .ok (.invokestatic 293, 3) := by decide +kernel
theorem dX12_movesOf_41 : decode cX12_movesOf 41 = .ok (.iadd, 1) := by decide +kernel
theorem dX12_movesOf_42 : decode cX12_movesOf 42 = .ok (.istore_n 2, 1) := by decide +kernel
theorem dX12_movesOf_43 : decode cX12_movesOf 43 = .ok (.iinc 3 1, 3) := by decide +kernel
theorem dX12_movesOf_46 : decode cX12_movesOf 46 = .ok (.goto (-32), 3) := by decide +kernel
theorem dX12_movesOf_49 : decode cX12_movesOf 49 = .ok (.iload_n 2, 1) := by decide +kernel
theorem dX12_movesOf_50 : decode cX12_movesOf 50 = .ok (.ireturn, 1) := by decide +kernel
def rm_X12_movesOf : Room := { frames := 4, cells := 0, slots := 0, locals := 102 }
set_option maxRecDepth 100000 in
set_option maxHeartbeats 4000000 in
theorem c_X12_movesOf (l : Launch) (E : zE) (hV : zV E) (H0 : Heap) (hT0 : HT E H0) (h0 : Nat) (kh0 : eK E h0 = 13) (p0 : Int32) (p0_lo : 0 ≤ p0.toInt) (p0_hi : p0.toInt ≤ 195) : Met l yX12_movesOf (zws yX12_movesOf cX12_movesOf 4 (some .int)) rm_X12_movesOf (zP E H0 [.ref h0, .int p0]) (zPI (fun r => True)) 0 0 (fun _ => False) := by
  refine zEnt (by decide) (Nat.le_of_ble_eq_true rfl) (fun p e s m args below meth c ls Q B hr hlk hh hQ hl => ?_)
  have hx := B.1
  have hb := B.2.1
  have hl : lv_has ls 4 [(0, .ref h0), (1, .int p0)] := hl
  have b14 : ∀ (n14 : Nat) (ls : Array Slot) (v14_2 : Int32) (v14_3 : Int32), 30 - v14_3.toInt < (n14 : Int) → lv_has ls 4 [(0, .ref h0), (1, .int p0), (2, .int v14_2), (3, .int v14_3)] → 0 ≤ v14_3.toInt → v14_3.toInt ≤ 30 → W p l e rm_X12_movesOf s m args below meth c H0 [] 0 0 Q (F0 m 14 ls []) := by
    intro n14
    induction n14 with
    | zero =>
      intro ls v14_2 v14_3 hm14 hl f14_1 f14_2
      exact absurd hm14 (by omega)
    | succ n14 ih14 =>
      intro ls v14_2 v14_3 hm14 hl f14_1 f14_2
      have b43 : ∀ (ls : Array Slot) (v43_2 : Int32), lv_has ls 4 [(0, .ref h0), (1, .int p0), (2, .int v43_2), (3, .int v14_3)] → v14_3.toInt ≤ 29 → W p l e rm_X12_movesOf s m args below meth c H0 [] 0 0 Q (F0 m 43 ls []) := by
        intro ls v43_2 hl f43_1
        obtain ⟨x_1, e_1⟩ : ∃ y : Int32, (v14_3 : Int32) + Int32.ofInt 1 = y := ⟨_, rfl⟩
        refine lv_iinc (v := x_1) (lv' := [(3, .int x_1), (0, .ref h0), (1, .int p0), (2, .int v43_2)]) hx hb dX12_movesOf_43 hl (k := 3) rfl e_1 (by decide) rfl (fun ls hl => ?_)
        have t_1 := z_inc2 e_1 rfl (by decide) (by omega) (by omega)
        refine lv_goto (tgt := 14) hx hb dX12_movesOf_46 (by decide) ?_
        exact ih14 ls v43_2 x_1 (by omega) (lv_sub hl [1, 2, 3, 0] rfl) (by omega) (by omega)
      refine lv_iload_n hx hb dX12_movesOf_14 rfl (lv_at hl 3 rfl) ?_
      refine lv_aload_n hx hb dX12_movesOf_15 rfl (lv_at hl 0 rfl) ?_
      obtain ⟨q_2, s_2, k_q_2⟩ := HT.atR hT0 kh0 rfl (j := 12) (by decide) rfl
      obtain ⟨x_3, s_3, a_3, b_3⟩ := HT.atI hT0 kh0 rfl (j := 26) (by decide) rfl
      obtain ⟨x_4, s_4, a_4, b_4⟩ := HT.elI (i := x_3) (N := 2) hT0 k_q_2 rfl rfl rfl (by omega) (by omega) rfl
      refine zkPI (zrV (rest := [.int v14_3]) B (c_X12_squares l E hV H0 hT0 h0 kh0 q_2 k_q_2 s_2 x_3 s_3 x_4 s_4) cl_RX12_275 hT0 kh0 rfl rfl rfl rfl hl.1 rfl (Nat.le_of_ble_eq_true rfl) dX12_movesOf_16 rfl rfl ⟨rfl, rfl⟩ ⟨Nat.zero_le _, Nat.zero_le _⟩ (zO.rf hh)) (fun x_5 hp_5 => ?_)
      obtain ⟨hp_5_1, hp_5_2, hp_5_3⟩ := hp_5
      refine lv_icmp_ge (tgt := 49) hx hb dX12_movesOf_19 (by decide) (fun c_6 => ?_) (fun c_6 => ?_)
      · have f_6 := z_le c_6 rfl rfl
        refine lv_iload_n hx hb dX12_movesOf_49 rfl (lv_at hl 2 rfl) ?_
        exact rtPI (v := v14_2) B hr hlk hh hQ rfl trivial dX12_movesOf_50
      · have f_6 := z_nle c_6 rfl rfl
        refine lv_aload_n hx hb dX12_movesOf_22 rfl (lv_at hl 0 rfl) ?_
        refine lv_iload_n hx hb dX12_movesOf_23 rfl (lv_at hl 1 rfl) ?_
        refine lv_iload_n hx hb dX12_movesOf_24 rfl (lv_at hl 3 rfl) ?_
        obtain ⟨q_7, s_7, k_q_7⟩ := HT.atR hT0 kh0 rfl (j := 2) (by decide) rfl
        refine zkPI (zrV (rest := []) B (c_X12_isOwn l E hV H0 hT0 h0 kh0 p0 (by omega) (by omega) v14_3 (by omega) (by omega) q_7 k_q_7 s_7) cl_RX12_287 hT0 kh0 rfl rfl rfl rfl hl.1 rfl (Nat.le_of_ble_eq_true rfl) dX12_movesOf_25 rfl rfl ⟨rfl, rfl⟩ ⟨Nat.zero_le _, Nat.zero_le _⟩ (zO.rf hh)) (fun x_8 hp_8 => ?_)
        obtain ⟨hp_8_1, hp_8_2, hp_8_3⟩ := hp_8
        refine lv_if_eq (tgt := 43) hx hb dX12_movesOf_28 (by decide) (fun c_9 => ?_) (fun c_9 => ?_)
        · have f_9 := z_eq c_9 rfl kl_0
          exact b43 ls v14_2 (lv_sub hl [0, 1, 2, 3] rfl) (by omega)
        · have f_9 := z_ne c_9 rfl kl_0
          refine lv_iload_n hx hb dX12_movesOf_31 rfl (lv_at hl 2 rfl) ?_
          refine lv_aload_n hx hb dX12_movesOf_32 rfl (lv_at hl 0 rfl) ?_
          refine lv_iload_n hx hb dX12_movesOf_33 rfl (lv_at hl 1 rfl) ?_
          refine lv_iload_n hx hb dX12_movesOf_34 rfl (lv_at hl 3 rfl) ?_
          refine zkPI (zrV (rest := [.int v14_2]) B (c_X12_goesTo l E hV H0 hT0 h0 kh0 p0 (by omega) (by omega) v14_3 (by omega) (by omega) q_2 k_q_2 s_2 x_3 s_3 x_4 s_4 (by omega) (by omega) q_7 k_q_7 s_7 (hp_8_3.resolve_left (by omega))) cl_RX12_290 hT0 kh0 rfl rfl rfl rfl hl.1 rfl (Nat.le_of_ble_eq_true rfl) dX12_movesOf_35 rfl rfl ⟨rfl, rfl⟩ ⟨Nat.zero_le _, Nat.zero_le _⟩ (zO.rf hh)) (fun x_10 hp_10 => ?_)
          obtain ⟨hp_10_1, hp_10_2⟩ := hp_10
          refine zkPI (zrS (rest := [.int v14_2]) B (c_X12_bitsOf l E hV H0 hT0 x_10) cs_RX12_293 rfl hl.1 rfl (Nat.le_of_ble_eq_true rfl) dX12_movesOf_38 rfl rfl ⟨rfl, rfl⟩ ⟨Nat.zero_le _, Nat.zero_le _⟩ (zO.rf hh)) (fun x_11 hp_11 => ?_)
          refine lv_iadd hx hb dX12_movesOf_41 ?_
          refine lv_topi (fun x_12 e_12 => ?_)
          refine lv_istore_n (lv' := [(2, .int x_12), (0, .ref h0), (1, .int p0), (3, .int v14_3)]) hx hb dX12_movesOf_42 rfl hl (by decide) rfl (fun ls hl => ?_)
          exact b43 ls x_12 (lv_sub hl [1, 2, 0, 3] rfl) (by omega)
  refine lv_aload_n hx hb dX12_movesOf_0 rfl (lv_at hl 0 rfl) ?_
  refine lv_iload_n hx hb dX12_movesOf_1 rfl (lv_at hl 1 rfl) ?_
  refine zkPI (zrV (rest := []) B (c_X12_kingless l E hV H0 hT0 h0 kh0 p0 (by omega) (by omega)) cl_RX12_284 hT0 kh0 rfl rfl rfl rfl hl.1 rfl (Nat.le_of_ble_eq_true rfl) dX12_movesOf_2 rfl rfl ⟨rfl, rfl⟩ ⟨Nat.zero_le _, Nat.zero_le _⟩ (zO.rf hh)) (fun x_13 hp_13 => ?_)
  obtain ⟨hp_13_1, hp_13_2⟩ := hp_13
  refine lv_if_lt (tgt := 10) hx hb dX12_movesOf_5 (by decide) (fun c_14 => ?_) (fun c_14 => ?_)
  · have f_14 := z_lt c_14 rfl kl_0
    refine lv_iconst (v := 0) hx hb dX12_movesOf_10 (by decide) ?_
    refine lv_istore_n (lv' := [(2, .int 0), (0, .ref h0), (1, .int p0)]) hx hb dX12_movesOf_11 rfl hl (by decide) rfl (fun ls hl => ?_)
    refine lv_iconst (v := 0) hx hb dX12_movesOf_12 (by decide) ?_
    refine lv_istore_n (lv' := [(3, .int 0), (2, .int 0), (0, .ref h0), (1, .int p0)]) hx hb dX12_movesOf_13 rfl hl (by decide) rfl (fun ls hl => ?_)
    have := kl_0
    have := kl_0
    exact b14 31 ls 0 0 (by omega) (lv_sub hl [2, 3, 1, 0] rfl) (by omega) (by omega)
  · have f_14 := z_nlt c_14 rfl kl_0
    refine lv_iconst (v := 0) hx hb dX12_movesOf_8 (by decide) ?_
    have := kl_0
    have := kl_0
    exact rtPI (v := 0) B hr hlk hh hQ rfl trivial dX12_movesOf_9

theorem dX12_findMove_0 : decode cX12_findMove 0 = .ok (.iload_n 2, 1) := by decide +kernel
theorem dX12_findMove_1 : decode cX12_findMove 1 = .ok (.ifCond .lt 11, 3) := by decide +kernel
theorem dX12_findMove_4 : decode cX12_findMove 4 = .ok (.aload_n 0, 1) := by decide +kernel
theorem dX12_findMove_5 : decode cX12_findMove 5 = .ok (.iload_n 1, 1) := by decide +kernel
theorem dX12_findMove_6 : decode cX12_findMove 6 = .ok (.invokevirtual 284, 3) := by decide +kernel
theorem dX12_findMove_9 : decode cX12_findMove 9 = .ok (.ifCond .lt 5, 3) := by decide +kernel
theorem dX12_findMove_12 : decode cX12_findMove 12 = .ok (.iconst 0, 1) := by decide +kernel
theorem dX12_findMove_13 : decode cX12_findMove 13 = .ok (.ireturn, 1) := by decide +kernel
theorem dX12_findMove_14 : decode cX12_findMove 14 = .ok (.iload_n 2, 1) := by decide +kernel
theorem dX12_findMove_15 : decode cX12_findMove 15 = .ok (.istore_n 3, 1) := by decide +kernel
theorem dX12_findMove_16 : decode cX12_findMove 16 = .ok (.iconst 0, 1) := by decide +kernel
theorem dX12_findMove_17 : decode cX12_findMove 17 = .ok (.istore 4, 2) := by decide +kernel
theorem dX12_findMove_19 : decode cX12_findMove 19 = .ok (.iload 4, 2) := by decide +kernel
theorem dX12_findMove_21 : decode cX12_findMove 21 = .ok (.aload_n 0, 1) := by decide +kernel
theorem dX12_findMove_22 : decode cX12_findMove 22 = .ok (.invokevirtual 275, 3) := by decide +kernel
theorem dX12_findMove_25 : decode cX12_findMove 25 = .ok (.if_icmp .ge 84, 3) := by decide +kernel
theorem dX12_findMove_28 : decode cX12_findMove 28 = .ok (.aload_n 0, 1) := by decide +kernel
theorem dX12_findMove_29 : decode cX12_findMove 29 = .ok (.iload_n 1, 1) := by decide +kernel
theorem dX12_findMove_30 : decode cX12_findMove 30 = .ok (.iload 4, 2) := by decide +kernel
theorem dX12_findMove_32 : decode cX12_findMove 32 = .ok (.invokevirtual 287, 3) := by decide +kernel
theorem dX12_findMove_35 : decode cX12_findMove 35 = .ok (.ifCond .eq 13, 3) := by decide +kernel
theorem dX12_findMove_38 : decode cX12_findMove 38 = .ok (.aload_n 0, 1) := by decide +kernel
theorem dX12_findMove_39 : decode cX12_findMove 39 = .ok (.iload_n 1, 1) := by decide +kernel
theorem dX12_findMove_40 : decode cX12_findMove 40 = .ok (.iload 4, 2) := by decide +kernel
theorem dX12_findMove_42 : decode cX12_findMove 42 = .ok (.invokevirtual 290, 3) := by decide +kernel
theorem dX12_findMove_45 : decode cX12_findMove 45 = .ok (.goto 4, 3) := by decide +kernel
theorem dX12_findMove_48 : decode cX12_findMove 48 = .ok (.iconst 0, 1) := by decide +kernel
theorem dX12_findMove_49 : decode cX12_findMove 49 = .ok (.istore 5, 2) := by decide +kernel
theorem dX12_findMove_51 : decode cX12_findMove 51 = .ok (.iconst 0, 1) := by decide +kernel
theorem dX12_findMove_52 : decode cX12_findMove 52 = .ok (.istore 6, 2) := by decide +kernel
theorem dX12_findMove_54 : decode cX12_findMove 54 = .ok (.iload 6, 2) := by decide +kernel
theorem dX12_findMove_56 : decode cX12_findMove 56 = .ok (.aload_n 0, 1) := by decide +kernel
theorem dX12_findMove_57 : decode cX12_findMove 57 = .ok (.invokevirtual 275, 3) := by decide +kernel
theorem dX12_findMove_60 : decode cX12_findMove 60 = .ok (.if_icmp .ge 43, 3) := by decide +kernel
theorem dX12_findMove_63 : decode cX12_findMove 63 = .ok (.iload 5, 2) := by decide +kernel
theorem dX12_findMove_65 : decode cX12_findMove 65 = .ok (.iload 6, 2) := by decide +kernel
theorem dX12_findMove_67 : decode cX12_findMove 67 = .ok (.ishr, 1) := by decide +kernel
theorem dX12_findMove_68 : decode cX12_findMove 68 = .ok (.iconst 1, 1) := by decide +kernel
theorem dX12_findMove_69 : decode cX12_findMove 69 = .ok (.iand, 1) := by decide +kernel
theorem dX12_findMove_70 : decode cX12_findMove 70 = .ok (.ifCond .ne 6, 3) := by decide +kernel
theorem dX12_findMove_73 : decode cX12_findMove 73 = .ok (.goto 24, 3) := by decide +kernel
theorem dX12_findMove_76 : decode cX12_findMove 76 = .ok (.iload_n 3, 1) := by decide +kernel
theorem dX12_findMove_77 : decode cX12_findMove 77 = .ok (.ifCond .ne 17, 3) := by decide +kernel
theorem dX12_findMove_80 : decode cX12_findMove 80 = .ok (.aload_n 0, 1) := by decide +kernel
theorem dX12_findMove_81 : decode cX12_findMove 81 = .ok (.iload 4, 2) := by decide +kernel
theorem dX12_findMove_83 : decode cX12_findMove 83 = .ok (.putfield 296, 3) := by decide +kernel
theorem dX12_findMove_86 : decode cX12_findMove 86 = .ok (.aload_n 0, 1) := by decide +kernel
theorem dX12_findMove_87 : decode cX12_findMove 87 = .ok (.iload 6, 2) := by decide +kernel
theorem dX12_findMove_89 : decode cX12_findMove 89 = .ok (.putfield 299, 3) := by decide +kernel
theorem dX12_findMove_92 : decode cX12_findMove 92 = .ok (.iconst 1, 1) := by decide +kernel
theorem dX12_findMove_93 : decode cX12_findMove 93 = .ok (.ireturn, 1) := by decide +kernel
theorem dX12_findMove_94 : decode cX12_findMove 94 = .ok (.iinc 3 (-1), 3) := by decide +kernel
theorem dX12_findMove_97 : decode cX12_findMove 97 = .ok (.iinc 6 1, 3) := by decide +kernel
theorem dX12_findMove_100 : decode cX12_findMove 100 = .ok (.goto (-46), 3) := by decide +kernel
theorem dX12_findMove_103 : decode cX12_findMove 103 = .ok (.iinc 4 1, 3) := by decide +kernel
theorem dX12_findMove_106 : decode cX12_findMove 106 = .ok (.goto (-87), 3) := by decide +kernel
theorem dX12_findMove_109 : decode cX12_findMove 109 = .ok (.iconst 0, 1) := by decide +kernel
theorem dX12_findMove_110 : decode cX12_findMove 110 = .ok (.ireturn, 1) := by decide +kernel
def rm_X12_findMove : Room := { frames := 4, cells := 0, slots := 0, locals := 102 }
abbrev wS_X12_findMove : List (Nat × Nat) := [(13, 28), (13, 29)]
set_option maxRecDepth 100000 in
set_option maxHeartbeats 4000000 in
theorem c_X12_findMove (l : Launch) (E : zE) (hV : zV E) (H0 : Heap) (hT0 : HT E H0) (h0 : Nat) (kh0 : eK E h0 = 13) (p0 : Int32) (p0_lo : 0 ≤ p0.toInt) (p0_hi : p0.toInt ≤ 195) (p1 : Int32) (fa : Nat) (kfa : eK E fa = 61) (s_fa : sl H0 h0 (zix E 13 12) = some (.ref fa)) (bk : Int32) (s_bk : sl H0 h0 (zix E 13 26) = some (.int bk)) (fv : Int32) (s_fv : sl H0 fa bk.toNatClampNeg = some (.int fv)) : Met l yX12_findMove (zws yX12_findMove cX12_findMove 7 (some .boolean)) rm_X12_findMove (zP E H0 [.ref h0, .int p0, .int p1]) (zQI E E wS_X12_findMove (fun r H1 => 0 ≤ r.toInt ∧ r.toInt ≤ 1 ∧ (r.toInt = 0 ∨ (p1.toInt ≤ 899 ∧ 1 ≤ fv.toInt)))) 0 0 (zfr E) := by
  refine zEnt (by decide) (Nat.le_of_ble_eq_true rfl) (fun p e s m args below meth c ls Q B hr hlk hh hQ hl => ?_)
  have hx := B.1
  have hb := B.2.1
  have hG0 : zG E wS_X12_findMove H0 H0 [] := zG.rf hT0
  have hl : lv_has ls 7 [(0, .ref h0), (1, .int p0), (2, .int p1)] := hl
  have bd_bk := HT.bdI hT0 kh0 rfl (j := 26) (by decide) rfl s_bk
  have bd_fv := HT.bdE (i := bk) (N := 2) hT0 kfa rfl rfl rfl (by omega) (by omega) rfl s_fv
  have b19 : ∀ (n19 : Nat) (ls : Array Slot) (v19_3 : Int32) (v19_4 : Int32), 30 - v19_4.toInt < (n19 : Int) → lv_has ls 7 [(0, .ref h0), (1, .int p0), (3, .int v19_3), (4, .int v19_4)] → 0 ≤ v19_3.toInt → 0 ≤ v19_4.toInt → v19_4.toInt ≤ 30 → sl H0 h0 (zix E 13 12) = some (.ref fa) → sl H0 h0 (zix E 13 26) = some (.int bk) → sl H0 fa bk.toNatClampNeg = some (.int fv) → p1.toInt ≤ v19_3.toInt + 30 * v19_4.toInt → W p l e rm_X12_findMove s m args below meth c H0 [] 0 0 Q (F0 m 19 ls []) := by
    intro n19
    induction n19 with
    | zero =>
      intro ls v19_3 v19_4 hm19 hl f19_1 f19_2 f19_3 s19_u19_h0_12 s19_u19_h0_26 s19_u19_fa_ebk f19_4
      exact absurd hm19 (by omega)
    | succ n19 ih19 =>
      intro ls v19_3 v19_4 hm19 hl f19_1 f19_2 f19_3 s19_u19_h0_12 s19_u19_h0_26 s19_u19_fa_ebk f19_4
      have b54 : ∀ (n54 : Nat) (ls : Array Slot) (v54_3 : Int32) (v54_5 : Int32) (v54_6 : Int32), 30 - v54_6.toInt < (n54 : Int) → lv_has ls 7 [(0, .ref h0), (1, .int p0), (3, .int v54_3), (4, .int v19_4), (5, .int v54_5), (6, .int v54_6)] → 0 ≤ v54_3.toInt → v19_4.toInt ≤ 29 → 0 ≤ v54_5.toInt → v54_5.toInt ≤ 1073741823 → 0 ≤ v54_6.toInt → v54_6.toInt ≤ 30 → 1 ≤ fv.toInt → sl H0 h0 (zix E 13 12) = some (.ref fa) → sl H0 h0 (zix E 13 26) = some (.int bk) → sl H0 fa bk.toNatClampNeg = some (.int fv) → p1.toInt ≤ v54_3.toInt + 30 * v19_4.toInt + v54_6.toInt → W p l e rm_X12_findMove s m args below meth c H0 [] 0 0 Q (F0 m 54 ls []) := by
        intro n54
        induction n54 with
        | zero =>
          intro ls v54_3 v54_5 v54_6 hm54 hl f54_1 f54_2 f54_3 f54_4 f54_5 f54_6 f54_7 s54_u54_h0_12 s54_u54_h0_26 s54_u54_fa_ebk f54_8
          exact absurd hm54 (by omega)
        | succ n54 ih54 =>
          intro ls v54_3 v54_5 v54_6 hm54 hl f54_1 f54_2 f54_3 f54_4 f54_5 f54_6 f54_7 s54_u54_h0_12 s54_u54_h0_26 s54_u54_fa_ebk f54_8
          have b97 : ∀ (ls : Array Slot) (v97_3 : Int32), lv_has ls 7 [(0, .ref h0), (1, .int p0), (3, .int v97_3), (4, .int v19_4), (5, .int v54_5), (6, .int v54_6)] → 0 ≤ v97_3.toInt → v54_6.toInt ≤ 29 → sl H0 h0 (zix E 13 12) = some (.ref fa) → sl H0 h0 (zix E 13 26) = some (.int bk) → sl H0 fa bk.toNatClampNeg = some (.int fv) → p1.toInt ≤ v97_3.toInt + 30 * v19_4.toInt + v54_6.toInt + 1 → W p l e rm_X12_findMove s m args below meth c H0 [] 0 0 Q (F0 m 97 ls []) := by
            intro ls v97_3 hl f97_1 f97_2 s97_u97_h0_12 s97_u97_h0_26 s97_u97_fa_ebk f97_3
            obtain ⟨x_1, e_1⟩ : ∃ y : Int32, (v54_6 : Int32) + Int32.ofInt 1 = y := ⟨_, rfl⟩
            refine lv_iinc (v := x_1) (lv' := [(6, .int x_1), (0, .ref h0), (1, .int p0), (3, .int v97_3), (4, .int v19_4), (5, .int v54_5)]) hx hb dX12_findMove_97 hl (k := 5) rfl e_1 (by decide) rfl (fun ls hl => ?_)
            have t_1 := z_inc2 e_1 rfl (by decide) (by omega) (by omega)
            refine lv_goto (tgt := 54) hx hb dX12_findMove_100 (by decide) ?_
            exact ih54 ls v97_3 v54_5 x_1 (by omega) (lv_sub hl [1, 2, 3, 4, 5, 0] rfl) (by omega) (by omega) (by omega) (by omega) (by omega) (by omega) (by omega) s97_u97_h0_12 s97_u97_h0_26 s97_u97_fa_ebk (by omega)
          refine lv_iload hx hb dX12_findMove_54 (lv_at hl 5 rfl) ?_
          refine lv_aload_n hx hb dX12_findMove_56 rfl (lv_at hl 0 rfl) ?_
          refine zkPI (zrV (rest := [.int v54_6]) B (c_X12_squares l E hV H0 hT0 h0 kh0 fa kfa s54_u54_h0_12 bk s54_u54_h0_26 fv s54_u54_fa_ebk) cl_RX12_275 hT0 kh0 rfl rfl rfl rfl hl.1 rfl (Nat.le_of_ble_eq_true rfl) dX12_findMove_57 rfl rfl ⟨rfl, rfl⟩ ⟨Nat.zero_le _, Nat.zero_le _⟩ (zO.of hG0 hh)) (fun x_2 hp_2 => ?_)
          obtain ⟨hp_2_1, hp_2_2, hp_2_3⟩ := hp_2
          refine lv_icmp_ge (tgt := 103) hx hb dX12_findMove_60 (by decide) (fun c_3 => ?_) (fun c_3 => ?_)
          · have f_3 := z_le c_3 rfl rfl
            obtain ⟨x_4, e_4⟩ : ∃ y : Int32, (v19_4 : Int32) + Int32.ofInt 1 = y := ⟨_, rfl⟩
            refine lv_iinc (v := x_4) (lv' := [(4, .int x_4), (0, .ref h0), (1, .int p0), (3, .int v54_3), (5, .int v54_5), (6, .int v54_6)]) hx hb dX12_findMove_103 hl (k := 3) rfl e_4 (by decide) rfl (fun ls hl => ?_)
            have t_4 := z_inc2 e_4 rfl (by decide) (by omega) (by omega)
            refine lv_goto (tgt := 19) hx hb dX12_findMove_106 (by decide) ?_
            exact ih19 ls v54_3 x_4 (by omega) (lv_sub hl [1, 2, 3, 0] rfl) (by omega) (by omega) (by omega) s54_u54_h0_12 s54_u54_h0_26 s54_u54_fa_ebk (by omega)
          · have f_3 := z_nle c_3 rfl rfl
            refine lv_iload hx hb dX12_findMove_63 (lv_at hl 4 rfl) ?_
            refine lv_iload hx hb dX12_findMove_65 (lv_at hl 5 rfl) ?_
            refine lv_ishr hx hb dX12_findMove_67 ?_
            refine lv_topi (fun x_5 e_5 => ?_)
            refine lv_iconst (v := 1) hx hb dX12_findMove_68 (by decide) ?_
            refine lv_iand hx hb dX12_findMove_69 ?_
            refine lv_topi (fun x_6 e_6 => ?_)
            have t_6 := z_andR e_6 kl_1 (by omega)
            refine lv_if_ne (tgt := 76) hx hb dX12_findMove_70 (by decide) (fun c_7 => ?_) (fun c_7 => ?_)
            · have f_7 := z_ne c_7 rfl kl_0
              refine lv_iload_n hx hb dX12_findMove_76 rfl (lv_at hl 2 rfl) ?_
              refine lv_if_ne (tgt := 94) hx hb dX12_findMove_77 (by decide) (fun c_8 => ?_) (fun c_8 => ?_)
              · have f_8 := z_ne c_8 rfl kl_0
                obtain ⟨x_9, e_9⟩ : ∃ y : Int32, (v54_3 : Int32) + Int32.ofInt (-1) = y := ⟨_, rfl⟩
                refine lv_iinc (v := x_9) (lv' := [(3, .int x_9), (0, .ref h0), (1, .int p0), (4, .int v19_4), (5, .int v54_5), (6, .int v54_6)]) hx hb dX12_findMove_94 hl (k := 2) rfl e_9 (by decide) rfl (fun ls hl => ?_)
                have := z_rng v54_3
                have t_9 := z_inc2 e_9 rfl (by decide) (by omega) (by omega)
                exact b97 ls x_9 (lv_sub hl [1, 2, 0, 3, 4, 5] rfl) (by omega) (by omega) s54_u54_h0_12 s54_u54_h0_26 s54_u54_fa_ebk (by omega)
              · have f_8 := z_eq c_8 rfl kl_0
                refine lv_aload_n hx hb dX12_findMove_80 rfl (lv_at hl 0 rfl) ?_
                refine lv_iload hx hb dX12_findMove_81 (lv_at hl 3 rfl) ?_
                refine g_putI B fp_RX12_296 hV hG0 kh0 rfl rfl rfl rfl rfl (by omega) (by omega) rfl dX12_findMove_83 (fun H10 lc10 gH10 uH10 => ?_)
                have s_11 := uH10.keep (Or.inr (j_ne hV rfl rfl rfl rfl)) s54_u54_h0_12
                have s_12 := uH10.keep (Or.inr (j_ne hV rfl rfl rfl rfl)) s54_u54_h0_26
                have s_13 := uH10.keep (Or.inl (k_ne kfa kh0 rfl)) s54_u54_fa_ebk
                refine lv_aload_n hx hb dX12_findMove_86 rfl (lv_at hl 0 rfl) ?_
                refine lv_iload hx hb dX12_findMove_87 (lv_at hl 5 rfl) ?_
                refine g_putI B fp_RX12_299 hV gH10 kh0 rfl rfl rfl rfl rfl (by omega) (by omega) rfl dX12_findMove_89 (fun H14 lc14 gH14 uH14 => ?_)
                have s_15 := uH14.keep (Or.inr (j_ne hV rfl rfl rfl rfl)) s_11
                have s_16 := uH14.keep (Or.inr (j_ne hV rfl rfl rfl rfl)) s_12
                have s_17 := uH14.keep (Or.inl (k_ne kfa kh0 rfl)) s_13
                refine lv_iconst (v := 1) hx hb dX12_findMove_92 (by decide) ?_
                have := kl_1
                have := kl_1
                exact rtI (v := 1) B hr hlk hh hQ gH14 rfl ⟨by omega, by omega, by omega⟩ dX12_findMove_93
            · have f_7 := z_eq c_7 rfl kl_0
              refine lv_goto (tgt := 97) hx hb dX12_findMove_73 (by decide) ?_
              exact b97 ls v54_3 (lv_sub hl [0, 1, 2, 3, 4, 5] rfl) (by omega) (by omega) s54_u54_h0_12 s54_u54_h0_26 s54_u54_fa_ebk (by omega)
      have b49 : ∀ (ls : Array Slot) (w49_0 : Int32), lv_has ls 7 [(0, .ref h0), (1, .int p0), (3, .int v19_3), (4, .int v19_4)] → v19_4.toInt ≤ 29 → 0 ≤ w49_0.toInt → w49_0.toInt ≤ 1073741823 → 1 ≤ fv.toInt → sl H0 h0 (zix E 13 12) = some (.ref fa) → sl H0 h0 (zix E 13 26) = some (.int bk) → sl H0 fa bk.toNatClampNeg = some (.int fv) → W p l e rm_X12_findMove s m args below meth c H0 [] 0 0 Q (F0 m 49 ls [.int w49_0]) := by
        intro ls w49_0 hl f49_1 f49_2 f49_3 f49_4 s49_u49_h0_12 s49_u49_h0_26 s49_u49_fa_ebk
        refine lv_istore (lv' := [(5, .int w49_0), (0, .ref h0), (1, .int p0), (3, .int v19_3), (4, .int v19_4)]) hx hb dX12_findMove_49 hl (by decide) rfl (fun ls hl => ?_)
        refine lv_iconst (v := 0) hx hb dX12_findMove_51 (by decide) ?_
        refine lv_istore (lv' := [(6, .int 0), (5, .int w49_0), (0, .ref h0), (1, .int p0), (3, .int v19_3), (4, .int v19_4)]) hx hb dX12_findMove_52 hl (by decide) rfl (fun ls hl => ?_)
        have := kl_0
        exact b54 31 ls v19_3 w49_0 0 (by omega) (lv_sub hl [2, 3, 4, 5, 1, 0] rfl) (by omega) (by omega) (by omega) (by omega) (by omega) (by omega) (by omega) s49_u49_h0_12 s49_u49_h0_26 s49_u49_fa_ebk (by omega)
      refine lv_iload hx hb dX12_findMove_19 (lv_at hl 3 rfl) ?_
      refine lv_aload_n hx hb dX12_findMove_21 rfl (lv_at hl 0 rfl) ?_
      refine zkPI (zrV (rest := [.int v19_4]) B (c_X12_squares l E hV H0 hT0 h0 kh0 fa kfa s19_u19_h0_12 bk s19_u19_h0_26 fv s19_u19_fa_ebk) cl_RX12_275 hT0 kh0 rfl rfl rfl rfl hl.1 rfl (Nat.le_of_ble_eq_true rfl) dX12_findMove_22 rfl rfl ⟨rfl, rfl⟩ ⟨Nat.zero_le _, Nat.zero_le _⟩ (zO.of hG0 hh)) (fun x_18 hp_18 => ?_)
      obtain ⟨hp_18_1, hp_18_2, hp_18_3⟩ := hp_18
      refine lv_icmp_ge (tgt := 109) hx hb dX12_findMove_25 (by decide) (fun c_19 => ?_) (fun c_19 => ?_)
      · have f_19 := z_le c_19 rfl rfl
        refine lv_iconst (v := 0) hx hb dX12_findMove_109 (by decide) ?_
        have := kl_0
        have := kl_0
        exact rtI (v := 0) B hr hlk hh hQ hG0 rfl ⟨by omega, by omega, by omega⟩ dX12_findMove_110
      · have f_19 := z_nle c_19 rfl rfl
        refine lv_aload_n hx hb dX12_findMove_28 rfl (lv_at hl 0 rfl) ?_
        refine lv_iload_n hx hb dX12_findMove_29 rfl (lv_at hl 1 rfl) ?_
        refine lv_iload hx hb dX12_findMove_30 (lv_at hl 3 rfl) ?_
        obtain ⟨q_20, s_20, k_q_20⟩ := HT.atR hT0 kh0 rfl (j := 2) (by decide) rfl
        refine zkPI (zrV (rest := []) B (c_X12_isOwn l E hV H0 hT0 h0 kh0 p0 (by omega) (by omega) v19_4 (by omega) (by omega) q_20 k_q_20 s_20) cl_RX12_287 hT0 kh0 rfl rfl rfl rfl hl.1 rfl (Nat.le_of_ble_eq_true rfl) dX12_findMove_32 rfl rfl ⟨rfl, rfl⟩ ⟨Nat.zero_le _, Nat.zero_le _⟩ (zO.of hG0 hh)) (fun x_21 hp_21 => ?_)
        obtain ⟨hp_21_1, hp_21_2, hp_21_3⟩ := hp_21
        refine lv_if_eq (tgt := 48) hx hb dX12_findMove_35 (by decide) (fun c_22 => ?_) (fun c_22 => ?_)
        · have f_22 := z_eq c_22 rfl kl_0
          refine lv_iconst (v := 0) hx hb dX12_findMove_48 (by decide) ?_
          have := kl_0
          exact b49 ls 0 (lv_sub hl [0, 1, 2, 3] rfl) (by omega) (by omega) (by omega) (by omega) s19_u19_h0_12 s19_u19_h0_26 s19_u19_fa_ebk
        · have f_22 := z_ne c_22 rfl kl_0
          refine lv_aload_n hx hb dX12_findMove_38 rfl (lv_at hl 0 rfl) ?_
          refine lv_iload_n hx hb dX12_findMove_39 rfl (lv_at hl 1 rfl) ?_
          refine lv_iload hx hb dX12_findMove_40 (lv_at hl 3 rfl) ?_
          refine zkPI (zrV (rest := []) B (c_X12_goesTo l E hV H0 hT0 h0 kh0 p0 (by omega) (by omega) v19_4 (by omega) (by omega) fa kfa s19_u19_h0_12 bk s19_u19_h0_26 fv s19_u19_fa_ebk (by omega) (by omega) q_20 k_q_20 s_20 (hp_21_3.resolve_left (by omega))) cl_RX12_290 hT0 kh0 rfl rfl rfl rfl hl.1 rfl (Nat.le_of_ble_eq_true rfl) dX12_findMove_42 rfl rfl ⟨rfl, rfl⟩ ⟨Nat.zero_le _, Nat.zero_le _⟩ (zO.of hG0 hh)) (fun x_23 hp_23 => ?_)
          obtain ⟨hp_23_1, hp_23_2⟩ := hp_23
          refine lv_goto (tgt := 49) hx hb dX12_findMove_45 (by decide) ?_
          exact b49 ls x_23 (lv_sub hl [0, 1, 2, 3] rfl) (by omega) (by omega) (by omega) (by omega) s19_u19_h0_12 s19_u19_h0_26 s19_u19_fa_ebk
  refine lv_iload_n hx hb dX12_findMove_0 rfl (lv_at hl 2 rfl) ?_
  refine lv_if_lt (tgt := 12) hx hb dX12_findMove_1 (by decide) (fun c_24 => ?_) (fun c_24 => ?_)
  · have f_24 := z_lt c_24 rfl kl_0
    refine lv_iconst (v := 0) hx hb dX12_findMove_12 (by decide) ?_
    have := kl_0
    have := kl_0
    exact rtI (v := 0) B hr hlk hh hQ hG0 rfl ⟨by omega, by omega, by omega⟩ dX12_findMove_13
  · have f_24 := z_nlt c_24 rfl kl_0
    refine lv_aload_n hx hb dX12_findMove_4 rfl (lv_at hl 0 rfl) ?_
    refine lv_iload_n hx hb dX12_findMove_5 rfl (lv_at hl 1 rfl) ?_
    refine zkPI (zrV (rest := []) B (c_X12_kingless l E hV H0 hT0 h0 kh0 p0 (by omega) (by omega)) cl_RX12_284 hT0 kh0 rfl rfl rfl rfl hl.1 rfl (Nat.le_of_ble_eq_true rfl) dX12_findMove_6 rfl rfl ⟨rfl, rfl⟩ ⟨Nat.zero_le _, Nat.zero_le _⟩ (zO.of hG0 hh)) (fun x_25 hp_25 => ?_)
    obtain ⟨hp_25_1, hp_25_2⟩ := hp_25
    refine lv_if_lt (tgt := 14) hx hb dX12_findMove_9 (by decide) (fun c_26 => ?_) (fun c_26 => ?_)
    · have f_26 := z_lt c_26 rfl kl_0
      refine lv_iload_n hx hb dX12_findMove_14 rfl (lv_at hl 2 rfl) ?_
      refine lv_istore_n (lv' := [(3, .int p1), (0, .ref h0), (1, .int p0), (2, .int p1)]) hx hb dX12_findMove_15 rfl hl (by decide) rfl (fun ls hl => ?_)
      refine lv_iconst (v := 0) hx hb dX12_findMove_16 (by decide) ?_
      refine lv_istore (lv' := [(4, .int 0), (3, .int p1), (0, .ref h0), (1, .int p0), (2, .int p1)]) hx hb dX12_findMove_17 hl (by decide) rfl (fun ls hl => ?_)
      have := kl_0
      exact b19 31 ls p1 0 (by omega) (lv_sub hl [2, 3, 1, 0] rfl) (by omega) (by omega) (by omega) s_fa s_bk s_fv (by omega)
    · have f_26 := z_nlt c_26 rfl kl_0
      refine lv_iconst (v := 0) hx hb dX12_findMove_12 (by decide) ?_
      have := kl_0
      have := kl_0
      exact rtI (v := 0) B hr hlk hh hQ hG0 rfl ⟨by omega, by omega, by omega⟩ dX12_findMove_13

theorem dX12_makes_0 : decode cX12_makes 0 = .ok (.aload_n 0, 1) := by decide +kernel
theorem dX12_makes_1 : decode cX12_makes 1 = .ok (.iload_n 1, 1) := by decide +kernel
theorem dX12_makes_2 : decode cX12_makes 2 = .ok (.aload_n 0, 1) := by decide +kernel
theorem dX12_makes_3 : decode cX12_makes 3 = .ok (.getfield 299, 3) := by decide +kernel
theorem dX12_makes_6 : decode cX12_makes 6 = .ok (.aload_n 0, 1) := by decide +kernel
theorem dX12_makes_7 : decode cX12_makes 7 = .ok (.iload_n 1, 1) := by decide +kernel
theorem dX12_makes_8 : decode cX12_makes 8 = .ok (.aload_n 0, 1) := by decide +kernel
theorem dX12_makes_9 : decode cX12_makes 9 = .ok (.getfield 296, 3) := by decide +kernel
theorem dX12_makes_12 : decode cX12_makes 12 = .ok (.invokevirtual 257, 3) := by decide +kernel
theorem dX12_makes_15 : decode cX12_makes 15 = .ok (.invokevirtual 210, 3) := by decide +kernel
theorem dX12_makes_18 : decode cX12_makes 18 = .ok (.aload_n 0, 1) := by decide +kernel
theorem dX12_makes_19 : decode cX12_makes 19 = .ok (.iload_n 1, 1) := by decide +kernel
theorem dX12_makes_20 : decode cX12_makes 20 = .ok (.aload_n 0, 1) := by decide +kernel
theorem dX12_makes_21 : decode cX12_makes 21 = .ok (.getfield 296, 3) := by decide +kernel
theorem dX12_makes_24 : decode cX12_makes 24 = .ok (.iconst (-1), 1) := by decide +kernel
theorem dX12_makes_25 : decode cX12_makes 25 = .ok (.invokevirtual 210, 3) := by decide +kernel
theorem dX12_makes_28 : decode cX12_makes 28 = .ok (.aload_n 0, 1) := by decide +kernel
theorem dX12_makes_29 : decode cX12_makes 29 = .ok (.iload_n 1, 1) := by decide +kernel
theorem dX12_makes_30 : decode cX12_makes 30 = .ok (.bipush 30, 2) := by decide +kernel
theorem dX12_makes_32 : decode cX12_makes 32 = .ok (.iconst 1, 1) := by decide +kernel
theorem dX12_makes_33 : decode cX12_makes 33 = .ok (.aload_n 0, 1) := by decide +kernel
theorem dX12_makes_34 : decode cX12_makes 34 = .ok (.iload_n 1, 1) := by decide +kernel
theorem dX12_makes_35 : decode cX12_makes 35 = .ok (.invokevirtual 281, 3) := by decide +kernel
theorem dX12_makes_38 : decode cX12_makes 38 = .ok (.isub, 1) := by decide +kernel
theorem dX12_makes_39 : decode cX12_makes 39 = .ok (.invokevirtual 210, 3) := by decide +kernel
theorem dX12_makes_42 : decode cX12_makes 42 = .ok (.return_, 1) := by decide +kernel
def rm_X12_makes : Room := { frames := 2, cells := 0, slots := 0, locals := 43 }
abbrev wS_X12_makes : List (Nat × Nat) := [(60, 99)]
set_option maxRecDepth 100000 in
set_option maxHeartbeats 4000000 in
theorem c_X12_makes (l : Launch) (E : zE) (hV : zV E) (H0 : Heap) (hT0 : HT E H0) (h0 : Nat) (kh0 : eK E h0 = 13) (p0 : Int32) (p0_lo : 0 ≤ p0.toInt) (p0_hi : p0.toInt ≤ 195) : Met l yX12_makes (zws yX12_makes cX12_makes 2 none) rm_X12_makes (zP E H0 [.ref h0, .int p0]) (zQV E E wS_X12_makes (fun H1 => True)) 0 0 (zfr E) := by
  refine zEnt (by decide) (Nat.le_of_ble_eq_true rfl) (fun p e s m args below meth c ls Q B hr hlk hh hQ hl => ?_)
  have hx := B.1
  have hb := B.2.1
  have hG0 : zG E wS_X12_makes H0 H0 [] := zG.rf hT0
  have hl : lv_has ls 2 [(0, .ref h0), (1, .int p0)] := hl
  refine lv_aload_n hx hb dX12_makes_0 rfl (lv_at hl 0 rfl) ?_
  refine lv_iload_n hx hb dX12_makes_1 rfl (lv_at hl 1 rfl) ?_
  refine lv_aload_n hx hb dX12_makes_2 rfl (lv_at hl 0 rfl) ?_
  refine g_getI B fl_RX12_299 hT0 kh0 rfl rfl rfl rfl rfl dX12_makes_3 (fun x_1 s_1 a_1 b_1 => ?_)
  refine lv_aload_n hx hb dX12_makes_6 rfl (lv_at hl 0 rfl) ?_
  refine lv_iload_n hx hb dX12_makes_7 rfl (lv_at hl 1 rfl) ?_
  refine lv_aload_n hx hb dX12_makes_8 rfl (lv_at hl 0 rfl) ?_
  refine g_getI B fl_RX12_296 hT0 kh0 rfl rfl rfl rfl rfl dX12_makes_9 (fun x_2 s_2 a_2 b_2 => ?_)
  obtain ⟨q_3, s_3, k_q_3⟩ := HT.atR hT0 kh0 rfl (j := 2) (by decide) rfl
  refine zkPI (zrV (rest := [.int x_1, .int p0, .ref h0]) B (c_X12_of l E hV H0 hT0 h0 kh0 p0 (by omega) (by omega) x_2 (by omega) (by omega) q_3 k_q_3 s_3) cl_RX12_257 hT0 kh0 rfl rfl rfl rfl hl.1 rfl (Nat.le_of_ble_eq_true rfl) dX12_makes_12 rfl rfl ⟨rfl, rfl⟩ ⟨Nat.zero_le _, Nat.zero_le _⟩ (zO.of hG0 hh)) (fun x_4 hp_4 => ?_)
  obtain ⟨hp_4_1, hp_4_2⟩ := hp_4
  refine zkV (zrV (rest := []) B (c_X12_put l E hV H0 hT0 h0 kh0 p0 (by omega) (by omega) x_1 (by omega) (by omega) x_4 (by omega)) cl_RX12_210 hT0 kh0 rfl rfl rfl rfl hl.1 rfl (Nat.le_of_ble_eq_true rfl) dX12_makes_15 rfl rfl ⟨rfl, rfl⟩ ⟨Nat.zero_le _, Nat.zero_le _⟩ (zO.of hG0 hh)) hG0 rfl (fun H5 lc5 hp_5 gH5 rH5 => ?_)
  have s_6 := rH5.keep hV kh0 rfl s_2
  refine lv_aload_n hx hb dX12_makes_18 rfl (lv_at hl 0 rfl) ?_
  refine lv_iload_n hx hb dX12_makes_19 rfl (lv_at hl 1 rfl) ?_
  refine lv_aload_n hx hb dX12_makes_20 rfl (lv_at hl 0 rfl) ?_
  refine g_get B fl_RX12_296 gH5.1 kh0 rfl rfl rfl dX12_makes_21 s_6 ?_
  refine lv_iconst (v := (-1)) hx hb dX12_makes_24 (by decide) ?_
  have := kl_m1
  refine zkV (zrV (rest := []) B (c_X12_put l E hV H5 gH5.1 h0 kh0 p0 (by omega) (by omega) x_2 (by omega) (by omega) (-1) (by omega)) cl_RX12_210 gH5.1 kh0 rfl rfl rfl rfl hl.1 rfl (Nat.le_of_ble_eq_true rfl) dX12_makes_25 rfl rfl ⟨rfl, rfl⟩ ⟨Nat.zero_le _, Nat.zero_le _⟩ (zO.of gH5 hh)) gH5 rfl (fun H7 lc7 hp_7 gH7 rH7 => ?_)
  refine lv_aload_n hx hb dX12_makes_28 rfl (lv_at hl 0 rfl) ?_
  refine lv_iload_n hx hb dX12_makes_29 rfl (lv_at hl 1 rfl) ?_
  refine lv_bipush (v := 30) hx hb dX12_makes_30 (by decide) ?_
  refine lv_iconst (v := 1) hx hb dX12_makes_32 (by decide) ?_
  refine lv_aload_n hx hb dX12_makes_33 rfl (lv_at hl 0 rfl) ?_
  refine lv_iload_n hx hb dX12_makes_34 rfl (lv_at hl 1 rfl) ?_
  refine zkPI (zrV (rest := [.int 1, .int 30, .int p0, .ref h0]) B (c_X12_turnOf l E hV H7 gH7.1 h0 kh0 p0 (by omega) (by omega)) cl_RX12_281 gH7.1 kh0 rfl rfl rfl rfl hl.1 rfl (Nat.le_of_ble_eq_true rfl) dX12_makes_35 rfl rfl ⟨rfl, rfl⟩ ⟨Nat.zero_le _, Nat.zero_le _⟩ (zO.of gH7 hh)) (fun x_8 hp_8 => ?_)
  refine lv_isub hx hb dX12_makes_38 ?_
  refine lv_topi (fun x_9 e_9 => ?_)
  have := kl_30
  have := kl_30
  refine zkV (zrV (rest := []) B (c_X12_put l E hV H7 gH7.1 h0 kh0 p0 (by omega) (by omega) 30 (by omega) (by omega) x_9 (by omega)) cl_RX12_210 gH7.1 kh0 rfl rfl rfl rfl hl.1 rfl (Nat.le_of_ble_eq_true rfl) dX12_makes_39 rfl rfl ⟨rfl, rfl⟩ ⟨Nat.zero_le _, Nat.zero_le _⟩ (zO.of gH7 hh)) gH7 rfl (fun H10 lc10 hp_10 gH10 rH10 => ?_)
  exact rtV B hr hlk hh hQ gH10 trivial dX12_makes_42

theorem dX12_loserOf_0 : decode cX12_loserOf 0 = .ok (.aload_n 0, 1) := by decide +kernel
theorem dX12_loserOf_1 : decode cX12_loserOf 1 = .ok (.iload_n 1, 1) := by decide +kernel
theorem dX12_loserOf_2 : decode cX12_loserOf 2 = .ok (.invokevirtual 284, 3) := by decide +kernel
theorem dX12_loserOf_5 : decode cX12_loserOf 5 = .ok (.istore_n 2, 1) := by decide +kernel
theorem dX12_loserOf_6 : decode cX12_loserOf 6 = .ok (.iload_n 2, 1) := by decide +kernel
theorem dX12_loserOf_7 : decode cX12_loserOf 7 = .ok (.ifCond .lt 5, 3) := by decide +kernel
theorem dX12_loserOf_10 : decode cX12_loserOf 10 = .ok (.iload_n 2, 1) := by decide +kernel
theorem dX12_loserOf_11 : decode cX12_loserOf 11 = .ok (.ireturn, 1) := by decide +kernel
theorem dX12_loserOf_12 : decode cX12_loserOf 12 = .ok (.aload_n 0, 1) := by decide +kernel
theorem dX12_loserOf_13 : decode cX12_loserOf 13 = .ok (.iload_n 1, 1) := by decide +kernel
theorem dX12_loserOf_14 : decode cX12_loserOf 14 = .ok (.invokevirtual 302, 3) := by decide +kernel
theorem dX12_loserOf_17 : decode cX12_loserOf 17 = .ok (.ifCond .ne 11, 3) := by decide +kernel
theorem dX12_loserOf_20 : decode cX12_loserOf 20 = .ok (.aload_n 0, 1) := by decide +kernel
theorem dX12_loserOf_21 : decode cX12_loserOf 21 = .ok (.iload_n 1, 1) := by decide +kernel
theorem dX12_loserOf_22 : decode cX12_loserOf 22 = .ok (.invokevirtual 281, 3) := by decide +kernel
theorem dX12_loserOf_25 : decode cX12_loserOf 25 = .ok (.goto 4, 3) := by decide +kernel
theorem dX12_loserOf_28 : decode cX12_loserOf 28 = .ok (.iconst (-1), 1) := by decide +kernel
theorem dX12_loserOf_29 : decode cX12_loserOf 29 = .ok (.ireturn, 1) := by decide +kernel
def rm_X12_loserOf : Room := { frames := 5, cells := 0, slots := 0, locals := 125 }
set_option maxRecDepth 100000 in
set_option maxHeartbeats 4000000 in
theorem c_X12_loserOf (l : Launch) (E : zE) (hV : zV E) (H0 : Heap) (hT0 : HT E H0) (h0 : Nat) (kh0 : eK E h0 = 13) (p0 : Int32) (p0_lo : 0 ≤ p0.toInt) (p0_hi : p0.toInt ≤ 195) : Met l yX12_loserOf (zws yX12_loserOf cX12_loserOf 3 (some .int)) rm_X12_loserOf (zP E H0 [.ref h0, .int p0]) (zPI (fun r => True)) 0 0 (fun _ => False) := by
  refine zEnt (by decide) (Nat.le_of_ble_eq_true rfl) (fun p e s m args below meth c ls Q B hr hlk hh hQ hl => ?_)
  have hx := B.1
  have hb := B.2.1
  have hl : lv_has ls 3 [(0, .ref h0), (1, .int p0)] := hl
  refine lv_aload_n hx hb dX12_loserOf_0 rfl (lv_at hl 0 rfl) ?_
  refine lv_iload_n hx hb dX12_loserOf_1 rfl (lv_at hl 1 rfl) ?_
  refine zkPI (zrV (rest := []) B (c_X12_kingless l E hV H0 hT0 h0 kh0 p0 (by omega) (by omega)) cl_RX12_284 hT0 kh0 rfl rfl rfl rfl hl.1 rfl (Nat.le_of_ble_eq_true rfl) dX12_loserOf_2 rfl rfl ⟨rfl, rfl⟩ ⟨Nat.zero_le _, Nat.zero_le _⟩ (zO.rf hh)) (fun x_1 hp_1 => ?_)
  obtain ⟨hp_1_1, hp_1_2⟩ := hp_1
  refine lv_istore_n (lv' := [(2, .int x_1), (0, .ref h0), (1, .int p0)]) hx hb dX12_loserOf_5 rfl hl (by decide) rfl (fun ls hl => ?_)
  refine lv_iload_n hx hb dX12_loserOf_6 rfl (lv_at hl 0 rfl) ?_
  refine lv_if_lt (tgt := 12) hx hb dX12_loserOf_7 (by decide) (fun c_2 => ?_) (fun c_2 => ?_)
  · have f_2 := z_lt c_2 rfl kl_0
    refine lv_aload_n hx hb dX12_loserOf_12 rfl (lv_at hl 1 rfl) ?_
    refine lv_iload_n hx hb dX12_loserOf_13 rfl (lv_at hl 2 rfl) ?_
    refine zkPI (zrV (rest := []) B (c_X12_movesOf l E hV H0 hT0 h0 kh0 p0 (by omega) (by omega)) cl_RX12_302 hT0 kh0 rfl rfl rfl rfl hl.1 rfl (Nat.le_of_ble_eq_true rfl) dX12_loserOf_14 rfl rfl ⟨rfl, rfl⟩ ⟨Nat.zero_le _, Nat.zero_le _⟩ (zO.rf hh)) (fun x_3 hp_3 => ?_)
    refine lv_if_ne (tgt := 28) hx hb dX12_loserOf_17 (by decide) (fun c_4 => ?_) (fun c_4 => ?_)
    · have f_4 := z_ne c_4 rfl kl_0
      refine lv_iconst (v := (-1)) hx hb dX12_loserOf_28 (by decide) ?_
      have := kl_m1
      have := kl_m1
      exact rtPI (v := (-1)) B hr hlk hh hQ rfl trivial dX12_loserOf_29
    · have f_4 := z_eq c_4 rfl kl_0
      refine lv_aload_n hx hb dX12_loserOf_20 rfl (lv_at hl 1 rfl) ?_
      refine lv_iload_n hx hb dX12_loserOf_21 rfl (lv_at hl 2 rfl) ?_
      refine zkPI (zrV (rest := []) B (c_X12_turnOf l E hV H0 hT0 h0 kh0 p0 (by omega) (by omega)) cl_RX12_281 hT0 kh0 rfl rfl rfl rfl hl.1 rfl (Nat.le_of_ble_eq_true rfl) dX12_loserOf_22 rfl rfl ⟨rfl, rfl⟩ ⟨Nat.zero_le _, Nat.zero_le _⟩ (zO.rf hh)) (fun x_5 hp_5 => ?_)
      refine lv_goto (tgt := 29) hx hb dX12_loserOf_25 (by decide) ?_
      exact rtPI (v := x_5) B hr hlk hh hQ rfl trivial dX12_loserOf_29
  · have f_2 := z_nlt c_2 rfl kl_0
    refine lv_iload_n hx hb dX12_loserOf_10 rfl (lv_at hl 0 rfl) ?_
    exact rtPI (v := x_1) B hr hlk hh hQ rfl trivial dX12_loserOf_11

theorem dX12_boardOf_0 : decode cX12_boardOf 0 = .ok (.iconst 2, 1) := by decide +kernel
theorem dX12_boardOf_1 : decode cX12_boardOf 1 = .ok (.aload_n 0, 1) := by decide +kernel
theorem dX12_boardOf_2 : decode cX12_boardOf 2 = .ok (.getfield 305, 3) := by decide +kernel
theorem dX12_boardOf_5 : decode cX12_boardOf 5 = .ok (.imul, 1) := by decide +kernel
theorem dX12_boardOf_6 : decode cX12_boardOf 6 = .ok (.iload_n 1, 1) := by decide +kernel
theorem dX12_boardOf_7 : decode cX12_boardOf 7 = .ok (.iadd, 1) := by decide +kernel
theorem dX12_boardOf_8 : decode cX12_boardOf 8 = .ok (.ireturn, 1) := by decide +kernel
def rm_X12_boardOf : Room := { frames := 0, cells := 0, slots := 0, locals := 0 }
set_option maxRecDepth 100000 in
set_option maxHeartbeats 4000000 in
theorem c_X12_boardOf (l : Launch) (E : zE) (hV : zV E) (H0 : Heap) (hT0 : HT E H0) (h0 : Nat) (kh0 : eK E h0 = 13) (p0 : Int32) (p0_lo : 0 ≤ p0.toInt) (p0_hi : p0.toInt ≤ 1) : Met l yX12_boardOf (zws yX12_boardOf cX12_boardOf 2 (some .int)) rm_X12_boardOf (zP E H0 [.ref h0, .int p0]) (zPI (fun r => 0 ≤ r.toInt ∧ r.toInt ≤ 121)) 0 0 (fun _ => False) := by
  refine zEnt (by decide) (Nat.le_of_ble_eq_true rfl) (fun p e s m args below meth c ls Q B hr hlk hh hQ hl => ?_)
  have hx := B.1
  have hb := B.2.1
  have hl : lv_has ls 2 [(0, .ref h0), (1, .int p0)] := hl
  refine lv_iconst (v := 2) hx hb dX12_boardOf_0 (by decide) ?_
  refine lv_aload_n hx hb dX12_boardOf_1 rfl (lv_at hl 0 rfl) ?_
  refine g_getI B fl_RX12_305 hT0 kh0 rfl rfl rfl rfl rfl dX12_boardOf_2 (fun x_1 s_1 a_1 b_1 => ?_)
  refine lv_imul hx hb dX12_boardOf_5 ?_
  refine lv_topi (fun x_2 e_2 => ?_)
  have t_2 := z_mul e_2 kl_2 rfl (by omega) (by omega)
  refine lv_iload_n hx hb dX12_boardOf_6 rfl (lv_at hl 1 rfl) ?_
  refine lv_iadd hx hb dX12_boardOf_7 ?_
  refine lv_topi (fun x_3 e_3 => ?_)
  have t_3 := z_add e_3 rfl rfl (by omega) (by omega)
  exact rtPI (v := x_3) B hr hlk hh hQ rfl ⟨by omega, by omega⟩ dX12_boardOf_8

theorem dX12_isKeeper_0 : decode cX12_isKeeper 0 = .ok (.iload_n 0, 1) := by decide +kernel
theorem dX12_isKeeper_1 : decode cX12_isKeeper 1 = .ok (.iconst 0, 1) := by decide +kernel
theorem dX12_isKeeper_2 : decode cX12_isKeeper 2 = .ok (.iconst 1, 1) := by decide +kernel
theorem dX12_isKeeper_3 : decode cX12_isKeeper 3 = .ok (.invokestatic 260, 3) := by decide +kernel
theorem dX12_isKeeper_6 : decode cX12_isKeeper 6 = .ok (.ireturn, 1) := by decide +kernel
def rm_X12_isKeeper : Room := { frames := 1, cells := 0, slots := 0, locals := 22 }
set_option maxRecDepth 100000 in
set_option maxHeartbeats 4000000 in
theorem c_X12_isKeeper (l : Launch) (E : zE) (hV : zV E) (H0 : Heap) (hT0 : HT E H0) (p0 : Int32) : Met l yX12_isKeeper (zws yX12_isKeeper cX12_isKeeper 1 (some .boolean)) rm_X12_isKeeper (zP E H0 [.int p0]) (zPI (fun r => 0 ≤ r.toInt ∧ r.toInt ≤ 1 ∧ (r.toInt = 0 ∨ (0 ≤ p0.toInt ∧ p0.toInt ≤ 1)))) 0 0 (fun _ => False) := by
  refine zEnt (by decide) (Nat.le_of_ble_eq_true rfl) (fun p e s m args below meth c ls Q B hr hlk hh hQ hl => ?_)
  have hx := B.1
  have hb := B.2.1
  have hl : lv_has ls 1 [(0, .int p0)] := hl
  refine lv_iload_n hx hb dX12_isKeeper_0 rfl (lv_at hl 0 rfl) ?_
  refine lv_iconst (v := 0) hx hb dX12_isKeeper_1 (by decide) ?_
  refine lv_iconst (v := 1) hx hb dX12_isKeeper_2 (by decide) ?_
  refine zkPI (zrS (rest := []) B (c_X12_isIn l E hV H0 hT0 p0 0 1) cs_RX12_260 rfl hl.1 rfl (Nat.le_of_ble_eq_true rfl) dX12_isKeeper_3 rfl rfl ⟨rfl, rfl⟩ ⟨Nat.zero_le _, Nat.zero_le _⟩ (zO.rf hh)) (fun x_1 hp_1 => ?_)
  obtain ⟨hp_1_1, hp_1_2, hp_1_3⟩ := hp_1
  have := kl_0
  have := kl_1
  exact rtPI (v := x_1) B hr hlk hh hQ (z_nz (by omega) (by omega)) ⟨by omega, by omega, by omega⟩ dX12_isKeeper_6

theorem dX12_isSquare_0 : decode cX12_isSquare 0 = .ok (.iload_n 1, 1) := by decide +kernel
theorem dX12_isSquare_1 : decode cX12_isSquare 1 = .ok (.iconst 0, 1) := by decide +kernel
theorem dX12_isSquare_2 : decode cX12_isSquare 2 = .ok (.aload_n 0, 1) := by decide +kernel
theorem dX12_isSquare_3 : decode cX12_isSquare 3 = .ok (.invokevirtual 275, 3) := by decide +kernel
theorem dX12_isSquare_6 : decode cX12_isSquare 6 = .ok (.iconst 1, 1) := by decide +kernel
theorem dX12_isSquare_7 : decode cX12_isSquare 7 = .ok (.isub, 1) := by decide +kernel
theorem dX12_isSquare_8 : decode cX12_isSquare 8 = .ok (.invokestatic 260, 3) := by decide +kernel
theorem dX12_isSquare_11 : decode cX12_isSquare 11 = .ok (.ireturn, 1) := by decide +kernel
def rm_X12_isSquare : Room := { frames := 1, cells := 0, slots := 0, locals := 22 }
set_option maxRecDepth 100000 in
set_option maxHeartbeats 4000000 in
theorem c_X12_isSquare (l : Launch) (E : zE) (hV : zV E) (H0 : Heap) (hT0 : HT E H0) (h0 : Nat) (kh0 : eK E h0 = 13) (p0 : Int32) : Met l yX12_isSquare (zws yX12_isSquare cX12_isSquare 2 (some .boolean)) rm_X12_isSquare (zP E H0 [.ref h0, .int p0]) (zPI (fun r => 0 ≤ r.toInt ∧ r.toInt ≤ 1 ∧ (r.toInt = 0 ∨ (0 ≤ p0.toInt ∧ p0.toInt ≤ 29)))) 0 0 (fun _ => False) := by
  refine zEnt (by decide) (Nat.le_of_ble_eq_true rfl) (fun p e s m args below meth c ls Q B hr hlk hh hQ hl => ?_)
  have hx := B.1
  have hb := B.2.1
  have hl : lv_has ls 2 [(0, .ref h0), (1, .int p0)] := hl
  refine lv_iload_n hx hb dX12_isSquare_0 rfl (lv_at hl 1 rfl) ?_
  refine lv_iconst (v := 0) hx hb dX12_isSquare_1 (by decide) ?_
  refine lv_aload_n hx hb dX12_isSquare_2 rfl (lv_at hl 0 rfl) ?_
  obtain ⟨q_1, s_1, k_q_1⟩ := HT.atR hT0 kh0 rfl (j := 12) (by decide) rfl
  obtain ⟨x_2, s_2, a_2, b_2⟩ := HT.atI hT0 kh0 rfl (j := 26) (by decide) rfl
  obtain ⟨x_3, s_3, a_3, b_3⟩ := HT.elI (i := x_2) (N := 2) hT0 k_q_1 rfl rfl rfl (by omega) (by omega) rfl
  refine zkPI (zrV (rest := [.int 0, .int p0]) B (c_X12_squares l E hV H0 hT0 h0 kh0 q_1 k_q_1 s_1 x_2 s_2 x_3 s_3) cl_RX12_275 hT0 kh0 rfl rfl rfl rfl hl.1 rfl (Nat.le_of_ble_eq_true rfl) dX12_isSquare_3 rfl rfl ⟨rfl, rfl⟩ ⟨Nat.zero_le _, Nat.zero_le _⟩ (zO.rf hh)) (fun x_4 hp_4 => ?_)
  obtain ⟨hp_4_1, hp_4_2, hp_4_3⟩ := hp_4
  refine lv_iconst (v := 1) hx hb dX12_isSquare_6 (by decide) ?_
  refine lv_isub hx hb dX12_isSquare_7 ?_
  refine lv_topi (fun x_5 e_5 => ?_)
  have t_5 := z_sub e_5 rfl kl_1 (by omega) (by omega)
  refine zkPI (zrS (rest := []) B (c_X12_isIn l E hV H0 hT0 p0 0 x_5) cs_RX12_260 rfl hl.1 rfl (Nat.le_of_ble_eq_true rfl) dX12_isSquare_8 rfl rfl ⟨rfl, rfl⟩ ⟨Nat.zero_le _, Nat.zero_le _⟩ (zO.rf hh)) (fun x_6 hp_6 => ?_)
  obtain ⟨hp_6_1, hp_6_2, hp_6_3⟩ := hp_6
  have := kl_0
  exact rtPI (v := x_6) B hr hlk hh hQ (z_nz (by omega) (by omega)) ⟨by omega, by omega, by omega⟩ dX12_isSquare_11

theorem dX12_at_0 : decode cX12_at 0 = .ok (.iload_n 1, 1) := by decide +kernel
theorem dX12_at_1 : decode cX12_at 1 = .ok (.invokestatic 308, 3) := by decide +kernel
theorem dX12_at_4 : decode cX12_at 4 = .ok (.ifCond .eq 24, 3) := by decide +kernel
theorem dX12_at_7 : decode cX12_at 7 = .ok (.aload_n 0, 1) := by decide +kernel
theorem dX12_at_8 : decode cX12_at 8 = .ok (.iload_n 2, 1) := by decide +kernel
theorem dX12_at_9 : decode cX12_at 9 = .ok (.invokevirtual 311, 3) := by decide +kernel
theorem dX12_at_12 : decode cX12_at 12 = .ok (.ifCond .eq 16, 3) := by decide +kernel
theorem dX12_at_15 : decode cX12_at 15 = .ok (.aload_n 0, 1) := by decide +kernel
theorem dX12_at_16 : decode cX12_at 16 = .ok (.aload_n 0, 1) := by decide +kernel
theorem dX12_at_17 : decode cX12_at 17 = .ok (.iload_n 1, 1) := by decide +kernel
theorem dX12_at_18 : decode cX12_at 18 = .ok (.invokevirtual 314, 3) := by decide +kernel
theorem dX12_at_21 : decode cX12_at 21 = .ok (.iload_n 2, 1) := by decide +kernel
theorem dX12_at_22 : decode cX12_at 22 = .ok (.invokevirtual 257, 3) := by decide +kernel
theorem dX12_at_25 : decode cX12_at 25 = .ok (.goto 4, 3) := by decide +kernel
theorem dX12_at_28 : decode cX12_at 28 = .ok (.iconst (-1), 1) := by decide +kernel
theorem dX12_at_29 : decode cX12_at 29 = .ok (.ireturn, 1) := by decide +kernel
def rm_X12_at : Room := { frames := 2, cells := 0, slots := 0, locals := 43 }
set_option maxRecDepth 100000 in
set_option maxHeartbeats 4000000 in
theorem c_X12_at (l : Launch) (E : zE) (hV : zV E) (H0 : Heap) (hT0 : HT E H0) (h0 : Nat) (kh0 : eK E h0 = 13) (p0 : Int32) (p1 : Int32) : Met l yX12_at (zws yX12_at cX12_at 3 (some .int)) rm_X12_at (zP E H0 [.ref h0, .int p0, .int p1]) (zPI (fun r => (-1) ≤ r.toInt ∧ r.toInt ≤ 11)) 0 0 (fun _ => False) := by
  refine zEnt (by decide) (Nat.le_of_ble_eq_true rfl) (fun p e s m args below meth c ls Q B hr hlk hh hQ hl => ?_)
  have hx := B.1
  have hb := B.2.1
  have hl : lv_has ls 3 [(0, .ref h0), (1, .int p0), (2, .int p1)] := hl
  refine lv_iload_n hx hb dX12_at_0 rfl (lv_at hl 1 rfl) ?_
  refine zkPI (zrS (rest := []) B (c_X12_isKeeper l E hV H0 hT0 p0) cs_RX12_308 rfl hl.1 rfl (Nat.le_of_ble_eq_true rfl) dX12_at_1 rfl rfl ⟨rfl, rfl⟩ ⟨Nat.zero_le _, Nat.zero_le _⟩ (zO.rf hh)) (fun x_1 hp_1 => ?_)
  obtain ⟨hp_1_1, hp_1_2, hp_1_3⟩ := hp_1
  refine lv_if_eq (tgt := 28) hx hb dX12_at_4 (by decide) (fun c_2 => ?_) (fun c_2 => ?_)
  · have f_2 := z_eq c_2 rfl kl_0
    refine lv_iconst (v := (-1)) hx hb dX12_at_28 (by decide) ?_
    have := kl_m1
    have := kl_m1
    exact rtPI (v := (-1)) B hr hlk hh hQ rfl ⟨by omega, by omega⟩ dX12_at_29
  · have f_2 := z_ne c_2 rfl kl_0
    refine lv_aload_n hx hb dX12_at_7 rfl (lv_at hl 0 rfl) ?_
    refine lv_iload_n hx hb dX12_at_8 rfl (lv_at hl 2 rfl) ?_
    refine zkPI (zrV (rest := []) B (c_X12_isSquare l E hV H0 hT0 h0 kh0 p1) cl_RX12_311 hT0 kh0 rfl rfl rfl rfl hl.1 rfl (Nat.le_of_ble_eq_true rfl) dX12_at_9 rfl rfl ⟨rfl, rfl⟩ ⟨Nat.zero_le _, Nat.zero_le _⟩ (zO.rf hh)) (fun x_3 hp_3 => ?_)
    obtain ⟨hp_3_1, hp_3_2, hp_3_3⟩ := hp_3
    refine lv_if_eq (tgt := 28) hx hb dX12_at_12 (by decide) (fun c_4 => ?_) (fun c_4 => ?_)
    · have f_4 := z_eq c_4 rfl kl_0
      refine lv_iconst (v := (-1)) hx hb dX12_at_28 (by decide) ?_
      have := kl_m1
      have := kl_m1
      exact rtPI (v := (-1)) B hr hlk hh hQ rfl ⟨by omega, by omega⟩ dX12_at_29
    · have f_4 := z_ne c_4 rfl kl_0
      refine lv_aload_n hx hb dX12_at_15 rfl (lv_at hl 0 rfl) ?_
      refine lv_aload_n hx hb dX12_at_16 rfl (lv_at hl 0 rfl) ?_
      refine lv_iload_n hx hb dX12_at_17 rfl (lv_at hl 1 rfl) ?_
      refine zkPI (zrV (rest := [.ref h0]) B (c_X12_boardOf l E hV H0 hT0 h0 kh0 p0 (by omega) (by omega)) cl_RX12_314 hT0 kh0 rfl rfl rfl rfl hl.1 rfl (Nat.le_of_ble_eq_true rfl) dX12_at_18 rfl rfl ⟨rfl, rfl⟩ ⟨Nat.zero_le _, Nat.zero_le _⟩ (zO.rf hh)) (fun x_5 hp_5 => ?_)
      obtain ⟨hp_5_1, hp_5_2⟩ := hp_5
      refine lv_iload_n hx hb dX12_at_21 rfl (lv_at hl 2 rfl) ?_
      obtain ⟨q_6, s_6, k_q_6⟩ := HT.atR hT0 kh0 rfl (j := 2) (by decide) rfl
      refine zkPI (zrV (rest := []) B (c_X12_of l E hV H0 hT0 h0 kh0 x_5 (by omega) (by omega) p1 (by omega) (by omega) q_6 k_q_6 s_6) cl_RX12_257 hT0 kh0 rfl rfl rfl rfl hl.1 rfl (Nat.le_of_ble_eq_true rfl) dX12_at_22 rfl rfl ⟨rfl, rfl⟩ ⟨Nat.zero_le _, Nat.zero_le _⟩ (zO.rf hh)) (fun x_7 hp_7 => ?_)
      obtain ⟨hp_7_1, hp_7_2⟩ := hp_7
      refine lv_goto (tgt := 29) hx hb dX12_at_25 (by decide) ?_
      exact rtPI (v := x_7) B hr hlk hh hQ rfl ⟨by omega, by omega⟩ dX12_at_29

theorem dX12_turn_0 : decode cX12_turn 0 = .ok (.iload_n 1, 1) := by decide +kernel
theorem dX12_turn_1 : decode cX12_turn 1 = .ok (.invokestatic 308, 3) := by decide +kernel
theorem dX12_turn_4 : decode cX12_turn 4 = .ok (.ifCond .eq 15, 3) := by decide +kernel
theorem dX12_turn_7 : decode cX12_turn 7 = .ok (.aload_n 0, 1) := by decide +kernel
theorem dX12_turn_8 : decode cX12_turn 8 = .ok (.aload_n 0, 1) := by decide +kernel
theorem dX12_turn_9 : decode cX12_turn 9 = .ok (.iload_n 1, 1) := by decide +kernel
theorem dX12_turn_10 : decode cX12_turn 10 = .ok (.invokevirtual 314, 3) := by decide +kernel
theorem dX12_turn_13 : decode cX12_turn 13 = .ok (.invokevirtual 281, 3) := by decide +kernel
theorem dX12_turn_16 : decode cX12_turn 16 = .ok (.goto 4, 3) := by decide +kernel
theorem dX12_turn_19 : decode cX12_turn 19 = .ok (.iconst (-1), 1) := by decide +kernel
theorem dX12_turn_20 : decode cX12_turn 20 = .ok (.ireturn, 1) := by decide +kernel
def rm_X12_turn : Room := { frames := 2, cells := 0, slots := 0, locals := 43 }
set_option maxRecDepth 100000 in
set_option maxHeartbeats 4000000 in
theorem c_X12_turn (l : Launch) (E : zE) (hV : zV E) (H0 : Heap) (hT0 : HT E H0) (h0 : Nat) (kh0 : eK E h0 = 13) (p0 : Int32) : Met l yX12_turn (zws yX12_turn cX12_turn 2 (some .int)) rm_X12_turn (zP E H0 [.ref h0, .int p0]) (zPI (fun r => True)) 0 0 (fun _ => False) := by
  refine zEnt (by decide) (Nat.le_of_ble_eq_true rfl) (fun p e s m args below meth c ls Q B hr hlk hh hQ hl => ?_)
  have hx := B.1
  have hb := B.2.1
  have hl : lv_has ls 2 [(0, .ref h0), (1, .int p0)] := hl
  refine lv_iload_n hx hb dX12_turn_0 rfl (lv_at hl 1 rfl) ?_
  refine zkPI (zrS (rest := []) B (c_X12_isKeeper l E hV H0 hT0 p0) cs_RX12_308 rfl hl.1 rfl (Nat.le_of_ble_eq_true rfl) dX12_turn_1 rfl rfl ⟨rfl, rfl⟩ ⟨Nat.zero_le _, Nat.zero_le _⟩ (zO.rf hh)) (fun x_1 hp_1 => ?_)
  obtain ⟨hp_1_1, hp_1_2, hp_1_3⟩ := hp_1
  refine lv_if_eq (tgt := 19) hx hb dX12_turn_4 (by decide) (fun c_2 => ?_) (fun c_2 => ?_)
  · have f_2 := z_eq c_2 rfl kl_0
    refine lv_iconst (v := (-1)) hx hb dX12_turn_19 (by decide) ?_
    have := kl_m1
    have := kl_m1
    exact rtPI (v := (-1)) B hr hlk hh hQ rfl trivial dX12_turn_20
  · have f_2 := z_ne c_2 rfl kl_0
    refine lv_aload_n hx hb dX12_turn_7 rfl (lv_at hl 0 rfl) ?_
    refine lv_aload_n hx hb dX12_turn_8 rfl (lv_at hl 0 rfl) ?_
    refine lv_iload_n hx hb dX12_turn_9 rfl (lv_at hl 1 rfl) ?_
    refine zkPI (zrV (rest := [.ref h0]) B (c_X12_boardOf l E hV H0 hT0 h0 kh0 p0 (by omega) (by omega)) cl_RX12_314 hT0 kh0 rfl rfl rfl rfl hl.1 rfl (Nat.le_of_ble_eq_true rfl) dX12_turn_10 rfl rfl ⟨rfl, rfl⟩ ⟨Nat.zero_le _, Nat.zero_le _⟩ (zO.rf hh)) (fun x_3 hp_3 => ?_)
    obtain ⟨hp_3_1, hp_3_2⟩ := hp_3
    refine zkPI (zrV (rest := []) B (c_X12_turnOf l E hV H0 hT0 h0 kh0 x_3 (by omega) (by omega)) cl_RX12_281 hT0 kh0 rfl rfl rfl rfl hl.1 rfl (Nat.le_of_ble_eq_true rfl) dX12_turn_13 rfl rfl ⟨rfl, rfl⟩ ⟨Nat.zero_le _, Nat.zero_le _⟩ (zO.rf hh)) (fun x_4 hp_4 => ?_)
    refine lv_goto (tgt := 20) hx hb dX12_turn_16 (by decide) ?_
    exact rtPI (v := x_4) B hr hlk hh hQ rfl trivial dX12_turn_20

theorem dX12_moves_0 : decode cX12_moves 0 = .ok (.iload_n 1, 1) := by decide +kernel
theorem dX12_moves_1 : decode cX12_moves 1 = .ok (.invokestatic 308, 3) := by decide +kernel
theorem dX12_moves_4 : decode cX12_moves 4 = .ok (.ifCond .eq 15, 3) := by decide +kernel
theorem dX12_moves_7 : decode cX12_moves 7 = .ok (.aload_n 0, 1) := by decide +kernel
theorem dX12_moves_8 : decode cX12_moves 8 = .ok (.aload_n 0, 1) := by decide +kernel
theorem dX12_moves_9 : decode cX12_moves 9 = .ok (.iload_n 1, 1) := by decide +kernel
theorem dX12_moves_10 : decode cX12_moves 10 = .ok (.invokevirtual 314, 3) := by decide +kernel
theorem dX12_moves_13 : decode cX12_moves 13 = .ok (.invokevirtual 302, 3) := by decide +kernel
theorem dX12_moves_16 : decode cX12_moves 16 = .ok (.goto 4, 3) := by decide +kernel
theorem dX12_moves_19 : decode cX12_moves 19 = .ok (.iconst (-1), 1) := by decide +kernel
theorem dX12_moves_20 : decode cX12_moves 20 = .ok (.ireturn, 1) := by decide +kernel
def rm_X12_moves : Room := { frames := 5, cells := 0, slots := 0, locals := 125 }
set_option maxRecDepth 100000 in
set_option maxHeartbeats 4000000 in
theorem c_X12_moves (l : Launch) (E : zE) (hV : zV E) (H0 : Heap) (hT0 : HT E H0) (h0 : Nat) (kh0 : eK E h0 = 13) (p0 : Int32) : Met l yX12_moves (zws yX12_moves cX12_moves 2 (some .int)) rm_X12_moves (zP E H0 [.ref h0, .int p0]) (zPI (fun r => True)) 0 0 (fun _ => False) := by
  refine zEnt (by decide) (Nat.le_of_ble_eq_true rfl) (fun p e s m args below meth c ls Q B hr hlk hh hQ hl => ?_)
  have hx := B.1
  have hb := B.2.1
  have hl : lv_has ls 2 [(0, .ref h0), (1, .int p0)] := hl
  refine lv_iload_n hx hb dX12_moves_0 rfl (lv_at hl 1 rfl) ?_
  refine zkPI (zrS (rest := []) B (c_X12_isKeeper l E hV H0 hT0 p0) cs_RX12_308 rfl hl.1 rfl (Nat.le_of_ble_eq_true rfl) dX12_moves_1 rfl rfl ⟨rfl, rfl⟩ ⟨Nat.zero_le _, Nat.zero_le _⟩ (zO.rf hh)) (fun x_1 hp_1 => ?_)
  obtain ⟨hp_1_1, hp_1_2, hp_1_3⟩ := hp_1
  refine lv_if_eq (tgt := 19) hx hb dX12_moves_4 (by decide) (fun c_2 => ?_) (fun c_2 => ?_)
  · have f_2 := z_eq c_2 rfl kl_0
    refine lv_iconst (v := (-1)) hx hb dX12_moves_19 (by decide) ?_
    have := kl_m1
    have := kl_m1
    exact rtPI (v := (-1)) B hr hlk hh hQ rfl trivial dX12_moves_20
  · have f_2 := z_ne c_2 rfl kl_0
    refine lv_aload_n hx hb dX12_moves_7 rfl (lv_at hl 0 rfl) ?_
    refine lv_aload_n hx hb dX12_moves_8 rfl (lv_at hl 0 rfl) ?_
    refine lv_iload_n hx hb dX12_moves_9 rfl (lv_at hl 1 rfl) ?_
    refine zkPI (zrV (rest := [.ref h0]) B (c_X12_boardOf l E hV H0 hT0 h0 kh0 p0 (by omega) (by omega)) cl_RX12_314 hT0 kh0 rfl rfl rfl rfl hl.1 rfl (Nat.le_of_ble_eq_true rfl) dX12_moves_10 rfl rfl ⟨rfl, rfl⟩ ⟨Nat.zero_le _, Nat.zero_le _⟩ (zO.rf hh)) (fun x_3 hp_3 => ?_)
    obtain ⟨hp_3_1, hp_3_2⟩ := hp_3
    refine zkPI (zrV (rest := []) B (c_X12_movesOf l E hV H0 hT0 h0 kh0 x_3 (by omega) (by omega)) cl_RX12_302 hT0 kh0 rfl rfl rfl rfl hl.1 rfl (Nat.le_of_ble_eq_true rfl) dX12_moves_13 rfl rfl ⟨rfl, rfl⟩ ⟨Nat.zero_le _, Nat.zero_le _⟩ (zO.rf hh)) (fun x_4 hp_4 => ?_)
    refine lv_goto (tgt := 20) hx hb dX12_moves_16 (by decide) ?_
    exact rtPI (v := x_4) B hr hlk hh hQ rfl trivial dX12_moves_20

theorem dX12_move_0 : decode cX12_move 0 = .ok (.iload_n 1, 1) := by decide +kernel
theorem dX12_move_1 : decode cX12_move 1 = .ok (.invokestatic 308, 3) := by decide +kernel
theorem dX12_move_4 : decode cX12_move 4 = .ok (.ifCond .eq 25, 3) := by decide +kernel
theorem dX12_move_7 : decode cX12_move 7 = .ok (.iload_n 3, 1) := by decide +kernel
theorem dX12_move_8 : decode cX12_move 8 = .ok (.iconst 0, 1) := by decide +kernel
theorem dX12_move_9 : decode cX12_move 9 = .ok (.iconst 2, 1) := by decide +kernel
theorem dX12_move_10 : decode cX12_move 10 = .ok (.invokestatic 260, 3) := by decide +kernel
theorem dX12_move_13 : decode cX12_move 13 = .ok (.ifCond .eq 16, 3) := by decide +kernel
theorem dX12_move_16 : decode cX12_move 16 = .ok (.aload_n 0, 1) := by decide +kernel
theorem dX12_move_17 : decode cX12_move 17 = .ok (.aload_n 0, 1) := by decide +kernel
theorem dX12_move_18 : decode cX12_move 18 = .ok (.iload_n 1, 1) := by decide +kernel
theorem dX12_move_19 : decode cX12_move 19 = .ok (.invokevirtual 314, 3) := by decide +kernel
theorem dX12_move_22 : decode cX12_move 22 = .ok (.iload_n 2, 1) := by decide +kernel
theorem dX12_move_23 : decode cX12_move 23 = .ok (.invokevirtual 317, 3) := by decide +kernel
theorem dX12_move_26 : decode cX12_move 26 = .ok (.ifCond .ne 6, 3) := by decide +kernel
theorem dX12_move_29 : decode cX12_move 29 = .ok (.bipush (-2), 2) := by decide +kernel
theorem dX12_move_31 : decode cX12_move 31 = .ok (.ireturn, 1) := by decide +kernel
theorem dX12_move_32 : decode cX12_move 32 = .ok (.iload_n 3, 1) := by decide +kernel
theorem dX12_move_33 : decode cX12_move 33 = .ok (.ifCond .ne 10, 3) := by decide +kernel
theorem dX12_move_36 : decode cX12_move 36 = .ok (.aload_n 0, 1) := by decide +kernel
theorem dX12_move_37 : decode cX12_move 37 = .ok (.getfield 296, 3) := by decide +kernel
theorem dX12_move_40 : decode cX12_move 40 = .ok (.goto 28, 3) := by decide +kernel
theorem dX12_move_43 : decode cX12_move 43 = .ok (.iload_n 3, 1) := by decide +kernel
theorem dX12_move_44 : decode cX12_move 44 = .ok (.iconst 1, 1) := by decide +kernel
theorem dX12_move_45 : decode cX12_move 45 = .ok (.if_icmp .ne 10, 3) := by decide +kernel
theorem dX12_move_48 : decode cX12_move 48 = .ok (.aload_n 0, 1) := by decide +kernel
theorem dX12_move_49 : decode cX12_move 49 = .ok (.getfield 299, 3) := by decide +kernel
theorem dX12_move_52 : decode cX12_move 52 = .ok (.goto 16, 3) := by decide +kernel
theorem dX12_move_55 : decode cX12_move 55 = .ok (.aload_n 0, 1) := by decide +kernel
theorem dX12_move_56 : decode cX12_move 56 = .ok (.aload_n 0, 1) := by decide +kernel
theorem dX12_move_57 : decode cX12_move 57 = .ok (.iload_n 1, 1) := by decide +kernel
theorem dX12_move_58 : decode cX12_move 58 = .ok (.invokevirtual 314, 3) := by decide +kernel
theorem dX12_move_61 : decode cX12_move 61 = .ok (.aload_n 0, 1) := by decide +kernel
theorem dX12_move_62 : decode cX12_move 62 = .ok (.getfield 299, 3) := by decide +kernel
theorem dX12_move_65 : decode cX12_move 65 = .ok (.invokevirtual 257, 3) := by decide +kernel
theorem dX12_move_68 : decode cX12_move 68 = .ok (.ireturn, 1) := by decide +kernel
def rm_X12_move : Room := { frames := 5, cells := 0, slots := 0, locals := 128 }
abbrev wS_X12_move : List (Nat × Nat) := [(13, 28), (13, 29)]
set_option maxRecDepth 100000 in
set_option maxHeartbeats 4000000 in
theorem c_X12_move (l : Launch) (E : zE) (hV : zV E) (H0 : Heap) (hT0 : HT E H0) (h0 : Nat) (kh0 : eK E h0 = 13) (p0 : Int32) (p1 : Int32) (p2 : Int32) : Met l yX12_move (zws yX12_move cX12_move 4 (some .int)) rm_X12_move (zP E H0 [.ref h0, .int p0, .int p1, .int p2]) (zQI E E wS_X12_move (fun r H1 => (-2) ≤ r.toInt ∧ r.toInt ≤ 29)) 0 0 (zfr E) := by
  refine zEnt (by decide) (Nat.le_of_ble_eq_true rfl) (fun p e s m args below meth c ls Q B hr hlk hh hQ hl => ?_)
  have hx := B.1
  have hb := B.2.1
  have hG0 : zG E wS_X12_move H0 H0 [] := zG.rf hT0
  have hl : lv_has ls 4 [(0, .ref h0), (1, .int p0), (2, .int p1), (3, .int p2)] := hl
  refine lv_iload_n hx hb dX12_move_0 rfl (lv_at hl 1 rfl) ?_
  refine zkPI (zrS (rest := []) B (c_X12_isKeeper l E hV H0 hT0 p0) cs_RX12_308 rfl hl.1 rfl (Nat.le_of_ble_eq_true rfl) dX12_move_1 rfl rfl ⟨rfl, rfl⟩ ⟨Nat.zero_le _, Nat.zero_le _⟩ (zO.of hG0 hh)) (fun x_1 hp_1 => ?_)
  obtain ⟨hp_1_1, hp_1_2, hp_1_3⟩ := hp_1
  refine lv_if_eq (tgt := 29) hx hb dX12_move_4 (by decide) (fun c_2 => ?_) (fun c_2 => ?_)
  · have f_2 := z_eq c_2 rfl kl_0
    refine lv_bipush (v := (-2)) hx hb dX12_move_29 (by decide) ?_
    have := kl_m2
    have := kl_m2
    exact rtI (v := (-2)) B hr hlk hh hQ hG0 rfl ⟨by omega, by omega⟩ dX12_move_31
  · have f_2 := z_ne c_2 rfl kl_0
    refine lv_iload_n hx hb dX12_move_7 rfl (lv_at hl 3 rfl) ?_
    refine lv_iconst (v := 0) hx hb dX12_move_8 (by decide) ?_
    refine lv_iconst (v := 2) hx hb dX12_move_9 (by decide) ?_
    refine zkPI (zrS (rest := []) B (c_X12_isIn l E hV H0 hT0 p2 0 2) cs_RX12_260 rfl hl.1 rfl (Nat.le_of_ble_eq_true rfl) dX12_move_10 rfl rfl ⟨rfl, rfl⟩ ⟨Nat.zero_le _, Nat.zero_le _⟩ (zO.of hG0 hh)) (fun x_3 hp_3 => ?_)
    obtain ⟨hp_3_1, hp_3_2, hp_3_3⟩ := hp_3
    have := kl_0
    have := kl_2
    refine lv_if_eq (tgt := 29) hx hb dX12_move_13 (by decide) (fun c_4 => ?_) (fun c_4 => ?_)
    · have f_4 := z_eq c_4 rfl kl_0
      refine lv_bipush (v := (-2)) hx hb dX12_move_29 (by decide) ?_
      have := kl_m2
      have := kl_m2
      exact rtI (v := (-2)) B hr hlk hh hQ hG0 rfl ⟨by omega, by omega⟩ dX12_move_31
    · have f_4 := z_ne c_4 rfl kl_0
      refine lv_aload_n hx hb dX12_move_16 rfl (lv_at hl 0 rfl) ?_
      refine lv_aload_n hx hb dX12_move_17 rfl (lv_at hl 0 rfl) ?_
      refine lv_iload_n hx hb dX12_move_18 rfl (lv_at hl 1 rfl) ?_
      refine zkPI (zrV (rest := [.ref h0]) B (c_X12_boardOf l E hV H0 hT0 h0 kh0 p0 (by omega) (by omega)) cl_RX12_314 hT0 kh0 rfl rfl rfl rfl hl.1 rfl (Nat.le_of_ble_eq_true rfl) dX12_move_19 rfl rfl ⟨rfl, rfl⟩ ⟨Nat.zero_le _, Nat.zero_le _⟩ (zO.of hG0 hh)) (fun x_5 hp_5 => ?_)
      obtain ⟨hp_5_1, hp_5_2⟩ := hp_5
      refine lv_iload_n hx hb dX12_move_22 rfl (lv_at hl 2 rfl) ?_
      obtain ⟨q_6, s_6, k_q_6⟩ := HT.atR hT0 kh0 rfl (j := 12) (by decide) rfl
      obtain ⟨x_7, s_7, a_7, b_7⟩ := HT.atI hT0 kh0 rfl (j := 26) (by decide) rfl
      obtain ⟨x_8, s_8, a_8, b_8⟩ := HT.elI (i := x_7) (N := 2) hT0 k_q_6 rfl rfl rfl (by omega) (by omega) rfl
      refine zkI (zrV (rest := []) B (c_X12_findMove l E hV H0 hT0 h0 kh0 x_5 (by omega) (by omega) p1 q_6 k_q_6 s_6 x_7 s_7 x_8 s_8) cl_RX12_317 hT0 kh0 rfl rfl rfl rfl hl.1 rfl (Nat.le_of_ble_eq_true rfl) dX12_move_23 rfl rfl ⟨rfl, rfl⟩ ⟨Nat.zero_le _, Nat.zero_le _⟩ (zO.of hG0 hh)) hG0 rfl (fun x_9 H9 lc9 hp_9 gH9 rH9 => ?_)
      obtain ⟨hp_9_1, hp_9_2, hp_9_3⟩ := hp_9
      refine lv_if_ne (tgt := 32) hx hb dX12_move_26 (by decide) (fun c_10 => ?_) (fun c_10 => ?_)
      · have f_10 := z_ne c_10 rfl kl_0
        refine lv_iload_n hx hb dX12_move_32 rfl (lv_at hl 3 rfl) ?_
        refine lv_if_ne (tgt := 43) hx hb dX12_move_33 (by decide) (fun c_11 => ?_) (fun c_11 => ?_)
        · have f_11 := z_ne c_11 rfl kl_0
          refine lv_iload_n hx hb dX12_move_43 rfl (lv_at hl 3 rfl) ?_
          refine lv_iconst (v := 1) hx hb dX12_move_44 (by decide) ?_
          refine lv_icmp_ne (tgt := 55) hx hb dX12_move_45 (by decide) (fun c_12 => ?_) (fun c_12 => ?_)
          · have f_12 := z_ne c_12 rfl kl_1
            refine lv_aload_n hx hb dX12_move_55 rfl (lv_at hl 0 rfl) ?_
            refine lv_aload_n hx hb dX12_move_56 rfl (lv_at hl 0 rfl) ?_
            refine lv_iload_n hx hb dX12_move_57 rfl (lv_at hl 1 rfl) ?_
            refine zkPI (zrV (rest := [.ref h0]) B (c_X12_boardOf l E hV H9 gH9.1 h0 kh0 p0 (by omega) (by omega)) cl_RX12_314 gH9.1 kh0 rfl rfl rfl rfl hl.1 rfl (Nat.le_of_ble_eq_true rfl) dX12_move_58 rfl rfl ⟨rfl, rfl⟩ ⟨Nat.zero_le _, Nat.zero_le _⟩ (zO.of gH9 hh)) (fun x_13 hp_13 => ?_)
            obtain ⟨hp_13_1, hp_13_2⟩ := hp_13
            refine lv_aload_n hx hb dX12_move_61 rfl (lv_at hl 0 rfl) ?_
            refine g_getI B fl_RX12_299 gH9.1 kh0 rfl rfl rfl rfl rfl dX12_move_62 (fun x_14 s_14 a_14 b_14 => ?_)
            obtain ⟨q_15, s_15, k_q_15⟩ := HT.atR gH9.1 kh0 rfl (j := 2) (by decide) rfl
            refine zkPI (zrV (rest := []) B (c_X12_of l E hV H9 gH9.1 h0 kh0 x_13 (by omega) (by omega) x_14 (by omega) (by omega) q_15 k_q_15 s_15) cl_RX12_257 gH9.1 kh0 rfl rfl rfl rfl hl.1 rfl (Nat.le_of_ble_eq_true rfl) dX12_move_65 rfl rfl ⟨rfl, rfl⟩ ⟨Nat.zero_le _, Nat.zero_le _⟩ (zO.of gH9 hh)) (fun x_16 hp_16 => ?_)
            obtain ⟨hp_16_1, hp_16_2⟩ := hp_16
            exact rtI (v := x_16) B hr hlk hh hQ gH9 rfl ⟨by omega, by omega⟩ dX12_move_68
          · have f_12 := z_eq c_12 rfl kl_1
            refine lv_aload_n hx hb dX12_move_48 rfl (lv_at hl 0 rfl) ?_
            refine g_getI B fl_RX12_299 gH9.1 kh0 rfl rfl rfl rfl rfl dX12_move_49 (fun x_17 s_17 a_17 b_17 => ?_)
            refine lv_goto (tgt := 68) hx hb dX12_move_52 (by decide) ?_
            exact rtI (v := x_17) B hr hlk hh hQ gH9 rfl ⟨by omega, by omega⟩ dX12_move_68
        · have f_11 := z_eq c_11 rfl kl_0
          refine lv_aload_n hx hb dX12_move_36 rfl (lv_at hl 0 rfl) ?_
          refine g_getI B fl_RX12_296 gH9.1 kh0 rfl rfl rfl rfl rfl dX12_move_37 (fun x_18 s_18 a_18 b_18 => ?_)
          refine lv_goto (tgt := 68) hx hb dX12_move_40 (by decide) ?_
          exact rtI (v := x_18) B hr hlk hh hQ gH9 rfl ⟨by omega, by omega⟩ dX12_move_68
      · have f_10 := z_eq c_10 rfl kl_0
        refine lv_bipush (v := (-2)) hx hb dX12_move_29 (by decide) ?_
        have := kl_m2
        have := kl_m2
        exact rtI (v := (-2)) B hr hlk hh hQ gH9 rfl ⟨by omega, by omega⟩ dX12_move_31

theorem dX12_lost_0 : decode cX12_lost 0 = .ok (.iload_n 1, 1) := by decide +kernel
theorem dX12_lost_1 : decode cX12_lost 1 = .ok (.invokestatic 308, 3) := by decide +kernel
theorem dX12_lost_4 : decode cX12_lost 4 = .ok (.ifCond .eq 15, 3) := by decide +kernel
theorem dX12_lost_7 : decode cX12_lost 7 = .ok (.aload_n 0, 1) := by decide +kernel
theorem dX12_lost_8 : decode cX12_lost 8 = .ok (.aload_n 0, 1) := by decide +kernel
theorem dX12_lost_9 : decode cX12_lost 9 = .ok (.iload_n 1, 1) := by decide +kernel
theorem dX12_lost_10 : decode cX12_lost 10 = .ok (.invokevirtual 314, 3) := by decide +kernel
theorem dX12_lost_13 : decode cX12_lost 13 = .ok (.invokevirtual 320, 3) := by decide +kernel
theorem dX12_lost_16 : decode cX12_lost 16 = .ok (.goto 5, 3) := by decide +kernel
theorem dX12_lost_19 : decode cX12_lost 19 = .ok (.bipush (-2), 2) := by decide +kernel
theorem dX12_lost_21 : decode cX12_lost 21 = .ok (.ireturn, 1) := by decide +kernel
def rm_X12_lost : Room := { frames := 6, cells := 0, slots := 0, locals := 147 }
set_option maxRecDepth 100000 in
set_option maxHeartbeats 4000000 in
theorem c_X12_lost (l : Launch) (E : zE) (hV : zV E) (H0 : Heap) (hT0 : HT E H0) (h0 : Nat) (kh0 : eK E h0 = 13) (p0 : Int32) : Met l yX12_lost (zws yX12_lost cX12_lost 2 (some .int)) rm_X12_lost (zP E H0 [.ref h0, .int p0]) (zPI (fun r => True)) 0 0 (fun _ => False) := by
  refine zEnt (by decide) (Nat.le_of_ble_eq_true rfl) (fun p e s m args below meth c ls Q B hr hlk hh hQ hl => ?_)
  have hx := B.1
  have hb := B.2.1
  have hl : lv_has ls 2 [(0, .ref h0), (1, .int p0)] := hl
  refine lv_iload_n hx hb dX12_lost_0 rfl (lv_at hl 1 rfl) ?_
  refine zkPI (zrS (rest := []) B (c_X12_isKeeper l E hV H0 hT0 p0) cs_RX12_308 rfl hl.1 rfl (Nat.le_of_ble_eq_true rfl) dX12_lost_1 rfl rfl ⟨rfl, rfl⟩ ⟨Nat.zero_le _, Nat.zero_le _⟩ (zO.rf hh)) (fun x_1 hp_1 => ?_)
  obtain ⟨hp_1_1, hp_1_2, hp_1_3⟩ := hp_1
  refine lv_if_eq (tgt := 19) hx hb dX12_lost_4 (by decide) (fun c_2 => ?_) (fun c_2 => ?_)
  · have f_2 := z_eq c_2 rfl kl_0
    refine lv_bipush (v := (-2)) hx hb dX12_lost_19 (by decide) ?_
    have := kl_m2
    have := kl_m2
    exact rtPI (v := (-2)) B hr hlk hh hQ rfl trivial dX12_lost_21
  · have f_2 := z_ne c_2 rfl kl_0
    refine lv_aload_n hx hb dX12_lost_7 rfl (lv_at hl 0 rfl) ?_
    refine lv_aload_n hx hb dX12_lost_8 rfl (lv_at hl 0 rfl) ?_
    refine lv_iload_n hx hb dX12_lost_9 rfl (lv_at hl 1 rfl) ?_
    refine zkPI (zrV (rest := [.ref h0]) B (c_X12_boardOf l E hV H0 hT0 h0 kh0 p0 (by omega) (by omega)) cl_RX12_314 hT0 kh0 rfl rfl rfl rfl hl.1 rfl (Nat.le_of_ble_eq_true rfl) dX12_lost_10 rfl rfl ⟨rfl, rfl⟩ ⟨Nat.zero_le _, Nat.zero_le _⟩ (zO.rf hh)) (fun x_3 hp_3 => ?_)
    obtain ⟨hp_3_1, hp_3_2⟩ := hp_3
    refine zkPI (zrV (rest := []) B (c_X12_loserOf l E hV H0 hT0 h0 kh0 x_3 (by omega) (by omega)) cl_RX12_320 hT0 kh0 rfl rfl rfl rfl hl.1 rfl (Nat.le_of_ble_eq_true rfl) dX12_lost_13 rfl rfl ⟨rfl, rfl⟩ ⟨Nat.zero_le _, Nat.zero_le _⟩ (zO.rf hh)) (fun x_4 hp_4 => ?_)
    refine lv_goto (tgt := 21) hx hb dX12_lost_16 (by decide) ?_
    exact rtPI (v := x_4) B hr hlk hh hQ rfl trivial dX12_lost_21

theorem dX12_fault_0 : decode cX12_fault 0 = .ok (.iload_n 1, 1) := by decide +kernel
theorem dX12_fault_1 : decode cX12_fault 1 = .ok (.ifCond .ne 10, 3) := by decide +kernel
theorem dX12_fault_4 : decode cX12_fault 4 = .ok (.aload_n 0, 1) := by decide +kernel
theorem dX12_fault_5 : decode cX12_fault 5 = .ok (.getfield 134, 3) := by decide +kernel
theorem dX12_fault_8 : decode cX12_fault 8 = .ok (.goto 16, 3) := by decide +kernel
theorem dX12_fault_11 : decode cX12_fault 11 = .ok (.iload_n 1, 1) := by decide +kernel
theorem dX12_fault_12 : decode cX12_fault 12 = .ok (.iconst 1, 1) := by decide +kernel
theorem dX12_fault_13 : decode cX12_fault 13 = .ok (.if_icmp .ne 10, 3) := by decide +kernel
theorem dX12_fault_16 : decode cX12_fault 16 = .ok (.aload_n 0, 1) := by decide +kernel
theorem dX12_fault_17 : decode cX12_fault 17 = .ok (.getfield 20, 3) := by decide +kernel
theorem dX12_fault_20 : decode cX12_fault 20 = .ok (.goto 4, 3) := by decide +kernel
theorem dX12_fault_23 : decode cX12_fault 23 = .ok (.iconst (-1), 1) := by decide +kernel
theorem dX12_fault_24 : decode cX12_fault 24 = .ok (.ireturn, 1) := by decide +kernel
def rm_X12_fault : Room := { frames := 0, cells := 0, slots := 0, locals := 0 }
set_option maxRecDepth 100000 in
set_option maxHeartbeats 4000000 in
theorem c_X12_fault (l : Launch) (E : zE) (hV : zV E) (H0 : Heap) (hT0 : HT E H0) (h0 : Nat) (kh0 : eK E h0 = 13) (p0 : Int32) : Met l yX12_fault (zws yX12_fault cX12_fault 2 (some .int)) rm_X12_fault (zP E H0 [.ref h0, .int p0]) (zPI (fun r => True)) 0 0 (fun _ => False) := by
  refine zEnt (by decide) (Nat.le_of_ble_eq_true rfl) (fun p e s m args below meth c ls Q B hr hlk hh hQ hl => ?_)
  have hx := B.1
  have hb := B.2.1
  have hl : lv_has ls 2 [(0, .ref h0), (1, .int p0)] := hl
  refine lv_iload_n hx hb dX12_fault_0 rfl (lv_at hl 1 rfl) ?_
  refine lv_if_ne (tgt := 11) hx hb dX12_fault_1 (by decide) (fun c_1 => ?_) (fun c_1 => ?_)
  · have f_1 := z_ne c_1 rfl kl_0
    refine lv_iload_n hx hb dX12_fault_11 rfl (lv_at hl 1 rfl) ?_
    refine lv_iconst (v := 1) hx hb dX12_fault_12 (by decide) ?_
    refine lv_icmp_ne (tgt := 23) hx hb dX12_fault_13 (by decide) (fun c_2 => ?_) (fun c_2 => ?_)
    · have f_2 := z_ne c_2 rfl kl_1
      refine lv_iconst (v := (-1)) hx hb dX12_fault_23 (by decide) ?_
      have := kl_m1
      have := kl_m1
      exact rtPI (v := (-1)) B hr hlk hh hQ rfl trivial dX12_fault_24
    · have f_2 := z_eq c_2 rfl kl_1
      refine lv_aload_n hx hb dX12_fault_16 rfl (lv_at hl 0 rfl) ?_
      refine g_getI B fl_RX12_20 hT0 kh0 rfl rfl rfl rfl rfl dX12_fault_17 (fun x_3 s_3 a_3 b_3 => ?_)
      refine lv_goto (tgt := 24) hx hb dX12_fault_20 (by decide) ?_
      exact rtPI (v := x_3) B hr hlk hh hQ rfl trivial dX12_fault_24
  · have f_1 := z_eq c_1 rfl kl_0
    refine lv_aload_n hx hb dX12_fault_4 rfl (lv_at hl 0 rfl) ?_
    refine g_getI B fl_RX12_134 hT0 kh0 rfl rfl rfl rfl rfl dX12_fault_5 (fun x_4 s_4 a_4 b_4 => ?_)
    refine lv_goto (tgt := 24) hx hb dX12_fault_8 (by decide) ?_
    exact rtPI (v := x_4) B hr hlk hh hQ rfl trivial dX12_fault_24
