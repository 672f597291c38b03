theorem dX9_isDigit_0 : decode cX9_isDigit 0 = .ok (.iload_n 1, 1) := by decide +kernel
theorem dX9_isDigit_1 : decode cX9_isDigit 1 = .ok (.aload_n 0, 1) := by decide +kernel
theorem dX9_isDigit_2 : decode cX9_isDigit 2 = .ok (.getfield 23, 3) := by decide +kernel
theorem dX9_isDigit_5 : decode cX9_isDigit 5 = .ok (.if_icmp .ge 29, 3) := by decide +kernel
theorem dX9_isDigit_8 : decode cX9_isDigit 8 = .ok (.aload_n 0, 1) := by decide +kernel
theorem dX9_isDigit_9 : decode cX9_isDigit 9 = .ok (.getfield 26, 3) := by decide +kernel
theorem dX9_isDigit_12 : decode cX9_isDigit 12 = .ok (.iload_n 1, 1) := by decide +kernel
theorem dX9_isDigit_13 : decode cX9_isDigit 13 = .ok (.baload, 1) := by decide +kernel
theorem dX9_isDigit_14 : decode cX9_isDigit 14 = .ok (.bipush 48, 2) := by decide +kernel
theorem dX9_isDigit_16 : decode cX9_isDigit 16 = .ok (.if_icmp .lt 18, 3) := by decide +kernel
theorem dX9_isDigit_19 : decode cX9_isDigit 19 = .ok (.aload_n 0, 1) := by decide +kernel
theorem dX9_isDigit_20 : decode cX9_isDigit 20 = .ok (.getfield 26, 3) := by decide +kernel
theorem dX9_isDigit_23 : decode cX9_isDigit 23 = .ok (.iload_n 1, 1) := by decide +kernel
theorem dX9_isDigit_24 : decode cX9_isDigit 24 = .ok (.baload, 1) := by decide +kernel
theorem dX9_isDigit_25 : decode cX9_isDigit 25 = .ok (.bipush 57, 2) := by decide +kernel
theorem dX9_isDigit_27 : decode cX9_isDigit 27 = .ok (.if_icmp .gt 7, 3) := by decide +kernel
theorem dX9_isDigit_30 : decode cX9_isDigit 30 = .ok (.iconst 1, 1) := by decide +kernel
theorem dX9_isDigit_31 : decode cX9_isDigit 31 = .ok (.goto 4, 3) := by decide +kernel
theorem dX9_isDigit_34 : decode cX9_isDigit 34 = .ok (.iconst 0, 1) := by decide +kernel
theorem dX9_isDigit_35 : decode cX9_isDigit 35 = .ok (.ireturn, 1) := by decide +kernel
def rm_X9_isDigit : Room := { frames := 0, cells := 0, slots := 0, locals := 0 }
set_option maxRecDepth 100000 in
set_option maxHeartbeats 4000000 in
theorem c_X9_isDigit (l : Launch) (E : zE) (hV : zV E) (H0 : Heap) (hT0 : HT E H0) (h0 : Nat) (kh0 : eK E h0 = 10) (p0 : Int32) (p0_lo : 0 ≤ p0.toInt) (p0_hi : p0.toInt ≤ 4100) : Met l yX9_isDigit (zws yX9_isDigit cX9_isDigit 2 (some .boolean)) rm_X9_isDigit (zP E H0 [.ref h0, .int p0]) (zPI (fun r => 0 ≤ r.toInt ∧ r.toInt ≤ 1 ∧ (r.toInt = 0 ∨ p0.toInt ≤ 1599))) 0 0 (fun _ => False) := by
  refine zEnt (by decide) (Nat.le_of_ble_eq_true rfl) (fun p e s m args below meth c ls Q B hr hlk hh hQ hl => ?_)
  have hx := B.1
  have hb := B.2.1
  have hl : lv_has ls 2 [(0, .ref h0), (1, .int p0)] := hl
  refine lv_iload_n hx hb dX9_isDigit_0 rfl (lv_at hl 1 rfl) ?_
  refine lv_aload_n hx hb dX9_isDigit_1 rfl (lv_at hl 0 rfl) ?_
  refine g_getI B fl_RX9_23 hT0 kh0 rfl rfl rfl rfl rfl dX9_isDigit_2 (fun x_1 s_1 a_1 b_1 => ?_)
  refine lv_icmp_ge (tgt := 34) hx hb dX9_isDigit_5 (by decide) (fun c_2 => ?_) (fun c_2 => ?_)
  · have f_2 := z_le c_2 rfl rfl
    refine lv_iconst (v := 0) hx hb dX9_isDigit_34 (by decide) ?_
    have := kl_0
    have := kl_0
    exact rtPI (v := 0) B hr hlk hh hQ rfl ⟨by omega, by omega, by omega⟩ dX9_isDigit_35
  · have f_2 := z_nle c_2 rfl rfl
    refine lv_aload_n hx hb dX9_isDigit_8 rfl (lv_at hl 0 rfl) ?_
    refine g_getR B fl_RX9_26 hT0 kh0 rfl rfl rfl rfl rfl dX9_isDigit_9 (fun q_3 s_3 k_q_3 => ?_)
    refine lv_iload_n hx hb dX9_isDigit_12 rfl (lv_at hl 1 rfl) ?_
    refine g_baldI (i := p0) (N := 1600) B hT0 k_q_3 rfl rfl rfl rfl (by omega) (by omega) rfl dX9_isDigit_13 (fun x_4 s_4 a_4 b_4 => ?_)
    refine lv_bipush (v := 48) hx hb dX9_isDigit_14 (by decide) ?_
    refine lv_icmp_lt (tgt := 34) hx hb dX9_isDigit_16 (by decide) (fun c_5 => ?_) (fun c_5 => ?_)
    · have f_5 := z_lt c_5 rfl kl_48
      refine lv_iconst (v := 0) hx hb dX9_isDigit_34 (by decide) ?_
      have := kl_0
      have := kl_0
      exact rtPI (v := 0) B hr hlk hh hQ rfl ⟨by omega, by omega, by omega⟩ dX9_isDigit_35
    · have f_5 := z_nlt c_5 rfl kl_48
      refine lv_aload_n hx hb dX9_isDigit_19 rfl (lv_at hl 0 rfl) ?_
      refine g_get B fl_RX9_26 hT0 kh0 rfl rfl rfl dX9_isDigit_20 s_3 ?_
      refine lv_iload_n hx hb dX9_isDigit_23 rfl (lv_at hl 1 rfl) ?_
      refine g_bald (i := p0) (N := 1600) B hT0 k_q_3 rfl rfl rfl rfl (by omega) (by omega) s_4 dX9_isDigit_24 ?_
      refine lv_bipush (v := 57) hx hb dX9_isDigit_25 (by decide) ?_
      refine lv_icmp_gt (tgt := 34) hx hb dX9_isDigit_27 (by decide) (fun c_6 => ?_) (fun c_6 => ?_)
      · have f_6 := z_lt c_6 kl_57 rfl
        refine lv_iconst (v := 0) hx hb dX9_isDigit_34 (by decide) ?_
        have := kl_0
        have := kl_0
        exact rtPI (v := 0) B hr hlk hh hQ rfl ⟨by omega, by omega, by omega⟩ dX9_isDigit_35
      · have f_6 := z_nlt c_6 kl_57 rfl
        refine lv_iconst (v := 1) hx hb dX9_isDigit_30 (by decide) ?_
        refine lv_goto (tgt := 35) hx hb dX9_isDigit_31 (by decide) ?_
        have := kl_1
        have := kl_1
        exact rtPI (v := 1) B hr hlk hh hQ rfl ⟨by omega, by omega, by omega⟩ dX9_isDigit_35

theorem dX9_isLetter_0 : decode cX9_isLetter 0 = .ok (.iload_n 1, 1) := by decide +kernel
theorem dX9_isLetter_1 : decode cX9_isLetter 1 = .ok (.aload_n 0, 1) := by decide +kernel
theorem dX9_isLetter_2 : decode cX9_isLetter 2 = .ok (.getfield 23, 3) := by decide +kernel
theorem dX9_isLetter_5 : decode cX9_isLetter 5 = .ok (.if_icmp .ge 29, 3) := by decide +kernel
theorem dX9_isLetter_8 : decode cX9_isLetter 8 = .ok (.aload_n 0, 1) := by decide +kernel
theorem dX9_isLetter_9 : decode cX9_isLetter 9 = .ok (.getfield 26, 3) := by decide +kernel
theorem dX9_isLetter_12 : decode cX9_isLetter 12 = .ok (.iload_n 1, 1) := by decide +kernel
theorem dX9_isLetter_13 : decode cX9_isLetter 13 = .ok (.baload, 1) := by decide +kernel
theorem dX9_isLetter_14 : decode cX9_isLetter 14 = .ok (.bipush 97, 2) := by decide +kernel
theorem dX9_isLetter_16 : decode cX9_isLetter 16 = .ok (.if_icmp .lt 18, 3) := by decide +kernel
theorem dX9_isLetter_19 : decode cX9_isLetter 19 = .ok (.aload_n 0, 1) := by decide +kernel
theorem dX9_isLetter_20 : decode cX9_isLetter 20 = .ok (.getfield 26, 3) := by decide +kernel
theorem dX9_isLetter_23 : decode cX9_isLetter 23 = .ok (.iload_n 1, 1) := by decide +kernel
theorem dX9_isLetter_24 : decode cX9_isLetter 24 = .ok (.baload, 1) := by decide +kernel
theorem dX9_isLetter_25 : decode cX9_isLetter 25 = .ok (.bipush 122, 2) := by decide +kernel
theorem dX9_isLetter_27 : decode cX9_isLetter 27 = .ok (.if_icmp .gt 7, 3) := by decide +kernel
theorem dX9_isLetter_30 : decode cX9_isLetter 30 = .ok (.iconst 1, 1) := by decide +kernel
theorem dX9_isLetter_31 : decode cX9_isLetter 31 = .ok (.goto 4, 3) := by decide +kernel
theorem dX9_isLetter_34 : decode cX9_isLetter 34 = .ok (.iconst 0, 1) := by decide +kernel
theorem dX9_isLetter_35 : decode cX9_isLetter 35 = .ok (.ireturn, 1) := by decide +kernel
def rm_X9_isLetter : Room := { frames := 0, cells := 0, slots := 0, locals := 0 }
set_option maxRecDepth 100000 in
set_option maxHeartbeats 4000000 in
theorem c_X9_isLetter (l : Launch) (E : zE) (hV : zV E) (H0 : Heap) (hT0 : HT E H0) (h0 : Nat) (kh0 : eK E h0 = 10) (p0 : Int32) (p0_lo : 0 ≤ p0.toInt) (p0_hi : p0.toInt ≤ 4100) : Met l yX9_isLetter (zws yX9_isLetter cX9_isLetter 2 (some .boolean)) rm_X9_isLetter (zP E H0 [.ref h0, .int p0]) (zPI (fun r => 0 ≤ r.toInt ∧ r.toInt ≤ 1 ∧ (r.toInt = 0 ∨ p0.toInt ≤ 1599))) 0 0 (fun _ => False) := by
  refine zEnt (by decide) (Nat.le_of_ble_eq_true rfl) (fun p e s m args below meth c ls Q B hr hlk hh hQ hl => ?_)
  have hx := B.1
  have hb := B.2.1
  have hl : lv_has ls 2 [(0, .ref h0), (1, .int p0)] := hl
  refine lv_iload_n hx hb dX9_isLetter_0 rfl (lv_at hl 1 rfl) ?_
  refine lv_aload_n hx hb dX9_isLetter_1 rfl (lv_at hl 0 rfl) ?_
  refine g_getI B fl_RX9_23 hT0 kh0 rfl rfl rfl rfl rfl dX9_isLetter_2 (fun x_1 s_1 a_1 b_1 => ?_)
  refine lv_icmp_ge (tgt := 34) hx hb dX9_isLetter_5 (by decide) (fun c_2 => ?_) (fun c_2 => ?_)
  · have f_2 := z_le c_2 rfl rfl
    refine lv_iconst (v := 0) hx hb dX9_isLetter_34 (by decide) ?_
    have := kl_0
    have := kl_0
    exact rtPI (v := 0) B hr hlk hh hQ rfl ⟨by omega, by omega, by omega⟩ dX9_isLetter_35
  · have f_2 := z_nle c_2 rfl rfl
    refine lv_aload_n hx hb dX9_isLetter_8 rfl (lv_at hl 0 rfl) ?_
    refine g_getR B fl_RX9_26 hT0 kh0 rfl rfl rfl rfl rfl dX9_isLetter_9 (fun q_3 s_3 k_q_3 => ?_)
    refine lv_iload_n hx hb dX9_isLetter_12 rfl (lv_at hl 1 rfl) ?_
    refine g_baldI (i := p0) (N := 1600) B hT0 k_q_3 rfl rfl rfl rfl (by omega) (by omega) rfl dX9_isLetter_13 (fun x_4 s_4 a_4 b_4 => ?_)
    refine lv_bipush (v := 97) hx hb dX9_isLetter_14 (by decide) ?_
    refine lv_icmp_lt (tgt := 34) hx hb dX9_isLetter_16 (by decide) (fun c_5 => ?_) (fun c_5 => ?_)
    · have f_5 := z_lt c_5 rfl kl_97
      refine lv_iconst (v := 0) hx hb dX9_isLetter_34 (by decide) ?_
      have := kl_0
      have := kl_0
      exact rtPI (v := 0) B hr hlk hh hQ rfl ⟨by omega, by omega, by omega⟩ dX9_isLetter_35
    · have f_5 := z_nlt c_5 rfl kl_97
      refine lv_aload_n hx hb dX9_isLetter_19 rfl (lv_at hl 0 rfl) ?_
      refine g_get B fl_RX9_26 hT0 kh0 rfl rfl rfl dX9_isLetter_20 s_3 ?_
      refine lv_iload_n hx hb dX9_isLetter_23 rfl (lv_at hl 1 rfl) ?_
      refine g_bald (i := p0) (N := 1600) B hT0 k_q_3 rfl rfl rfl rfl (by omega) (by omega) s_4 dX9_isLetter_24 ?_
      refine lv_bipush (v := 122) hx hb dX9_isLetter_25 (by decide) ?_
      refine lv_icmp_gt (tgt := 34) hx hb dX9_isLetter_27 (by decide) (fun c_6 => ?_) (fun c_6 => ?_)
      · have f_6 := z_lt c_6 kl_122 rfl
        refine lv_iconst (v := 0) hx hb dX9_isLetter_34 (by decide) ?_
        have := kl_0
        have := kl_0
        exact rtPI (v := 0) B hr hlk hh hQ rfl ⟨by omega, by omega, by omega⟩ dX9_isLetter_35
      · have f_6 := z_nlt c_6 kl_122 rfl
        refine lv_iconst (v := 1) hx hb dX9_isLetter_30 (by decide) ?_
        refine lv_goto (tgt := 35) hx hb dX9_isLetter_31 (by decide) ?_
        have := kl_1
        have := kl_1
        exact rtPI (v := 1) B hr hlk hh hQ rfl ⟨by omega, by omega, by omega⟩ dX9_isLetter_35

theorem dX9_endOfBlanks_0 : decode cX9_endOfBlanks 0 = .ok (.iload_n 1, 1) := by decide +kernel
theorem dX9_endOfBlanks_1 : decode cX9_endOfBlanks 1 = .ok (.istore_n 2, 1) := by decide +kernel
theorem dX9_endOfBlanks_2 : decode cX9_endOfBlanks 2 = .ok (.iload_n 2, 1) := by decide +kernel
theorem dX9_endOfBlanks_3 : decode cX9_endOfBlanks 3 = .ok (.aload_n 0, 1) := by decide +kernel
theorem dX9_endOfBlanks_4 : decode cX9_endOfBlanks 4 = .ok (.getfield 23, 3) := by decide +kernel
theorem dX9_endOfBlanks_7 : decode cX9_endOfBlanks 7 = .ok (.if_icmp .ge 31, 3) := by decide +kernel
theorem dX9_endOfBlanks_10 : decode cX9_endOfBlanks 10 = .ok (.aload_n 0, 1) := by decide +kernel
theorem dX9_endOfBlanks_11 : decode cX9_endOfBlanks 11 = .ok (.getfield 26, 3) := by decide +kernel
theorem dX9_endOfBlanks_14 : decode cX9_endOfBlanks 14 = .ok (.iload_n 2, 1) := by decide +kernel
theorem dX9_endOfBlanks_15 : decode cX9_endOfBlanks 15 = .ok (.baload, 1) := by decide +kernel
theorem dX9_endOfBlanks_16 : decode cX9_endOfBlanks 16 = .ok (.bipush 32, 2) := by decide +kernel
theorem dX9_endOfBlanks_18 : decode cX9_endOfBlanks 18 = .ok (.if_icmp .eq 14, 3) := by decide +kernel
theorem dX9_endOfBlanks_21 : decode cX9_endOfBlanks 21 = .ok (.aload_n 0, 1) := by decide +kernel
theorem dX9_endOfBlanks_22 : decode cX9_endOfBlanks 22 = .ok (.getfield 26, 3) := by decide +kernel
theorem dX9_endOfBlanks_25 : decode cX9_endOfBlanks 25 = .ok (.iload_n 2, 1) := by decide +kernel
theorem dX9_endOfBlanks_26 : decode cX9_endOfBlanks 26 = .ok (.baload, 1) := by decide +kernel
theorem dX9_endOfBlanks_27 : decode cX9_endOfBlanks 27 = .ok (.bipush 10, 2) := by decide +kernel
theorem dX9_endOfBlanks_29 : decode cX9_endOfBlanks 29 = .ok (.if_icmp .ne 9, 3) := by decide +kernel
theorem dX9_endOfBlanks_32 : decode cX9_endOfBlanks 32 = .ok (.iinc 2 1, 3) := by decide +kernel
theorem dX9_endOfBlanks_35 : decode cX9_endOfBlanks 35 = .ok (.goto (-33), 3) := by decide +kernel
theorem dX9_endOfBlanks_38 : decode cX9_endOfBlanks 38 = .ok (.iload_n 2, 1) := by decide +kernel
theorem dX9_endOfBlanks_39 : decode cX9_endOfBlanks 39 = .ok (.ireturn, 1) := by decide +kernel
def rm_X9_endOfBlanks : Room := { frames := 0, cells := 0, slots := 0, locals := 0 }
set_option maxRecDepth 100000 in
set_option maxHeartbeats 4000000 in
theorem c_X9_endOfBlanks (l : Launch) (E : zE) (hV : zV E) (H0 : Heap) (hT0 : HT E H0) (h0 : Nat) (kh0 : eK E h0 = 10) (p0 : Int32) (p0_lo : 0 ≤ p0.toInt) (p0_hi : p0.toInt ≤ 3201) : Met l yX9_endOfBlanks (zws yX9_endOfBlanks cX9_endOfBlanks 3 (some .int)) rm_X9_endOfBlanks (zP E H0 [.ref h0, .int p0]) (zPI (fun r => 0 ≤ r.toInt ∧ r.toInt ≤ 3201 ∧ (r.toInt ≤ p0.toInt ∨ r.toInt ≤ 1600))) 0 0 (fun _ => False) := by
  refine zEnt (by decide) (Nat.le_of_ble_eq_true rfl) (fun p e s m args below meth c ls Q B hr hlk hh hQ hl => ?_)
  have hx := B.1
  have hb := B.2.1
  have hl : lv_has ls 3 [(0, .ref h0), (1, .int p0)] := hl
  have b2 : ∀ (n2 : Nat) (ls : Array Slot) (v2_2 : Int32), 3201 - v2_2.toInt < (n2 : Int) → lv_has ls 3 [(0, .ref h0), (2, .int v2_2)] → 0 ≤ v2_2.toInt → v2_2.toInt ≤ 3201 → v2_2.toInt ≤ p0.toInt ∨ v2_2.toInt ≤ 1600 → W p l e rm_X9_endOfBlanks s m args below meth c H0 [] 0 0 Q (F0 m 2 ls []) := by
    intro n2
    induction n2 with
    | zero =>
      intro ls v2_2 hm2 hl f2_1 f2_2 f2_3
      exact absurd hm2 (by omega)
    | succ n2 ih2 =>
      intro ls v2_2 hm2 hl f2_1 f2_2 f2_3
      have b32 : ∀ (ls : Array Slot) (u32_h0_4 : Int32) (u32_h0_3 : Nat), lv_has ls 3 [(0, .ref h0), (2, .int v2_2)] → eK E u32_h0_3 = 50 → v2_2.toInt ≤ 1599 → 1 ≤ u32_h0_4.toInt → u32_h0_4.toInt ≤ 1600 → sl H0 h0 (zix E 10 4) = some (.int u32_h0_4) → sl H0 h0 (zix E 10 3) = some (.ref u32_h0_3) → W p l e rm_X9_endOfBlanks s m args below meth c H0 [] 0 0 Q (F0 m 32 ls []) := by
        intro ls u32_h0_4 u32_h0_3 hl k_u32_h0_3 f32_1 f32_2 f32_3 s32_u32_h0_4 s32_u32_h0_3
        obtain ⟨x_1, e_1⟩ : ∃ y : Int32, (v2_2 : Int32) + Int32.ofInt 1 = y := ⟨_, rfl⟩
        refine lv_iinc (v := x_1) (lv' := [(2, .int x_1), (0, .ref h0)]) hx hb dX9_endOfBlanks_32 hl (k := 1) rfl e_1 (by decide) rfl (fun ls hl => ?_)
        have t_1 := z_inc2 e_1 rfl (by decide) (by omega) (by omega)
        refine lv_goto (tgt := 2) hx hb dX9_endOfBlanks_35 (by decide) ?_
        exact ih2 ls x_1 (by omega) (lv_sub hl [1, 0] rfl) (by omega) (by omega) (by omega)
      refine lv_iload_n hx hb dX9_endOfBlanks_2 rfl (lv_at hl 1 rfl) ?_
      refine lv_aload_n hx hb dX9_endOfBlanks_3 rfl (lv_at hl 0 rfl) ?_
      refine g_getI B fl_RX9_23 hT0 kh0 rfl rfl rfl rfl rfl dX9_endOfBlanks_4 (fun x_2 s_2 a_2 b_2 => ?_)
      refine lv_icmp_ge (tgt := 38) hx hb dX9_endOfBlanks_7 (by decide) (fun c_3 => ?_) (fun c_3 => ?_)
      · have f_3 := z_le c_3 rfl rfl
        refine lv_iload_n hx hb dX9_endOfBlanks_38 rfl (lv_at hl 1 rfl) ?_
        exact rtPI (v := v2_2) B hr hlk hh hQ rfl ⟨by omega, by omega, by omega⟩ dX9_endOfBlanks_39
      · have f_3 := z_nle c_3 rfl rfl
        refine lv_aload_n hx hb dX9_endOfBlanks_10 rfl (lv_at hl 0 rfl) ?_
        refine g_getR B fl_RX9_26 hT0 kh0 rfl rfl rfl rfl rfl dX9_endOfBlanks_11 (fun q_4 s_4 k_q_4 => ?_)
        refine lv_iload_n hx hb dX9_endOfBlanks_14 rfl (lv_at hl 1 rfl) ?_
        refine g_baldI (i := v2_2) (N := 1600) B hT0 k_q_4 rfl rfl rfl rfl (by omega) (by omega) rfl dX9_endOfBlanks_15 (fun x_5 s_5 a_5 b_5 => ?_)
        refine lv_bipush (v := 32) hx hb dX9_endOfBlanks_16 (by decide) ?_
        refine lv_icmp_eq (tgt := 32) hx hb dX9_endOfBlanks_18 (by decide) (fun c_6 => ?_) (fun c_6 => ?_)
        · have f_6 := z_eq c_6 rfl kl_32
          exact b32 ls x_2 q_4 (lv_sub hl [0, 1] rfl) k_q_4 (by omega) (by omega) (by omega) s_2 s_4
        · have f_6 := z_ne c_6 rfl kl_32
          refine lv_aload_n hx hb dX9_endOfBlanks_21 rfl (lv_at hl 0 rfl) ?_
          refine g_get B fl_RX9_26 hT0 kh0 rfl rfl rfl dX9_endOfBlanks_22 s_4 ?_
          refine lv_iload_n hx hb dX9_endOfBlanks_25 rfl (lv_at hl 1 rfl) ?_
          refine g_bald (i := v2_2) (N := 1600) B hT0 k_q_4 rfl rfl rfl rfl (by omega) (by omega) s_5 dX9_endOfBlanks_26 ?_
          refine lv_bipush (v := 10) hx hb dX9_endOfBlanks_27 (by decide) ?_
          refine lv_icmp_ne (tgt := 38) hx hb dX9_endOfBlanks_29 (by decide) (fun c_7 => ?_) (fun c_7 => ?_)
          · have f_7 := z_ne c_7 rfl kl_10
            refine lv_iload_n hx hb dX9_endOfBlanks_38 rfl (lv_at hl 1 rfl) ?_
            exact rtPI (v := v2_2) B hr hlk hh hQ rfl ⟨by omega, by omega, by omega⟩ dX9_endOfBlanks_39
          · have f_7 := z_eq c_7 rfl kl_10
            exact b32 ls x_2 q_4 (lv_sub hl [0, 1] rfl) k_q_4 (by omega) (by omega) (by omega) s_2 s_4
  refine lv_iload_n hx hb dX9_endOfBlanks_0 rfl (lv_at hl 1 rfl) ?_
  refine lv_istore_n (lv' := [(2, .int p0), (0, .ref h0), (1, .int p0)]) hx hb dX9_endOfBlanks_1 rfl hl (by decide) rfl (fun ls hl => ?_)
  exact b2 3202 ls p0 (by omega) (lv_sub hl [1, 0] rfl) (by omega) (by omega) (by omega)

theorem dX9_endOfToken_0 : decode cX9_endOfToken 0 = .ok (.iload_n 1, 1) := by decide +kernel
theorem dX9_endOfToken_1 : decode cX9_endOfToken 1 = .ok (.istore_n 2, 1) := by decide +kernel
theorem dX9_endOfToken_2 : decode cX9_endOfToken 2 = .ok (.aload_n 0, 1) := by decide +kernel
theorem dX9_endOfToken_3 : decode cX9_endOfToken 3 = .ok (.iload_n 1, 1) := by decide +kernel
theorem dX9_endOfToken_4 : decode cX9_endOfToken 4 = .ok (.invokevirtual 45, 3) := by decide +kernel
theorem dX9_endOfToken_7 : decode cX9_endOfToken 7 = .ok (.ifCond .eq 27, 3) := by decide +kernel
theorem dX9_endOfToken_10 : decode cX9_endOfToken 10 = .ok (.iload_n 2, 1) := by decide +kernel
theorem dX9_endOfToken_11 : decode cX9_endOfToken 11 = .ok (.aload_n 0, 1) := by decide +kernel
theorem dX9_endOfToken_12 : decode cX9_endOfToken 12 = .ok (.getfield 23, 3) := by decide +kernel
theorem dX9_endOfToken_15 : decode cX9_endOfToken 15 = .ok (.if_icmp .ge 17, 3) := by decide +kernel
theorem dX9_endOfToken_18 : decode cX9_endOfToken 18 = .ok (.aload_n 0, 1) := by decide +kernel
theorem dX9_endOfToken_19 : decode cX9_endOfToken 19 = .ok (.iload_n 2, 1) := by decide +kernel
theorem dX9_endOfToken_20 : decode cX9_endOfToken 20 = .ok (.invokevirtual 45, 3) := by decide +kernel
theorem dX9_endOfToken_23 : decode cX9_endOfToken 23 = .ok (.ifCond .eq 9, 3) := by decide +kernel
theorem dX9_endOfToken_26 : decode cX9_endOfToken 26 = .ok (.iinc 2 1, 3) := by decide +kernel
theorem dX9_endOfToken_29 : decode cX9_endOfToken 29 = .ok (.goto (-19), 3) := by decide +kernel
theorem dX9_endOfToken_32 : decode cX9_endOfToken 32 = .ok (.iload_n 2, 1) := by decide +kernel
theorem dX9_endOfToken_33 : decode cX9_endOfToken 33 = .ok (.ireturn, 1) := by decide +kernel
theorem dX9_endOfToken_34 : decode cX9_endOfToken 34 = .ok (.iload_n 2, 1) := by decide +kernel
theorem dX9_endOfToken_35 : decode cX9_endOfToken 35 = .ok (.aload_n 0, 1) := by decide +kernel
theorem dX9_endOfToken_36 : decode cX9_endOfToken 36 = .ok (.getfield 23, 3) := by decide +kernel
theorem dX9_endOfToken_39 : decode cX9_endOfToken 39 = .ok (.if_icmp .ge 17, 3) := by decide +kernel
theorem dX9_endOfToken_42 : decode cX9_endOfToken 42 = .ok (.aload_n 0, 1) := by decide +kernel
theorem dX9_endOfToken_43 : decode cX9_endOfToken 43 = .ok (.iload_n 2, 1) := by decide +kernel
theorem dX9_endOfToken_44 : decode cX9_endOfToken 44 = .ok (.invokevirtual 49, 3) := by decide +kernel
theorem dX9_endOfToken_47 : decode cX9_endOfToken 47 = .ok (.ifCond .eq 9, 3) := by decide +kernel
theorem dX9_endOfToken_50 : decode cX9_endOfToken 50 = .ok (.iinc 2 1, 3) := by decide +kernel
theorem dX9_endOfToken_53 : decode cX9_endOfToken 53 = .ok (.goto (-19), 3) := by decide +kernel
theorem dX9_endOfToken_56 : decode cX9_endOfToken 56 = .ok (.iload_n 2, 1) := by decide +kernel
theorem dX9_endOfToken_57 : decode cX9_endOfToken 57 = .ok (.iload_n 1, 1) := by decide +kernel
theorem dX9_endOfToken_58 : decode cX9_endOfToken 58 = .ok (.if_icmp .le 7, 3) := by decide +kernel
theorem dX9_endOfToken_61 : decode cX9_endOfToken 61 = .ok (.iload_n 2, 1) := by decide +kernel
theorem dX9_endOfToken_62 : decode cX9_endOfToken 62 = .ok (.goto 6, 3) := by decide +kernel
theorem dX9_endOfToken_65 : decode cX9_endOfToken 65 = .ok (.iload_n 1, 1) := by decide +kernel
theorem dX9_endOfToken_66 : decode cX9_endOfToken 66 = .ok (.iconst 1, 1) := by decide +kernel
theorem dX9_endOfToken_67 : decode cX9_endOfToken 67 = .ok (.iadd, 1) := by decide +kernel
theorem dX9_endOfToken_68 : decode cX9_endOfToken 68 = .ok (.ireturn, 1) := by decide +kernel
def rm_X9_endOfToken : Room := { frames := 1, cells := 0, slots := 0, locals := 21 }
set_option maxRecDepth 100000 in
set_option maxHeartbeats 4000000 in
theorem c_X9_endOfToken (l : Launch) (E : zE) (hV : zV E) (H0 : Heap) (hT0 : HT E H0) (h0 : Nat) (kh0 : eK E h0 = 10) (p0 : Int32) (p0_lo : 0 ≤ p0.toInt) (p0_hi : p0.toInt ≤ 3201) : Met l yX9_endOfToken (zws yX9_endOfToken cX9_endOfToken 3 (some .int)) rm_X9_endOfToken (zP E H0 [.ref h0, .int p0]) (zPI (fun r => 0 ≤ r.toInt ∧ r.toInt ≤ 3202 ∧ (r.toInt ≤ p0.toInt + 1 ∨ r.toInt ≤ 1600))) 0 0 (fun _ => False) := by
  refine zEnt (by decide) (Nat.le_of_ble_eq_true rfl) (fun p e s m args below meth c ls Q B hr hlk hh hQ hl => ?_)
  have hx := B.1
  have hb := B.2.1
  have hl : lv_has ls 3 [(0, .ref h0), (1, .int p0)] := hl
  have b56 : ∀ (ls : Array Slot) (v56_2 : Int32), lv_has ls 3 [(1, .int p0), (2, .int v56_2)] → 0 ≤ v56_2.toInt → v56_2.toInt ≤ 3201 → v56_2.toInt ≤ p0.toInt ∨ v56_2.toInt ≤ 1600 → W p l e rm_X9_endOfToken s m args below meth c H0 [] 0 0 Q (F0 m 56 ls []) := by
    intro ls v56_2 hl f56_1 f56_2 f56_3
    refine lv_iload_n hx hb dX9_endOfToken_56 rfl (lv_at hl 1 rfl) ?_
    refine lv_iload_n hx hb dX9_endOfToken_57 rfl (lv_at hl 0 rfl) ?_
    refine lv_icmp_le (tgt := 65) hx hb dX9_endOfToken_58 (by decide) (fun c_1 => ?_) (fun c_1 => ?_)
    · have f_1 := z_le c_1 rfl rfl
      refine lv_iload_n hx hb dX9_endOfToken_65 rfl (lv_at hl 0 rfl) ?_
      refine lv_iconst (v := 1) hx hb dX9_endOfToken_66 (by decide) ?_
      refine lv_iadd hx hb dX9_endOfToken_67 ?_
      refine lv_topi (fun x_2 e_2 => ?_)
      have t_2 := z_add e_2 rfl kl_1 (by omega) (by omega)
      exact rtPI (v := x_2) B hr hlk hh hQ rfl ⟨by omega, by omega, by omega⟩ dX9_endOfToken_68
    · have f_1 := z_nle c_1 rfl rfl
      refine lv_iload_n hx hb dX9_endOfToken_61 rfl (lv_at hl 1 rfl) ?_
      refine lv_goto (tgt := 68) hx hb dX9_endOfToken_62 (by decide) ?_
      exact rtPI (v := v56_2) B hr hlk hh hQ rfl ⟨by omega, by omega, by omega⟩ dX9_endOfToken_68
  have b34 : ∀ (n34 : Nat) (ls : Array Slot) (v34_2 : Int32), 3201 - v34_2.toInt < (n34 : Int) → lv_has ls 3 [(0, .ref h0), (1, .int p0), (2, .int v34_2)] → 0 ≤ v34_2.toInt → v34_2.toInt ≤ 3201 → v34_2.toInt ≤ p0.toInt ∨ v34_2.toInt ≤ 1600 → W p l e rm_X9_endOfToken s m args below meth c H0 [] 0 0 Q (F0 m 34 ls []) := by
    intro n34
    induction n34 with
    | zero =>
      intro ls v34_2 hm34 hl f34_1 f34_2 f34_3
      exact absurd hm34 (by omega)
    | succ n34 ih34 =>
      intro ls v34_2 hm34 hl f34_1 f34_2 f34_3
      refine lv_iload_n hx hb dX9_endOfToken_34 rfl (lv_at hl 2 rfl) ?_
      refine lv_aload_n hx hb dX9_endOfToken_35 rfl (lv_at hl 0 rfl) ?_
      refine g_getI B fl_RX9_23 hT0 kh0 rfl rfl rfl rfl rfl dX9_endOfToken_36 (fun x_3 s_3 a_3 b_3 => ?_)
      refine lv_icmp_ge (tgt := 56) hx hb dX9_endOfToken_39 (by decide) (fun c_4 => ?_) (fun c_4 => ?_)
      · have f_4 := z_le c_4 rfl rfl
        exact b56 ls v34_2 (lv_sub hl [1, 2] rfl) (by omega) (by omega) (by omega)
      · have f_4 := z_nle c_4 rfl rfl
        refine lv_aload_n hx hb dX9_endOfToken_42 rfl (lv_at hl 0 rfl) ?_
        refine lv_iload_n hx hb dX9_endOfToken_43 rfl (lv_at hl 2 rfl) ?_
        refine zkPI (zrV (rest := []) B (c_X9_isLetter l E hV H0 hT0 h0 kh0 v34_2 (by omega) (by omega)) cl_RX9_49 hT0 kh0 rfl rfl rfl rfl hl.1 rfl (Nat.le_of_ble_eq_true rfl) dX9_endOfToken_44 rfl rfl ⟨rfl, rfl⟩ ⟨Nat.zero_le _, Nat.zero_le _⟩ (zO.rf hh)) (fun x_5 hp_5 => ?_)
        obtain ⟨hp_5_1, hp_5_2, hp_5_3⟩ := hp_5
        refine lv_if_eq (tgt := 56) hx hb dX9_endOfToken_47 (by decide) (fun c_6 => ?_) (fun c_6 => ?_)
        · have f_6 := z_eq c_6 rfl kl_0
          exact b56 ls v34_2 (lv_sub hl [1, 2] rfl) (by omega) (by omega) (by omega)
        · have f_6 := z_ne c_6 rfl kl_0
          obtain ⟨x_7, e_7⟩ : ∃ y : Int32, (v34_2 : Int32) + Int32.ofInt 1 = y := ⟨_, rfl⟩
          refine lv_iinc (v := x_7) (lv' := [(2, .int x_7), (0, .ref h0), (1, .int p0)]) hx hb dX9_endOfToken_50 hl (k := 2) rfl e_7 (by decide) rfl (fun ls hl => ?_)
          have t_7 := z_inc2 e_7 rfl (by decide) (by omega) (by omega)
          refine lv_goto (tgt := 34) hx hb dX9_endOfToken_53 (by decide) ?_
          exact ih34 ls x_7 (by omega) (lv_sub hl [1, 2, 0] rfl) (by omega) (by omega) (by omega)
  have b10 : ∀ (n10 : Nat) (ls : Array Slot) (v10_2 : Int32), 1600 - v10_2.toInt < (n10 : Int) → lv_has ls 3 [(0, .ref h0), (2, .int v10_2)] → 0 ≤ v10_2.toInt → v10_2.toInt ≤ 1600 → v10_2.toInt ≤ p0.toInt ∨ v10_2.toInt ≤ 1600 → W p l e rm_X9_endOfToken s m args below meth c H0 [] 0 0 Q (F0 m 10 ls []) := by
    intro n10
    induction n10 with
    | zero =>
      intro ls v10_2 hm10 hl f10_1 f10_2 f10_3
      exact absurd hm10 (by omega)
    | succ n10 ih10 =>
      intro ls v10_2 hm10 hl f10_1 f10_2 f10_3
      refine lv_iload_n hx hb dX9_endOfToken_10 rfl (lv_at hl 1 rfl) ?_
      refine lv_aload_n hx hb dX9_endOfToken_11 rfl (lv_at hl 0 rfl) ?_
      refine g_getI B fl_RX9_23 hT0 kh0 rfl rfl rfl rfl rfl dX9_endOfToken_12 (fun x_8 s_8 a_8 b_8 => ?_)
      refine lv_icmp_ge (tgt := 32) hx hb dX9_endOfToken_15 (by decide) (fun c_9 => ?_) (fun c_9 => ?_)
      · have f_9 := z_le c_9 rfl rfl
        refine lv_iload_n hx hb dX9_endOfToken_32 rfl (lv_at hl 1 rfl) ?_
        exact rtPI (v := v10_2) B hr hlk hh hQ rfl ⟨by omega, by omega, by omega⟩ dX9_endOfToken_33
      · have f_9 := z_nle c_9 rfl rfl
        refine lv_aload_n hx hb dX9_endOfToken_18 rfl (lv_at hl 0 rfl) ?_
        refine lv_iload_n hx hb dX9_endOfToken_19 rfl (lv_at hl 1 rfl) ?_
        refine zkPI (zrV (rest := []) B (c_X9_isDigit l E hV H0 hT0 h0 kh0 v10_2 (by omega) (by omega)) cl_RX9_45 hT0 kh0 rfl rfl rfl rfl hl.1 rfl (Nat.le_of_ble_eq_true rfl) dX9_endOfToken_20 rfl rfl ⟨rfl, rfl⟩ ⟨Nat.zero_le _, Nat.zero_le _⟩ (zO.rf hh)) (fun x_10 hp_10 => ?_)
        obtain ⟨hp_10_1, hp_10_2, hp_10_3⟩ := hp_10
        refine lv_if_eq (tgt := 32) hx hb dX9_endOfToken_23 (by decide) (fun c_11 => ?_) (fun c_11 => ?_)
        · have f_11 := z_eq c_11 rfl kl_0
          refine lv_iload_n hx hb dX9_endOfToken_32 rfl (lv_at hl 1 rfl) ?_
          exact rtPI (v := v10_2) B hr hlk hh hQ rfl ⟨by omega, by omega, by omega⟩ dX9_endOfToken_33
        · have f_11 := z_ne c_11 rfl kl_0
          obtain ⟨x_12, e_12⟩ : ∃ y : Int32, (v10_2 : Int32) + Int32.ofInt 1 = y := ⟨_, rfl⟩
          refine lv_iinc (v := x_12) (lv' := [(2, .int x_12), (0, .ref h0)]) hx hb dX9_endOfToken_26 hl (k := 1) rfl e_12 (by decide) rfl (fun ls hl => ?_)
          have t_12 := z_inc2 e_12 rfl (by decide) (by omega) (by omega)
          refine lv_goto (tgt := 10) hx hb dX9_endOfToken_29 (by decide) ?_
          exact ih10 ls x_12 (by omega) (lv_sub hl [1, 0] rfl) (by omega) (by omega) (by omega)
  refine lv_iload_n hx hb dX9_endOfToken_0 rfl (lv_at hl 1 rfl) ?_
  refine lv_istore_n (lv' := [(2, .int p0), (0, .ref h0), (1, .int p0)]) hx hb dX9_endOfToken_1 rfl hl (by decide) rfl (fun ls hl => ?_)
  refine lv_aload_n hx hb dX9_endOfToken_2 rfl (lv_at hl 1 rfl) ?_
  refine lv_iload_n hx hb dX9_endOfToken_3 rfl (lv_at hl 2 rfl) ?_
  refine zkPI (zrV (rest := []) B (c_X9_isDigit l E hV H0 hT0 h0 kh0 p0 (by omega) (by omega)) cl_RX9_45 hT0 kh0 rfl rfl rfl rfl hl.1 rfl (Nat.le_of_ble_eq_true rfl) dX9_endOfToken_4 rfl rfl ⟨rfl, rfl⟩ ⟨Nat.zero_le _, Nat.zero_le _⟩ (zO.rf hh)) (fun x_13 hp_13 => ?_)
  obtain ⟨hp_13_1, hp_13_2, hp_13_3⟩ := hp_13
  refine lv_if_eq (tgt := 34) hx hb dX9_endOfToken_7 (by decide) (fun c_14 => ?_) (fun c_14 => ?_)
  · have f_14 := z_eq c_14 rfl kl_0
    exact b34 3202 ls p0 (by omega) (lv_sub hl [1, 2, 0] rfl) (by omega) (by omega) (by omega)
  · have f_14 := z_ne c_14 rfl kl_0
    exact b10 1601 ls p0 (by omega) (lv_sub hl [1, 0] rfl) (by omega) (by omega) (by omega)

theorem dX9_isWord_0 : decode cX9_isWord 0 = .ok (.iconst 0, 1) := by decide +kernel
theorem dX9_isWord_1 : decode cX9_isWord 1 = .ok (.istore_n 3, 1) := by decide +kernel
theorem dX9_isWord_2 : decode cX9_isWord 2 = .ok (.iload_n 3, 1) := by decide +kernel
theorem dX9_isWord_3 : decode cX9_isWord 3 = .ok (.aload_n 2, 1) := by decide +kernel
theorem dX9_isWord_4 : decode cX9_isWord 4 = .ok (.invokevirtual 87, 3) := by decide +kernel
theorem dX9_isWord_7 : decode cX9_isWord 7 = .ok (.if_icmp .ge 37, 3) := by decide +kernel
theorem dX9_isWord_10 : decode cX9_isWord 10 = .ok (.iload_n 1, 1) := by decide +kernel
theorem dX9_isWord_11 : decode cX9_isWord 11 = .ok (.iload_n 3, 1) := by decide +kernel
theorem dX9_isWord_12 : decode cX9_isWord 12 = .ok (.iadd, 1) := by decide +kernel
theorem dX9_isWord_13 : decode cX9_isWord 13 = .ok (.aload_n 0, 1) := by decide +kernel
theorem dX9_isWord_14 : decode cX9_isWord 14 = .ok (.getfield 23, 3) := by decide +kernel
theorem dX9_isWord_17 : decode cX9_isWord 17 = .ok (.if_icmp .ge 19, 3) := by decide +kernel
theorem dX9_isWord_20 : decode cX9_isWord 20 = .ok (.aload_n 0, 1) := by decide +kernel
theorem dX9_isWord_21 : decode cX9_isWord 21 = .ok (.getfield 26, 3) := by decide +kernel
theorem dX9_isWord_24 : decode cX9_isWord 24 = .ok (.iload_n 1, 1) := by decide +kernel
theorem dX9_isWord_25 : decode cX9_isWord 25 = .ok (.iload_n 3, 1) := by decide +kernel
theorem dX9_isWord_26 : decode cX9_isWord 26 = .ok (.iadd, 1) := by decide +kernel
theorem dX9_isWord_27 : decode cX9_isWord 27 = .ok (.baload, 1) := by decide +kernel
theorem dX9_isWord_28 : decode cX9_isWord 28 = .ok (.aload_n 2, 1) := by decide +kernel
theorem dX9_isWord_29 : decode cX9_isWord 29 = .ok (.iload_n 3, 1) := by decide +kernel
theorem dX9_isWord_30 : decode cX9_isWord 30 = .ok (.invokevirtual 93, 3) := by decide +kernel
theorem dX9_isWord_33 : decode cX9_isWord 33 = .ok (.if_icmp .eq 5, 3) := by decide +kernel
theorem dX9_isWord_36 : decode cX9_isWord 36 = .ok (.iconst 0, 1) := by decide +kernel
theorem dX9_isWord_37 : decode cX9_isWord 37 = .ok (.ireturn, 1) := by decide +kernel
theorem dX9_isWord_38 : decode cX9_isWord 38 = .ok (.iinc 3 1, 3) := by decide +kernel
theorem dX9_isWord_41 : decode cX9_isWord 41 = .ok (.goto (-39), 3) := by decide +kernel
theorem dX9_isWord_44 : decode cX9_isWord 44 = .ok (.iconst 1, 1) := by decide +kernel
theorem dX9_isWord_45 : decode cX9_isWord 45 = .ok (.ireturn, 1) := by decide +kernel
def rm_X9_isWord : Room := { frames := 4, cells := 0, slots := 0, locals := 85 }
set_option maxRecDepth 100000 in
set_option maxHeartbeats 4000000 in
theorem c_X9_isWord (l : Launch) (E : zE) (hV : zV E) (H0 : Heap) (hT0 : HT E H0) (h0 : Nat) (kh0 : eK E h0 = 10) (p0 : Int32) (p0_lo : 0 ≤ p0.toInt) (p0_hi : p0.toInt ≤ 3201) (p1 : Nat) (kp1 : p1 < 11) : Met l yX9_isWord (zws yX9_isWord cX9_isWord 4 (some .boolean)) rm_X9_isWord (zP E H0 [.ref h0, .int p0, .ref (eS E p1)]) (zPI (fun r => 0 ≤ r.toInt ∧ r.toInt ≤ 1)) 0 0 (fun _ => False) := by
  refine zEnt (by decide) (Nat.le_of_ble_eq_true rfl) (fun p e s m args below meth c ls Q B hr hlk hh hQ hl => ?_)
  have hx := B.1
  have hb := B.2.1
  have hl : lv_has ls 4 [(0, .ref h0), (1, .int p0), (2, .ref (eS E p1))] := hl
  have b2 : ∀ (n2 : Nat) (ls : Array Slot) (v2_3 : Int32), 7 - v2_3.toInt < (n2 : Int) → lv_has ls 4 [(0, .ref h0), (1, .int p0), (2, .ref (eS E p1)), (3, .int v2_3)] → 0 ≤ v2_3.toInt → v2_3.toInt ≤ 7 → W p l e rm_X9_isWord s m args below meth c H0 [] 0 0 Q (F0 m 2 ls []) := by
    intro n2
    induction n2 with
    | zero =>
      intro ls v2_3 hm2 hl f2_1 f2_2
      exact absurd hm2 (by omega)
    | succ n2 ih2 =>
      intro ls v2_3 hm2 hl f2_1 f2_2
      refine lv_iload_n hx hb dX9_isWord_2 rfl (lv_at hl 3 rfl) ?_
      refine lv_aload_n hx hb dX9_isWord_3 rfl (lv_at hl 2 rfl) ?_
      refine zkPI (zrStr (rest := [.int v2_3]) B (c_J0_length_8abf5 l E hV H0 hT0 p1 kp1) cl_RX9_87 kp1 rfl hl.1 rfl (Nat.le_of_ble_eq_true rfl) dX9_isWord_4 rfl rfl ⟨rfl, rfl⟩ ⟨Nat.zero_le _, Nat.zero_le _⟩ (zO.rf hh)) (fun x_1 hp_1 => ?_)
      obtain ⟨hp_1_1, hp_1_2, hp_1_3⟩ := hp_1
      refine lv_icmp_ge (tgt := 44) hx hb dX9_isWord_7 (by decide) (fun c_2 => ?_) (fun c_2 => ?_)
      · have f_2 := z_le c_2 rfl rfl
        refine lv_iconst (v := 1) hx hb dX9_isWord_44 (by decide) ?_
        have := kl_1
        have := kl_1
        exact rtPI (v := 1) B hr hlk hh hQ rfl ⟨by omega, by omega⟩ dX9_isWord_45
      · have f_2 := z_nle c_2 rfl rfl
        refine lv_iload_n hx hb dX9_isWord_10 rfl (lv_at hl 1 rfl) ?_
        refine lv_iload_n hx hb dX9_isWord_11 rfl (lv_at hl 3 rfl) ?_
        refine lv_iadd hx hb dX9_isWord_12 ?_
        refine lv_topi (fun x_3 e_3 => ?_)
        have t_3 := z_add e_3 rfl rfl (by omega) (by omega)
        refine lv_aload_n hx hb dX9_isWord_13 rfl (lv_at hl 0 rfl) ?_
        refine g_getI B fl_RX9_23 hT0 kh0 rfl rfl rfl rfl rfl dX9_isWord_14 (fun x_4 s_4 a_4 b_4 => ?_)
        refine lv_icmp_ge (tgt := 36) hx hb dX9_isWord_17 (by decide) (fun c_5 => ?_) (fun c_5 => ?_)
        · have f_5 := z_le c_5 rfl rfl
          refine lv_iconst (v := 0) hx hb dX9_isWord_36 (by decide) ?_
          have := kl_0
          have := kl_0
          exact rtPI (v := 0) B hr hlk hh hQ rfl ⟨by omega, by omega⟩ dX9_isWord_37
        · have f_5 := z_nle c_5 rfl rfl
          refine lv_aload_n hx hb dX9_isWord_20 rfl (lv_at hl 0 rfl) ?_
          refine g_getR B fl_RX9_26 hT0 kh0 rfl rfl rfl rfl rfl dX9_isWord_21 (fun q_6 s_6 k_q_6 => ?_)
          refine lv_iload_n hx hb dX9_isWord_24 rfl (lv_at hl 1 rfl) ?_
          refine lv_iload_n hx hb dX9_isWord_25 rfl (lv_at hl 3 rfl) ?_
          refine lv_iadd hx hb dX9_isWord_26 ?_
          refine lv_topi (fun x_7 e_7 => ?_)
          have t_7 := z_add e_7 rfl rfl (by omega) (by omega)
          refine g_baldI (i := x_7) (N := 1600) B hT0 k_q_6 rfl rfl rfl rfl (by omega) (by omega) rfl dX9_isWord_27 (fun x_8 s_8 a_8 b_8 => ?_)
          refine lv_aload_n hx hb dX9_isWord_28 rfl (lv_at hl 2 rfl) ?_
          refine lv_iload_n hx hb dX9_isWord_29 rfl (lv_at hl 3 rfl) ?_
          refine zkPI (zrStr (rest := [.int x_8]) B (c_J0_charAt_5068e l E hV H0 hT0 p1 kp1 v2_3 (by omega) (by omega) (by omega)) cl_RX9_93 kp1 rfl hl.1 rfl (Nat.le_of_ble_eq_true rfl) dX9_isWord_30 rfl rfl ⟨rfl, rfl⟩ ⟨Nat.zero_le _, Nat.zero_le _⟩ (zO.rf hh)) (fun x_9 hp_9 => ?_)
          refine lv_icmp_eq (tgt := 38) hx hb dX9_isWord_33 (by decide) (fun c_10 => ?_) (fun c_10 => ?_)
          · have f_10 := z_eq c_10 rfl rfl
            obtain ⟨x_11, e_11⟩ : ∃ y : Int32, (v2_3 : Int32) + Int32.ofInt 1 = y := ⟨_, rfl⟩
            refine lv_iinc (v := x_11) (lv' := [(3, .int x_11), (0, .ref h0), (1, .int p0), (2, .ref (eS E p1))]) hx hb dX9_isWord_38 hl (k := 3) rfl e_11 (by decide) rfl (fun ls hl => ?_)
            have t_11 := z_inc2 e_11 rfl (by decide) (by omega) (by omega)
            refine lv_goto (tgt := 2) hx hb dX9_isWord_41 (by decide) ?_
            exact ih2 ls x_11 (by omega) (lv_sub hl [1, 2, 3, 0] rfl) (by omega) (by omega)
          · have f_10 := z_ne c_10 rfl rfl
            refine lv_iconst (v := 0) hx hb dX9_isWord_36 (by decide) ?_
            have := kl_0
            have := kl_0
            exact rtPI (v := 0) B hr hlk hh hQ rfl ⟨by omega, by omega⟩ dX9_isWord_37
  refine lv_iconst (v := 0) hx hb dX9_isWord_0 (by decide) ?_
  refine lv_istore_n (lv' := [(3, .int 0), (0, .ref h0), (1, .int p0), (2, .ref (eS E p1))]) hx hb dX9_isWord_1 rfl hl (by decide) rfl (fun ls hl => ?_)
  have := kl_0
  exact b2 8 ls 0 (by omega) (lv_sub hl [1, 2, 3, 0] rfl) (by omega) (by omega)

theorem dX9_manWordKind_0 : decode cX9_manWordKind 0 = .ok (.aload_n 0, 1) := by decide +kernel
theorem dX9_manWordKind_1 : decode cX9_manWordKind 1 = .ok (.iload_n 1, 1) := by decide +kernel
theorem dX9_manWordKind_2 : decode cX9_manWordKind 2 = .ok (.ldc 71, 2) := by decide +kernel
theorem dX9_manWordKind_4 : decode cX9_manWordKind 4 = .ok (.invokevirtual 57, 3) := by decide +kernel
theorem dX9_manWordKind_7 : decode cX9_manWordKind 7 = .ok (.ifCond .eq 6, 3) := by decide +kernel
theorem dX9_manWordKind_10 : decode cX9_manWordKind 10 = .ok (.bipush 8, 2) := by decide +kernel
theorem dX9_manWordKind_12 : decode cX9_manWordKind 12 = .ok (.ireturn, 1) := by decide +kernel
theorem dX9_manWordKind_13 : decode cX9_manWordKind 13 = .ok (.aload_n 0, 1) := by decide +kernel
theorem dX9_manWordKind_14 : decode cX9_manWordKind 14 = .ok (.iload_n 1, 1) := by decide +kernel
theorem dX9_manWordKind_15 : decode cX9_manWordKind 15 = .ok (.ldc 73, 2) := by decide +kernel
theorem dX9_manWordKind_17 : decode cX9_manWordKind 17 = .ok (.invokevirtual 57, 3) := by decide +kernel
theorem dX9_manWordKind_20 : decode cX9_manWordKind 20 = .ok (.ifCond .eq 6, 3) := by decide +kernel
theorem dX9_manWordKind_23 : decode cX9_manWordKind 23 = .ok (.bipush 9, 2) := by decide +kernel
theorem dX9_manWordKind_25 : decode cX9_manWordKind 25 = .ok (.ireturn, 1) := by decide +kernel
theorem dX9_manWordKind_26 : decode cX9_manWordKind 26 = .ok (.aload_n 0, 1) := by decide +kernel
theorem dX9_manWordKind_27 : decode cX9_manWordKind 27 = .ok (.iload_n 1, 1) := by decide +kernel
theorem dX9_manWordKind_28 : decode cX9_manWordKind 28 = .ok (.ldc 75, 2) := by decide +kernel
theorem dX9_manWordKind_30 : decode cX9_manWordKind 30 = .ok (.invokevirtual 57, 3) := by decide +kernel
theorem dX9_manWordKind_33 : decode cX9_manWordKind 33 = .ok (.ifCond .eq 8, 3) := by decide +kernel
theorem dX9_manWordKind_36 : decode cX9_manWordKind 36 = .ok (.bipush 10, 2) := by decide +kernel
theorem dX9_manWordKind_38 : decode cX9_manWordKind 38 = .ok (.goto 4, 3) := by decide +kernel
theorem dX9_manWordKind_41 : decode cX9_manWordKind 41 = .ok (.iconst 4, 1) := by decide +kernel
theorem dX9_manWordKind_42 : decode cX9_manWordKind 42 = .ok (.ireturn, 1) := by decide +kernel
def rm_X9_manWordKind : Room := { frames := 5, cells := 0, slots := 0, locals := 108 }
set_option maxRecDepth 100000 in
set_option maxHeartbeats 4000000 in
theorem c_X9_manWordKind (l : Launch) (E : zE) (hV : zV E) (H0 : Heap) (hT0 : HT E H0) (h0 : Nat) (kh0 : eK E h0 = 10) (p0 : Int32) (p0_lo : 0 ≤ p0.toInt) (p0_hi : p0.toInt ≤ 3201) : Met l yX9_manWordKind (zws yX9_manWordKind cX9_manWordKind 2 (some .int)) rm_X9_manWordKind (zP E H0 [.ref h0, .int p0]) (zPI (fun r => 4 ≤ r.toInt ∧ r.toInt ≤ 10)) 0 0 (fun _ => False) := by
  refine zEnt (by decide) (Nat.le_of_ble_eq_true rfl) (fun p e s m args below meth c ls Q B hr hlk hh hQ hl => ?_)
  have hx := B.1
  have hb := B.2.1
  have hl : lv_has ls 2 [(0, .ref h0), (1, .int p0)] := hl
  refine lv_aload_n hx hb dX9_manWordKind_0 rfl (lv_at hl 0 rfl) ?_
  refine lv_iload_n hx hb dX9_manWordKind_1 rfl (lv_at hl 1 rfl) ?_
  refine va_ldcS hx hb B.2.2.2.1 (B.2.2.2.2.2.2.2.2.1 3 (by decide)) dX9_manWordKind_2 ?_
  refine zkPI (zrV (rest := []) B (c_X9_isWord l E hV H0 hT0 h0 kh0 p0 (by omega) (by omega) 3 (by decide)) cl_RX9_57 hT0 kh0 rfl rfl rfl rfl hl.1 rfl (Nat.le_of_ble_eq_true rfl) dX9_manWordKind_4 rfl rfl ⟨rfl, rfl⟩ ⟨Nat.zero_le _, Nat.zero_le _⟩ (zO.rf hh)) (fun x_1 hp_1 => ?_)
  obtain ⟨hp_1_1, hp_1_2⟩ := hp_1
  refine lv_if_eq (tgt := 13) hx hb dX9_manWordKind_7 (by decide) (fun c_2 => ?_) (fun c_2 => ?_)
  · have f_2 := z_eq c_2 rfl kl_0
    refine lv_aload_n hx hb dX9_manWordKind_13 rfl (lv_at hl 0 rfl) ?_
    refine lv_iload_n hx hb dX9_manWordKind_14 rfl (lv_at hl 1 rfl) ?_
    refine va_ldcS hx hb B.2.2.2.1 (B.2.2.2.2.2.2.2.2.1 4 (by decide)) dX9_manWordKind_15 ?_
    refine zkPI (zrV (rest := []) B (c_X9_isWord l E hV H0 hT0 h0 kh0 p0 (by omega) (by omega) 4 (by decide)) cl_RX9_57 hT0 kh0 rfl rfl rfl rfl hl.1 rfl (Nat.le_of_ble_eq_true rfl) dX9_manWordKind_17 rfl rfl ⟨rfl, rfl⟩ ⟨Nat.zero_le _, Nat.zero_le _⟩ (zO.rf hh)) (fun x_3 hp_3 => ?_)
    obtain ⟨hp_3_1, hp_3_2⟩ := hp_3
    refine lv_if_eq (tgt := 26) hx hb dX9_manWordKind_20 (by decide) (fun c_4 => ?_) (fun c_4 => ?_)
    · have f_4 := z_eq c_4 rfl kl_0
      refine lv_aload_n hx hb dX9_manWordKind_26 rfl (lv_at hl 0 rfl) ?_
      refine lv_iload_n hx hb dX9_manWordKind_27 rfl (lv_at hl 1 rfl) ?_
      refine va_ldcS hx hb B.2.2.2.1 (B.2.2.2.2.2.2.2.2.1 5 (by decide)) dX9_manWordKind_28 ?_
      refine zkPI (zrV (rest := []) B (c_X9_isWord l E hV H0 hT0 h0 kh0 p0 (by omega) (by omega) 5 (by decide)) cl_RX9_57 hT0 kh0 rfl rfl rfl rfl hl.1 rfl (Nat.le_of_ble_eq_true rfl) dX9_manWordKind_30 rfl rfl ⟨rfl, rfl⟩ ⟨Nat.zero_le _, Nat.zero_le _⟩ (zO.rf hh)) (fun x_5 hp_5 => ?_)
      obtain ⟨hp_5_1, hp_5_2⟩ := hp_5
      refine lv_if_eq (tgt := 41) hx hb dX9_manWordKind_33 (by decide) (fun c_6 => ?_) (fun c_6 => ?_)
      · have f_6 := z_eq c_6 rfl kl_0
        refine lv_iconst (v := 4) hx hb dX9_manWordKind_41 (by decide) ?_
        have := kl_4
        have := kl_4
        exact rtPI (v := 4) B hr hlk hh hQ rfl ⟨by omega, by omega⟩ dX9_manWordKind_42
      · have f_6 := z_ne c_6 rfl kl_0
        refine lv_bipush (v := 10) hx hb dX9_manWordKind_36 (by decide) ?_
        refine lv_goto (tgt := 42) hx hb dX9_manWordKind_38 (by decide) ?_
        have := kl_10
        have := kl_10
        exact rtPI (v := 10) B hr hlk hh hQ rfl ⟨by omega, by omega⟩ dX9_manWordKind_42
    · have f_4 := z_ne c_4 rfl kl_0
      refine lv_bipush (v := 9) hx hb dX9_manWordKind_23 (by decide) ?_
      have := kl_9
      have := kl_9
      exact rtPI (v := 9) B hr hlk hh hQ rfl ⟨by omega, by omega⟩ dX9_manWordKind_25
  · have f_2 := z_ne c_2 rfl kl_0
    refine lv_bipush (v := 8) hx hb dX9_manWordKind_10 (by decide) ?_
    have := kl_8
    have := kl_8
    exact rtPI (v := 8) B hr hlk hh hQ rfl ⟨by omega, by omega⟩ dX9_manWordKind_12

theorem dX9_lineWordKind_0 : decode cX9_lineWordKind 0 = .ok (.aload_n 0, 1) := by decide +kernel
theorem dX9_lineWordKind_1 : decode cX9_lineWordKind 1 = .ok (.iload_n 1, 1) := by decide +kernel
theorem dX9_lineWordKind_2 : decode cX9_lineWordKind 2 = .ok (.ldc 77, 2) := by decide +kernel
theorem dX9_lineWordKind_4 : decode cX9_lineWordKind 4 = .ok (.invokevirtual 57, 3) := by decide +kernel
theorem dX9_lineWordKind_7 : decode cX9_lineWordKind 7 = .ok (.ifCond .eq 5, 3) := by decide +kernel
theorem dX9_lineWordKind_10 : decode cX9_lineWordKind 10 = .ok (.iconst 5, 1) := by decide +kernel
theorem dX9_lineWordKind_11 : decode cX9_lineWordKind 11 = .ok (.ireturn, 1) := by decide +kernel
theorem dX9_lineWordKind_12 : decode cX9_lineWordKind 12 = .ok (.aload_n 0, 1) := by decide +kernel
theorem dX9_lineWordKind_13 : decode cX9_lineWordKind 13 = .ok (.iload_n 1, 1) := by decide +kernel
theorem dX9_lineWordKind_14 : decode cX9_lineWordKind 14 = .ok (.ldc 79, 2) := by decide +kernel
theorem dX9_lineWordKind_16 : decode cX9_lineWordKind 16 = .ok (.invokevirtual 57, 3) := by decide +kernel
theorem dX9_lineWordKind_19 : decode cX9_lineWordKind 19 = .ok (.ifCond .eq 6, 3) := by decide +kernel
theorem dX9_lineWordKind_22 : decode cX9_lineWordKind 22 = .ok (.bipush 7, 2) := by decide +kernel
theorem dX9_lineWordKind_24 : decode cX9_lineWordKind 24 = .ok (.ireturn, 1) := by decide +kernel
theorem dX9_lineWordKind_25 : decode cX9_lineWordKind 25 = .ok (.aload_n 0, 1) := by decide +kernel
theorem dX9_lineWordKind_26 : decode cX9_lineWordKind 26 = .ok (.iload_n 1, 1) := by decide +kernel
theorem dX9_lineWordKind_27 : decode cX9_lineWordKind 27 = .ok (.ldc 81, 2) := by decide +kernel
theorem dX9_lineWordKind_29 : decode cX9_lineWordKind 29 = .ok (.invokevirtual 57, 3) := by decide +kernel
theorem dX9_lineWordKind_32 : decode cX9_lineWordKind 32 = .ok (.ifCond .eq 6, 3) := by decide +kernel
theorem dX9_lineWordKind_35 : decode cX9_lineWordKind 35 = .ok (.bipush 12, 2) := by decide +kernel
theorem dX9_lineWordKind_37 : decode cX9_lineWordKind 37 = .ok (.ireturn, 1) := by decide +kernel
theorem dX9_lineWordKind_38 : decode cX9_lineWordKind 38 = .ok (.aload_n 0, 1) := by decide +kernel
theorem dX9_lineWordKind_39 : decode cX9_lineWordKind 39 = .ok (.iload_n 1, 1) := by decide +kernel
theorem dX9_lineWordKind_40 : decode cX9_lineWordKind 40 = .ok (.ldc 83, 2) := by decide +kernel
theorem dX9_lineWordKind_42 : decode cX9_lineWordKind 42 = .ok (.invokevirtual 57, 3) := by decide +kernel
theorem dX9_lineWordKind_45 : decode cX9_lineWordKind 45 = .ok (.ifCond .eq 6, 3) := by decide +kernel
theorem dX9_lineWordKind_48 : decode cX9_lineWordKind 48 = .ok (.bipush 13, 2) := by decide +kernel
theorem dX9_lineWordKind_50 : decode cX9_lineWordKind 50 = .ok (.ireturn, 1) := by decide +kernel
theorem dX9_lineWordKind_51 : decode cX9_lineWordKind 51 = .ok (.aload_n 0, 1) := by decide +kernel
theorem dX9_lineWordKind_52 : decode cX9_lineWordKind 52 = .ok (.iload_n 1, 1) := by decide +kernel
theorem dX9_lineWordKind_53 : decode cX9_lineWordKind 53 = .ok (.ldc 85, 2) := by decide +kernel
theorem dX9_lineWordKind_55 : decode cX9_lineWordKind 55 = .ok (.invokevirtual 57, 3) := by decide +kernel
theorem dX9_lineWordKind_58 : decode cX9_lineWordKind 58 = .ok (.ifCond .eq 8, 3) := by decide +kernel
theorem dX9_lineWordKind_61 : decode cX9_lineWordKind 61 = .ok (.bipush 15, 2) := by decide +kernel
theorem dX9_lineWordKind_63 : decode cX9_lineWordKind 63 = .ok (.goto 4, 3) := by decide +kernel
theorem dX9_lineWordKind_66 : decode cX9_lineWordKind 66 = .ok (.iconst 4, 1) := by decide +kernel
theorem dX9_lineWordKind_67 : decode cX9_lineWordKind 67 = .ok (.ireturn, 1) := by decide +kernel
def rm_X9_lineWordKind : Room := { frames := 5, cells := 0, slots := 0, locals := 108 }
set_option maxRecDepth 100000 in
set_option maxHeartbeats 4000000 in
theorem c_X9_lineWordKind (l : Launch) (E : zE) (hV : zV E) (H0 : Heap) (hT0 : HT E H0) (h0 : Nat) (kh0 : eK E h0 = 10) (p0 : Int32) (p0_lo : 0 ≤ p0.toInt) (p0_hi : p0.toInt ≤ 3201) : Met l yX9_lineWordKind (zws yX9_lineWordKind cX9_lineWordKind 2 (some .int)) rm_X9_lineWordKind (zP E H0 [.ref h0, .int p0]) (zPI (fun r => 4 ≤ r.toInt ∧ r.toInt ≤ 15)) 0 0 (fun _ => False) := by
  refine zEnt (by decide) (Nat.le_of_ble_eq_true rfl) (fun p e s m args below meth c ls Q B hr hlk hh hQ hl => ?_)
  have hx := B.1
  have hb := B.2.1
  have hl : lv_has ls 2 [(0, .ref h0), (1, .int p0)] := hl
  refine lv_aload_n hx hb dX9_lineWordKind_0 rfl (lv_at hl 0 rfl) ?_
  refine lv_iload_n hx hb dX9_lineWordKind_1 rfl (lv_at hl 1 rfl) ?_
  refine va_ldcS hx hb B.2.2.2.1 (B.2.2.2.2.2.2.2.2.1 6 (by decide)) dX9_lineWordKind_2 ?_
  refine zkPI (zrV (rest := []) B (c_X9_isWord l E hV H0 hT0 h0 kh0 p0 (by omega) (by omega) 6 (by decide)) cl_RX9_57 hT0 kh0 rfl rfl rfl rfl hl.1 rfl (Nat.le_of_ble_eq_true rfl) dX9_lineWordKind_4 rfl rfl ⟨rfl, rfl⟩ ⟨Nat.zero_le _, Nat.zero_le _⟩ (zO.rf hh)) (fun x_1 hp_1 => ?_)
  obtain ⟨hp_1_1, hp_1_2⟩ := hp_1
  refine lv_if_eq (tgt := 12) hx hb dX9_lineWordKind_7 (by decide) (fun c_2 => ?_) (fun c_2 => ?_)
  · have f_2 := z_eq c_2 rfl kl_0
    refine lv_aload_n hx hb dX9_lineWordKind_12 rfl (lv_at hl 0 rfl) ?_
    refine lv_iload_n hx hb dX9_lineWordKind_13 rfl (lv_at hl 1 rfl) ?_
    refine va_ldcS hx hb B.2.2.2.1 (B.2.2.2.2.2.2.2.2.1 7 (by decide)) dX9_lineWordKind_14 ?_
    refine zkPI (zrV (rest := []) B (c_X9_isWord l E hV H0 hT0 h0 kh0 p0 (by omega) (by omega) 7 (by decide)) cl_RX9_57 hT0 kh0 rfl rfl rfl rfl hl.1 rfl (Nat.le_of_ble_eq_true rfl) dX9_lineWordKind_16 rfl rfl ⟨rfl, rfl⟩ ⟨Nat.zero_le _, Nat.zero_le _⟩ (zO.rf hh)) (fun x_3 hp_3 => ?_)
    obtain ⟨hp_3_1, hp_3_2⟩ := hp_3
    refine lv_if_eq (tgt := 25) hx hb dX9_lineWordKind_19 (by decide) (fun c_4 => ?_) (fun c_4 => ?_)
    · have f_4 := z_eq c_4 rfl kl_0
      refine lv_aload_n hx hb dX9_lineWordKind_25 rfl (lv_at hl 0 rfl) ?_
      refine lv_iload_n hx hb dX9_lineWordKind_26 rfl (lv_at hl 1 rfl) ?_
      refine va_ldcS hx hb B.2.2.2.1 (B.2.2.2.2.2.2.2.2.1 8 (by decide)) dX9_lineWordKind_27 ?_
      refine zkPI (zrV (rest := []) B (c_X9_isWord l E hV H0 hT0 h0 kh0 p0 (by omega) (by omega) 8 (by decide)) cl_RX9_57 hT0 kh0 rfl rfl rfl rfl hl.1 rfl (Nat.le_of_ble_eq_true rfl) dX9_lineWordKind_29 rfl rfl ⟨rfl, rfl⟩ ⟨Nat.zero_le _, Nat.zero_le _⟩ (zO.rf hh)) (fun x_5 hp_5 => ?_)
      obtain ⟨hp_5_1, hp_5_2⟩ := hp_5
      refine lv_if_eq (tgt := 38) hx hb dX9_lineWordKind_32 (by decide) (fun c_6 => ?_) (fun c_6 => ?_)
      · have f_6 := z_eq c_6 rfl kl_0
        refine lv_aload_n hx hb dX9_lineWordKind_38 rfl (lv_at hl 0 rfl) ?_
        refine lv_iload_n hx hb dX9_lineWordKind_39 rfl (lv_at hl 1 rfl) ?_
        refine va_ldcS hx hb B.2.2.2.1 (B.2.2.2.2.2.2.2.2.1 9 (by decide)) dX9_lineWordKind_40 ?_
        refine zkPI (zrV (rest := []) B (c_X9_isWord l E hV H0 hT0 h0 kh0 p0 (by omega) (by omega) 9 (by decide)) cl_RX9_57 hT0 kh0 rfl rfl rfl rfl hl.1 rfl (Nat.le_of_ble_eq_true rfl) dX9_lineWordKind_42 rfl rfl ⟨rfl, rfl⟩ ⟨Nat.zero_le _, Nat.zero_le _⟩ (zO.rf hh)) (fun x_7 hp_7 => ?_)
        obtain ⟨hp_7_1, hp_7_2⟩ := hp_7
        refine lv_if_eq (tgt := 51) hx hb dX9_lineWordKind_45 (by decide) (fun c_8 => ?_) (fun c_8 => ?_)
        · have f_8 := z_eq c_8 rfl kl_0
          refine lv_aload_n hx hb dX9_lineWordKind_51 rfl (lv_at hl 0 rfl) ?_
          refine lv_iload_n hx hb dX9_lineWordKind_52 rfl (lv_at hl 1 rfl) ?_
          refine va_ldcS hx hb B.2.2.2.1 (B.2.2.2.2.2.2.2.2.1 10 (by decide)) dX9_lineWordKind_53 ?_
          refine zkPI (zrV (rest := []) B (c_X9_isWord l E hV H0 hT0 h0 kh0 p0 (by omega) (by omega) 10 (by decide)) cl_RX9_57 hT0 kh0 rfl rfl rfl rfl hl.1 rfl (Nat.le_of_ble_eq_true rfl) dX9_lineWordKind_55 rfl rfl ⟨rfl, rfl⟩ ⟨Nat.zero_le _, Nat.zero_le _⟩ (zO.rf hh)) (fun x_9 hp_9 => ?_)
          obtain ⟨hp_9_1, hp_9_2⟩ := hp_9
          refine lv_if_eq (tgt := 66) hx hb dX9_lineWordKind_58 (by decide) (fun c_10 => ?_) (fun c_10 => ?_)
          · have f_10 := z_eq c_10 rfl kl_0
            refine lv_iconst (v := 4) hx hb dX9_lineWordKind_66 (by decide) ?_
            have := kl_4
            have := kl_4
            exact rtPI (v := 4) B hr hlk hh hQ rfl ⟨by omega, by omega⟩ dX9_lineWordKind_67
          · have f_10 := z_ne c_10 rfl kl_0
            refine lv_bipush (v := 15) hx hb dX9_lineWordKind_61 (by decide) ?_
            refine lv_goto (tgt := 67) hx hb dX9_lineWordKind_63 (by decide) ?_
            have := kl_15
            have := kl_15
            exact rtPI (v := 15) B hr hlk hh hQ rfl ⟨by omega, by omega⟩ dX9_lineWordKind_67
        · have f_8 := z_ne c_8 rfl kl_0
          refine lv_bipush (v := 13) hx hb dX9_lineWordKind_48 (by decide) ?_
          have := kl_13
          have := kl_13
          exact rtPI (v := 13) B hr hlk hh hQ rfl ⟨by omega, by omega⟩ dX9_lineWordKind_50
      · have f_6 := z_ne c_6 rfl kl_0
        refine lv_bipush (v := 12) hx hb dX9_lineWordKind_35 (by decide) ?_
        have := kl_12
        have := kl_12
        exact rtPI (v := 12) B hr hlk hh hQ rfl ⟨by omega, by omega⟩ dX9_lineWordKind_37
    · have f_4 := z_ne c_4 rfl kl_0
      refine lv_bipush (v := 7) hx hb dX9_lineWordKind_22 (by decide) ?_
      have := kl_7
      have := kl_7
      exact rtPI (v := 7) B hr hlk hh hQ rfl ⟨by omega, by omega⟩ dX9_lineWordKind_24
  · have f_2 := z_ne c_2 rfl kl_0
    refine lv_iconst (v := 5) hx hb dX9_lineWordKind_10 (by decide) ?_
    have := kl_5
    have := kl_5
    exact rtPI (v := 5) B hr hlk hh hQ rfl ⟨by omega, by omega⟩ dX9_lineWordKind_11

theorem dX9_wordKind_0 : decode cX9_wordKind 0 = .ok (.iload_n 2, 1) := by decide +kernel
theorem dX9_wordKind_1 : decode cX9_wordKind 1 = .ok (.tableswitch 100 2 7 #[39, 100, 71, 77, 100, 83], 39) := by decide +kernel
theorem dX9_wordKind_40 : decode cX9_wordKind 40 = .ok (.aload_n 0, 1) := by decide +kernel
theorem dX9_wordKind_41 : decode cX9_wordKind 41 = .ok (.iload_n 1, 1) := by decide +kernel
theorem dX9_wordKind_42 : decode cX9_wordKind 42 = .ok (.ldc 55, 2) := by decide +kernel
theorem dX9_wordKind_44 : decode cX9_wordKind 44 = .ok (.invokevirtual 57, 3) := by decide +kernel
theorem dX9_wordKind_47 : decode cX9_wordKind 47 = .ok (.ifCond .eq 8, 3) := by decide +kernel
theorem dX9_wordKind_50 : decode cX9_wordKind 50 = .ok (.bipush 6, 2) := by decide +kernel
theorem dX9_wordKind_52 : decode cX9_wordKind 52 = .ok (.goto 19, 3) := by decide +kernel
theorem dX9_wordKind_55 : decode cX9_wordKind 55 = .ok (.aload_n 0, 1) := by decide +kernel
theorem dX9_wordKind_56 : decode cX9_wordKind 56 = .ok (.iload_n 1, 1) := by decide +kernel
theorem dX9_wordKind_57 : decode cX9_wordKind 57 = .ok (.ldc 61, 2) := by decide +kernel
theorem dX9_wordKind_59 : decode cX9_wordKind 59 = .ok (.invokevirtual 57, 3) := by decide +kernel
theorem dX9_wordKind_62 : decode cX9_wordKind 62 = .ok (.ifCond .eq 8, 3) := by decide +kernel
theorem dX9_wordKind_65 : decode cX9_wordKind 65 = .ok (.bipush 14, 2) := by decide +kernel
theorem dX9_wordKind_67 : decode cX9_wordKind 67 = .ok (.goto 4, 3) := by decide +kernel
theorem dX9_wordKind_70 : decode cX9_wordKind 70 = .ok (.iconst 4, 1) := by decide +kernel
theorem dX9_wordKind_71 : decode cX9_wordKind 71 = .ok (.ireturn, 1) := by decide +kernel
theorem dX9_wordKind_72 : decode cX9_wordKind 72 = .ok (.aload_n 0, 1) := by decide +kernel
theorem dX9_wordKind_73 : decode cX9_wordKind 73 = .ok (.iload_n 1, 1) := by decide +kernel
theorem dX9_wordKind_74 : decode cX9_wordKind 74 = .ok (.invokevirtual 63, 3) := by decide +kernel
theorem dX9_wordKind_77 : decode cX9_wordKind 77 = .ok (.ireturn, 1) := by decide +kernel
theorem dX9_wordKind_78 : decode cX9_wordKind 78 = .ok (.aload_n 0, 1) := by decide +kernel
theorem dX9_wordKind_79 : decode cX9_wordKind 79 = .ok (.iload_n 1, 1) := by decide +kernel
theorem dX9_wordKind_80 : decode cX9_wordKind 80 = .ok (.invokevirtual 66, 3) := by decide +kernel
theorem dX9_wordKind_83 : decode cX9_wordKind 83 = .ok (.ireturn, 1) := by decide +kernel
theorem dX9_wordKind_84 : decode cX9_wordKind 84 = .ok (.aload_n 0, 1) := by decide +kernel
theorem dX9_wordKind_85 : decode cX9_wordKind 85 = .ok (.iload_n 1, 1) := by decide +kernel
theorem dX9_wordKind_86 : decode cX9_wordKind 86 = .ok (.ldc 69, 2) := by decide +kernel
theorem dX9_wordKind_88 : decode cX9_wordKind 88 = .ok (.invokevirtual 57, 3) := by decide +kernel
theorem dX9_wordKind_91 : decode cX9_wordKind 91 = .ok (.ifCond .eq 8, 3) := by decide +kernel
theorem dX9_wordKind_94 : decode cX9_wordKind 94 = .ok (.bipush 11, 2) := by decide +kernel
theorem dX9_wordKind_96 : decode cX9_wordKind 96 = .ok (.goto 4, 3) := by decide +kernel
theorem dX9_wordKind_99 : decode cX9_wordKind 99 = .ok (.iconst 4, 1) := by decide +kernel
theorem dX9_wordKind_100 : decode cX9_wordKind 100 = .ok (.ireturn, 1) := by decide +kernel
theorem dX9_wordKind_101 : decode cX9_wordKind 101 = .ok (.iconst 4, 1) := by decide +kernel
theorem dX9_wordKind_102 : decode cX9_wordKind 102 = .ok (.ireturn, 1) := by decide +kernel
def rm_X9_wordKind : Room := { frames := 6, cells := 0, slots := 0, locals := 129 }
set_option maxRecDepth 100000 in
set_option maxHeartbeats 4000000 in
theorem c_X9_wordKind (l : Launch) (E : zE) (hV : zV E) (H0 : Heap) (hT0 : HT E H0) (h0 : Nat) (kh0 : eK E h0 = 10) (p0 : Int32) (p0_lo : 0 ≤ p0.toInt) (p0_hi : p0.toInt ≤ 3201) (p1 : Int32) : Met l yX9_wordKind (zws yX9_wordKind cX9_wordKind 3 (some .int)) rm_X9_wordKind (zP E H0 [.ref h0, .int p0, .int p1]) (zPI (fun r => 4 ≤ r.toInt ∧ r.toInt ≤ 15)) 0 0 (fun _ => False) := by
  refine zEnt (by decide) (Nat.le_of_ble_eq_true rfl) (fun p e s m args below meth c ls Q B hr hlk hh hQ hl => ?_)
  have hx := B.1
  have hb := B.2.1
  have hl : lv_has ls 3 [(0, .ref h0), (1, .int p0), (2, .int p1)] := hl
  refine lv_iload_n hx hb dX9_wordKind_0 rfl (lv_at hl 2 rfl) ?_
  by_cases c_1 : 2 ≤ p1.toInt ∧ p1.toInt ≤ 7
  · have : p1.toInt = 2 ∨ p1.toInt = 3 ∨ p1.toInt = 4 ∨ p1.toInt = 5 ∨ p1.toInt = 6 ∨ p1.toInt = 7 := by omega
    rcases this with h_1 | h_1 | h_1 | h_1 | h_1 | h_1
    · refine lv_tableIn (off := 39) (tgt := 40) hx hb dX9_wordKind_1 (by omega) (by omega) (by rw [h_1]; rfl) (by decide) ?_
      refine lv_aload_n hx hb dX9_wordKind_40 rfl (lv_at hl 0 rfl) ?_
      refine lv_iload_n hx hb dX9_wordKind_41 rfl (lv_at hl 1 rfl) ?_
      refine va_ldcS hx hb B.2.2.2.1 (B.2.2.2.2.2.2.2.2.1 0 (by decide)) dX9_wordKind_42 ?_
      refine zkPI (zrV (rest := []) B (c_X9_isWord l E hV H0 hT0 h0 kh0 p0 (by omega) (by omega) 0 (by decide)) cl_RX9_57 hT0 kh0 rfl rfl rfl rfl hl.1 rfl (Nat.le_of_ble_eq_true rfl) dX9_wordKind_44 rfl rfl ⟨rfl, rfl⟩ ⟨Nat.zero_le _, Nat.zero_le _⟩ (zO.rf hh)) (fun x_2 hp_2 => ?_)
      obtain ⟨hp_2_1, hp_2_2⟩ := hp_2
      refine lv_if_eq (tgt := 55) hx hb dX9_wordKind_47 (by decide) (fun c_3 => ?_) (fun c_3 => ?_)
      · have f_3 := z_eq c_3 rfl kl_0
        refine lv_aload_n hx hb dX9_wordKind_55 rfl (lv_at hl 0 rfl) ?_
        refine lv_iload_n hx hb dX9_wordKind_56 rfl (lv_at hl 1 rfl) ?_
        refine va_ldcS hx hb B.2.2.2.1 (B.2.2.2.2.2.2.2.2.1 1 (by decide)) dX9_wordKind_57 ?_
        refine zkPI (zrV (rest := []) B (c_X9_isWord l E hV H0 hT0 h0 kh0 p0 (by omega) (by omega) 1 (by decide)) cl_RX9_57 hT0 kh0 rfl rfl rfl rfl hl.1 rfl (Nat.le_of_ble_eq_true rfl) dX9_wordKind_59 rfl rfl ⟨rfl, rfl⟩ ⟨Nat.zero_le _, Nat.zero_le _⟩ (zO.rf hh)) (fun x_4 hp_4 => ?_)
        obtain ⟨hp_4_1, hp_4_2⟩ := hp_4
        refine lv_if_eq (tgt := 70) hx hb dX9_wordKind_62 (by decide) (fun c_5 => ?_) (fun c_5 => ?_)
        · have f_5 := z_eq c_5 rfl kl_0
          refine lv_iconst (v := 4) hx hb dX9_wordKind_70 (by decide) ?_
          have := kl_4
          have := kl_4
          exact rtPI (v := 4) B hr hlk hh hQ rfl ⟨by omega, by omega⟩ dX9_wordKind_71
        · have f_5 := z_ne c_5 rfl kl_0
          refine lv_bipush (v := 14) hx hb dX9_wordKind_65 (by decide) ?_
          refine lv_goto (tgt := 71) hx hb dX9_wordKind_67 (by decide) ?_
          have := kl_14
          have := kl_14
          exact rtPI (v := 14) B hr hlk hh hQ rfl ⟨by omega, by omega⟩ dX9_wordKind_71
      · have f_3 := z_ne c_3 rfl kl_0
        refine lv_bipush (v := 6) hx hb dX9_wordKind_50 (by decide) ?_
        refine lv_goto (tgt := 71) hx hb dX9_wordKind_52 (by decide) ?_
        have := kl_6
        have := kl_6
        exact rtPI (v := 6) B hr hlk hh hQ rfl ⟨by omega, by omega⟩ dX9_wordKind_71
    · refine lv_tableIn (off := 100) (tgt := 101) hx hb dX9_wordKind_1 (by omega) (by omega) (by rw [h_1]; rfl) (by decide) ?_
      refine lv_iconst (v := 4) hx hb dX9_wordKind_101 (by decide) ?_
      have := kl_4
      have := kl_4
      exact rtPI (v := 4) B hr hlk hh hQ rfl ⟨by omega, by omega⟩ dX9_wordKind_102
    · refine lv_tableIn (off := 71) (tgt := 72) hx hb dX9_wordKind_1 (by omega) (by omega) (by rw [h_1]; rfl) (by decide) ?_
      refine lv_aload_n hx hb dX9_wordKind_72 rfl (lv_at hl 0 rfl) ?_
      refine lv_iload_n hx hb dX9_wordKind_73 rfl (lv_at hl 1 rfl) ?_
      refine zkPI (zrV (rest := []) B (c_X9_manWordKind l E hV H0 hT0 h0 kh0 p0 (by omega) (by omega)) cl_RX9_63 hT0 kh0 rfl rfl rfl rfl hl.1 rfl (Nat.le_of_ble_eq_true rfl) dX9_wordKind_74 rfl rfl ⟨rfl, rfl⟩ ⟨Nat.zero_le _, Nat.zero_le _⟩ (zO.rf hh)) (fun x_6 hp_6 => ?_)
      obtain ⟨hp_6_1, hp_6_2⟩ := hp_6
      exact rtPI (v := x_6) B hr hlk hh hQ rfl ⟨by omega, by omega⟩ dX9_wordKind_77
    · refine lv_tableIn (off := 77) (tgt := 78) hx hb dX9_wordKind_1 (by omega) (by omega) (by rw [h_1]; rfl) (by decide) ?_
      refine lv_aload_n hx hb dX9_wordKind_78 rfl (lv_at hl 0 rfl) ?_
      refine lv_iload_n hx hb dX9_wordKind_79 rfl (lv_at hl 1 rfl) ?_
      refine zkPI (zrV (rest := []) B (c_X9_lineWordKind l E hV H0 hT0 h0 kh0 p0 (by omega) (by omega)) cl_RX9_66 hT0 kh0 rfl rfl rfl rfl hl.1 rfl (Nat.le_of_ble_eq_true rfl) dX9_wordKind_80 rfl rfl ⟨rfl, rfl⟩ ⟨Nat.zero_le _, Nat.zero_le _⟩ (zO.rf hh)) (fun x_7 hp_7 => ?_)
      obtain ⟨hp_7_1, hp_7_2⟩ := hp_7
      exact rtPI (v := x_7) B hr hlk hh hQ rfl ⟨by omega, by omega⟩ dX9_wordKind_83
    · refine lv_tableIn (off := 100) (tgt := 101) hx hb dX9_wordKind_1 (by omega) (by omega) (by rw [h_1]; rfl) (by decide) ?_
      refine lv_iconst (v := 4) hx hb dX9_wordKind_101 (by decide) ?_
      have := kl_4
      have := kl_4
      exact rtPI (v := 4) B hr hlk hh hQ rfl ⟨by omega, by omega⟩ dX9_wordKind_102
    · refine lv_tableIn (off := 83) (tgt := 84) hx hb dX9_wordKind_1 (by omega) (by omega) (by rw [h_1]; rfl) (by decide) ?_
      refine lv_aload_n hx hb dX9_wordKind_84 rfl (lv_at hl 0 rfl) ?_
      refine lv_iload_n hx hb dX9_wordKind_85 rfl (lv_at hl 1 rfl) ?_
      refine va_ldcS hx hb B.2.2.2.1 (B.2.2.2.2.2.2.2.2.1 2 (by decide)) dX9_wordKind_86 ?_
      refine zkPI (zrV (rest := []) B (c_X9_isWord l E hV H0 hT0 h0 kh0 p0 (by omega) (by omega) 2 (by decide)) cl_RX9_57 hT0 kh0 rfl rfl rfl rfl hl.1 rfl (Nat.le_of_ble_eq_true rfl) dX9_wordKind_88 rfl rfl ⟨rfl, rfl⟩ ⟨Nat.zero_le _, Nat.zero_le _⟩ (zO.rf hh)) (fun x_8 hp_8 => ?_)
      obtain ⟨hp_8_1, hp_8_2⟩ := hp_8
      refine lv_if_eq (tgt := 99) hx hb dX9_wordKind_91 (by decide) (fun c_9 => ?_) (fun c_9 => ?_)
      · have f_9 := z_eq c_9 rfl kl_0
        refine lv_iconst (v := 4) hx hb dX9_wordKind_99 (by decide) ?_
        have := kl_4
        have := kl_4
        exact rtPI (v := 4) B hr hlk hh hQ rfl ⟨by omega, by omega⟩ dX9_wordKind_100
      · have f_9 := z_ne c_9 rfl kl_0
        refine lv_bipush (v := 11) hx hb dX9_wordKind_94 (by decide) ?_
        refine lv_goto (tgt := 100) hx hb dX9_wordKind_96 (by decide) ?_
        have := kl_11
        have := kl_11
        exact rtPI (v := 11) B hr hlk hh hQ rfl ⟨by omega, by omega⟩ dX9_wordKind_100
  · refine lv_tableOut (tgt := 101) hx hb dX9_wordKind_1 (by omega) (by decide) ?_
    refine lv_iconst (v := 4) hx hb dX9_wordKind_101 (by decide) ?_
    have := kl_4
    have := kl_4
    exact rtPI (v := 4) B hr hlk hh hQ rfl ⟨by omega, by omega⟩ dX9_wordKind_102

theorem dX9_kindOf_0 : decode cX9_kindOf 0 = .ok (.iload_n 1, 1) := by decide +kernel
theorem dX9_kindOf_1 : decode cX9_kindOf 1 = .ok (.aload_n 0, 1) := by decide +kernel
theorem dX9_kindOf_2 : decode cX9_kindOf 2 = .ok (.getfield 23, 3) := by decide +kernel
theorem dX9_kindOf_5 : decode cX9_kindOf 5 = .ok (.if_icmp .lt 5, 3) := by decide +kernel
theorem dX9_kindOf_8 : decode cX9_kindOf 8 = .ok (.iconst 0, 1) := by decide +kernel
theorem dX9_kindOf_9 : decode cX9_kindOf 9 = .ok (.ireturn, 1) := by decide +kernel
theorem dX9_kindOf_10 : decode cX9_kindOf 10 = .ok (.aload_n 0, 1) := by decide +kernel
theorem dX9_kindOf_11 : decode cX9_kindOf 11 = .ok (.iload_n 1, 1) := by decide +kernel
theorem dX9_kindOf_12 : decode cX9_kindOf 12 = .ok (.invokevirtual 45, 3) := by decide +kernel
theorem dX9_kindOf_15 : decode cX9_kindOf 15 = .ok (.ifCond .eq 24, 3) := by decide +kernel
theorem dX9_kindOf_18 : decode cX9_kindOf 18 = .ok (.iload_n 2, 1) := by decide +kernel
theorem dX9_kindOf_19 : decode cX9_kindOf 19 = .ok (.iload_n 1, 1) := by decide +kernel
theorem dX9_kindOf_20 : decode cX9_kindOf 20 = .ok (.isub, 1) := by decide +kernel
theorem dX9_kindOf_21 : decode cX9_kindOf 21 = .ok (.iconst 4, 1) := by decide +kernel
theorem dX9_kindOf_22 : decode cX9_kindOf 22 = .ok (.if_icmp .gt 11, 3) := by decide +kernel
theorem dX9_kindOf_25 : decode cX9_kindOf 25 = .ok (.aload_n 0, 1) := by decide +kernel
theorem dX9_kindOf_26 : decode cX9_kindOf 26 = .ok (.iload_n 2, 1) := by decide +kernel
theorem dX9_kindOf_27 : decode cX9_kindOf 27 = .ok (.invokevirtual 49, 3) := by decide +kernel
theorem dX9_kindOf_30 : decode cX9_kindOf 30 = .ok (.ifCond .eq 7, 3) := by decide +kernel
theorem dX9_kindOf_33 : decode cX9_kindOf 33 = .ok (.iconst 1, 1) := by decide +kernel
theorem dX9_kindOf_34 : decode cX9_kindOf 34 = .ok (.goto 4, 3) := by decide +kernel
theorem dX9_kindOf_37 : decode cX9_kindOf 37 = .ok (.iconst 2, 1) := by decide +kernel
theorem dX9_kindOf_38 : decode cX9_kindOf 38 = .ok (.ireturn, 1) := by decide +kernel
theorem dX9_kindOf_39 : decode cX9_kindOf 39 = .ok (.aload_n 0, 1) := by decide +kernel
theorem dX9_kindOf_40 : decode cX9_kindOf 40 = .ok (.iload_n 1, 1) := by decide +kernel
theorem dX9_kindOf_41 : decode cX9_kindOf 41 = .ok (.invokevirtual 49, 3) := by decide +kernel
theorem dX9_kindOf_44 : decode cX9_kindOf 44 = .ok (.ifCond .eq 24, 3) := by decide +kernel
theorem dX9_kindOf_47 : decode cX9_kindOf 47 = .ok (.iload_n 2, 1) := by decide +kernel
theorem dX9_kindOf_48 : decode cX9_kindOf 48 = .ok (.iload_n 1, 1) := by decide +kernel
theorem dX9_kindOf_49 : decode cX9_kindOf 49 = .ok (.isub, 1) := by decide +kernel
theorem dX9_kindOf_50 : decode cX9_kindOf 50 = .ok (.bipush 8, 2) := by decide +kernel
theorem dX9_kindOf_52 : decode cX9_kindOf 52 = .ok (.if_icmp .le 7, 3) := by decide +kernel
theorem dX9_kindOf_55 : decode cX9_kindOf 55 = .ok (.iconst 1, 1) := by decide +kernel
theorem dX9_kindOf_56 : decode cX9_kindOf 56 = .ok (.goto 11, 3) := by decide +kernel
theorem dX9_kindOf_59 : decode cX9_kindOf 59 = .ok (.aload_n 0, 1) := by decide +kernel
theorem dX9_kindOf_60 : decode cX9_kindOf 60 = .ok (.iload_n 1, 1) := by decide +kernel
theorem dX9_kindOf_61 : decode cX9_kindOf 61 = .ok (.iload_n 2, 1) := by decide +kernel
theorem dX9_kindOf_62 : decode cX9_kindOf 62 = .ok (.iload_n 1, 1) := by decide +kernel
theorem dX9_kindOf_63 : decode cX9_kindOf 63 = .ok (.isub, 1) := by decide +kernel
theorem dX9_kindOf_64 : decode cX9_kindOf 64 = .ok (.invokevirtual 52, 3) := by decide +kernel
theorem dX9_kindOf_67 : decode cX9_kindOf 67 = .ok (.ireturn, 1) := by decide +kernel
theorem dX9_kindOf_68 : decode cX9_kindOf 68 = .ok (.aload_n 0, 1) := by decide +kernel
theorem dX9_kindOf_69 : decode cX9_kindOf 69 = .ok (.getfield 26, 3) := by decide +kernel
theorem dX9_kindOf_72 : decode cX9_kindOf 72 = .ok (.iload_n 1, 1) := by decide +kernel
theorem dX9_kindOf_73 : decode cX9_kindOf 73 = .ok (.baload, 1) := by decide +kernel
theorem dX9_kindOf_74 : decode cX9_kindOf 74 = .ok (.bipush 59, 2) := by decide +kernel
theorem dX9_kindOf_76 : decode cX9_kindOf 76 = .ok (.if_icmp .ne 7, 3) := by decide +kernel
theorem dX9_kindOf_79 : decode cX9_kindOf 79 = .ok (.iconst 3, 1) := by decide +kernel
theorem dX9_kindOf_80 : decode cX9_kindOf 80 = .ok (.goto 4, 3) := by decide +kernel
theorem dX9_kindOf_83 : decode cX9_kindOf 83 = .ok (.iconst 1, 1) := by decide +kernel
theorem dX9_kindOf_84 : decode cX9_kindOf 84 = .ok (.ireturn, 1) := by decide +kernel
def rm_X9_kindOf : Room := { frames := 7, cells := 0, slots := 0, locals := 151 }
set_option maxRecDepth 100000 in
set_option maxHeartbeats 4000000 in
theorem c_X9_kindOf (l : Launch) (E : zE) (hV : zV E) (H0 : Heap) (hT0 : HT E H0) (h0 : Nat) (kh0 : eK E h0 = 10) (p0 : Int32) (p0_lo : 0 ≤ p0.toInt) (p0_hi : p0.toInt ≤ 3201) (p1 : Int32) (p1_lo : 0 ≤ p1.toInt) (p1_hi : p1.toInt ≤ 3202) : Met l yX9_kindOf (zws yX9_kindOf cX9_kindOf 3 (some .int)) rm_X9_kindOf (zP E H0 [.ref h0, .int p0, .int p1]) (zPI (fun r => 0 ≤ r.toInt ∧ r.toInt ≤ 15)) 0 0 (fun _ => False) := by
  refine zEnt (by decide) (Nat.le_of_ble_eq_true rfl) (fun p e s m args below meth c ls Q B hr hlk hh hQ hl => ?_)
  have hx := B.1
  have hb := B.2.1
  have hl : lv_has ls 3 [(0, .ref h0), (1, .int p0), (2, .int p1)] := hl
  refine lv_iload_n hx hb dX9_kindOf_0 rfl (lv_at hl 1 rfl) ?_
  refine lv_aload_n hx hb dX9_kindOf_1 rfl (lv_at hl 0 rfl) ?_
  refine g_getI B fl_RX9_23 hT0 kh0 rfl rfl rfl rfl rfl dX9_kindOf_2 (fun x_1 s_1 a_1 b_1 => ?_)
  refine lv_icmp_lt (tgt := 10) hx hb dX9_kindOf_5 (by decide) (fun c_2 => ?_) (fun c_2 => ?_)
  · have f_2 := z_lt c_2 rfl rfl
    refine lv_aload_n hx hb dX9_kindOf_10 rfl (lv_at hl 0 rfl) ?_
    refine lv_iload_n hx hb dX9_kindOf_11 rfl (lv_at hl 1 rfl) ?_
    refine zkPI (zrV (rest := []) B (c_X9_isDigit l E hV H0 hT0 h0 kh0 p0 (by omega) (by omega)) cl_RX9_45 hT0 kh0 rfl rfl rfl rfl hl.1 rfl (Nat.le_of_ble_eq_true rfl) dX9_kindOf_12 rfl rfl ⟨rfl, rfl⟩ ⟨Nat.zero_le _, Nat.zero_le _⟩ (zO.rf hh)) (fun x_3 hp_3 => ?_)
    obtain ⟨hp_3_1, hp_3_2, hp_3_3⟩ := hp_3
    refine lv_if_eq (tgt := 39) hx hb dX9_kindOf_15 (by decide) (fun c_4 => ?_) (fun c_4 => ?_)
    · have f_4 := z_eq c_4 rfl kl_0
      refine lv_aload_n hx hb dX9_kindOf_39 rfl (lv_at hl 0 rfl) ?_
      refine lv_iload_n hx hb dX9_kindOf_40 rfl (lv_at hl 1 rfl) ?_
      refine zkPI (zrV (rest := []) B (c_X9_isLetter l E hV H0 hT0 h0 kh0 p0 (by omega) (by omega)) cl_RX9_49 hT0 kh0 rfl rfl rfl rfl hl.1 rfl (Nat.le_of_ble_eq_true rfl) dX9_kindOf_41 rfl rfl ⟨rfl, rfl⟩ ⟨Nat.zero_le _, Nat.zero_le _⟩ (zO.rf hh)) (fun x_5 hp_5 => ?_)
      obtain ⟨hp_5_1, hp_5_2, hp_5_3⟩ := hp_5
      refine lv_if_eq (tgt := 68) hx hb dX9_kindOf_44 (by decide) (fun c_6 => ?_) (fun c_6 => ?_)
      · have f_6 := z_eq c_6 rfl kl_0
        refine lv_aload_n hx hb dX9_kindOf_68 rfl (lv_at hl 0 rfl) ?_
        refine g_getR B fl_RX9_26 hT0 kh0 rfl rfl rfl rfl rfl dX9_kindOf_69 (fun q_7 s_7 k_q_7 => ?_)
        refine lv_iload_n hx hb dX9_kindOf_72 rfl (lv_at hl 1 rfl) ?_
        refine g_baldI (i := p0) (N := 1600) B hT0 k_q_7 rfl rfl rfl rfl (by omega) (by omega) rfl dX9_kindOf_73 (fun x_8 s_8 a_8 b_8 => ?_)
        refine lv_bipush (v := 59) hx hb dX9_kindOf_74 (by decide) ?_
        refine lv_icmp_ne (tgt := 83) hx hb dX9_kindOf_76 (by decide) (fun c_9 => ?_) (fun c_9 => ?_)
        · have f_9 := z_ne c_9 rfl kl_59
          refine lv_iconst (v := 1) hx hb dX9_kindOf_83 (by decide) ?_
          have := kl_1
          have := kl_1
          exact rtPI (v := 1) B hr hlk hh hQ rfl ⟨by omega, by omega⟩ dX9_kindOf_84
        · have f_9 := z_eq c_9 rfl kl_59
          refine lv_iconst (v := 3) hx hb dX9_kindOf_79 (by decide) ?_
          refine lv_goto (tgt := 84) hx hb dX9_kindOf_80 (by decide) ?_
          have := kl_3
          have := kl_3
          exact rtPI (v := 3) B hr hlk hh hQ rfl ⟨by omega, by omega⟩ dX9_kindOf_84
      · have f_6 := z_ne c_6 rfl kl_0
        refine lv_iload_n hx hb dX9_kindOf_47 rfl (lv_at hl 2 rfl) ?_
        refine lv_iload_n hx hb dX9_kindOf_48 rfl (lv_at hl 1 rfl) ?_
        refine lv_isub hx hb dX9_kindOf_49 ?_
        refine lv_topi (fun x_10 e_10 => ?_)
        have t_10 := z_sub e_10 rfl rfl (by omega) (by omega)
        refine lv_bipush (v := 8) hx hb dX9_kindOf_50 (by decide) ?_
        refine lv_icmp_le (tgt := 59) hx hb dX9_kindOf_52 (by decide) (fun c_11 => ?_) (fun c_11 => ?_)
        · have f_11 := z_le c_11 rfl kl_8
          refine lv_aload_n hx hb dX9_kindOf_59 rfl (lv_at hl 0 rfl) ?_
          refine lv_iload_n hx hb dX9_kindOf_60 rfl (lv_at hl 1 rfl) ?_
          refine lv_iload_n hx hb dX9_kindOf_61 rfl (lv_at hl 2 rfl) ?_
          refine lv_iload_n hx hb dX9_kindOf_62 rfl (lv_at hl 1 rfl) ?_
          refine lv_isub hx hb dX9_kindOf_63 ?_
          refine lv_topi (fun x_12 e_12 => ?_)
          have t_12 := z_sub e_12 rfl rfl (by omega) (by omega)
          refine zkPI (zrV (rest := []) B (c_X9_wordKind l E hV H0 hT0 h0 kh0 p0 (by omega) (by omega) x_12) cl_RX9_52 hT0 kh0 rfl rfl rfl rfl hl.1 rfl (Nat.le_of_ble_eq_true rfl) dX9_kindOf_64 rfl rfl ⟨rfl, rfl⟩ ⟨Nat.zero_le _, Nat.zero_le _⟩ (zO.rf hh)) (fun x_13 hp_13 => ?_)
          obtain ⟨hp_13_1, hp_13_2⟩ := hp_13
          exact rtPI (v := x_13) B hr hlk hh hQ rfl ⟨by omega, by omega⟩ dX9_kindOf_67
        · have f_11 := z_nle c_11 rfl kl_8
          refine lv_iconst (v := 1) hx hb dX9_kindOf_55 (by decide) ?_
          refine lv_goto (tgt := 67) hx hb dX9_kindOf_56 (by decide) ?_
          have := kl_1
          have := kl_1
          exact rtPI (v := 1) B hr hlk hh hQ rfl ⟨by omega, by omega⟩ dX9_kindOf_67
    · have f_4 := z_ne c_4 rfl kl_0
      refine lv_iload_n hx hb dX9_kindOf_18 rfl (lv_at hl 2 rfl) ?_
      refine lv_iload_n hx hb dX9_kindOf_19 rfl (lv_at hl 1 rfl) ?_
      refine lv_isub hx hb dX9_kindOf_20 ?_
      refine lv_topi (fun x_14 e_14 => ?_)
      have t_14 := z_sub e_14 rfl rfl (by omega) (by omega)
      refine lv_iconst (v := 4) hx hb dX9_kindOf_21 (by decide) ?_
      refine lv_icmp_gt (tgt := 33) hx hb dX9_kindOf_22 (by decide) (fun c_15 => ?_) (fun c_15 => ?_)
      · have f_15 := z_lt c_15 kl_4 rfl
        refine lv_iconst (v := 1) hx hb dX9_kindOf_33 (by decide) ?_
        refine lv_goto (tgt := 38) hx hb dX9_kindOf_34 (by decide) ?_
        have := kl_1
        have := kl_1
        exact rtPI (v := 1) B hr hlk hh hQ rfl ⟨by omega, by omega⟩ dX9_kindOf_38
      · have f_15 := z_nlt c_15 kl_4 rfl
        refine lv_aload_n hx hb dX9_kindOf_25 rfl (lv_at hl 0 rfl) ?_
        refine lv_iload_n hx hb dX9_kindOf_26 rfl (lv_at hl 2 rfl) ?_
        refine zkPI (zrV (rest := []) B (c_X9_isLetter l E hV H0 hT0 h0 kh0 p1 (by omega) (by omega)) cl_RX9_49 hT0 kh0 rfl rfl rfl rfl hl.1 rfl (Nat.le_of_ble_eq_true rfl) dX9_kindOf_27 rfl rfl ⟨rfl, rfl⟩ ⟨Nat.zero_le _, Nat.zero_le _⟩ (zO.rf hh)) (fun x_16 hp_16 => ?_)
        obtain ⟨hp_16_1, hp_16_2, hp_16_3⟩ := hp_16
        refine lv_if_eq (tgt := 37) hx hb dX9_kindOf_30 (by decide) (fun c_17 => ?_) (fun c_17 => ?_)
        · have f_17 := z_eq c_17 rfl kl_0
          refine lv_iconst (v := 2) hx hb dX9_kindOf_37 (by decide) ?_
          have := kl_2
          have := kl_2
          exact rtPI (v := 2) B hr hlk hh hQ rfl ⟨by omega, by omega⟩ dX9_kindOf_38
        · have f_17 := z_ne c_17 rfl kl_0
          refine lv_iconst (v := 1) hx hb dX9_kindOf_33 (by decide) ?_
          refine lv_goto (tgt := 38) hx hb dX9_kindOf_34 (by decide) ?_
          have := kl_1
          have := kl_1
          exact rtPI (v := 1) B hr hlk hh hQ rfl ⟨by omega, by omega⟩ dX9_kindOf_38
  · have f_2 := z_nlt c_2 rfl rfl
    refine lv_iconst (v := 0) hx hb dX9_kindOf_8 (by decide) ?_
    have := kl_0
    have := kl_0
    exact rtPI (v := 0) B hr hlk hh hQ rfl ⟨by omega, by omega⟩ dX9_kindOf_9

theorem dX9_scan_0 : decode cX9_scan 0 = .ok (.aload_n 0, 1) := by decide +kernel
theorem dX9_scan_1 : decode cX9_scan 1 = .ok (.iload_n 1, 1) := by decide +kernel
theorem dX9_scan_2 : decode cX9_scan 2 = .ok (.aload_n 0, 1) := by decide +kernel
theorem dX9_scan_3 : decode cX9_scan 3 = .ok (.getfield 26, 3) := by decide +kernel
theorem dX9_scan_6 : decode cX9_scan 6 = .ok (.arraylength, 1) := by decide +kernel
theorem dX9_scan_7 : decode cX9_scan 7 = .ok (.invokestatic 29, 3) := by decide +kernel
theorem dX9_scan_10 : decode cX9_scan 10 = .ok (.putfield 23, 3) := by decide +kernel
theorem dX9_scan_13 : decode cX9_scan 13 = .ok (.aload_n 0, 1) := by decide +kernel
theorem dX9_scan_14 : decode cX9_scan 14 = .ok (.iconst 0, 1) := by decide +kernel
theorem dX9_scan_15 : decode cX9_scan 15 = .ok (.putfield 9, 3) := by decide +kernel
theorem dX9_scan_18 : decode cX9_scan 18 = .ok (.iconst 3, 1) := by decide +kernel
theorem dX9_scan_19 : decode cX9_scan 19 = .ok (.istore_n 2, 1) := by decide +kernel
theorem dX9_scan_20 : decode cX9_scan 20 = .ok (.iconst 0, 1) := by decide +kernel
theorem dX9_scan_21 : decode cX9_scan 21 = .ok (.istore_n 3, 1) := by decide +kernel
theorem dX9_scan_22 : decode cX9_scan 22 = .ok (.aload_n 0, 1) := by decide +kernel
theorem dX9_scan_23 : decode cX9_scan 23 = .ok (.getfield 9, 3) := by decide +kernel
theorem dX9_scan_26 : decode cX9_scan 26 = .ok (.sipush 1600, 3) := by decide +kernel
theorem dX9_scan_29 : decode cX9_scan 29 = .ok (.if_icmp .gt 70, 3) := by decide +kernel
theorem dX9_scan_32 : decode cX9_scan 32 = .ok (.iload_n 2, 1) := by decide +kernel
theorem dX9_scan_33 : decode cX9_scan 33 = .ok (.ifCond .eq 66, 3) := by decide +kernel
theorem dX9_scan_36 : decode cX9_scan 36 = .ok (.iload_n 2, 1) := by decide +kernel
theorem dX9_scan_37 : decode cX9_scan 37 = .ok (.iconst 1, 1) := by decide +kernel
theorem dX9_scan_38 : decode cX9_scan 38 = .ok (.if_icmp .eq 61, 3) := by decide +kernel
theorem dX9_scan_41 : decode cX9_scan 41 = .ok (.aload_n 0, 1) := by decide +kernel
theorem dX9_scan_42 : decode cX9_scan 42 = .ok (.iload_n 3, 1) := by decide +kernel
theorem dX9_scan_43 : decode cX9_scan 43 = .ok (.invokevirtual 35, 3) := by decide +kernel
theorem dX9_scan_46 : decode cX9_scan 46 = .ok (.istore_n 3, 1) := by decide +kernel
theorem dX9_scan_47 : decode cX9_scan 47 = .ok (.aload_n 0, 1) := by decide +kernel
theorem dX9_scan_48 : decode cX9_scan 48 = .ok (.iload_n 3, 1) := by decide +kernel
theorem dX9_scan_49 : decode cX9_scan 49 = .ok (.invokevirtual 39, 3) := by decide +kernel
theorem dX9_scan_52 : decode cX9_scan 52 = .ok (.istore 4, 2) := by decide +kernel
theorem dX9_scan_54 : decode cX9_scan 54 = .ok (.aload_n 0, 1) := by decide +kernel
theorem dX9_scan_55 : decode cX9_scan 55 = .ok (.iload_n 3, 1) := by decide +kernel
theorem dX9_scan_56 : decode cX9_scan 56 = .ok (.iload 4, 2) := by decide +kernel
theorem dX9_scan_58 : decode cX9_scan 58 = .ok (.invokevirtual 42, 3) := by decide +kernel
theorem dX9_scan_61 : decode cX9_scan 61 = .ok (.istore_n 2, 1) := by decide +kernel
theorem dX9_scan_62 : decode cX9_scan 62 = .ok (.aload_n 0, 1) := by decide +kernel
theorem dX9_scan_63 : decode cX9_scan 63 = .ok (.getfield 15, 3) := by decide +kernel
theorem dX9_scan_66 : decode cX9_scan 66 = .ok (.aload_n 0, 1) := by decide +kernel
theorem dX9_scan_67 : decode cX9_scan 67 = .ok (.getfield 9, 3) := by decide +kernel
theorem dX9_scan_70 : decode cX9_scan 70 = .ok (.iload_n 2, 1) := by decide +kernel
theorem dX9_scan_71 : decode cX9_scan 71 = .ok (.i2b, 1) := by decide +kernel
theorem dX9_scan_72 : decode cX9_scan 72 = .ok (.bastore, 1) := by decide +kernel
theorem dX9_scan_73 : decode cX9_scan 73 = .ok (.aload_n 0, 1) := by decide +kernel
theorem dX9_scan_74 : decode cX9_scan 74 = .ok (.getfield 19, 3) := by decide +kernel
theorem dX9_scan_77 : decode cX9_scan 77 = .ok (.aload_n 0, 1) := by decide +kernel
theorem dX9_scan_78 : decode cX9_scan 78 = .ok (.getfield 9, 3) := by decide +kernel
theorem dX9_scan_81 : decode cX9_scan 81 = .ok (.iload_n 3, 1) := by decide +kernel
theorem dX9_scan_82 : decode cX9_scan 82 = .ok (.iastore, 1) := by decide +kernel
theorem dX9_scan_83 : decode cX9_scan 83 = .ok (.aload_n 0, 1) := by decide +kernel
theorem dX9_scan_84 : decode cX9_scan 84 = .ok (.dup, 1) := by decide +kernel
theorem dX9_scan_85 : decode cX9_scan 85 = .ok (.getfield 9, 3) := by decide +kernel
theorem dX9_scan_88 : decode cX9_scan 88 = .ok (.iconst 1, 1) := by decide +kernel
theorem dX9_scan_89 : decode cX9_scan 89 = .ok (.iadd, 1) := by decide +kernel
theorem dX9_scan_90 : decode cX9_scan 90 = .ok (.putfield 9, 3) := by decide +kernel
theorem dX9_scan_93 : decode cX9_scan 93 = .ok (.iload 4, 2) := by decide +kernel
theorem dX9_scan_95 : decode cX9_scan 95 = .ok (.istore_n 3, 1) := by decide +kernel
theorem dX9_scan_96 : decode cX9_scan 96 = .ok (.goto (-74), 3) := by decide +kernel
theorem dX9_scan_99 : decode cX9_scan 99 = .ok (.return_, 1) := by decide +kernel
def rm_X9_scan : Room := { frames := 8, cells := 0, slots := 0, locals := 173 }
abbrev wS_X9_scan : List (Nat × Nat) := [(10, 0), (10, 4), (48, 99), (49, 99)]
set_option maxRecDepth 100000 in
set_option maxHeartbeats 4000000 in
theorem c_X9_scan (l : Launch) (E : zE) (hV : zV E) (H0 : Heap) (hT0 : HT E H0) (h0 : Nat) (kh0 : eK E h0 = 10) (p0 : Int32) (p0_lo : 0 ≤ p0.toInt) (p0_hi : p0.toInt ≤ 1600) : Met l yX9_scan (zws yX9_scan cX9_scan 5 none) rm_X9_scan (zP E H0 [.ref h0, .int p0]) (zQV E E wS_X9_scan (fun H1 => True)) 0 0 (zfr E) := by
  refine zEnt (by decide) (Nat.le_of_ble_eq_true rfl) (fun p e s m args below meth c ls Q B hr hlk hh hQ hl => ?_)
  have hx := B.1
  have hb := B.2.1
  have hG0 : zG E wS_X9_scan H0 H0 [] := zG.rf hT0
  have hl : lv_has ls 5 [(0, .ref h0), (1, .int p0)] := hl
  have b22 : ∀ (n22 : Nat) (H22 : Heap) (lc22 : List Loc) (ls : Array Slot) (v22_2 : Int32) (v22_3 : Int32) (u22_h0_0 : Int32), 1601 - u22_h0_0.toInt < (n22 : Int) → zG E wS_X9_scan H0 H22 lc22 → lv_has ls 5 [(0, .ref h0), (2, .int v22_2), (3, .int v22_3)] → 0 ≤ v22_2.toInt → v22_2.toInt ≤ 15 → 0 ≤ v22_3.toInt → v22_3.toInt ≤ 3201 → 0 ≤ u22_h0_0.toInt → u22_h0_0.toInt ≤ 1601 → sl H22 h0 (zix E 10 0) = some (.int u22_h0_0) → v22_3.toInt ≤ 1600 + u22_h0_0.toInt → W p l e rm_X9_scan s m args below meth c H22 lc22 0 0 Q (F0 m 22 ls []) := by
    intro n22
    induction n22 with
    | zero =>
      intro H22 lc22 ls v22_2 v22_3 u22_h0_0 hm22 gH22 hl f22_1 f22_2 f22_3 f22_4 f22_5 f22_6 s22_u22_h0_0 f22_7
      exact absurd hm22 (by omega)
    | succ n22 ih22 =>
      intro H22 lc22 ls v22_2 v22_3 u22_h0_0 hm22 gH22 hl f22_1 f22_2 f22_3 f22_4 f22_5 f22_6 s22_u22_h0_0 f22_7
      refine lv_aload_n hx hb dX9_scan_22 rfl (lv_at hl 0 rfl) ?_
      refine g_get B fl_RX9_9 gH22.1 kh0 rfl rfl rfl dX9_scan_23 s22_u22_h0_0 ?_
      refine lv_sipush (v := 1600) hx hb dX9_scan_26 (by decide) ?_
      refine lv_icmp_gt (tgt := 99) hx hb dX9_scan_29 (by decide) (fun c_1 => ?_) (fun c_1 => ?_)
      · have f_1 := z_lt c_1 kl_1600 rfl
        exact rtV B hr hlk hh hQ gH22 trivial dX9_scan_99
      · have f_1 := z_nlt c_1 kl_1600 rfl
        refine lv_iload_n hx hb dX9_scan_32 rfl (lv_at hl 1 rfl) ?_
        refine lv_if_eq (tgt := 99) hx hb dX9_scan_33 (by decide) (fun c_2 => ?_) (fun c_2 => ?_)
        · have f_2 := z_eq c_2 rfl kl_0
          exact rtV B hr hlk hh hQ gH22 trivial dX9_scan_99
        · have f_2 := z_ne c_2 rfl kl_0
          refine lv_iload_n hx hb dX9_scan_36 rfl (lv_at hl 1 rfl) ?_
          refine lv_iconst (v := 1) hx hb dX9_scan_37 (by decide) ?_
          refine lv_icmp_eq (tgt := 99) hx hb dX9_scan_38 (by decide) (fun c_3 => ?_) (fun c_3 => ?_)
          · have f_3 := z_eq c_3 rfl kl_1
            exact rtV B hr hlk hh hQ gH22 trivial dX9_scan_99
          · have f_3 := z_ne c_3 rfl kl_1
            refine lv_aload_n hx hb dX9_scan_41 rfl (lv_at hl 0 rfl) ?_
            refine lv_iload_n hx hb dX9_scan_42 rfl (lv_at hl 2 rfl) ?_
            refine zkPI (zrV (rest := []) B (c_X9_endOfBlanks l E hV H22 gH22.1 h0 kh0 v22_3 (by omega) (by omega)) cl_RX9_35 gH22.1 kh0 rfl rfl rfl rfl hl.1 rfl (Nat.le_of_ble_eq_true rfl) dX9_scan_43 rfl rfl ⟨rfl, rfl⟩ ⟨Nat.zero_le _, Nat.zero_le _⟩ (zO.of gH22 hh)) (fun x_4 hp_4 => ?_)
            obtain ⟨hp_4_1, hp_4_2, hp_4_3⟩ := hp_4
            refine lv_istore_n (lv' := [(3, .int x_4), (0, .ref h0), (2, .int v22_2)]) hx hb dX9_scan_46 rfl hl (by decide) rfl (fun ls hl => ?_)
            refine lv_aload_n hx hb dX9_scan_47 rfl (lv_at hl 1 rfl) ?_
            refine lv_iload_n hx hb dX9_scan_48 rfl (lv_at hl 0 rfl) ?_
            refine zkPI (zrV (rest := []) B (c_X9_endOfToken l E hV H22 gH22.1 h0 kh0 x_4 (by omega) (by omega)) cl_RX9_39 gH22.1 kh0 rfl rfl rfl rfl hl.1 rfl (Nat.le_of_ble_eq_true rfl) dX9_scan_49 rfl rfl ⟨rfl, rfl⟩ ⟨Nat.zero_le _, Nat.zero_le _⟩ (zO.of gH22 hh)) (fun x_5 hp_5 => ?_)
            obtain ⟨hp_5_1, hp_5_2, hp_5_3⟩ := hp_5
            refine lv_istore (lv' := [(4, .int x_5), (3, .int x_4), (0, .ref h0), (2, .int v22_2)]) hx hb dX9_scan_52 hl (by decide) rfl (fun ls hl => ?_)
            refine lv_aload_n hx hb dX9_scan_54 rfl (lv_at hl 2 rfl) ?_
            refine lv_iload_n hx hb dX9_scan_55 rfl (lv_at hl 1 rfl) ?_
            refine lv_iload hx hb dX9_scan_56 (lv_at hl 0 rfl) ?_
            refine zkPI (zrV (rest := []) B (c_X9_kindOf l E hV H22 gH22.1 h0 kh0 x_4 (by omega) (by omega) x_5 (by omega) (by omega)) cl_RX9_42 gH22.1 kh0 rfl rfl rfl rfl hl.1 rfl (Nat.le_of_ble_eq_true rfl) dX9_scan_58 rfl rfl ⟨rfl, rfl⟩ ⟨Nat.zero_le _, Nat.zero_le _⟩ (zO.of gH22 hh)) (fun x_6 hp_6 => ?_)
            obtain ⟨hp_6_1, hp_6_2⟩ := hp_6
            refine lv_istore_n (lv' := [(2, .int x_6), (4, .int x_5), (3, .int x_4), (0, .ref h0)]) hx hb dX9_scan_61 rfl hl (by decide) rfl (fun ls hl => ?_)
            refine lv_aload_n hx hb dX9_scan_62 rfl (lv_at hl 3 rfl) ?_
            refine g_getR B fl_RX9_15 gH22.1 kh0 rfl rfl rfl rfl rfl dX9_scan_63 (fun q_7 s_7 k_q_7 => ?_)
            refine lv_aload_n hx hb dX9_scan_66 rfl (lv_at hl 3 rfl) ?_
            refine g_get B fl_RX9_9 gH22.1 kh0 rfl rfl rfl dX9_scan_67 s22_u22_h0_0 ?_
            refine lv_iload_n hx hb dX9_scan_70 rfl (lv_at hl 0 rfl) ?_
            refine lv_i2b hx hb dX9_scan_71 rfl ?_
            refine lv_topi (fun x_8 e_8 => ?_)
            refine g_bastI (i := u22_h0_0) (N := 1601) B hV gH22 k_q_7 rfl rfl rfl rfl (by omega) (by omega) rfl rfl dX9_scan_72 (fun H9 lc9 gH9 uH9 => ?_)
            have s_10 := uH9.keep (Or.inl (k_ne kh0 k_q_7 rfl)) s22_u22_h0_0
            have s_11 := uH9.keep (Or.inl (k_ne kh0 k_q_7 rfl)) s_7
            refine lv_aload_n hx hb dX9_scan_73 rfl (lv_at hl 3 rfl) ?_
            refine g_getR B fl_RX9_19 gH9.1 kh0 rfl rfl rfl rfl rfl dX9_scan_74 (fun q_12 s_12 k_q_12 => ?_)
            refine lv_aload_n hx hb dX9_scan_77 rfl (lv_at hl 3 rfl) ?_
            refine g_get B fl_RX9_9 gH9.1 kh0 rfl rfl rfl dX9_scan_78 s_10 ?_
            refine lv_iload_n hx hb dX9_scan_81 rfl (lv_at hl 2 rfl) ?_
            refine g_iastI (i := u22_h0_0) (N := 1601) B hV gH9 k_q_12 rfl rfl rfl rfl (by omega) (by omega) rfl (by omega) (by omega) rfl dX9_scan_82 (fun H13 lc13 gH13 uH13 => ?_)
            have s_14 := uH13.keep (Or.inl (k_ne kh0 k_q_12 rfl)) s_10
            have s_15 := uH13.keep (Or.inl (k_ne kh0 k_q_12 rfl)) s_11
            have s_16 := uH13.keep (Or.inl (k_ne kh0 k_q_12 rfl)) s_12
            refine lv_aload_n hx hb dX9_scan_83 rfl (lv_at hl 3 rfl) ?_
            refine lv_dup hx hb dX9_scan_84 rfl ?_
            refine g_get B fl_RX9_9 gH13.1 kh0 rfl rfl rfl dX9_scan_85 s_14 ?_
            refine lv_iconst (v := 1) hx hb dX9_scan_88 (by decide) ?_
            refine lv_iadd hx hb dX9_scan_89 ?_
            refine lv_topi (fun x_17 e_17 => ?_)
            have t_17 := z_add e_17 rfl kl_1 (by omega) (by omega)
            refine g_putI B fp_RX9_9 hV gH13 kh0 rfl rfl rfl rfl rfl (by omega) (by omega) rfl dX9_scan_90 (fun H18 lc18 gH18 uH18 => ?_)
            have s_19 := uH18.keep (Or.inr (j_ne hV rfl rfl rfl rfl)) s_15
            have s_20 := uH18.keep (Or.inr (j_ne hV rfl rfl rfl rfl)) s_16
            refine lv_iload hx hb dX9_scan_93 (lv_at hl 1 rfl) ?_
            refine lv_istore_n (lv' := [(3, .int x_5), (2, .int x_6), (4, .int x_5), (0, .ref h0)]) hx hb dX9_scan_95 rfl hl (by decide) rfl (fun ls hl => ?_)
            refine lv_goto (tgt := 22) hx hb dX9_scan_96 (by decide) ?_
            exact ih22 H18 lc18 ls x_6 x_5 x_17 (by omega) gH18 (lv_sub hl [3, 1, 0] rfl) (by omega) (by omega) (by omega) (by omega) (by omega) (by omega) uH18.2.1 (by omega)
  refine lv_aload_n hx hb dX9_scan_0 rfl (lv_at hl 0 rfl) ?_
  refine lv_iload_n hx hb dX9_scan_1 rfl (lv_at hl 1 rfl) ?_
  refine lv_aload_n hx hb dX9_scan_2 rfl (lv_at hl 0 rfl) ?_
  refine g_getR B fl_RX9_26 hT0 kh0 rfl rfl rfl rfl rfl dX9_scan_3 (fun q_21 s_21 k_q_21 => ?_)
  refine g_alen (n := 1600) B hT0 k_q_21 rfl rfl rfl (by decide) dX9_scan_6 ?_
  refine va_mmin hx hb (B.2.2.1.trans hl.1.symm) B.2.2.2.1 (B.2.2.2.2.1 _ (mc_wsL_law_r17 _ (List.mem_of_getElem? (i := 8) rfl))) (B.2.2.2.2.1 _ (mc_wsL_law_r17 _ (List.mem_of_getElem? (i := 9) rfl))) (B.2.2.2.2.1 _ (mc_wsL_law_r17 _ (List.mem_of_getElem? (i := 10) rfl))) (B.2.2.2.2.1 _ (mc_wsL_law_r17 _ (List.mem_of_getElem? (i := 11) rfl))) (Nat.le_of_ble_eq_true rfl) (Nat.le_of_ble_eq_true rfl) (Nat.zero_le _) (Nat.zero_le _) dX9_scan_7 ?_
  refine lv_topi (fun x_22 e_22 => ?_)
  have t_22 := z_min e_22 rfl kl_1600
  refine g_putI B fp_RX9_23 hV hG0 kh0 rfl rfl rfl rfl rfl (by omega) (by omega) rfl dX9_scan_10 (fun H23 lc23 gH23 uH23 => ?_)
  refine lv_aload_n hx hb dX9_scan_13 rfl (lv_at hl 0 rfl) ?_
  refine lv_iconst (v := 0) hx hb dX9_scan_14 (by decide) ?_
  have := kl_0
  refine g_putI B fp_RX9_9 hV gH23 kh0 rfl rfl rfl rfl rfl (by omega) (by omega) rfl dX9_scan_15 (fun H24 lc24 gH24 uH24 => ?_)
  refine lv_iconst (v := 3) hx hb dX9_scan_18 (by decide) ?_
  refine lv_istore_n (lv' := [(2, .int 3), (0, .ref h0), (1, .int p0)]) hx hb dX9_scan_19 rfl hl (by decide) rfl (fun ls hl => ?_)
  refine lv_iconst (v := 0) hx hb dX9_scan_20 (by decide) ?_
  refine lv_istore_n (lv' := [(3, .int 0), (2, .int 3), (0, .ref h0), (1, .int p0)]) hx hb dX9_scan_21 rfl hl (by decide) rfl (fun ls hl => ?_)
  have := kl_3
  have := kl_0
  have := kl_0
  exact b22 1602 H24 lc24 ls 3 0 0 (by omega) gH24 (lv_sub hl [2, 1, 0] rfl) (by omega) (by omega) (by omega) (by omega) (by omega) (by omega) uH24.2.1 (by omega)

theorem dX9_numberAt_0 : decode cX9_numberAt 0 = .ok (.iconst 0, 1) := by decide +kernel
theorem dX9_numberAt_1 : decode cX9_numberAt 1 = .ok (.istore_n 2, 1) := by decide +kernel
theorem dX9_numberAt_2 : decode cX9_numberAt 2 = .ok (.iload_n 1, 1) := by decide +kernel
theorem dX9_numberAt_3 : decode cX9_numberAt 3 = .ok (.iconst 4, 1) := by decide +kernel
theorem dX9_numberAt_4 : decode cX9_numberAt 4 = .ok (.iadd, 1) := by decide +kernel
theorem dX9_numberAt_5 : decode cX9_numberAt 5 = .ok (.aload_n 0, 1) := by decide +kernel
theorem dX9_numberAt_6 : decode cX9_numberAt 6 = .ok (.getfield 23, 3) := by decide +kernel
theorem dX9_numberAt_9 : decode cX9_numberAt 9 = .ok (.invokestatic 29, 3) := by decide +kernel
theorem dX9_numberAt_12 : decode cX9_numberAt 12 = .ok (.istore_n 3, 1) := by decide +kernel
theorem dX9_numberAt_13 : decode cX9_numberAt 13 = .ok (.iload_n 1, 1) := by decide +kernel
theorem dX9_numberAt_14 : decode cX9_numberAt 14 = .ok (.istore 4, 2) := by decide +kernel
theorem dX9_numberAt_16 : decode cX9_numberAt 16 = .ok (.iload 4, 2) := by decide +kernel
theorem dX9_numberAt_18 : decode cX9_numberAt 18 = .ok (.iload_n 3, 1) := by decide +kernel
theorem dX9_numberAt_19 : decode cX9_numberAt 19 = .ok (.if_icmp .ge 49, 3) := by decide +kernel
theorem dX9_numberAt_22 : decode cX9_numberAt 22 = .ok (.aload_n 0, 1) := by decide +kernel
theorem dX9_numberAt_23 : decode cX9_numberAt 23 = .ok (.getfield 26, 3) := by decide +kernel
theorem dX9_numberAt_26 : decode cX9_numberAt 26 = .ok (.iload 4, 2) := by decide +kernel
theorem dX9_numberAt_28 : decode cX9_numberAt 28 = .ok (.baload, 1) := by decide +kernel
theorem dX9_numberAt_29 : decode cX9_numberAt 29 = .ok (.bipush 48, 2) := by decide +kernel
theorem dX9_numberAt_31 : decode cX9_numberAt 31 = .ok (.if_icmp .lt 37, 3) := by decide +kernel
theorem dX9_numberAt_34 : decode cX9_numberAt 34 = .ok (.aload_n 0, 1) := by decide +kernel
theorem dX9_numberAt_35 : decode cX9_numberAt 35 = .ok (.getfield 26, 3) := by decide +kernel
theorem dX9_numberAt_38 : decode cX9_numberAt 38 = .ok (.iload 4, 2) := by decide +kernel
theorem dX9_numberAt_40 : decode cX9_numberAt 40 = .ok (.baload, 1) := by decide +kernel
theorem dX9_numberAt_41 : decode cX9_numberAt 41 = .ok (.bipush 57, 2) := by decide +kernel
theorem dX9_numberAt_43 : decode cX9_numberAt 43 = .ok (.if_icmp .gt 25, 3) := by decide +kernel
theorem dX9_numberAt_46 : decode cX9_numberAt 46 = .ok (.bipush 10, 2) := by decide +kernel
theorem dX9_numberAt_48 : decode cX9_numberAt 48 = .ok (.iload_n 2, 1) := by decide +kernel
theorem dX9_numberAt_49 : decode cX9_numberAt 49 = .ok (.imul, 1) := by decide +kernel
theorem dX9_numberAt_50 : decode cX9_numberAt 50 = .ok (.aload_n 0, 1) := by decide +kernel
theorem dX9_numberAt_51 : decode cX9_numberAt 51 = .ok (.getfield 26, 3) := by decide +kernel
theorem dX9_numberAt_54 : decode cX9_numberAt 54 = .ok (.iload 4, 2) := by decide +kernel
theorem dX9_numberAt_56 : decode cX9_numberAt 56 = .ok (.baload, 1) := by decide +kernel
theorem dX9_numberAt_57 : decode cX9_numberAt 57 = .ok (.iadd, 1) := by decide +kernel
theorem dX9_numberAt_58 : decode cX9_numberAt 58 = .ok (.bipush 48, 2) := by decide +kernel
theorem dX9_numberAt_60 : decode cX9_numberAt 60 = .ok (.isub, 1) := by decide +kernel
theorem dX9_numberAt_61 : decode cX9_numberAt 61 = .ok (.istore_n 2, 1) := by decide +kernel
theorem dX9_numberAt_62 : decode cX9_numberAt 62 = .ok (.iinc 4 1, 3) := by decide +kernel
theorem dX9_numberAt_65 : decode cX9_numberAt 65 = .ok (.goto (-49), 3) := by decide +kernel
theorem dX9_numberAt_68 : decode cX9_numberAt 68 = .ok (.iload_n 2, 1) := by decide +kernel
theorem dX9_numberAt_69 : decode cX9_numberAt 69 = .ok (.ireturn, 1) := by decide +kernel
def rm_X9_numberAt : Room := { frames := 1, cells := 0, slots := 0, locals := 21 }
set_option maxRecDepth 100000 in
set_option maxHeartbeats 4000000 in
theorem c_X9_numberAt (l : Launch) (E : zE) (hV : zV E) (H0 : Heap) (hT0 : HT E H0) (h0 : Nat) (kh0 : eK E h0 = 10) (p0 : Int32) (p0_lo : 0 ≤ p0.toInt) (p0_hi : p0.toInt ≤ 4000) : Met l yX9_numberAt (zws yX9_numberAt cX9_numberAt 5 (some .int)) rm_X9_numberAt (zP E H0 [.ref h0, .int p0]) (zPI (fun r => True)) 0 0 (fun _ => False) := by
  refine zEnt (by decide) (Nat.le_of_ble_eq_true rfl) (fun p e s m args below meth c ls Q B hr hlk hh hQ hl => ?_)
  have hx := B.1
  have hb := B.2.1
  have hl : lv_has ls 5 [(0, .ref h0), (1, .int p0)] := hl
  have b16 : ∀ (n16 : Nat) (ls : Array Slot) (v16_2 : Int32) (v16_3 : Int32) (v16_4 : Int32), 4000 - v16_4.toInt < (n16 : Int) → lv_has ls 5 [(0, .ref h0), (2, .int v16_2), (3, .int v16_3), (4, .int v16_4)] → 0 ≤ v16_3.toInt → v16_3.toInt ≤ 1600 → 0 ≤ v16_4.toInt → v16_4.toInt ≤ 4000 → W p l e rm_X9_numberAt s m args below meth c H0 [] 0 0 Q (F0 m 16 ls []) := by
    intro n16
    induction n16 with
    | zero =>
      intro ls v16_2 v16_3 v16_4 hm16 hl f16_1 f16_2 f16_3 f16_4
      exact absurd hm16 (by omega)
    | succ n16 ih16 =>
      intro ls v16_2 v16_3 v16_4 hm16 hl f16_1 f16_2 f16_3 f16_4
      refine lv_iload hx hb dX9_numberAt_16 (lv_at hl 3 rfl) ?_
      refine lv_iload_n hx hb dX9_numberAt_18 rfl (lv_at hl 2 rfl) ?_
      refine lv_icmp_ge (tgt := 68) hx hb dX9_numberAt_19 (by decide) (fun c_1 => ?_) (fun c_1 => ?_)
      · have f_1 := z_le c_1 rfl rfl
        refine lv_iload_n hx hb dX9_numberAt_68 rfl (lv_at hl 1 rfl) ?_
        exact rtPI (v := v16_2) B hr hlk hh hQ rfl trivial dX9_numberAt_69
      · have f_1 := z_nle c_1 rfl rfl
        refine lv_aload_n hx hb dX9_numberAt_22 rfl (lv_at hl 0 rfl) ?_
        refine g_getR B fl_RX9_26 hT0 kh0 rfl rfl rfl rfl rfl dX9_numberAt_23 (fun q_2 s_2 k_q_2 => ?_)
        refine lv_iload hx hb dX9_numberAt_26 (lv_at hl 3 rfl) ?_
        refine g_baldI (i := v16_4) (N := 1600) B hT0 k_q_2 rfl rfl rfl rfl (by omega) (by omega) rfl dX9_numberAt_28 (fun x_3 s_3 a_3 b_3 => ?_)
        refine lv_bipush (v := 48) hx hb dX9_numberAt_29 (by decide) ?_
        refine lv_icmp_lt (tgt := 68) hx hb dX9_numberAt_31 (by decide) (fun c_4 => ?_) (fun c_4 => ?_)
        · have f_4 := z_lt c_4 rfl kl_48
          refine lv_iload_n hx hb dX9_numberAt_68 rfl (lv_at hl 1 rfl) ?_
          exact rtPI (v := v16_2) B hr hlk hh hQ rfl trivial dX9_numberAt_69
        · have f_4 := z_nlt c_4 rfl kl_48
          refine lv_aload_n hx hb dX9_numberAt_34 rfl (lv_at hl 0 rfl) ?_
          refine g_get B fl_RX9_26 hT0 kh0 rfl rfl rfl dX9_numberAt_35 s_2 ?_
          refine lv_iload hx hb dX9_numberAt_38 (lv_at hl 3 rfl) ?_
          refine g_bald (i := v16_4) (N := 1600) B hT0 k_q_2 rfl rfl rfl rfl (by omega) (by omega) s_3 dX9_numberAt_40 ?_
          refine lv_bipush (v := 57) hx hb dX9_numberAt_41 (by decide) ?_
          refine lv_icmp_gt (tgt := 68) hx hb dX9_numberAt_43 (by decide) (fun c_5 => ?_) (fun c_5 => ?_)
          · have f_5 := z_lt c_5 kl_57 rfl
            refine lv_iload_n hx hb dX9_numberAt_68 rfl (lv_at hl 1 rfl) ?_
            exact rtPI (v := v16_2) B hr hlk hh hQ rfl trivial dX9_numberAt_69
          · have f_5 := z_nlt c_5 kl_57 rfl
            refine lv_bipush (v := 10) hx hb dX9_numberAt_46 (by decide) ?_
            refine lv_iload_n hx hb dX9_numberAt_48 rfl (lv_at hl 1 rfl) ?_
            refine lv_imul hx hb dX9_numberAt_49 ?_
            refine lv_topi (fun x_6 e_6 => ?_)
            refine lv_aload_n hx hb dX9_numberAt_50 rfl (lv_at hl 0 rfl) ?_
            refine g_get B fl_RX9_26 hT0 kh0 rfl rfl rfl dX9_numberAt_51 s_2 ?_
            refine lv_iload hx hb dX9_numberAt_54 (lv_at hl 3 rfl) ?_
            refine g_bald (i := v16_4) (N := 1600) B hT0 k_q_2 rfl rfl rfl rfl (by omega) (by omega) s_3 dX9_numberAt_56 ?_
            refine lv_iadd hx hb dX9_numberAt_57 ?_
            refine lv_topi (fun x_7 e_7 => ?_)
            refine lv_bipush (v := 48) hx hb dX9_numberAt_58 (by decide) ?_
            refine lv_isub hx hb dX9_numberAt_60 ?_
            refine lv_topi (fun x_8 e_8 => ?_)
            refine lv_istore_n (lv' := [(2, .int x_8), (0, .ref h0), (3, .int v16_3), (4, .int v16_4)]) hx hb dX9_numberAt_61 rfl hl (by decide) rfl (fun ls hl => ?_)
            obtain ⟨x_9, e_9⟩ : ∃ y : Int32, (v16_4 : Int32) + Int32.ofInt 1 = y := ⟨_, rfl⟩
            refine lv_iinc (v := x_9) (lv' := [(4, .int x_9), (2, .int x_8), (0, .ref h0), (3, .int v16_3)]) hx hb dX9_numberAt_62 hl (k := 3) rfl e_9 (by decide) rfl (fun ls hl => ?_)
            have t_9 := z_inc2 e_9 rfl (by decide) (by omega) (by omega)
            refine lv_goto (tgt := 16) hx hb dX9_numberAt_65 (by decide) ?_
            exact ih16 ls x_8 v16_3 x_9 (by omega) (lv_sub hl [2, 1, 3, 0] rfl) (by omega) (by omega) (by omega) (by omega)
  refine lv_iconst (v := 0) hx hb dX9_numberAt_0 (by decide) ?_
  refine lv_istore_n (lv' := [(2, .int 0), (0, .ref h0), (1, .int p0)]) hx hb dX9_numberAt_1 rfl hl (by decide) rfl (fun ls hl => ?_)
  refine lv_iload_n hx hb dX9_numberAt_2 rfl (lv_at hl 2 rfl) ?_
  refine lv_iconst (v := 4) hx hb dX9_numberAt_3 (by decide) ?_
  refine lv_iadd hx hb dX9_numberAt_4 ?_
  refine lv_topi (fun x_10 e_10 => ?_)
  have t_10 := z_add e_10 rfl kl_4 (by omega) (by omega)
  refine lv_aload_n hx hb dX9_numberAt_5 rfl (lv_at hl 1 rfl) ?_
  refine g_getI B fl_RX9_23 hT0 kh0 rfl rfl rfl rfl rfl dX9_numberAt_6 (fun x_11 s_11 a_11 b_11 => ?_)
  refine va_mmin hx hb (B.2.2.1.trans hl.1.symm) B.2.2.2.1 (B.2.2.2.2.1 _ (mc_wsL_law_r17 _ (List.mem_of_getElem? (i := 8) rfl))) (B.2.2.2.2.1 _ (mc_wsL_law_r17 _ (List.mem_of_getElem? (i := 9) rfl))) (B.2.2.2.2.1 _ (mc_wsL_law_r17 _ (List.mem_of_getElem? (i := 10) rfl))) (B.2.2.2.2.1 _ (mc_wsL_law_r17 _ (List.mem_of_getElem? (i := 11) rfl))) (Nat.le_of_ble_eq_true rfl) (Nat.le_of_ble_eq_true rfl) (Nat.zero_le _) (Nat.zero_le _) dX9_numberAt_9 ?_
  refine lv_topi (fun x_12 e_12 => ?_)
  have t_12 := z_min e_12 rfl rfl
  refine lv_istore_n (lv' := [(3, .int x_12), (2, .int 0), (0, .ref h0), (1, .int p0)]) hx hb dX9_numberAt_12 rfl hl (by decide) rfl (fun ls hl => ?_)
  refine lv_iload_n hx hb dX9_numberAt_13 rfl (lv_at hl 3 rfl) ?_
  refine lv_istore (lv' := [(4, .int p0), (3, .int x_12), (2, .int 0), (0, .ref h0), (1, .int p0)]) hx hb dX9_numberAt_14 hl (by decide) rfl (fun ls hl => ?_)
  have := kl_0
  exact b16 4001 ls 0 x_12 p0 (by omega) (lv_sub hl [3, 2, 1, 0] rfl) (by omega) (by omega) (by omega) (by omega)

theorem dX9_isSameWord_0 : decode cX9_isSameWord 0 = .ok (.iconst 0, 1) := by decide +kernel
theorem dX9_isSameWord_1 : decode cX9_isSameWord 1 = .ok (.istore_n 3, 1) := by decide +kernel
theorem dX9_isSameWord_2 : decode cX9_isSameWord 2 = .ok (.iload_n 3, 1) := by decide +kernel
theorem dX9_isSameWord_3 : decode cX9_isSameWord 3 = .ok (.bipush 8, 2) := by decide +kernel
theorem dX9_isSameWord_5 : decode cX9_isSameWord 5 = .ok (.if_icmp .ge 73, 3) := by decide +kernel
theorem dX9_isSameWord_8 : decode cX9_isSameWord 8 = .ok (.aload_n 0, 1) := by decide +kernel
theorem dX9_isSameWord_9 : decode cX9_isSameWord 9 = .ok (.iload_n 1, 1) := by decide +kernel
theorem dX9_isSameWord_10 : decode cX9_isSameWord 10 = .ok (.iload_n 3, 1) := by decide +kernel
theorem dX9_isSameWord_11 : decode cX9_isSameWord 11 = .ok (.iadd, 1) := by decide +kernel
theorem dX9_isSameWord_12 : decode cX9_isSameWord 12 = .ok (.invokevirtual 49, 3) := by decide +kernel
theorem dX9_isSameWord_15 : decode cX9_isSameWord 15 = .ok (.ifCond .eq 13, 3) := by decide +kernel
theorem dX9_isSameWord_18 : decode cX9_isSameWord 18 = .ok (.aload_n 0, 1) := by decide +kernel
theorem dX9_isSameWord_19 : decode cX9_isSameWord 19 = .ok (.iload_n 2, 1) := by decide +kernel
theorem dX9_isSameWord_20 : decode cX9_isSameWord 20 = .ok (.iload_n 3, 1) := by decide +kernel
theorem dX9_isSameWord_21 : decode cX9_isSameWord 21 = .ok (.iadd, 1) := by decide +kernel
theorem dX9_isSameWord_22 : decode cX9_isSameWord 22 = .ok (.invokevirtual 49, 3) := by decide +kernel
theorem dX9_isSameWord_25 : decode cX9_isSameWord 25 = .ok (.ifCond .ne 26, 3) := by decide +kernel
theorem dX9_isSameWord_28 : decode cX9_isSameWord 28 = .ok (.aload_n 0, 1) := by decide +kernel
theorem dX9_isSameWord_29 : decode cX9_isSameWord 29 = .ok (.iload_n 1, 1) := by decide +kernel
theorem dX9_isSameWord_30 : decode cX9_isSameWord 30 = .ok (.iload_n 3, 1) := by decide +kernel
theorem dX9_isSameWord_31 : decode cX9_isSameWord 31 = .ok (.iadd, 1) := by decide +kernel
theorem dX9_isSameWord_32 : decode cX9_isSameWord 32 = .ok (.invokevirtual 49, 3) := by decide +kernel
theorem dX9_isSameWord_35 : decode cX9_isSameWord 35 = .ok (.aload_n 0, 1) := by decide +kernel
theorem dX9_isSameWord_36 : decode cX9_isSameWord 36 = .ok (.iload_n 2, 1) := by decide +kernel
theorem dX9_isSameWord_37 : decode cX9_isSameWord 37 = .ok (.iload_n 3, 1) := by decide +kernel
theorem dX9_isSameWord_38 : decode cX9_isSameWord 38 = .ok (.iadd, 1) := by decide +kernel
theorem dX9_isSameWord_39 : decode cX9_isSameWord 39 = .ok (.invokevirtual 49, 3) := by decide +kernel
theorem dX9_isSameWord_42 : decode cX9_isSameWord 42 = .ok (.if_icmp .ne 7, 3) := by decide +kernel
theorem dX9_isSameWord_45 : decode cX9_isSameWord 45 = .ok (.iconst 1, 1) := by decide +kernel
theorem dX9_isSameWord_46 : decode cX9_isSameWord 46 = .ok (.goto 4, 3) := by decide +kernel
theorem dX9_isSameWord_49 : decode cX9_isSameWord 49 = .ok (.iconst 0, 1) := by decide +kernel
theorem dX9_isSameWord_50 : decode cX9_isSameWord 50 = .ok (.ireturn, 1) := by decide +kernel
theorem dX9_isSameWord_51 : decode cX9_isSameWord 51 = .ok (.aload_n 0, 1) := by decide +kernel
theorem dX9_isSameWord_52 : decode cX9_isSameWord 52 = .ok (.getfield 26, 3) := by decide +kernel
theorem dX9_isSameWord_55 : decode cX9_isSameWord 55 = .ok (.iload_n 1, 1) := by decide +kernel
theorem dX9_isSameWord_56 : decode cX9_isSameWord 56 = .ok (.iload_n 3, 1) := by decide +kernel
theorem dX9_isSameWord_57 : decode cX9_isSameWord 57 = .ok (.iadd, 1) := by decide +kernel
theorem dX9_isSameWord_58 : decode cX9_isSameWord 58 = .ok (.baload, 1) := by decide +kernel
theorem dX9_isSameWord_59 : decode cX9_isSameWord 59 = .ok (.aload_n 0, 1) := by decide +kernel
theorem dX9_isSameWord_60 : decode cX9_isSameWord 60 = .ok (.getfield 26, 3) := by decide +kernel
theorem dX9_isSameWord_63 : decode cX9_isSameWord 63 = .ok (.iload_n 2, 1) := by decide +kernel
theorem dX9_isSameWord_64 : decode cX9_isSameWord 64 = .ok (.iload_n 3, 1) := by decide +kernel
theorem dX9_isSameWord_65 : decode cX9_isSameWord 65 = .ok (.iadd, 1) := by decide +kernel
theorem dX9_isSameWord_66 : decode cX9_isSameWord 66 = .ok (.baload, 1) := by decide +kernel
theorem dX9_isSameWord_67 : decode cX9_isSameWord 67 = .ok (.if_icmp .eq 5, 3) := by decide +kernel
theorem dX9_isSameWord_70 : decode cX9_isSameWord 70 = .ok (.iconst 0, 1) := by decide +kernel
theorem dX9_isSameWord_71 : decode cX9_isSameWord 71 = .ok (.ireturn, 1) := by decide +kernel
theorem dX9_isSameWord_72 : decode cX9_isSameWord 72 = .ok (.iinc 3 1, 3) := by decide +kernel
theorem dX9_isSameWord_75 : decode cX9_isSameWord 75 = .ok (.goto (-73), 3) := by decide +kernel
theorem dX9_isSameWord_78 : decode cX9_isSameWord 78 = .ok (.iconst 1, 1) := by decide +kernel
theorem dX9_isSameWord_79 : decode cX9_isSameWord 79 = .ok (.ireturn, 1) := by decide +kernel
def rm_X9_isSameWord : Room := { frames := 1, cells := 0, slots := 0, locals := 21 }
set_option maxRecDepth 100000 in
set_option maxHeartbeats 4000000 in
theorem c_X9_isSameWord (l : Launch) (E : zE) (hV : zV E) (H0 : Heap) (hT0 : HT E H0) (h0 : Nat) (kh0 : eK E h0 = 10) (p0 : Int32) (p0_lo : 0 ≤ p0.toInt) (p0_hi : p0.toInt ≤ 4000) (p1 : Int32) (p1_lo : 0 ≤ p1.toInt) (p1_hi : p1.toInt ≤ 4000) : Met l yX9_isSameWord (zws yX9_isSameWord cX9_isSameWord 4 (some .boolean)) rm_X9_isSameWord (zP E H0 [.ref h0, .int p0, .int p1]) (zPI (fun r => 0 ≤ r.toInt ∧ r.toInt ≤ 1)) 0 0 (fun _ => False) := by
  refine zEnt (by decide) (Nat.le_of_ble_eq_true rfl) (fun p e s m args below meth c ls Q B hr hlk hh hQ hl => ?_)
  have hx := B.1
  have hb := B.2.1
  have hl : lv_has ls 4 [(0, .ref h0), (1, .int p0), (2, .int p1)] := hl
  have b28 : ∀ (ls : Array Slot) (v28_3 : Int32), lv_has ls 4 [(0, .ref h0), (1, .int p0), (2, .int p1), (3, .int v28_3)] → 0 ≤ v28_3.toInt → v28_3.toInt ≤ 7 → W p l e rm_X9_isSameWord s m args below meth c H0 [] 0 0 Q (F0 m 28 ls []) := by
    intro ls v28_3 hl f28_1 f28_2
    refine lv_aload_n hx hb dX9_isSameWord_28 rfl (lv_at hl 0 rfl) ?_
    refine lv_iload_n hx hb dX9_isSameWord_29 rfl (lv_at hl 1 rfl) ?_
    refine lv_iload_n hx hb dX9_isSameWord_30 rfl (lv_at hl 3 rfl) ?_
    refine lv_iadd hx hb dX9_isSameWord_31 ?_
    refine lv_topi (fun x_1 e_1 => ?_)
    have t_1 := z_add e_1 rfl rfl (by omega) (by omega)
    refine zkPI (zrV (rest := []) B (c_X9_isLetter l E hV H0 hT0 h0 kh0 x_1 (by omega) (by omega)) cl_RX9_49 hT0 kh0 rfl rfl rfl rfl hl.1 rfl (Nat.le_of_ble_eq_true rfl) dX9_isSameWord_32 rfl rfl ⟨rfl, rfl⟩ ⟨Nat.zero_le _, Nat.zero_le _⟩ (zO.rf hh)) (fun x_2 hp_2 => ?_)
    obtain ⟨hp_2_1, hp_2_2, hp_2_3⟩ := hp_2
    refine lv_aload_n hx hb dX9_isSameWord_35 rfl (lv_at hl 0 rfl) ?_
    refine lv_iload_n hx hb dX9_isSameWord_36 rfl (lv_at hl 2 rfl) ?_
    refine lv_iload_n hx hb dX9_isSameWord_37 rfl (lv_at hl 3 rfl) ?_
    refine lv_iadd hx hb dX9_isSameWord_38 ?_
    refine lv_topi (fun x_3 e_3 => ?_)
    have t_3 := z_add e_3 rfl rfl (by omega) (by omega)
    refine zkPI (zrV (rest := [.int x_2]) B (c_X9_isLetter l E hV H0 hT0 h0 kh0 x_3 (by omega) (by omega)) cl_RX9_49 hT0 kh0 rfl rfl rfl rfl hl.1 rfl (Nat.le_of_ble_eq_true rfl) dX9_isSameWord_39 rfl rfl ⟨rfl, rfl⟩ ⟨Nat.zero_le _, Nat.zero_le _⟩ (zO.rf hh)) (fun x_4 hp_4 => ?_)
    obtain ⟨hp_4_1, hp_4_2, hp_4_3⟩ := hp_4
    refine lv_icmp_ne (tgt := 49) hx hb dX9_isSameWord_42 (by decide) (fun c_5 => ?_) (fun c_5 => ?_)
    · have f_5 := z_ne c_5 rfl rfl
      refine lv_iconst (v := 0) hx hb dX9_isSameWord_49 (by decide) ?_
      have := kl_0
      have := kl_0
      exact rtPI (v := 0) B hr hlk hh hQ rfl ⟨by omega, by omega⟩ dX9_isSameWord_50
    · have f_5 := z_eq c_5 rfl rfl
      refine lv_iconst (v := 1) hx hb dX9_isSameWord_45 (by decide) ?_
      refine lv_goto (tgt := 50) hx hb dX9_isSameWord_46 (by decide) ?_
      have := kl_1
      have := kl_1
      exact rtPI (v := 1) B hr hlk hh hQ rfl ⟨by omega, by omega⟩ dX9_isSameWord_50
  have b2 : ∀ (n2 : Nat) (ls : Array Slot) (v2_3 : Int32), 8 - v2_3.toInt < (n2 : Int) → lv_has ls 4 [(0, .ref h0), (1, .int p0), (2, .int p1), (3, .int v2_3)] → 0 ≤ v2_3.toInt → v2_3.toInt ≤ 8 → W p l e rm_X9_isSameWord s m args below meth c H0 [] 0 0 Q (F0 m 2 ls []) := by
    intro n2
    induction n2 with
    | zero =>
      intro ls v2_3 hm2 hl f2_1 f2_2
      exact absurd hm2 (by omega)
    | succ n2 ih2 =>
      intro ls v2_3 hm2 hl f2_1 f2_2
      refine lv_iload_n hx hb dX9_isSameWord_2 rfl (lv_at hl 3 rfl) ?_
      refine lv_bipush (v := 8) hx hb dX9_isSameWord_3 (by decide) ?_
      refine lv_icmp_ge (tgt := 78) hx hb dX9_isSameWord_5 (by decide) (fun c_6 => ?_) (fun c_6 => ?_)
      · have f_6 := z_le c_6 kl_8 rfl
        refine lv_iconst (v := 1) hx hb dX9_isSameWord_78 (by decide) ?_
        have := kl_1
        have := kl_1
        exact rtPI (v := 1) B hr hlk hh hQ rfl ⟨by omega, by omega⟩ dX9_isSameWord_79
      · have f_6 := z_nle c_6 kl_8 rfl
        refine lv_aload_n hx hb dX9_isSameWord_8 rfl (lv_at hl 0 rfl) ?_
        refine lv_iload_n hx hb dX9_isSameWord_9 rfl (lv_at hl 1 rfl) ?_
        refine lv_iload_n hx hb dX9_isSameWord_10 rfl (lv_at hl 3 rfl) ?_
        refine lv_iadd hx hb dX9_isSameWord_11 ?_
        refine lv_topi (fun x_7 e_7 => ?_)
        have t_7 := z_add e_7 rfl rfl (by omega) (by omega)
        refine zkPI (zrV (rest := []) B (c_X9_isLetter l E hV H0 hT0 h0 kh0 x_7 (by omega) (by omega)) cl_RX9_49 hT0 kh0 rfl rfl rfl rfl hl.1 rfl (Nat.le_of_ble_eq_true rfl) dX9_isSameWord_12 rfl rfl ⟨rfl, rfl⟩ ⟨Nat.zero_le _, Nat.zero_le _⟩ (zO.rf hh)) (fun x_8 hp_8 => ?_)
        obtain ⟨hp_8_1, hp_8_2, hp_8_3⟩ := hp_8
        refine lv_if_eq (tgt := 28) hx hb dX9_isSameWord_15 (by decide) (fun c_9 => ?_) (fun c_9 => ?_)
        · have f_9 := z_eq c_9 rfl kl_0
          exact b28 ls v2_3 (lv_sub hl [0, 1, 2, 3] rfl) (by omega) (by omega)
        · have f_9 := z_ne c_9 rfl kl_0
          refine lv_aload_n hx hb dX9_isSameWord_18 rfl (lv_at hl 0 rfl) ?_
          refine lv_iload_n hx hb dX9_isSameWord_19 rfl (lv_at hl 2 rfl) ?_
          refine lv_iload_n hx hb dX9_isSameWord_20 rfl (lv_at hl 3 rfl) ?_
          refine lv_iadd hx hb dX9_isSameWord_21 ?_
          refine lv_topi (fun x_10 e_10 => ?_)
          have t_10 := z_add e_10 rfl rfl (by omega) (by omega)
          refine zkPI (zrV (rest := []) B (c_X9_isLetter l E hV H0 hT0 h0 kh0 x_10 (by omega) (by omega)) cl_RX9_49 hT0 kh0 rfl rfl rfl rfl hl.1 rfl (Nat.le_of_ble_eq_true rfl) dX9_isSameWord_22 rfl rfl ⟨rfl, rfl⟩ ⟨Nat.zero_le _, Nat.zero_le _⟩ (zO.rf hh)) (fun x_11 hp_11 => ?_)
          obtain ⟨hp_11_1, hp_11_2, hp_11_3⟩ := hp_11
          refine lv_if_ne (tgt := 51) hx hb dX9_isSameWord_25 (by decide) (fun c_12 => ?_) (fun c_12 => ?_)
          · have f_12 := z_ne c_12 rfl kl_0
            refine lv_aload_n hx hb dX9_isSameWord_51 rfl (lv_at hl 0 rfl) ?_
            refine g_getR B fl_RX9_26 hT0 kh0 rfl rfl rfl rfl rfl dX9_isSameWord_52 (fun q_13 s_13 k_q_13 => ?_)
            refine lv_iload_n hx hb dX9_isSameWord_55 rfl (lv_at hl 1 rfl) ?_
            refine lv_iload_n hx hb dX9_isSameWord_56 rfl (lv_at hl 3 rfl) ?_
            refine lv_iadd hx hb dX9_isSameWord_57 ?_
            refine lv_topi (fun x_14 e_14 => ?_)
            have t_14 := z_add e_14 rfl rfl (by omega) (by omega)
            refine g_baldI (i := x_14) (N := 1600) B hT0 k_q_13 rfl rfl rfl rfl (by omega) (by omega) rfl dX9_isSameWord_58 (fun x_15 s_15 a_15 b_15 => ?_)
            refine lv_aload_n hx hb dX9_isSameWord_59 rfl (lv_at hl 0 rfl) ?_
            refine g_get B fl_RX9_26 hT0 kh0 rfl rfl rfl dX9_isSameWord_60 s_13 ?_
            refine lv_iload_n hx hb dX9_isSameWord_63 rfl (lv_at hl 2 rfl) ?_
            refine lv_iload_n hx hb dX9_isSameWord_64 rfl (lv_at hl 3 rfl) ?_
            refine lv_iadd hx hb dX9_isSameWord_65 ?_
            refine lv_topi (fun x_16 e_16 => ?_)
            have t_16 := z_add e_16 rfl rfl (by omega) (by omega)
            refine g_baldI (i := x_16) (N := 1600) B hT0 k_q_13 rfl rfl rfl rfl (by omega) (by omega) rfl dX9_isSameWord_66 (fun x_17 s_17 a_17 b_17 => ?_)
            refine lv_icmp_eq (tgt := 72) hx hb dX9_isSameWord_67 (by decide) (fun c_18 => ?_) (fun c_18 => ?_)
            · have f_18 := z_eq c_18 rfl rfl
              obtain ⟨x_19, e_19⟩ : ∃ y : Int32, (v2_3 : Int32) + Int32.ofInt 1 = y := ⟨_, rfl⟩
              refine lv_iinc (v := x_19) (lv' := [(3, .int x_19), (0, .ref h0), (1, .int p0), (2, .int p1)]) hx hb dX9_isSameWord_72 hl (k := 3) rfl e_19 (by decide) rfl (fun ls hl => ?_)
              have t_19 := z_inc2 e_19 rfl (by decide) (by omega) (by omega)
              refine lv_goto (tgt := 2) hx hb dX9_isSameWord_75 (by decide) ?_
              exact ih2 ls x_19 (by omega) (lv_sub hl [1, 2, 3, 0] rfl) (by omega) (by omega)
            · have f_18 := z_ne c_18 rfl rfl
              refine lv_iconst (v := 0) hx hb dX9_isSameWord_70 (by decide) ?_
              have := kl_0
              have := kl_0
              exact rtPI (v := 0) B hr hlk hh hQ rfl ⟨by omega, by omega⟩ dX9_isSameWord_71
          · have f_12 := z_eq c_12 rfl kl_0
            exact b28 ls v2_3 (lv_sub hl [0, 1, 2, 3] rfl) (by omega) (by omega)
  refine lv_iconst (v := 0) hx hb dX9_isSameWord_0 (by decide) ?_
  refine lv_istore_n (lv' := [(3, .int 0), (0, .ref h0), (1, .int p0), (2, .int p1)]) hx hb dX9_isSameWord_1 rfl hl (by decide) rfl (fun ls hl => ?_)
  have := kl_0
  exact b2 9 ls 0 (by omega) (lv_sub hl [1, 2, 3, 0] rfl) (by omega) (by omega)
