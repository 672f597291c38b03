theorem dX12_sign_0 : decode cX12_sign 0 = .ok (.iload_n 1, 1) := by decide +kernel
theorem dX12_sign_1 : decode cX12_sign 1 = .ok (.aload_n 0, 1) := by decide +kernel
theorem dX12_sign_2 : decode cX12_sign 2 = .ok (.getfield 131, 3) := by decide +kernel
theorem dX12_sign_5 : decode cX12_sign 5 = .ok (.if_icmp .ge 16, 3) := by decide +kernel
theorem dX12_sign_8 : decode cX12_sign 8 = .ok (.aload_n 0, 1) := by decide +kernel
theorem dX12_sign_9 : decode cX12_sign 9 = .ok (.getfield 13, 3) := by decide +kernel
theorem dX12_sign_12 : decode cX12_sign 12 = .ok (.iload_n 1, 1) := by decide +kernel
theorem dX12_sign_13 : decode cX12_sign 13 = .ok (.baload, 1) := by decide +kernel
theorem dX12_sign_14 : decode cX12_sign 14 = .ok (.sipush 255, 3) := by decide +kernel
theorem dX12_sign_17 : decode cX12_sign 17 = .ok (.iand, 1) := by decide +kernel
theorem dX12_sign_18 : decode cX12_sign 18 = .ok (.goto 4, 3) := by decide +kernel
theorem dX12_sign_21 : decode cX12_sign 21 = .ok (.iconst 0, 1) := by decide +kernel
theorem dX12_sign_22 : decode cX12_sign 22 = .ok (.ireturn, 1) := by decide +kernel
def rm_X12_sign : Room := { frames := 0, cells := 0, slots := 0, locals := 0 }
set_option maxRecDepth 100000 in
set_option maxHeartbeats 4000000 in
theorem c_X12_sign (l : Launch) (E : zE) (hV : zV E) (H0 : Heap) (hT0 : HT E H0) (h0 : Nat) (kh0 : eK E h0 = 13) (p0 : Int32) (p0_lo : 0 ≤ p0.toInt) (p0_hi : p0.toInt ≤ 1700) (sz : Int32) (s_sz : sl H0 h0 (zix E 13 4) = some (.int sz)) : Met l yX12_sign (zws yX12_sign cX12_sign 2 (some .int)) rm_X12_sign (zP E H0 [.ref h0, .int p0]) (zPI (fun r => 0 ≤ r.toInt ∧ r.toInt ≤ 255 ∧ (r.toInt = 0 ∨ p0.toInt < sz.toInt))) 0 0 (fun _ => False) := by
  refine zEnt (by decide) (Nat.le_of_ble_eq_true rfl) (fun p e s m args below meth c ls Q B hr hlk hh hQ hl => ?_)
  have hx := B.1
  have hb := B.2.1
  have hl : lv_has ls 2 [(0, .ref h0), (1, .int p0)] := hl
  have bd_sz := HT.bdI hT0 kh0 rfl (j := 4) (by decide) rfl s_sz
  refine lv_iload_n hx hb dX12_sign_0 rfl (lv_at hl 1 rfl) ?_
  refine lv_aload_n hx hb dX12_sign_1 rfl (lv_at hl 0 rfl) ?_
  refine g_get B fl_RX12_131 hT0 kh0 rfl rfl rfl dX12_sign_2 s_sz ?_
  refine lv_icmp_ge (tgt := 21) hx hb dX12_sign_5 (by decide) (fun c_1 => ?_) (fun c_1 => ?_)
  · have f_1 := z_le c_1 rfl rfl
    refine lv_iconst (v := 0) hx hb dX12_sign_21 (by decide) ?_
    have := kl_0
    have := kl_0
    exact rtPI (v := 0) B hr hlk hh hQ rfl ⟨by omega, by omega, by omega⟩ dX12_sign_22
  · have f_1 := z_nle c_1 rfl rfl
    refine lv_aload_n hx hb dX12_sign_8 rfl (lv_at hl 0 rfl) ?_
    refine g_getR B fl_RX12_13 hT0 kh0 rfl rfl rfl rfl rfl dX12_sign_9 (fun q_2 s_2 k_q_2 => ?_)
    refine lv_iload_n hx hb dX12_sign_12 rfl (lv_at hl 1 rfl) ?_
    refine g_baldI (i := p0) (N := 1600) B hT0 k_q_2 rfl rfl rfl rfl (by omega) (by omega) rfl dX12_sign_13 (fun x_3 s_3 a_3 b_3 => ?_)
    refine lv_sipush (v := 255) hx hb dX12_sign_14 (by decide) ?_
    refine lv_iand hx hb dX12_sign_17 ?_
    refine lv_topi (fun x_4 e_4 => ?_)
    have t_4 := z_andR e_4 kl_255 (by omega)
    refine lv_goto (tgt := 22) hx hb dX12_sign_18 (by decide) ?_
    exact rtPI (v := x_4) B hr hlk hh hQ rfl ⟨by omega, by omega, by omega⟩ dX12_sign_22

theorem dX12_isLetter_0 : decode cX12_isLetter 0 = .ok (.iload_n 0, 1) := by decide +kernel
theorem dX12_isLetter_1 : decode cX12_isLetter 1 = .ok (.bipush 97, 2) := by decide +kernel
theorem dX12_isLetter_3 : decode cX12_isLetter 3 = .ok (.if_icmp .lt 13, 3) := by decide +kernel
theorem dX12_isLetter_6 : decode cX12_isLetter 6 = .ok (.iload_n 0, 1) := by decide +kernel
theorem dX12_isLetter_7 : decode cX12_isLetter 7 = .ok (.bipush 122, 2) := by decide +kernel
theorem dX12_isLetter_9 : decode cX12_isLetter 9 = .ok (.if_icmp .gt 7, 3) := by decide +kernel
theorem dX12_isLetter_12 : decode cX12_isLetter 12 = .ok (.iconst 1, 1) := by decide +kernel
theorem dX12_isLetter_13 : decode cX12_isLetter 13 = .ok (.goto 4, 3) := by decide +kernel
theorem dX12_isLetter_16 : decode cX12_isLetter 16 = .ok (.iconst 0, 1) := by decide +kernel
theorem dX12_isLetter_17 : decode cX12_isLetter 17 = .ok (.ireturn, 1) := by decide +kernel
def rm_X12_isLetter : Room := { frames := 0, cells := 0, slots := 0, locals := 0 }
set_option maxRecDepth 100000 in
set_option maxHeartbeats 4000000 in
theorem c_X12_isLetter (l : Launch) (E : zE) (hV : zV E) (H0 : Heap) (hT0 : HT E H0) (p0 : Int32) : Met l yX12_isLetter (zws yX12_isLetter cX12_isLetter 1 (some .boolean)) rm_X12_isLetter (zP E H0 [.int p0]) (zPI (fun r => 0 ≤ r.toInt ∧ r.toInt ≤ 1 ∧ (r.toInt = 0 ∨ 1 ≤ p0.toInt))) 0 0 (fun _ => False) := by
  refine zEnt (by decide) (Nat.le_of_ble_eq_true rfl) (fun p e s m args below meth c ls Q B hr hlk hh hQ hl => ?_)
  have hx := B.1
  have hb := B.2.1
  have hl : lv_has ls 1 [(0, .int p0)] := hl
  refine lv_iload_n hx hb dX12_isLetter_0 rfl (lv_at hl 0 rfl) ?_
  refine lv_bipush (v := 97) hx hb dX12_isLetter_1 (by decide) ?_
  refine lv_icmp_lt (tgt := 16) hx hb dX12_isLetter_3 (by decide) (fun c_1 => ?_) (fun c_1 => ?_)
  · have f_1 := z_lt c_1 rfl kl_97
    refine lv_iconst (v := 0) hx hb dX12_isLetter_16 (by decide) ?_
    have := kl_0
    have := kl_0
    exact rtPI (v := 0) B hr hlk hh hQ rfl ⟨by omega, by omega, by omega⟩ dX12_isLetter_17
  · have f_1 := z_nlt c_1 rfl kl_97
    refine lv_iload_n hx hb dX12_isLetter_6 rfl (lv_at hl 0 rfl) ?_
    refine lv_bipush (v := 122) hx hb dX12_isLetter_7 (by decide) ?_
    refine lv_icmp_gt (tgt := 16) hx hb dX12_isLetter_9 (by decide) (fun c_2 => ?_) (fun c_2 => ?_)
    · have f_2 := z_lt c_2 kl_122 rfl
      refine lv_iconst (v := 0) hx hb dX12_isLetter_16 (by decide) ?_
      have := kl_0
      have := kl_0
      exact rtPI (v := 0) B hr hlk hh hQ rfl ⟨by omega, by omega, by omega⟩ dX12_isLetter_17
    · have f_2 := z_nlt c_2 kl_122 rfl
      refine lv_iconst (v := 1) hx hb dX12_isLetter_12 (by decide) ?_
      refine lv_goto (tgt := 17) hx hb dX12_isLetter_13 (by decide) ?_
      have := kl_1
      have := kl_1
      exact rtPI (v := 1) B hr hlk hh hQ rfl ⟨by omega, by omega, by omega⟩ dX12_isLetter_17

theorem dX12_isDigit_0 : decode cX12_isDigit 0 = .ok (.iload_n 0, 1) := by decide +kernel
theorem dX12_isDigit_1 : decode cX12_isDigit 1 = .ok (.bipush 48, 2) := by decide +kernel
theorem dX12_isDigit_3 : decode cX12_isDigit 3 = .ok (.if_icmp .lt 13, 3) := by decide +kernel
theorem dX12_isDigit_6 : decode cX12_isDigit 6 = .ok (.iload_n 0, 1) := by decide +kernel
theorem dX12_isDigit_7 : decode cX12_isDigit 7 = .ok (.bipush 57, 2) := by decide +kernel
theorem dX12_isDigit_9 : decode cX12_isDigit 9 = .ok (.if_icmp .gt 7, 3) := by decide +kernel
theorem dX12_isDigit_12 : decode cX12_isDigit 12 = .ok (.iconst 1, 1) := by decide +kernel
theorem dX12_isDigit_13 : decode cX12_isDigit 13 = .ok (.goto 4, 3) := by decide +kernel
theorem dX12_isDigit_16 : decode cX12_isDigit 16 = .ok (.iconst 0, 1) := by decide +kernel
theorem dX12_isDigit_17 : decode cX12_isDigit 17 = .ok (.ireturn, 1) := by decide +kernel
def rm_X12_isDigit : Room := { frames := 0, cells := 0, slots := 0, locals := 0 }
set_option maxRecDepth 100000 in
set_option maxHeartbeats 4000000 in
theorem c_X12_isDigit (l : Launch) (E : zE) (hV : zV E) (H0 : Heap) (hT0 : HT E H0) (p0 : Int32) : Met l yX12_isDigit (zws yX12_isDigit cX12_isDigit 1 (some .boolean)) rm_X12_isDigit (zP E H0 [.int p0]) (zPI (fun r => 0 ≤ r.toInt ∧ r.toInt ≤ 1 ∧ (r.toInt = 0 ∨ 1 ≤ p0.toInt))) 0 0 (fun _ => False) := by
  refine zEnt (by decide) (Nat.le_of_ble_eq_true rfl) (fun p e s m args below meth c ls Q B hr hlk hh hQ hl => ?_)
  have hx := B.1
  have hb := B.2.1
  have hl : lv_has ls 1 [(0, .int p0)] := hl
  refine lv_iload_n hx hb dX12_isDigit_0 rfl (lv_at hl 0 rfl) ?_
  refine lv_bipush (v := 48) hx hb dX12_isDigit_1 (by decide) ?_
  refine lv_icmp_lt (tgt := 16) hx hb dX12_isDigit_3 (by decide) (fun c_1 => ?_) (fun c_1 => ?_)
  · have f_1 := z_lt c_1 rfl kl_48
    refine lv_iconst (v := 0) hx hb dX12_isDigit_16 (by decide) ?_
    have := kl_0
    have := kl_0
    exact rtPI (v := 0) B hr hlk hh hQ rfl ⟨by omega, by omega, by omega⟩ dX12_isDigit_17
  · have f_1 := z_nlt c_1 rfl kl_48
    refine lv_iload_n hx hb dX12_isDigit_6 rfl (lv_at hl 0 rfl) ?_
    refine lv_bipush (v := 57) hx hb dX12_isDigit_7 (by decide) ?_
    refine lv_icmp_gt (tgt := 16) hx hb dX12_isDigit_9 (by decide) (fun c_2 => ?_) (fun c_2 => ?_)
    · have f_2 := z_lt c_2 kl_57 rfl
      refine lv_iconst (v := 0) hx hb dX12_isDigit_16 (by decide) ?_
      have := kl_0
      have := kl_0
      exact rtPI (v := 0) B hr hlk hh hQ rfl ⟨by omega, by omega, by omega⟩ dX12_isDigit_17
    · have f_2 := z_nlt c_2 kl_57 rfl
      refine lv_iconst (v := 1) hx hb dX12_isDigit_12 (by decide) ?_
      refine lv_goto (tgt := 17) hx hb dX12_isDigit_13 (by decide) ?_
      have := kl_1
      have := kl_1
      exact rtPI (v := 1) B hr hlk hh hQ rfl ⟨by omega, by omega, by omega⟩ dX12_isDigit_17

theorem dX12_fails_0 : decode cX12_fails 0 = .ok (.aload_n 0, 1) := by decide +kernel
theorem dX12_fails_1 : decode cX12_fails 1 = .ok (.getfield 134, 3) := by decide +kernel
theorem dX12_fails_4 : decode cX12_fails 4 = .ok (.ifCond .le 4, 3) := by decide +kernel
theorem dX12_fails_7 : decode cX12_fails 7 = .ok (.return_, 1) := by decide +kernel
theorem dX12_fails_8 : decode cX12_fails 8 = .ok (.aload_n 0, 1) := by decide +kernel
theorem dX12_fails_9 : decode cX12_fails 9 = .ok (.iload_n 1, 1) := by decide +kernel
theorem dX12_fails_10 : decode cX12_fails 10 = .ok (.putfield 134, 3) := by decide +kernel
theorem dX12_fails_13 : decode cX12_fails 13 = .ok (.aload_n 0, 1) := by decide +kernel
theorem dX12_fails_14 : decode cX12_fails 14 = .ok (.iload_n 2, 1) := by decide +kernel
theorem dX12_fails_15 : decode cX12_fails 15 = .ok (.putfield 20, 3) := by decide +kernel
theorem dX12_fails_18 : decode cX12_fails 18 = .ok (.return_, 1) := by decide +kernel
def rm_X12_fails : Room := { frames := 0, cells := 0, slots := 0, locals := 0 }
abbrev wS_X12_fails : List (Nat × Nat) := [(13, 5), (13, 6)]
set_option maxRecDepth 100000 in
set_option maxHeartbeats 4000000 in
theorem c_X12_fails (l : Launch) (E : zE) (hV : zV E) (H0 : Heap) (hT0 : HT E H0) (h0 : Nat) (kh0 : eK E h0 = 13) (p0 : Int32) (p0_lo : 1 ≤ p0.toInt) (p0_hi : p0.toInt ≤ 5) (p1 : Int32) (fk : Int32) (s_fk : sl H0 h0 (zix E 13 5) = some (.int fk)) : Met l yX12_fails (zws yX12_fails cX12_fails 3 none) rm_X12_fails (zP E H0 [.ref h0, .int p0, .int p1]) (zQV E E wS_X12_fails (fun H1 => (∃ f1 : Int32, sl H1 h0 (zix E 13 5) = some (.int f1) ∧ 1 ≤ f1.toInt ∧ f1.toInt ≤ 5))) 0 0 (zfr E) := by
  refine zEnt (by decide) (Nat.le_of_ble_eq_true rfl) (fun p e s m args below meth c ls Q B hr hlk hh hQ hl => ?_)
  have hx := B.1
  have hb := B.2.1
  have hG0 : zG E wS_X12_fails H0 H0 [] := zG.rf hT0
  have hl : lv_has ls 3 [(0, .ref h0), (1, .int p0), (2, .int p1)] := hl
  have bd_fk := HT.bdI hT0 kh0 rfl (j := 5) (by decide) rfl s_fk
  refine lv_aload_n hx hb dX12_fails_0 rfl (lv_at hl 0 rfl) ?_
  refine g_get B fl_RX12_134 hT0 kh0 rfl rfl rfl dX12_fails_1 s_fk ?_
  refine lv_if_le (tgt := 8) hx hb dX12_fails_4 (by decide) (fun c_1 => ?_) (fun c_1 => ?_)
  · have f_1 := z_le c_1 rfl kl_0
    refine lv_aload_n hx hb dX12_fails_8 rfl (lv_at hl 0 rfl) ?_
    refine lv_iload_n hx hb dX12_fails_9 rfl (lv_at hl 1 rfl) ?_
    refine g_putI B fp_RX12_134 hV hG0 kh0 rfl rfl rfl rfl rfl (by omega) (by omega) rfl dX12_fails_10 (fun H2 lc2 gH2 uH2 => ?_)
    refine lv_aload_n hx hb dX12_fails_13 rfl (lv_at hl 0 rfl) ?_
    refine lv_iload_n hx hb dX12_fails_14 rfl (lv_at hl 2 rfl) ?_
    refine g_putI B fp_RX12_20 hV gH2 kh0 rfl rfl rfl rfl rfl (z_rng _).1 (z_rng _).2 rfl dX12_fails_15 (fun H3 lc3 gH3 uH3 => ?_)
    have s_4 := uH3.keep (Or.inr (j_ne hV rfl rfl rfl rfl)) uH2.2.1
    exact rtV B hr hlk hh hQ gH3 (⟨p0, s_4, by omega, by omega⟩) dX12_fails_18
  · have f_1 := z_nle c_1 rfl kl_0
    exact rtV B hr hlk hh hQ hG0 (⟨fk, s_fk, by omega, by omega⟩) dX12_fails_7

theorem dX12_isGood_0 : decode cX12_isGood 0 = .ok (.aload_n 0, 1) := by decide +kernel
theorem dX12_isGood_1 : decode cX12_isGood 1 = .ok (.getfield 134, 3) := by decide +kernel
theorem dX12_isGood_4 : decode cX12_isGood 4 = .ok (.ifCond .ne 7, 3) := by decide +kernel
theorem dX12_isGood_7 : decode cX12_isGood 7 = .ok (.iconst 1, 1) := by decide +kernel
theorem dX12_isGood_8 : decode cX12_isGood 8 = .ok (.goto 4, 3) := by decide +kernel
theorem dX12_isGood_11 : decode cX12_isGood 11 = .ok (.iconst 0, 1) := by decide +kernel
theorem dX12_isGood_12 : decode cX12_isGood 12 = .ok (.ireturn, 1) := by decide +kernel
def rm_X12_isGood : Room := { frames := 0, cells := 0, slots := 0, locals := 0 }
set_option maxRecDepth 100000 in
set_option maxHeartbeats 4000000 in
theorem c_X12_isGood (l : Launch) (E : zE) (hV : zV E) (H0 : Heap) (hT0 : HT E H0) (h0 : Nat) (kh0 : eK E h0 = 13) (fk : Int32) (s_fk : sl H0 h0 (zix E 13 5) = some (.int fk)) : Met l yX12_isGood (zws yX12_isGood cX12_isGood 1 (some .boolean)) rm_X12_isGood (zP E H0 [.ref h0]) (zPI (fun r => 0 ≤ r.toInt ∧ r.toInt ≤ 1 ∧ ((r.toInt = 0 ∧ fk.toInt ≠ 0) ∨ (r.toInt = 1 ∧ fk.toInt = 0)))) 0 0 (fun _ => False) := by
  refine zEnt (by decide) (Nat.le_of_ble_eq_true rfl) (fun p e s m args below meth c ls Q B hr hlk hh hQ hl => ?_)
  have hx := B.1
  have hb := B.2.1
  have hl : lv_has ls 1 [(0, .ref h0)] := hl
  have bd_fk := HT.bdI hT0 kh0 rfl (j := 5) (by decide) rfl s_fk
  refine lv_aload_n hx hb dX12_isGood_0 rfl (lv_at hl 0 rfl) ?_
  refine g_get B fl_RX12_134 hT0 kh0 rfl rfl rfl dX12_isGood_1 s_fk ?_
  refine lv_if_ne (tgt := 11) hx hb dX12_isGood_4 (by decide) (fun c_1 => ?_) (fun c_1 => ?_)
  · have f_1 := z_ne c_1 rfl kl_0
    refine lv_iconst (v := 0) hx hb dX12_isGood_11 (by decide) ?_
    have := kl_0
    have := kl_0
    exact rtPI (v := 0) B hr hlk hh hQ rfl ⟨by omega, by omega, by omega⟩ dX12_isGood_12
  · have f_1 := z_eq c_1 rfl kl_0
    refine lv_iconst (v := 1) hx hb dX12_isGood_7 (by decide) ?_
    refine lv_goto (tgt := 12) hx hb dX12_isGood_8 (by decide) ?_
    have := kl_1
    have := kl_1
    exact rtPI (v := 1) B hr hlk hh hQ rfl ⟨by omega, by omega, by omega⟩ dX12_isGood_12

theorem dX12_isKept_0 : decode cX12_isKept 0 = .ok (.lload_n 0, 1) := by decide +kernel
theorem dX12_isKept_1 : decode cX12_isKept 1 = .ok (.ldc2_w 137, 3) := by decide +kernel
theorem dX12_isKept_4 : decode cX12_isKept 4 = .ok (.lcmp, 1) := by decide +kernel
theorem dX12_isKept_5 : decode cX12_isKept 5 = .ok (.ifCond .eq 83, 3) := by decide +kernel
theorem dX12_isKept_8 : decode cX12_isKept 8 = .ok (.lload_n 0, 1) := by decide +kernel
theorem dX12_isKept_9 : decode cX12_isKept 9 = .ok (.ldc2_w 139, 3) := by decide +kernel
theorem dX12_isKept_12 : decode cX12_isKept 12 = .ok (.lcmp, 1) := by decide +kernel
theorem dX12_isKept_13 : decode cX12_isKept 13 = .ok (.ifCond .eq 75, 3) := by decide +kernel
theorem dX12_isKept_16 : decode cX12_isKept 16 = .ok (.lload_n 0, 1) := by decide +kernel
theorem dX12_isKept_17 : decode cX12_isKept 17 = .ok (.ldc2_w 141, 3) := by decide +kernel
theorem dX12_isKept_20 : decode cX12_isKept 20 = .ok (.lcmp, 1) := by decide +kernel
theorem dX12_isKept_21 : decode cX12_isKept 21 = .ok (.ifCond .eq 67, 3) := by decide +kernel
theorem dX12_isKept_24 : decode cX12_isKept 24 = .ok (.lload_n 0, 1) := by decide +kernel
theorem dX12_isKept_25 : decode cX12_isKept 25 = .ok (.ldc2_w 143, 3) := by decide +kernel
theorem dX12_isKept_28 : decode cX12_isKept 28 = .ok (.lcmp, 1) := by decide +kernel
theorem dX12_isKept_29 : decode cX12_isKept 29 = .ok (.ifCond .eq 59, 3) := by decide +kernel
theorem dX12_isKept_32 : decode cX12_isKept 32 = .ok (.lload_n 0, 1) := by decide +kernel
theorem dX12_isKept_33 : decode cX12_isKept 33 = .ok (.ldc2_w 145, 3) := by decide +kernel
theorem dX12_isKept_36 : decode cX12_isKept 36 = .ok (.lcmp, 1) := by decide +kernel
theorem dX12_isKept_37 : decode cX12_isKept 37 = .ok (.ifCond .eq 51, 3) := by decide +kernel
theorem dX12_isKept_40 : decode cX12_isKept 40 = .ok (.lload_n 0, 1) := by decide +kernel
theorem dX12_isKept_41 : decode cX12_isKept 41 = .ok (.ldc2_w 147, 3) := by decide +kernel
theorem dX12_isKept_44 : decode cX12_isKept 44 = .ok (.lcmp, 1) := by decide +kernel
theorem dX12_isKept_45 : decode cX12_isKept 45 = .ok (.ifCond .eq 43, 3) := by decide +kernel
theorem dX12_isKept_48 : decode cX12_isKept 48 = .ok (.lload_n 0, 1) := by decide +kernel
theorem dX12_isKept_49 : decode cX12_isKept 49 = .ok (.ldc2_w 149, 3) := by decide +kernel
theorem dX12_isKept_52 : decode cX12_isKept 52 = .ok (.lcmp, 1) := by decide +kernel
theorem dX12_isKept_53 : decode cX12_isKept 53 = .ok (.ifCond .eq 35, 3) := by decide +kernel
theorem dX12_isKept_56 : decode cX12_isKept 56 = .ok (.lload_n 0, 1) := by decide +kernel
theorem dX12_isKept_57 : decode cX12_isKept 57 = .ok (.ldc2_w 151, 3) := by decide +kernel
theorem dX12_isKept_60 : decode cX12_isKept 60 = .ok (.lcmp, 1) := by decide +kernel
theorem dX12_isKept_61 : decode cX12_isKept 61 = .ok (.ifCond .eq 27, 3) := by decide +kernel
theorem dX12_isKept_64 : decode cX12_isKept 64 = .ok (.lload_n 0, 1) := by decide +kernel
theorem dX12_isKept_65 : decode cX12_isKept 65 = .ok (.ldc2_w 153, 3) := by decide +kernel
theorem dX12_isKept_68 : decode cX12_isKept 68 = .ok (.lcmp, 1) := by decide +kernel
theorem dX12_isKept_69 : decode cX12_isKept 69 = .ok (.ifCond .eq 19, 3) := by decide +kernel
theorem dX12_isKept_72 : decode cX12_isKept 72 = .ok (.lload_n 0, 1) := by decide +kernel
theorem dX12_isKept_73 : decode cX12_isKept 73 = .ok (.ldc2_w 155, 3) := by decide +kernel
theorem dX12_isKept_76 : decode cX12_isKept 76 = .ok (.lcmp, 1) := by decide +kernel
theorem dX12_isKept_77 : decode cX12_isKept 77 = .ok (.ifCond .eq 11, 3) := by decide +kernel
theorem dX12_isKept_80 : decode cX12_isKept 80 = .ok (.lload_n 0, 1) := by decide +kernel
theorem dX12_isKept_81 : decode cX12_isKept 81 = .ok (.ldc2_w 157, 3) := by decide +kernel
theorem dX12_isKept_84 : decode cX12_isKept 84 = .ok (.lcmp, 1) := by decide +kernel
theorem dX12_isKept_85 : decode cX12_isKept 85 = .ok (.ifCond .ne 7, 3) := by decide +kernel
theorem dX12_isKept_88 : decode cX12_isKept 88 = .ok (.iconst 1, 1) := by decide +kernel
theorem dX12_isKept_89 : decode cX12_isKept 89 = .ok (.goto 4, 3) := by decide +kernel
theorem dX12_isKept_92 : decode cX12_isKept 92 = .ok (.iconst 0, 1) := by decide +kernel
theorem dX12_isKept_93 : decode cX12_isKept 93 = .ok (.ireturn, 1) := by decide +kernel
def rm_X12_isKept : Room := { frames := 0, cells := 0, slots := 0, locals := 0 }
set_option maxRecDepth 100000 in
set_option maxHeartbeats 4000000 in
theorem c_X12_isKept (l : Launch) (E : zE) (hV : zV E) (H0 : Heap) (hT0 : HT E H0) (p0 : Int64) : Met l yX12_isKept (zws yX12_isKept cX12_isKept 2 (some .boolean)) rm_X12_isKept (zP E H0 [.long p0]) (zPI (fun r => 0 ≤ r.toInt ∧ r.toInt ≤ 1)) 0 0 (fun _ => False) := by
  refine zEnt (by decide) (Nat.le_of_ble_eq_true rfl) (fun p e s m args below meth c ls Q B hr hlk hh hQ hl => ?_)
  have hx := B.1
  have hb := B.2.1
  have hl : lv_has ls 2 [(0, .long p0)] := hl
  refine lv_lload_n hx hb dX12_isKept_0 rfl (lv_at hl 0 rfl) ?_
  refine lv_ldc2 hx hb B.2.2.2.1 (B.2.2.2.2.1 _ (mc_wsL_law_r25 _ (List.mem_of_getElem? (i := 20) rfl))) dX12_isKept_1 ?_
  refine W.lcmp hx hb dX12_isKept_4 ?_
  refine lv_topi (fun x_1 e_1 => ?_)
  have t_1 := z_lcmpI e_1
  have := kL_422775452260
  refine lv_if_eq (tgt := 88) hx hb dX12_isKept_5 (by decide) (fun c_2 => ?_) (fun c_2 => ?_)
  · have f_2 := z_eq c_2 rfl kl_0
    refine lv_iconst (v := 1) hx hb dX12_isKept_88 (by decide) ?_
    refine lv_goto (tgt := 93) hx hb dX12_isKept_89 (by decide) ?_
    have := kl_1
    have := kl_1
    exact rtPI (v := 1) B hr hlk hh hQ rfl ⟨by omega, by omega⟩ dX12_isKept_93
  · have f_2 := z_ne c_2 rfl kl_0
    refine lv_lload_n hx hb dX12_isKept_8 rfl (lv_at hl 0 rfl) ?_
    refine lv_ldc2 hx hb B.2.2.2.1 (B.2.2.2.2.1 _ (mc_wsL_law_r25 _ (List.mem_of_getElem? (i := 21) rfl))) dX12_isKept_9 ?_
    refine W.lcmp hx hb dX12_isKept_12 ?_
    refine lv_topi (fun x_3 e_3 => ?_)
    have t_3 := z_lcmpI e_3
    have := kL_25209
    refine lv_if_eq (tgt := 88) hx hb dX12_isKept_13 (by decide) (fun c_4 => ?_) (fun c_4 => ?_)
    · have f_4 := z_eq c_4 rfl kl_0
      refine lv_iconst (v := 1) hx hb dX12_isKept_88 (by decide) ?_
      refine lv_goto (tgt := 93) hx hb dX12_isKept_89 (by decide) ?_
      have := kl_1
      have := kl_1
      exact rtPI (v := 1) B hr hlk hh hQ rfl ⟨by omega, by omega⟩ dX12_isKept_93
    · have f_4 := z_ne c_4 rfl kl_0
      refine lv_lload_n hx hb dX12_isKept_16 rfl (lv_at hl 0 rfl) ?_
      refine lv_ldc2 hx hb B.2.2.2.1 (B.2.2.2.2.1 _ (mc_wsL_law_r25 _ (List.mem_of_getElem? (i := 22) rfl))) dX12_isKept_17 ?_
      refine W.lcmp hx hb dX12_isKept_20 ?_
      refine lv_topi (fun x_5 e_5 => ?_)
      have t_5 := z_lcmpI e_5
      have := kL_482804589413
      refine lv_if_eq (tgt := 88) hx hb dX12_isKept_21 (by decide) (fun c_6 => ?_) (fun c_6 => ?_)
      · have f_6 := z_eq c_6 rfl kl_0
        refine lv_iconst (v := 1) hx hb dX12_isKept_88 (by decide) ?_
        refine lv_goto (tgt := 93) hx hb dX12_isKept_89 (by decide) ?_
        have := kl_1
        have := kl_1
        exact rtPI (v := 1) B hr hlk hh hQ rfl ⟨by omega, by omega⟩ dX12_isKept_93
      · have f_6 := z_ne c_6 rfl kl_0
        refine lv_lload_n hx hb dX12_isKept_24 rfl (lv_at hl 0 rfl) ?_
        refine lv_ldc2 hx hb B.2.2.2.1 (B.2.2.2.2.1 _ (mc_wsL_law_r25 _ (List.mem_of_getElem? (i := 23) rfl))) dX12_isKept_25 ?_
        refine W.lcmp hx hb dX12_isKept_28 ?_
        refine lv_topi (fun x_7 e_7 => ?_)
        have t_7 := z_lcmpI e_7
        have := kL_1802071655
        refine lv_if_eq (tgt := 88) hx hb dX12_isKept_29 (by decide) (fun c_8 => ?_) (fun c_8 => ?_)
        · have f_8 := z_eq c_8 rfl kl_0
          refine lv_iconst (v := 1) hx hb dX12_isKept_88 (by decide) ?_
          refine lv_goto (tgt := 93) hx hb dX12_isKept_89 (by decide) ?_
          have := kl_1
          have := kl_1
          exact rtPI (v := 1) B hr hlk hh hQ rfl ⟨by omega, by omega⟩ dX12_isKept_93
        · have f_8 := z_ne c_8 rfl kl_0
          refine lv_lload_n hx hb dX12_isKept_32 rfl (lv_at hl 0 rfl) ?_
          refine lv_ldc2 hx hb B.2.2.2.1 (B.2.2.2.2.1 _ (mc_wsL_law_r26 _ (List.mem_of_getElem? (i := 0) rfl))) dX12_isKept_33 ?_
          refine W.lcmp hx hb dX12_isKept_36 ?_
          refine lv_topi (fun x_9 e_9 => ?_)
          have t_9 := z_lcmpI e_9
          have := kL_1818583408
          refine lv_if_eq (tgt := 88) hx hb dX12_isKept_37 (by decide) (fun c_10 => ?_) (fun c_10 => ?_)
          · have f_10 := z_eq c_10 rfl kl_0
            refine lv_iconst (v := 1) hx hb dX12_isKept_88 (by decide) ?_
            refine lv_goto (tgt := 93) hx hb dX12_isKept_89 (by decide) ?_
            have := kl_1
            have := kl_1
            exact rtPI (v := 1) B hr hlk hh hQ rfl ⟨by omega, by omega⟩ dX12_isKept_93
          · have f_10 := z_ne c_10 rfl kl_0
            refine lv_lload_n hx hb dX12_isKept_40 rfl (lv_at hl 0 rfl) ?_
            refine lv_ldc2 hx hb B.2.2.2.1 (B.2.2.2.2.1 _ (mc_wsL_law_r26 _ (List.mem_of_getElem? (i := 1) rfl))) dX12_isKept_41 ?_
            refine W.lcmp hx hb dX12_isKept_44 ?_
            refine lv_topi (fun x_11 e_11 => ?_)
            have t_11 := z_lcmpI e_11
            have := kL_1919509605
            refine lv_if_eq (tgt := 88) hx hb dX12_isKept_45 (by decide) (fun c_12 => ?_) (fun c_12 => ?_)
            · have f_12 := z_eq c_12 rfl kl_0
              refine lv_iconst (v := 1) hx hb dX12_isKept_88 (by decide) ?_
              refine lv_goto (tgt := 93) hx hb dX12_isKept_89 (by decide) ?_
              have := kl_1
              have := kl_1
              exact rtPI (v := 1) B hr hlk hh hQ rfl ⟨by omega, by omega⟩ dX12_isKept_93
            · have f_12 := z_ne c_12 rfl kl_0
              refine lv_lload_n hx hb dX12_isKept_48 rfl (lv_at hl 0 rfl) ?_
              refine lv_ldc2 hx hb B.2.2.2.1 (B.2.2.2.2.1 _ (mc_wsL_law_r26 _ (List.mem_of_getElem? (i := 2) rfl))) dX12_isKept_49 ?_
              refine W.lcmp hx hb dX12_isKept_52 ?_
              refine lv_topi (fun x_13 e_13 => ?_)
              have t_13 := z_lcmpI e_13
              have := kL_28832985044316772
              refine lv_if_eq (tgt := 88) hx hb dX12_isKept_53 (by decide) (fun c_14 => ?_) (fun c_14 => ?_)
              · have f_14 := z_eq c_14 rfl kl_0
                refine lv_iconst (v := 1) hx hb dX12_isKept_88 (by decide) ?_
                refine lv_goto (tgt := 93) hx hb dX12_isKept_89 (by decide) ?_
                have := kl_1
                have := kl_1
                exact rtPI (v := 1) B hr hlk hh hQ rfl ⟨by omega, by omega⟩ dX12_isKept_93
              · have f_14 := z_ne c_14 rfl kl_0
                refine lv_lload_n hx hb dX12_isKept_56 rfl (lv_at hl 0 rfl) ?_
                refine lv_ldc2 hx hb B.2.2.2.1 (B.2.2.2.2.1 _ (mc_wsL_law_r26 _ (List.mem_of_getElem? (i := 3) rfl))) dX12_isKept_57 ?_
                refine W.lcmp hx hb dX12_isKept_60 ?_
                refine lv_topi (fun x_15 e_15 => ?_)
                have t_15 := z_lcmpI e_15
                have := kL_512852849765
                refine lv_if_eq (tgt := 88) hx hb dX12_isKept_61 (by decide) (fun c_16 => ?_) (fun c_16 => ?_)
                · have f_16 := z_eq c_16 rfl kl_0
                  refine lv_iconst (v := 1) hx hb dX12_isKept_88 (by decide) ?_
                  refine lv_goto (tgt := 93) hx hb dX12_isKept_89 (by decide) ?_
                  have := kl_1
                  have := kl_1
                  exact rtPI (v := 1) B hr hlk hh hQ rfl ⟨by omega, by omega⟩ dX12_isKept_93
                · have f_16 := z_ne c_16 rfl kl_0
                  refine lv_lload_n hx hb dX12_isKept_64 rfl (lv_at hl 0 rfl) ?_
                  refine lv_ldc2 hx hb B.2.2.2.1 (B.2.2.2.2.1 _ (mc_wsL_law_r26 _ (List.mem_of_getElem? (i := 4) rfl))) dX12_isKept_65 ?_
                  refine W.lcmp hx hb dX12_isKept_68 ?_
                  refine lv_topi (fun x_17 e_17 => ?_)
                  have t_17 := z_lcmpI e_17
                  have := kL_422725116779
                  refine lv_if_eq (tgt := 88) hx hb dX12_isKept_69 (by decide) (fun c_18 => ?_) (fun c_18 => ?_)
                  · have f_18 := z_eq c_18 rfl kl_0
                    refine lv_iconst (v := 1) hx hb dX12_isKept_88 (by decide) ?_
                    refine lv_goto (tgt := 93) hx hb dX12_isKept_89 (by decide) ?_
                    have := kl_1
                    have := kl_1
                    exact rtPI (v := 1) B hr hlk hh hQ rfl ⟨by omega, by omega⟩ dX12_isKept_93
                  · have f_18 := z_ne c_18 rfl kl_0
                    refine lv_lload_n hx hb dX12_isKept_72 rfl (lv_at hl 0 rfl) ?_
                    refine lv_ldc2 hx hb B.2.2.2.1 (B.2.2.2.2.1 _ (mc_wsL_law_r26 _ (List.mem_of_getElem? (i := 5) rfl))) dX12_isKept_73 ?_
                    refine W.lcmp hx hb dX12_isKept_76 ?_
                    refine lv_topi (fun x_19 e_19 => ?_)
                    have t_19 := z_lcmpI e_19
                    have := kL_24948
                    refine lv_if_eq (tgt := 88) hx hb dX12_isKept_77 (by decide) (fun c_20 => ?_) (fun c_20 => ?_)
                    · have f_20 := z_eq c_20 rfl kl_0
                      refine lv_iconst (v := 1) hx hb dX12_isKept_88 (by decide) ?_
                      refine lv_goto (tgt := 93) hx hb dX12_isKept_89 (by decide) ?_
                      have := kl_1
                      have := kl_1
                      exact rtPI (v := 1) B hr hlk hh hQ rfl ⟨by omega, by omega⟩ dX12_isKept_93
                    · have f_20 := z_ne c_20 rfl kl_0
                      refine lv_lload_n hx hb dX12_isKept_80 rfl (lv_at hl 0 rfl) ?_
                      refine lv_ldc2 hx hb B.2.2.2.1 (B.2.2.2.2.1 _ (mc_wsL_law_r26 _ (List.mem_of_getElem? (i := 6) rfl))) dX12_isKept_81 ?_
                      refine W.lcmp hx hb dX12_isKept_84 ?_
                      refine lv_topi (fun x_21 e_21 => ?_)
                      have t_21 := z_lcmpI e_21
                      have := kL_439904990056
                      refine lv_if_ne (tgt := 92) hx hb dX12_isKept_85 (by decide) (fun c_22 => ?_) (fun c_22 => ?_)
                      · have f_22 := z_ne c_22 rfl kl_0
                        refine lv_iconst (v := 0) hx hb dX12_isKept_92 (by decide) ?_
                        have := kl_0
                        have := kl_0
                        exact rtPI (v := 0) B hr hlk hh hQ rfl ⟨by omega, by omega⟩ dX12_isKept_93
                      · have f_22 := z_eq c_22 rfl kl_0
                        refine lv_iconst (v := 1) hx hb dX12_isKept_88 (by decide) ?_
                        refine lv_goto (tgt := 93) hx hb dX12_isKept_89 (by decide) ?_
                        have := kl_1
                        have := kl_1
                        exact rtPI (v := 1) B hr hlk hh hQ rfl ⟨by omega, by omega⟩ dX12_isKept_93

theorem dX12_isWord_0 : decode cX12_isWord 0 = .ok (.aload_n 0, 1) := by decide +kernel
theorem dX12_isWord_1 : decode cX12_isWord 1 = .ok (.getfield 169, 3) := by decide +kernel
theorem dX12_isWord_4 : decode cX12_isWord 4 = .ok (.iconst 3, 1) := by decide +kernel
theorem dX12_isWord_5 : decode cX12_isWord 5 = .ok (.if_icmp .ne 16, 3) := by decide +kernel
theorem dX12_isWord_8 : decode cX12_isWord 8 = .ok (.aload_n 0, 1) := by decide +kernel
theorem dX12_isWord_9 : decode cX12_isWord 9 = .ok (.getfield 176, 3) := by decide +kernel
theorem dX12_isWord_12 : decode cX12_isWord 12 = .ok (.lload_n 1, 1) := by decide +kernel
theorem dX12_isWord_13 : decode cX12_isWord 13 = .ok (.lcmp, 1) := by decide +kernel
theorem dX12_isWord_14 : decode cX12_isWord 14 = .ok (.ifCond .ne 7, 3) := by decide +kernel
theorem dX12_isWord_17 : decode cX12_isWord 17 = .ok (.iconst 1, 1) := by decide +kernel
theorem dX12_isWord_18 : decode cX12_isWord 18 = .ok (.goto 4, 3) := by decide +kernel
theorem dX12_isWord_21 : decode cX12_isWord 21 = .ok (.iconst 0, 1) := by decide +kernel
theorem dX12_isWord_22 : decode cX12_isWord 22 = .ok (.ireturn, 1) := by decide +kernel
def rm_X12_isWord : Room := { frames := 0, cells := 0, slots := 0, locals := 0 }
set_option maxRecDepth 100000 in
set_option maxHeartbeats 4000000 in
theorem c_X12_isWord (l : Launch) (E : zE) (hV : zV E) (H0 : Heap) (hT0 : HT E H0) (h0 : Nat) (kh0 : eK E h0 = 13) (p0 : Int64) (t0 : Int32) (s_t0 : sl H0 h0 (zix E 13 9) = some (.int t0)) (nm : Int64) (s_nm : sl H0 h0 (zix E 13 11) = some (.long nm)) : Met l yX12_isWord (zws yX12_isWord cX12_isWord 3 (some .boolean)) rm_X12_isWord (zP E H0 [.ref h0, .long p0]) (zPI (fun r => 0 ≤ r.toInt ∧ r.toInt ≤ 1 ∧ ((r.toInt = 1 ∧ t0.toInt = 3 ∧ nm.toInt = p0.toInt) ∨ (r.toInt = 0 ∧ (t0.toInt ≠ 3 ∨ nm.toInt ≠ p0.toInt))))) 0 0 (fun _ => False) := by
  refine zEnt (by decide) (Nat.le_of_ble_eq_true rfl) (fun p e s m args below meth c ls Q B hr hlk hh hQ hl => ?_)
  have hx := B.1
  have hb := B.2.1
  have hl : lv_has ls 3 [(0, .ref h0), (1, .long p0)] := hl
  have bd_t0 := HT.bdI hT0 kh0 rfl (j := 9) (by decide) rfl s_t0
  refine lv_aload_n hx hb dX12_isWord_0 rfl (lv_at hl 0 rfl) ?_
  refine g_get B fl_RX12_169 hT0 kh0 rfl rfl rfl dX12_isWord_1 s_t0 ?_
  refine lv_iconst (v := 3) hx hb dX12_isWord_4 (by decide) ?_
  refine lv_icmp_ne (tgt := 21) hx hb dX12_isWord_5 (by decide) (fun c_1 => ?_) (fun c_1 => ?_)
  · have f_1 := z_ne c_1 rfl kl_3
    refine lv_iconst (v := 0) hx hb dX12_isWord_21 (by decide) ?_
    have := kl_0
    have := kl_0
    exact rtPI (v := 0) B hr hlk hh hQ rfl ⟨by omega, by omega, by omega⟩ dX12_isWord_22
  · have f_1 := z_eq c_1 rfl kl_3
    refine lv_aload_n hx hb dX12_isWord_8 rfl (lv_at hl 0 rfl) ?_
    refine g_get B fl_RX12_176 hT0 kh0 rfl rfl rfl dX12_isWord_9 s_nm ?_
    refine lv_lload_n hx hb dX12_isWord_12 rfl (lv_at hl 1 rfl) ?_
    refine W.lcmp hx hb dX12_isWord_13 ?_
    refine lv_topi (fun x_2 e_2 => ?_)
    have t_2 := z_lcmpI e_2
    refine lv_if_ne (tgt := 21) hx hb dX12_isWord_14 (by decide) (fun c_3 => ?_) (fun c_3 => ?_)
    · have f_3 := z_ne c_3 rfl kl_0
      refine lv_iconst (v := 0) hx hb dX12_isWord_21 (by decide) ?_
      have := kl_0
      have := kl_0
      exact rtPI (v := 0) B hr hlk hh hQ rfl ⟨by omega, by omega, by omega⟩ dX12_isWord_22
    · have f_3 := z_eq c_3 rfl kl_0
      refine lv_iconst (v := 1) hx hb dX12_isWord_17 (by decide) ?_
      refine lv_goto (tgt := 22) hx hb dX12_isWord_18 (by decide) ?_
      have := kl_1
      have := kl_1
      exact rtPI (v := 1) B hr hlk hh hQ rfl ⟨by omega, by omega, by omega⟩ dX12_isWord_22

theorem dX12_misplaced_0 : decode cX12_misplaced 0 = .ok (.aload_n 0, 1) := by decide +kernel
theorem dX12_misplaced_1 : decode cX12_misplaced 1 = .ok (.aload_n 0, 1) := by decide +kernel
theorem dX12_misplaced_2 : decode cX12_misplaced 2 = .ok (.getfield 169, 3) := by decide +kernel
theorem dX12_misplaced_5 : decode cX12_misplaced 5 = .ok (.iconst 1, 1) := by decide +kernel
theorem dX12_misplaced_6 : decode cX12_misplaced 6 = .ok (.if_icmp .ne 7, 3) := by decide +kernel
theorem dX12_misplaced_9 : decode cX12_misplaced 9 = .ok (.iconst 1, 1) := by decide +kernel
theorem dX12_misplaced_10 : decode cX12_misplaced 10 = .ok (.goto 4, 3) := by decide +kernel
theorem dX12_misplaced_13 : decode cX12_misplaced 13 = .ok (.iconst 2, 1) := by decide +kernel
theorem dX12_misplaced_14 : decode cX12_misplaced 14 = .ok (.aload_n 0, 1) := by decide +kernel
theorem dX12_misplaced_15 : decode cX12_misplaced 15 = .ok (.getfield 162, 3) := by decide +kernel
theorem dX12_misplaced_18 : decode cX12_misplaced 18 = .ok (.invokevirtual 190, 3) := by decide +kernel
theorem dX12_misplaced_21 : decode cX12_misplaced 21 = .ok (.return_, 1) := by decide +kernel
def rm_X12_misplaced : Room := { frames := 1, cells := 0, slots := 0, locals := 22 }
abbrev wS_X12_misplaced : List (Nat × Nat) := [(13, 5), (13, 6)]
set_option maxRecDepth 100000 in
set_option maxHeartbeats 4000000 in
theorem c_X12_misplaced (l : Launch) (E : zE) (hV : zV E) (H0 : Heap) (hT0 : HT E H0) (h0 : Nat) (kh0 : eK E h0 = 13) (fk : Int32) (s_fk : sl H0 h0 (zix E 13 5) = some (.int fk)) : Met l yX12_misplaced (zws yX12_misplaced cX12_misplaced 1 none) rm_X12_misplaced (zP E H0 [.ref h0]) (zQV E E wS_X12_misplaced (fun H1 => (∃ f1 : Int32, sl H1 h0 (zix E 13 5) = some (.int f1) ∧ 1 ≤ f1.toInt ∧ f1.toInt ≤ 5))) 0 0 (zfr E) := by
  refine zEnt (by decide) (Nat.le_of_ble_eq_true rfl) (fun p e s m args below meth c ls Q B hr hlk hh hQ hl => ?_)
  have hx := B.1
  have hb := B.2.1
  have hG0 : zG E wS_X12_misplaced H0 H0 [] := zG.rf hT0
  have hl : lv_has ls 1 [(0, .ref h0)] := hl
  have bd_fk := HT.bdI hT0 kh0 rfl (j := 5) (by decide) rfl s_fk
  have b14 : ∀ (ls : Array Slot) (w14_0 : Int32), lv_has ls 1 [(0, .ref h0)] → 1 ≤ w14_0.toInt → w14_0.toInt ≤ 2 → sl H0 h0 (zix E 13 5) = some (.int fk) → W p l e rm_X12_misplaced s m args below meth c H0 [] 0 0 Q (F0 m 14 ls [.int w14_0, .ref h0]) := by
    intro ls w14_0 hl f14_1 f14_2 s14_u14_h0_5
    refine lv_aload_n hx hb dX12_misplaced_14 rfl (lv_at hl 0 rfl) ?_
    refine g_getI B fl_RX12_162 hT0 kh0 rfl rfl rfl rfl rfl dX12_misplaced_15 (fun x_1 s_1 a_1 b_1 => ?_)
    refine zkV (zrV (rest := []) B (c_X12_fails l E hV H0 hT0 h0 kh0 w14_0 (by omega) (by omega) x_1 fk s14_u14_h0_5) cl_RX12_190 hT0 kh0 rfl rfl rfl rfl hl.1 rfl (Nat.le_of_ble_eq_true rfl) dX12_misplaced_18 rfl rfl ⟨rfl, rfl⟩ ⟨Nat.zero_le _, Nat.zero_le _⟩ (zO.of hG0 hh)) hG0 rfl (fun H2 lc2 hp_2 gH2 rH2 => ?_)
    obtain ⟨k_3, sk_3, ak_3, bk_3⟩ := hp_2
    exact rtV B hr hlk hh hQ gH2 (⟨k_3, sk_3, by omega, by omega⟩) dX12_misplaced_21
  refine lv_aload_n hx hb dX12_misplaced_0 rfl (lv_at hl 0 rfl) ?_
  refine lv_aload_n hx hb dX12_misplaced_1 rfl (lv_at hl 0 rfl) ?_
  refine g_getI B fl_RX12_169 hT0 kh0 rfl rfl rfl rfl rfl dX12_misplaced_2 (fun x_4 s_4 a_4 b_4 => ?_)
  refine lv_iconst (v := 1) hx hb dX12_misplaced_5 (by decide) ?_
  refine lv_icmp_ne (tgt := 13) hx hb dX12_misplaced_6 (by decide) (fun c_5 => ?_) (fun c_5 => ?_)
  · have f_5 := z_ne c_5 rfl kl_1
    refine lv_iconst (v := 2) hx hb dX12_misplaced_13 (by decide) ?_
    have := kl_2
    exact b14 ls 2 (lv_sub hl [0] rfl) (by omega) (by omega) s_fk
  · have f_5 := z_eq c_5 rfl kl_1
    refine lv_iconst (v := 1) hx hb dX12_misplaced_9 (by decide) ?_
    refine lv_goto (tgt := 14) hx hb dX12_misplaced_10 (by decide) ?_
    have := kl_1
    exact b14 ls 1 (lv_sub hl [0] rfl) (by omega) (by omega) s_fk

theorem dX12_firstOf_0 : decode cX12_firstOf 0 = .ok (.sipush 194, 3) := by decide +kernel
theorem dX12_firstOf_3 : decode cX12_firstOf 3 = .ok (.iload_n 1, 1) := by decide +kernel
theorem dX12_firstOf_4 : decode cX12_firstOf 4 = .ok (.iadd, 1) := by decide +kernel
theorem dX12_firstOf_5 : decode cX12_firstOf 5 = .ok (.ireturn, 1) := by decide +kernel
def rm_X12_firstOf : Room := { frames := 0, cells := 0, slots := 0, locals := 0 }
set_option maxRecDepth 100000 in
set_option maxHeartbeats 4000000 in
theorem c_X12_firstOf (l : Launch) (E : zE) (hV : zV E) (H0 : Heap) (hT0 : HT E H0) (h0 : Nat) (kh0 : eK E h0 = 13) (p0 : Int32) (p0_lo : 0 ≤ p0.toInt) (p0_hi : p0.toInt ≤ 1) : Met l yX12_firstOf (zws yX12_firstOf cX12_firstOf 2 (some .int)) rm_X12_firstOf (zP E H0 [.ref h0, .int p0]) (zPI (fun r => 194 ≤ r.toInt ∧ r.toInt ≤ 195)) 0 0 (fun _ => False) := by
  refine zEnt (by decide) (Nat.le_of_ble_eq_true rfl) (fun p e s m args below meth c ls Q B hr hlk hh hQ hl => ?_)
  have hx := B.1
  have hb := B.2.1
  have hl : lv_has ls 2 [(0, .ref h0), (1, .int p0)] := hl
  refine lv_sipush (v := 194) hx hb dX12_firstOf_0 (by decide) ?_
  refine lv_iload_n hx hb dX12_firstOf_3 rfl (lv_at hl 1 rfl) ?_
  refine lv_iadd hx hb dX12_firstOf_4 ?_
  refine lv_topi (fun x_1 e_1 => ?_)
  have t_1 := z_add e_1 kl_194 rfl (by omega) (by omega)
  exact rtPI (v := x_1) B hr hlk hh hQ rfl ⟨by omega, by omega⟩ dX12_firstOf_5

theorem dX12_isIn_0 : decode cX12_isIn 0 = .ok (.iload_n 0, 1) := by decide +kernel
theorem dX12_isIn_1 : decode cX12_isIn 1 = .ok (.iload_n 1, 1) := by decide +kernel
theorem dX12_isIn_2 : decode cX12_isIn 2 = .ok (.if_icmp .lt 12, 3) := by decide +kernel
theorem dX12_isIn_5 : decode cX12_isIn 5 = .ok (.iload_n 0, 1) := by decide +kernel
theorem dX12_isIn_6 : decode cX12_isIn 6 = .ok (.iload_n 2, 1) := by decide +kernel
theorem dX12_isIn_7 : decode cX12_isIn 7 = .ok (.if_icmp .gt 7, 3) := by decide +kernel
theorem dX12_isIn_10 : decode cX12_isIn 10 = .ok (.iconst 1, 1) := by decide +kernel
theorem dX12_isIn_11 : decode cX12_isIn 11 = .ok (.goto 4, 3) := by decide +kernel
theorem dX12_isIn_14 : decode cX12_isIn 14 = .ok (.iconst 0, 1) := by decide +kernel
theorem dX12_isIn_15 : decode cX12_isIn 15 = .ok (.ireturn, 1) := by decide +kernel
def rm_X12_isIn : Room := { frames := 0, cells := 0, slots := 0, locals := 0 }
set_option maxRecDepth 100000 in
set_option maxHeartbeats 4000000 in
theorem c_X12_isIn (l : Launch) (E : zE) (hV : zV E) (H0 : Heap) (hT0 : HT E H0) (p0 : Int32) (p1 : Int32) (p2 : Int32) : Met l yX12_isIn (zws yX12_isIn cX12_isIn 3 (some .boolean)) rm_X12_isIn (zP E H0 [.int p0, .int p1, .int p2]) (zPI (fun r => 0 ≤ r.toInt ∧ r.toInt ≤ 1 ∧ (r.toInt = 0 ∨ (p1.toInt ≤ p0.toInt ∧ p0.toInt ≤ p2.toInt)))) 0 0 (fun _ => False) := by
  refine zEnt (by decide) (Nat.le_of_ble_eq_true rfl) (fun p e s m args below meth c ls Q B hr hlk hh hQ hl => ?_)
  have hx := B.1
  have hb := B.2.1
  have hl : lv_has ls 3 [(0, .int p0), (1, .int p1), (2, .int p2)] := hl
  refine lv_iload_n hx hb dX12_isIn_0 rfl (lv_at hl 0 rfl) ?_
  refine lv_iload_n hx hb dX12_isIn_1 rfl (lv_at hl 1 rfl) ?_
  refine lv_icmp_lt (tgt := 14) hx hb dX12_isIn_2 (by decide) (fun c_1 => ?_) (fun c_1 => ?_)
  · have f_1 := z_lt c_1 rfl rfl
    refine lv_iconst (v := 0) hx hb dX12_isIn_14 (by decide) ?_
    have := kl_0
    have := kl_0
    exact rtPI (v := 0) B hr hlk hh hQ rfl ⟨by omega, by omega, by omega⟩ dX12_isIn_15
  · have f_1 := z_nlt c_1 rfl rfl
    refine lv_iload_n hx hb dX12_isIn_5 rfl (lv_at hl 0 rfl) ?_
    refine lv_iload_n hx hb dX12_isIn_6 rfl (lv_at hl 2 rfl) ?_
    refine lv_icmp_gt (tgt := 14) hx hb dX12_isIn_7 (by decide) (fun c_2 => ?_) (fun c_2 => ?_)
    · have f_2 := z_lt c_2 rfl rfl
      refine lv_iconst (v := 0) hx hb dX12_isIn_14 (by decide) ?_
      have := kl_0
      have := kl_0
      exact rtPI (v := 0) B hr hlk hh hQ rfl ⟨by omega, by omega, by omega⟩ dX12_isIn_15
    · have f_2 := z_nlt c_2 rfl rfl
      refine lv_iconst (v := 1) hx hb dX12_isIn_10 (by decide) ?_
      refine lv_goto (tgt := 15) hx hb dX12_isIn_11 (by decide) ?_
      have := kl_1
      have := kl_1
      exact rtPI (v := 1) B hr hlk hh hQ rfl ⟨by omega, by omega, by omega⟩ dX12_isIn_15

theorem dX12_bitsOf_0 : decode cX12_bitsOf 0 = .ok (.iconst 0, 1) := by decide +kernel
theorem dX12_bitsOf_1 : decode cX12_bitsOf 1 = .ok (.istore_n 1, 1) := by decide +kernel
theorem dX12_bitsOf_2 : decode cX12_bitsOf 2 = .ok (.iconst 0, 1) := by decide +kernel
theorem dX12_bitsOf_3 : decode cX12_bitsOf 3 = .ok (.istore_n 2, 1) := by decide +kernel
theorem dX12_bitsOf_4 : decode cX12_bitsOf 4 = .ok (.iload_n 2, 1) := by decide +kernel
theorem dX12_bitsOf_5 : decode cX12_bitsOf 5 = .ok (.bipush 31, 2) := by decide +kernel
theorem dX12_bitsOf_7 : decode cX12_bitsOf 7 = .ok (.if_icmp .ge 17, 3) := by decide +kernel
theorem dX12_bitsOf_10 : decode cX12_bitsOf 10 = .ok (.iload_n 1, 1) := by decide +kernel
theorem dX12_bitsOf_11 : decode cX12_bitsOf 11 = .ok (.iload_n 0, 1) := by decide +kernel
theorem dX12_bitsOf_12 : decode cX12_bitsOf 12 = .ok (.iload_n 2, 1) := by decide +kernel
theorem dX12_bitsOf_13 : decode cX12_bitsOf 13 = .ok (.ishr, 1) := by decide +kernel
theorem dX12_bitsOf_14 : decode cX12_bitsOf 14 = .ok (.iconst 1, 1) := by decide +kernel
theorem dX12_bitsOf_15 : decode cX12_bitsOf 15 = .ok (.iand, 1) := by decide +kernel
theorem dX12_bitsOf_16 : decode cX12_bitsOf 16 = .ok (.iadd, 1) := by decide +kernel
theorem dX12_bitsOf_17 : decode cX12_bitsOf 17 = .ok (.istore_n 1, 1) := by decide +kernel
theorem dX12_bitsOf_18 : decode cX12_bitsOf 18 = .ok (.iinc 2 1, 3) := by decide +kernel
theorem dX12_bitsOf_21 : decode cX12_bitsOf 21 = .ok (.goto (-17), 3) := by decide +kernel
theorem dX12_bitsOf_24 : decode cX12_bitsOf 24 = .ok (.iload_n 1, 1) := by decide +kernel
theorem dX12_bitsOf_25 : decode cX12_bitsOf 25 = .ok (.ireturn, 1) := by decide +kernel
def rm_X12_bitsOf : Room := { frames := 0, cells := 0, slots := 0, locals := 0 }
set_option maxRecDepth 100000 in
set_option maxHeartbeats 4000000 in
theorem c_X12_bitsOf (l : Launch) (E : zE) (hV : zV E) (H0 : Heap) (hT0 : HT E H0) (p0 : Int32) : Met l yX12_bitsOf (zws yX12_bitsOf cX12_bitsOf 3 (some .int)) rm_X12_bitsOf (zP E H0 [.int p0]) (zPI (fun r => True)) 0 0 (fun _ => False) := by
  refine zEnt (by decide) (Nat.le_of_ble_eq_true rfl) (fun p e s m args below meth c ls Q B hr hlk hh hQ hl => ?_)
  have hx := B.1
  have hb := B.2.1
  have hl : lv_has ls 3 [(0, .int p0)] := hl
  have b4 : ∀ (n4 : Nat) (ls : Array Slot) (v4_1 : Int32) (v4_2 : Int32), 31 - v4_2.toInt < (n4 : Int) → lv_has ls 3 [(0, .int p0), (1, .int v4_1), (2, .int v4_2)] → 0 ≤ v4_2.toInt → v4_2.toInt ≤ 31 → W p l e rm_X12_bitsOf s m args below meth c H0 [] 0 0 Q (F0 m 4 ls []) := by
    intro n4
    induction n4 with
    | zero =>
      intro ls v4_1 v4_2 hm4 hl f4_1 f4_2
      exact absurd hm4 (by omega)
    | succ n4 ih4 =>
      intro ls v4_1 v4_2 hm4 hl f4_1 f4_2
      refine lv_iload_n hx hb dX12_bitsOf_4 rfl (lv_at hl 2 rfl) ?_
      refine lv_bipush (v := 31) hx hb dX12_bitsOf_5 (by decide) ?_
      refine lv_icmp_ge (tgt := 24) hx hb dX12_bitsOf_7 (by decide) (fun c_1 => ?_) (fun c_1 => ?_)
      · have f_1 := z_le c_1 kl_31 rfl
        refine lv_iload_n hx hb dX12_bitsOf_24 rfl (lv_at hl 1 rfl) ?_
        exact rtPI (v := v4_1) B hr hlk hh hQ rfl trivial dX12_bitsOf_25
      · have f_1 := z_nle c_1 kl_31 rfl
        refine lv_iload_n hx hb dX12_bitsOf_10 rfl (lv_at hl 1 rfl) ?_
        refine lv_iload_n hx hb dX12_bitsOf_11 rfl (lv_at hl 0 rfl) ?_
        refine lv_iload_n hx hb dX12_bitsOf_12 rfl (lv_at hl 2 rfl) ?_
        refine lv_ishr hx hb dX12_bitsOf_13 ?_
        refine lv_topi (fun x_2 e_2 => ?_)
        refine lv_iconst (v := 1) hx hb dX12_bitsOf_14 (by decide) ?_
        refine lv_iand hx hb dX12_bitsOf_15 ?_
        refine lv_topi (fun x_3 e_3 => ?_)
        have t_3 := z_andR e_3 kl_1 (by omega)
        refine lv_iadd hx hb dX12_bitsOf_16 ?_
        refine lv_topi (fun x_4 e_4 => ?_)
        refine lv_istore_n (lv' := [(1, .int x_4), (0, .int p0), (2, .int v4_2)]) hx hb dX12_bitsOf_17 rfl hl (by decide) rfl (fun ls hl => ?_)
        obtain ⟨x_5, e_5⟩ : ∃ y : Int32, (v4_2 : Int32) + Int32.ofInt 1 = y := ⟨_, rfl⟩
        refine lv_iinc (v := x_5) (lv' := [(2, .int x_5), (1, .int x_4), (0, .int p0)]) hx hb dX12_bitsOf_18 hl (k := 2) rfl e_5 (by decide) rfl (fun ls hl => ?_)
        have t_5 := z_inc2 e_5 rfl (by decide) (by omega) (by omega)
        refine lv_goto (tgt := 4) hx hb dX12_bitsOf_21 (by decide) ?_
        exact ih4 ls x_4 x_5 (by omega) (lv_sub hl [2, 1, 0] rfl) (by omega) (by omega)
  refine lv_iconst (v := 0) hx hb dX12_bitsOf_0 (by decide) ?_
  refine lv_istore_n (lv' := [(1, .int 0), (0, .int p0)]) hx hb dX12_bitsOf_1 rfl hl (by decide) rfl (fun ls hl => ?_)
  refine lv_iconst (v := 0) hx hb dX12_bitsOf_2 (by decide) ?_
  refine lv_istore_n (lv' := [(2, .int 0), (1, .int 0), (0, .int p0)]) hx hb dX12_bitsOf_3 rfl hl (by decide) rfl (fun ls hl => ?_)
  have := kl_0
  have := kl_0
  exact b4 32 ls 0 0 (by omega) (lv_sub hl [2, 1, 0] rfl) (by omega) (by omega)

theorem dX12_squares_0 : decode cX12_squares 0 = .ok (.aload_n 0, 1) := by decide +kernel
theorem dX12_squares_1 : decode cX12_squares 1 = .ok (.getfield 24, 3) := by decide +kernel
theorem dX12_squares_4 : decode cX12_squares 4 = .ok (.aload_n 0, 1) := by decide +kernel
theorem dX12_squares_5 : decode cX12_squares 5 = .ok (.getfield 217, 3) := by decide +kernel
theorem dX12_squares_8 : decode cX12_squares 8 = .ok (.iaload, 1) := by decide +kernel
theorem dX12_squares_9 : decode cX12_squares 9 = .ok (.aload_n 0, 1) := by decide +kernel
theorem dX12_squares_10 : decode cX12_squares 10 = .ok (.getfield 27, 3) := by decide +kernel
theorem dX12_squares_13 : decode cX12_squares 13 = .ok (.aload_n 0, 1) := by decide +kernel
theorem dX12_squares_14 : decode cX12_squares 14 = .ok (.getfield 217, 3) := by decide +kernel
theorem dX12_squares_17 : decode cX12_squares 17 = .ok (.iaload, 1) := by decide +kernel
theorem dX12_squares_18 : decode cX12_squares 18 = .ok (.imul, 1) := by decide +kernel
theorem dX12_squares_19 : decode cX12_squares 19 = .ok (.ireturn, 1) := by decide +kernel
def rm_X12_squares : Room := { frames := 0, cells := 0, slots := 0, locals := 0 }
set_option maxRecDepth 100000 in
set_option maxHeartbeats 4000000 in
theorem c_X12_squares (l : Launch) (E : zE) (hV : zV E) (H0 : Heap) (hT0 : HT E H0) (h0 : Nat) (kh0 : eK E h0 = 13) (fa : Nat) (kfa : eK E fa = 61) (s_fa : sl H0 h0 (zix E 13 12) = some (.ref fa)) (bk : Int32) (s_bk : sl H0 h0 (zix E 13 26) = some (.int bk)) (fv : Int32) (s_fv : sl H0 fa bk.toNatClampNeg = some (.int fv)) : Met l yX12_squares (zws yX12_squares cX12_squares 1 (some .int)) rm_X12_squares (zP E H0 [.ref h0]) (zPI (fun r => 0 ≤ r.toInt ∧ r.toInt ≤ 30 ∧ (r.toInt = 0 ∨ 1 ≤ fv.toInt))) 0 0 (fun _ => False) := by
  refine zEnt (by decide) (Nat.le_of_ble_eq_true rfl) (fun p e s m args below meth c ls Q B hr hlk hh hQ hl => ?_)
  have hx := B.1
  have hb := B.2.1
  have hl : lv_has ls 1 [(0, .ref h0)] := hl
  have bd_bk := HT.bdI hT0 kh0 rfl (j := 26) (by decide) rfl s_bk
  have bd_fv := HT.bdE (i := bk) (N := 2) hT0 kfa rfl rfl rfl (by omega) (by omega) rfl s_fv
  refine lv_aload_n hx hb dX12_squares_0 rfl (lv_at hl 0 rfl) ?_
  refine g_get B fl_RX12_24 hT0 kh0 rfl rfl rfl dX12_squares_1 s_fa ?_
  refine lv_aload_n hx hb dX12_squares_4 rfl (lv_at hl 0 rfl) ?_
  refine g_get B fl_RX12_217 hT0 kh0 rfl rfl rfl dX12_squares_5 s_bk ?_
  refine g_iald (i := bk) (N := 2) B hT0 kfa rfl rfl rfl rfl (by omega) (by omega) s_fv dX12_squares_8 ?_
  refine lv_aload_n hx hb dX12_squares_9 rfl (lv_at hl 0 rfl) ?_
  refine g_getR B fl_RX12_27 hT0 kh0 rfl rfl rfl rfl rfl dX12_squares_10 (fun q_1 s_1 k_q_1 => ?_)
  refine lv_aload_n hx hb dX12_squares_13 rfl (lv_at hl 0 rfl) ?_
  refine g_get B fl_RX12_217 hT0 kh0 rfl rfl rfl dX12_squares_14 s_bk ?_
  refine g_ialdI (i := bk) (N := 2) B hT0 k_q_1 rfl rfl rfl rfl (by omega) (by omega) rfl dX12_squares_17 (fun x_2 s_2 a_2 b_2 => ?_)
  refine lv_imul hx hb dX12_squares_18 ?_
  refine lv_topi (fun x_3 e_3 => ?_)
  have m_3 := z_mulB (a := fv.toInt) (b := x_2.toInt) (A := 5) (B := 6) (by omega) (by omega) (by omega) (by omega)
  have t_3 := z_mul e_3 rfl rfl (by omega) (by omega)
  exact rtPI (v := x_3) B hr hlk hh hQ rfl ⟨by omega, by omega, by have := z_sq (a := fv.toInt) (b := x_2.toInt) (by omega); omega⟩ dX12_squares_19

theorem dX12_of_0 : decode cX12_of 0 = .ok (.aload_n 0, 1) := by decide +kernel
theorem dX12_of_1 : decode cX12_of 1 = .ok (.getfield 16, 3) := by decide +kernel
theorem dX12_of_4 : decode cX12_of 4 = .ok (.bipush 31, 2) := by decide +kernel
theorem dX12_of_6 : decode cX12_of 6 = .ok (.iload_n 1, 1) := by decide +kernel
theorem dX12_of_7 : decode cX12_of 7 = .ok (.imul, 1) := by decide +kernel
theorem dX12_of_8 : decode cX12_of 8 = .ok (.iload_n 2, 1) := by decide +kernel
theorem dX12_of_9 : decode cX12_of 9 = .ok (.iadd, 1) := by decide +kernel
theorem dX12_of_10 : decode cX12_of 10 = .ok (.iaload, 1) := by decide +kernel
theorem dX12_of_11 : decode cX12_of 11 = .ok (.ireturn, 1) := by decide +kernel
def rm_X12_of : Room := { frames := 0, cells := 0, slots := 0, locals := 0 }
set_option maxRecDepth 100000 in
set_option maxHeartbeats 4000000 in
theorem c_X12_of (l : Launch) (E : zE) (hV : zV E) (H0 : Heap) (hT0 : HT E H0) (h0 : Nat) (kh0 : eK E h0 = 13) (p0 : Int32) (p0_lo : 0 ≤ p0.toInt) (p0_hi : p0.toInt ≤ 195) (p1 : Int32) (p1_lo : 0 ≤ p1.toInt) (p1_hi : p1.toInt ≤ 30) (pl : Nat) (kpl : eK E pl = 60) (s_pl : sl H0 h0 (zix E 13 2) = some (.ref pl)) : Met l yX12_of (zws yX12_of cX12_of 3 (some .int)) rm_X12_of (zP E H0 [.ref h0, .int p0, .int p1]) (zPI (fun r => (p1.toInt = 30 ∨ (-1 ≤ r.toInt ∧ r.toInt ≤ 11)) ∧ (sl H0 pl (31 * p0.toInt + p1.toInt).toNat = some (.int r)))) 0 0 (fun _ => False) := by
  refine zEnt (by decide) (Nat.le_of_ble_eq_true rfl) (fun p e s m args below meth c ls Q B hr hlk hh hQ hl => ?_)
  have hx := B.1
  have hb := B.2.1
  have hl : lv_has ls 3 [(0, .ref h0), (1, .int p0), (2, .int p1)] := hl
  refine lv_aload_n hx hb dX12_of_0 rfl (lv_at hl 0 rfl) ?_
  refine g_get B fl_RX12_16 hT0 kh0 rfl rfl rfl dX12_of_1 s_pl ?_
  refine lv_bipush (v := 31) hx hb dX12_of_4 (by decide) ?_
  refine lv_iload_n hx hb dX12_of_6 rfl (lv_at hl 1 rfl) ?_
  refine lv_imul hx hb dX12_of_7 ?_
  refine lv_topi (fun x_1 e_1 => ?_)
  have t_1 := z_mul e_1 kl_31 rfl (by omega) (by omega)
  refine lv_iload_n hx hb dX12_of_8 rfl (lv_at hl 2 rfl) ?_
  refine lv_iadd hx hb dX12_of_9 ?_
  refine lv_topi (fun x_2 e_2 => ?_)
  have t_2 := z_add e_2 rfl rfl (by omega) (by omega)
  refine g_ialdP (i := x_2) (N := 6076) B hT0 kpl rfl rfl rfl rfl (fun _ => rfl) (by omega) (by omega) dX12_of_10 (fun x_3 s_3 a_3 => ?_)
  have := z_cl (x := x_2) (by omega)
  exact rtPI (v := x_3) B hr hlk hh hQ rfl ⟨by omega, z_idx s_3 (by omega)⟩ dX12_of_11

theorem dX12_put_0 : decode cX12_put 0 = .ok (.aload_n 0, 1) := by decide +kernel
theorem dX12_put_1 : decode cX12_put 1 = .ok (.getfield 16, 3) := by decide +kernel
theorem dX12_put_4 : decode cX12_put 4 = .ok (.bipush 31, 2) := by decide +kernel
theorem dX12_put_6 : decode cX12_put 6 = .ok (.iload_n 1, 1) := by decide +kernel
theorem dX12_put_7 : decode cX12_put 7 = .ok (.imul, 1) := by decide +kernel
theorem dX12_put_8 : decode cX12_put 8 = .ok (.iload_n 2, 1) := by decide +kernel
theorem dX12_put_9 : decode cX12_put 9 = .ok (.iadd, 1) := by decide +kernel
theorem dX12_put_10 : decode cX12_put 10 = .ok (.iload_n 3, 1) := by decide +kernel
theorem dX12_put_11 : decode cX12_put 11 = .ok (.iastore, 1) := by decide +kernel
theorem dX12_put_12 : decode cX12_put 12 = .ok (.return_, 1) := by decide +kernel
def rm_X12_put : Room := { frames := 0, cells := 0, slots := 0, locals := 0 }
abbrev wS_X12_put : List (Nat × Nat) := [(60, 99)]
set_option maxRecDepth 100000 in
set_option maxHeartbeats 4000000 in
theorem c_X12_put (l : Launch) (E : zE) (hV : zV E) (H0 : Heap) (hT0 : HT E H0) (h0 : Nat) (kh0 : eK E h0 = 13) (p0 : Int32) (p0_lo : 0 ≤ p0.toInt) (p0_hi : p0.toInt ≤ 195) (p1 : Int32) (p1_lo : 0 ≤ p1.toInt) (p1_hi : p1.toInt ≤ 30) (p2 : Int32) (pr_0 : p1.toInt = 30 ∨ (-1 ≤ p2.toInt ∧ p2.toInt ≤ 11)) : Met l yX12_put (zws yX12_put cX12_put 4 none) rm_X12_put (zP E H0 [.ref h0, .int p0, .int p1, .int p2]) (zQV E E wS_X12_put (fun H1 => True)) 0 0 (zfr E) := by
  refine zEnt (by decide) (Nat.le_of_ble_eq_true rfl) (fun p e s m args below meth c ls Q B hr hlk hh hQ hl => ?_)
  have hx := B.1
  have hb := B.2.1
  have hG0 : zG E wS_X12_put H0 H0 [] := zG.rf hT0
  have hl : lv_has ls 4 [(0, .ref h0), (1, .int p0), (2, .int p1), (3, .int p2)] := hl
  refine lv_aload_n hx hb dX12_put_0 rfl (lv_at hl 0 rfl) ?_
  refine g_getR B fl_RX12_16 hT0 kh0 rfl rfl rfl rfl rfl dX12_put_1 (fun q_1 s_1 k_q_1 => ?_)
  refine lv_bipush (v := 31) hx hb dX12_put_4 (by decide) ?_
  refine lv_iload_n hx hb dX12_put_6 rfl (lv_at hl 1 rfl) ?_
  refine lv_imul hx hb dX12_put_7 ?_
  refine lv_topi (fun x_2 e_2 => ?_)
  have t_2 := z_mul e_2 kl_31 rfl (by omega) (by omega)
  refine lv_iload_n hx hb dX12_put_8 rfl (lv_at hl 2 rfl) ?_
  refine lv_iadd hx hb dX12_put_9 ?_
  refine lv_topi (fun x_3 e_3 => ?_)
  have t_3 := z_add e_3 rfl rfl (by omega) (by omega)
  refine lv_iload_n hx hb dX12_put_10 rfl (lv_at hl 3 rfl) ?_
  have := z_cl (x := x_3) (by omega)
  refine g_iastP (i := x_3) (N := 6076) B hV hG0 k_q_1 rfl rfl rfl rfl (fun _ => rfl) (by omega) (by omega) (by omega) rfl dX12_put_11 (fun H4 lc4 gH4 uH4 => ?_)
  exact rtV B hr hlk hh hQ gH4 trivial dX12_put_12

theorem dX12_room_0 : decode cX12_room 0 = .ok (.iconst 1, 1) := by decide +kernel
theorem dX12_room_1 : decode cX12_room 1 = .ok (.bipush 11, 2) := by decide +kernel
theorem dX12_room_3 : decode cX12_room 3 = .ok (.iload_n 0, 1) := by decide +kernel
theorem dX12_room_4 : decode cX12_room 4 = .ok (.isub, 1) := by decide +kernel
theorem dX12_room_5 : decode cX12_room 5 = .ok (.ishl, 1) := by decide +kernel
theorem dX12_room_6 : decode cX12_room 6 = .ok (.ireturn, 1) := by decide +kernel
def rm_X12_room : Room := { frames := 0, cells := 0, slots := 0, locals := 0 }
set_option maxRecDepth 100000 in
set_option maxHeartbeats 4000000 in
theorem c_X12_room (l : Launch) (E : zE) (hV : zV E) (H0 : Heap) (hT0 : HT E H0) (p0 : Int32) : Met l yX12_room (zws yX12_room cX12_room 1 (some .int)) rm_X12_room (zP E H0 [.int p0]) (zPI (fun r => True)) 0 0 (fun _ => False) := by
  refine zEnt (by decide) (Nat.le_of_ble_eq_true rfl) (fun p e s m args below meth c ls Q B hr hlk hh hQ hl => ?_)
  have hx := B.1
  have hb := B.2.1
  have hl : lv_has ls 1 [(0, .int p0)] := hl
  refine lv_iconst (v := 1) hx hb dX12_room_0 (by decide) ?_
  refine lv_bipush (v := 11) hx hb dX12_room_1 (by decide) ?_
  refine lv_iload_n hx hb dX12_room_3 rfl (lv_at hl 0 rfl) ?_
  refine lv_isub hx hb dX12_room_4 ?_
  refine lv_topi (fun x_1 e_1 => ?_)
  refine lv_ishl hx hb dX12_room_5 ?_
  refine lv_topi (fun x_2 e_2 => ?_)
  exact rtPI (v := x_2) B hr hlk hh hQ rfl trivial dX12_room_6
