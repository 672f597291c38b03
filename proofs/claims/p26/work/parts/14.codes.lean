theorem dX0_isEarlier_0 : decode cX0_isEarlier 0 = .ok (.iconst 0, 1) := by decide +kernel
theorem dX0_isEarlier_1 : decode cX0_isEarlier 1 = .ok (.istore_n 1, 1) := by decide +kernel
theorem dX0_isEarlier_2 : decode cX0_isEarlier 2 = .ok (.iload_n 1, 1) := by decide +kernel
theorem dX0_isEarlier_3 : decode cX0_isEarlier 3 = .ok (.aload_n 0, 1) := by decide +kernel
theorem dX0_isEarlier_4 : decode cX0_isEarlier 4 = .ok (.getfield 9, 3) := by decide +kernel
theorem dX0_isEarlier_7 : decode cX0_isEarlier 7 = .ok (.if_icmp .ge 45, 3) := by decide +kernel
theorem dX0_isEarlier_10 : decode cX0_isEarlier 10 = .ok (.aload_n 0, 1) := by decide +kernel
theorem dX0_isEarlier_11 : decode cX0_isEarlier 11 = .ok (.getfield 31, 3) := by decide +kernel
theorem dX0_isEarlier_14 : decode cX0_isEarlier 14 = .ok (.iload_n 1, 1) := by decide +kernel
theorem dX0_isEarlier_15 : decode cX0_isEarlier 15 = .ok (.iaload, 1) := by decide +kernel
theorem dX0_isEarlier_16 : decode cX0_isEarlier 16 = .ok (.aload_n 0, 1) := by decide +kernel
theorem dX0_isEarlier_17 : decode cX0_isEarlier 17 = .ok (.getfield 18, 3) := by decide +kernel
theorem dX0_isEarlier_20 : decode cX0_isEarlier 20 = .ok (.iload_n 1, 1) := by decide +kernel
theorem dX0_isEarlier_21 : decode cX0_isEarlier 21 = .ok (.iaload, 1) := by decide +kernel
theorem dX0_isEarlier_22 : decode cX0_isEarlier 22 = .ok (.if_icmp .eq 24, 3) := by decide +kernel
theorem dX0_isEarlier_25 : decode cX0_isEarlier 25 = .ok (.aload_n 0, 1) := by decide +kernel
theorem dX0_isEarlier_26 : decode cX0_isEarlier 26 = .ok (.getfield 31, 3) := by decide +kernel
theorem dX0_isEarlier_29 : decode cX0_isEarlier 29 = .ok (.iload_n 1, 1) := by decide +kernel
theorem dX0_isEarlier_30 : decode cX0_isEarlier 30 = .ok (.iaload, 1) := by decide +kernel
theorem dX0_isEarlier_31 : decode cX0_isEarlier 31 = .ok (.aload_n 0, 1) := by decide +kernel
theorem dX0_isEarlier_32 : decode cX0_isEarlier 32 = .ok (.getfield 18, 3) := by decide +kernel
theorem dX0_isEarlier_35 : decode cX0_isEarlier 35 = .ok (.iload_n 1, 1) := by decide +kernel
theorem dX0_isEarlier_36 : decode cX0_isEarlier 36 = .ok (.iaload, 1) := by decide +kernel
theorem dX0_isEarlier_37 : decode cX0_isEarlier 37 = .ok (.if_icmp .ge 7, 3) := by decide +kernel
theorem dX0_isEarlier_40 : decode cX0_isEarlier 40 = .ok (.iconst 1, 1) := by decide +kernel
theorem dX0_isEarlier_41 : decode cX0_isEarlier 41 = .ok (.goto 4, 3) := by decide +kernel
theorem dX0_isEarlier_44 : decode cX0_isEarlier 44 = .ok (.iconst 0, 1) := by decide +kernel
theorem dX0_isEarlier_45 : decode cX0_isEarlier 45 = .ok (.ireturn, 1) := by decide +kernel
theorem dX0_isEarlier_46 : decode cX0_isEarlier 46 = .ok (.iinc 1 1, 3) := by decide +kernel
theorem dX0_isEarlier_49 : decode cX0_isEarlier 49 = .ok (.goto (-47), 3) := by decide +kernel
theorem dX0_isEarlier_52 : decode cX0_isEarlier 52 = .ok (.iconst 0, 1) := by decide +kernel
theorem dX0_isEarlier_53 : decode cX0_isEarlier 53 = .ok (.ireturn, 1) := by decide +kernel
def rm_X0_isEarlier : Room := { frames := 0, cells := 0, slots := 0, locals := 0 }
set_option maxRecDepth 100000 in
set_option maxHeartbeats 4000000 in
theorem c_X0_isEarlier (l : Launch) (E : zE) (hV : zV E) (H0 : Heap) (hT0 : HT E H0) (h0 : Nat) (kh0 : eK E h0 = 1) : Met l yX0_isEarlier (zws yX0_isEarlier cX0_isEarlier 2 (some .boolean)) rm_X0_isEarlier (zP E H0 [.ref h0]) (zPI (fun r => 0 ≤ r.toInt ∧ r.toInt ≤ 1)) 0 0 (fun _ => False) := by
  refine zEnt (by decide) (Nat.le_of_ble_eq_true rfl) (fun p e s m args below meth c ls Q B hr hlk hh hQ hl => ?_)
  have hx := B.1
  have hb := B.2.1
  have hl : lv_has ls 2 [(0, .ref h0)] := hl
  have b2 : ∀ (n2 : Nat) (ls : Array Slot) (v2_1 : Int32), 12 - v2_1.toInt < (n2 : Int) → lv_has ls 2 [(0, .ref h0), (1, .int v2_1)] → 0 ≤ v2_1.toInt → v2_1.toInt ≤ 12 → W p l e rm_X0_isEarlier s m args below meth c H0 [] 0 0 Q (F0 m 2 ls []) := by
    intro n2
    induction n2 with
    | zero =>
      intro ls v2_1 hm2 hl f2_1 f2_2
      exact absurd hm2 (by omega)
    | succ n2 ih2 =>
      intro ls v2_1 hm2 hl f2_1 f2_2
      refine lv_iload_n hx hb dX0_isEarlier_2 rfl (lv_at hl 1 rfl) ?_
      refine lv_aload_n hx hb dX0_isEarlier_3 rfl (lv_at hl 0 rfl) ?_
      refine g_getI B fl_RX0_9 hT0 kh0 rfl rfl rfl rfl rfl dX0_isEarlier_4 (fun x_1 s_1 a_1 b_1 => ?_)
      refine lv_icmp_ge (tgt := 52) hx hb dX0_isEarlier_7 (by decide) (fun c_2 => ?_) (fun c_2 => ?_)
      · have f_2 := z_le c_2 rfl rfl
        refine lv_iconst (v := 0) hx hb dX0_isEarlier_52 (by decide) ?_
        have := kl_0
        have := kl_0
        exact rtPI (v := 0) B hr hlk hh hQ rfl ⟨by omega, by omega⟩ dX0_isEarlier_53
      · have f_2 := z_nle c_2 rfl rfl
        refine lv_aload_n hx hb dX0_isEarlier_10 rfl (lv_at hl 0 rfl) ?_
        refine g_getR B fl_RX0_31 hT0 kh0 rfl rfl rfl rfl rfl dX0_isEarlier_11 (fun q_3 s_3 k_q_3 => ?_)
        refine lv_iload_n hx hb dX0_isEarlier_14 rfl (lv_at hl 1 rfl) ?_
        refine g_ialdI (i := v2_1) (N := 12) B hT0 k_q_3 rfl rfl rfl rfl (by omega) (by omega) rfl dX0_isEarlier_15 (fun x_4 s_4 a_4 b_4 => ?_)
        refine lv_aload_n hx hb dX0_isEarlier_16 rfl (lv_at hl 0 rfl) ?_
        refine g_getR B fl_RX0_18 hT0 kh0 rfl rfl rfl rfl rfl dX0_isEarlier_17 (fun q_5 s_5 k_q_5 => ?_)
        refine lv_iload_n hx hb dX0_isEarlier_20 rfl (lv_at hl 1 rfl) ?_
        refine g_ialdI (i := v2_1) (N := 12) B hT0 k_q_5 rfl rfl rfl rfl (by omega) (by omega) rfl dX0_isEarlier_21 (fun x_6 s_6 a_6 b_6 => ?_)
        refine lv_icmp_eq (tgt := 46) hx hb dX0_isEarlier_22 (by decide) (fun c_7 => ?_) (fun c_7 => ?_)
        · have f_7 := z_eq c_7 rfl rfl
          obtain ⟨x_8, e_8⟩ : ∃ y : Int32, (v2_1 : Int32) + Int32.ofInt 1 = y := ⟨_, rfl⟩
          refine lv_iinc (v := x_8) (lv' := [(1, .int x_8), (0, .ref h0)]) hx hb dX0_isEarlier_46 hl (k := 1) rfl e_8 (by decide) rfl (fun ls hl => ?_)
          have t_8 := z_inc2 e_8 rfl (by decide) (by omega) (by omega)
          refine lv_goto (tgt := 2) hx hb dX0_isEarlier_49 (by decide) ?_
          exact ih2 ls x_8 (by omega) (lv_sub hl [1, 0] rfl) (by omega) (by omega)
        · have f_7 := z_ne c_7 rfl rfl
          refine lv_aload_n hx hb dX0_isEarlier_25 rfl (lv_at hl 0 rfl) ?_
          refine g_get B fl_RX0_31 hT0 kh0 rfl rfl rfl dX0_isEarlier_26 s_3 ?_
          refine lv_iload_n hx hb dX0_isEarlier_29 rfl (lv_at hl 1 rfl) ?_
          refine g_iald (i := v2_1) (N := 12) B hT0 k_q_3 rfl rfl rfl rfl (by omega) (by omega) s_4 dX0_isEarlier_30 ?_
          refine lv_aload_n hx hb dX0_isEarlier_31 rfl (lv_at hl 0 rfl) ?_
          refine g_get B fl_RX0_18 hT0 kh0 rfl rfl rfl dX0_isEarlier_32 s_5 ?_
          refine lv_iload_n hx hb dX0_isEarlier_35 rfl (lv_at hl 1 rfl) ?_
          refine g_iald (i := v2_1) (N := 12) B hT0 k_q_5 rfl rfl rfl rfl (by omega) (by omega) s_6 dX0_isEarlier_36 ?_
          refine lv_icmp_ge (tgt := 44) hx hb dX0_isEarlier_37 (by decide) (fun c_9 => ?_) (fun c_9 => ?_)
          · have f_9 := z_le c_9 rfl rfl
            refine lv_iconst (v := 0) hx hb dX0_isEarlier_44 (by decide) ?_
            have := kl_0
            have := kl_0
            exact rtPI (v := 0) B hr hlk hh hQ rfl ⟨by omega, by omega⟩ dX0_isEarlier_45
          · have f_9 := z_nle c_9 rfl rfl
            refine lv_iconst (v := 1) hx hb dX0_isEarlier_40 (by decide) ?_
            refine lv_goto (tgt := 45) hx hb dX0_isEarlier_41 (by decide) ?_
            have := kl_1
            have := kl_1
            exact rtPI (v := 1) B hr hlk hh hQ rfl ⟨by omega, by omega⟩ dX0_isEarlier_45
  refine lv_iconst (v := 0) hx hb dX0_isEarlier_0 (by decide) ?_
  refine lv_istore_n (lv' := [(1, .int 0), (0, .ref h0)]) hx hb dX0_isEarlier_1 rfl hl (by decide) rfl (fun ls hl => ?_)
  have := kl_0
  exact b2 13 ls 0 (by omega) (lv_sub hl [1, 0] rfl) (by omega) (by omega)

theorem dX0_weigh_0 : decode cX0_weigh 0 = .ok (.iconst 0, 1) := by decide +kernel
theorem dX0_weigh_1 : decode cX0_weigh 1 = .ok (.istore_n 1, 1) := by decide +kernel
theorem dX0_weigh_2 : decode cX0_weigh 2 = .ok (.iconst 0, 1) := by decide +kernel
theorem dX0_weigh_3 : decode cX0_weigh 3 = .ok (.istore_n 2, 1) := by decide +kernel
theorem dX0_weigh_4 : decode cX0_weigh 4 = .ok (.iload_n 2, 1) := by decide +kernel
theorem dX0_weigh_5 : decode cX0_weigh 5 = .ok (.aload_n 0, 1) := by decide +kernel
theorem dX0_weigh_6 : decode cX0_weigh 6 = .ok (.getfield 9, 3) := by decide +kernel
theorem dX0_weigh_9 : decode cX0_weigh 9 = .ok (.if_icmp .ge 47, 3) := by decide +kernel
theorem dX0_weigh_12 : decode cX0_weigh 12 = .ok (.aload_n 0, 1) := by decide +kernel
theorem dX0_weigh_13 : decode cX0_weigh 13 = .ok (.getfield 31, 3) := by decide +kernel
theorem dX0_weigh_16 : decode cX0_weigh 16 = .ok (.aload_n 0, 1) := by decide +kernel
theorem dX0_weigh_17 : decode cX0_weigh 17 = .ok (.getfield 25, 3) := by decide +kernel
theorem dX0_weigh_20 : decode cX0_weigh 20 = .ok (.iload_n 2, 1) := by decide +kernel
theorem dX0_weigh_21 : decode cX0_weigh 21 = .ok (.iaload, 1) := by decide +kernel
theorem dX0_weigh_22 : decode cX0_weigh 22 = .ok (.aload_n 0, 1) := by decide +kernel
theorem dX0_weigh_23 : decode cX0_weigh 23 = .ok (.getfield 28, 3) := by decide +kernel
theorem dX0_weigh_26 : decode cX0_weigh 26 = .ok (.iload_n 2, 1) := by decide +kernel
theorem dX0_weigh_27 : decode cX0_weigh 27 = .ok (.iaload, 1) := by decide +kernel
theorem dX0_weigh_28 : decode cX0_weigh 28 = .ok (.iastore, 1) := by decide +kernel
theorem dX0_weigh_29 : decode cX0_weigh 29 = .ok (.iload_n 1, 1) := by decide +kernel
theorem dX0_weigh_30 : decode cX0_weigh 30 = .ok (.aload_n 0, 1) := by decide +kernel
theorem dX0_weigh_31 : decode cX0_weigh 31 = .ok (.getfield 28, 3) := by decide +kernel
theorem dX0_weigh_34 : decode cX0_weigh 34 = .ok (.iload_n 2, 1) := by decide +kernel
theorem dX0_weigh_35 : decode cX0_weigh 35 = .ok (.iaload, 1) := by decide +kernel
theorem dX0_weigh_36 : decode cX0_weigh 36 = .ok (.aload_n 0, 1) := by decide +kernel
theorem dX0_weigh_37 : decode cX0_weigh 37 = .ok (.getfield 22, 3) := by decide +kernel
theorem dX0_weigh_40 : decode cX0_weigh 40 = .ok (.aload_n 0, 1) := by decide +kernel
theorem dX0_weigh_41 : decode cX0_weigh 41 = .ok (.getfield 25, 3) := by decide +kernel
theorem dX0_weigh_44 : decode cX0_weigh 44 = .ok (.iload_n 2, 1) := by decide +kernel
theorem dX0_weigh_45 : decode cX0_weigh 45 = .ok (.iaload, 1) := by decide +kernel
theorem dX0_weigh_46 : decode cX0_weigh 46 = .ok (.iaload, 1) := by decide +kernel
theorem dX0_weigh_47 : decode cX0_weigh 47 = .ok (.imul, 1) := by decide +kernel
theorem dX0_weigh_48 : decode cX0_weigh 48 = .ok (.iadd, 1) := by decide +kernel
theorem dX0_weigh_49 : decode cX0_weigh 49 = .ok (.istore_n 1, 1) := by decide +kernel
theorem dX0_weigh_50 : decode cX0_weigh 50 = .ok (.iinc 2 1, 3) := by decide +kernel
theorem dX0_weigh_53 : decode cX0_weigh 53 = .ok (.goto (-49), 3) := by decide +kernel
theorem dX0_weigh_56 : decode cX0_weigh 56 = .ok (.iload_n 1, 1) := by decide +kernel
theorem dX0_weigh_57 : decode cX0_weigh 57 = .ok (.aload_n 0, 1) := by decide +kernel
theorem dX0_weigh_58 : decode cX0_weigh 58 = .ok (.getfield 15, 3) := by decide +kernel
theorem dX0_weigh_61 : decode cX0_weigh 61 = .ok (.if_icmp .lt 18, 3) := by decide +kernel
theorem dX0_weigh_64 : decode cX0_weigh 64 = .ok (.iload_n 1, 1) := by decide +kernel
theorem dX0_weigh_65 : decode cX0_weigh 65 = .ok (.aload_n 0, 1) := by decide +kernel
theorem dX0_weigh_66 : decode cX0_weigh 66 = .ok (.getfield 15, 3) := by decide +kernel
theorem dX0_weigh_69 : decode cX0_weigh 69 = .ok (.if_icmp .ne 32, 3) := by decide +kernel
theorem dX0_weigh_72 : decode cX0_weigh 72 = .ok (.aload_n 0, 1) := by decide +kernel
theorem dX0_weigh_73 : decode cX0_weigh 73 = .ok (.invokevirtual 51, 3) := by decide +kernel
theorem dX0_weigh_76 : decode cX0_weigh 76 = .ok (.ifCond .eq 25, 3) := by decide +kernel
theorem dX0_weigh_79 : decode cX0_weigh 79 = .ok (.aload_n 0, 1) := by decide +kernel
theorem dX0_weigh_80 : decode cX0_weigh 80 = .ok (.iload_n 1, 1) := by decide +kernel
theorem dX0_weigh_81 : decode cX0_weigh 81 = .ok (.putfield 15, 3) := by decide +kernel
theorem dX0_weigh_84 : decode cX0_weigh 84 = .ok (.aload_n 0, 1) := by decide +kernel
theorem dX0_weigh_85 : decode cX0_weigh 85 = .ok (.getfield 31, 3) := by decide +kernel
theorem dX0_weigh_88 : decode cX0_weigh 88 = .ok (.iconst 0, 1) := by decide +kernel
theorem dX0_weigh_89 : decode cX0_weigh 89 = .ok (.aload_n 0, 1) := by decide +kernel
theorem dX0_weigh_90 : decode cX0_weigh 90 = .ok (.getfield 18, 3) := by decide +kernel
theorem dX0_weigh_93 : decode cX0_weigh 93 = .ok (.iconst 0, 1) := by decide +kernel
theorem dX0_weigh_94 : decode cX0_weigh 94 = .ok (.aload_n 0, 1) := by decide +kernel
theorem dX0_weigh_95 : decode cX0_weigh 95 = .ok (.getfield 9, 3) := by decide +kernel
theorem dX0_weigh_98 : decode cX0_weigh 98 = .ok (.invokestatic 55, 3) := by decide +kernel
theorem dX0_weigh_101 : decode cX0_weigh 101 = .ok (.return_, 1) := by decide +kernel
def rm_X0_weigh : Room := { frames := 1, cells := 0, slots := 0, locals := 40 }
abbrev wS_X0_weigh : List (Nat × Nat) := [(1, 1), (20, 99), (24, 99)]
set_option maxRecDepth 100000 in
set_option maxHeartbeats 4000000 in
theorem c_X0_weigh (l : Launch) (E : zE) (hV : zV E) (H0 : Heap) (hT0 : HT E H0) (h0 : Nat) (kh0 : eK E h0 = 1) : Met l yX0_weigh (zws yX0_weigh cX0_weigh 3 none) rm_X0_weigh (zP E H0 [.ref h0]) (zQV E E wS_X0_weigh (fun H1 => True)) 0 0 (zfr E) := by
  refine zEnt (by decide) (Nat.le_of_ble_eq_true rfl) (fun p e s m args below meth c ls Q B hr hlk hh hQ hl => ?_)
  have hx := B.1
  have hb := B.2.1
  have hG0 : zG E wS_X0_weigh H0 H0 [] := zG.rf hT0
  have hl : lv_has ls 3 [(0, .ref h0)] := hl
  have b79 : ∀ (H79 : Heap) (lc79 : List Loc) (ls : Array Slot) (v79_1 : Int32) (u79_h0_0 : Int32), zG E wS_X0_weigh H0 H79 lc79 → lv_has ls 3 [(0, .ref h0), (1, .int v79_1)] → 0 ≤ u79_h0_0.toInt → u79_h0_0.toInt ≤ 12 → sl H79 h0 (zix E 1 0) = some (.int u79_h0_0) → W p l e rm_X0_weigh s m args below meth c H79 lc79 0 0 Q (F0 m 79 ls []) := by
    intro H79 lc79 ls v79_1 u79_h0_0 gH79 hl f79_1 f79_2 s79_u79_h0_0
    refine lv_aload_n hx hb dX0_weigh_79 rfl (lv_at hl 0 rfl) ?_
    refine lv_iload_n hx hb dX0_weigh_80 rfl (lv_at hl 1 rfl) ?_
    refine g_putI B fp_RX0_15 hV gH79 kh0 rfl rfl rfl rfl rfl (z_rng _).1 (z_rng _).2 rfl dX0_weigh_81 (fun H1 lc1 gH1 uH1 => ?_)
    have s_2 := uH1.keep (Or.inr (j_ne hV rfl rfl rfl rfl)) s79_u79_h0_0
    refine lv_aload_n hx hb dX0_weigh_84 rfl (lv_at hl 0 rfl) ?_
    refine g_getR B fl_RX0_31 gH1.1 kh0 rfl rfl rfl rfl rfl dX0_weigh_85 (fun q_3 s_3 k_q_3 => ?_)
    refine lv_iconst (v := 0) hx hb dX0_weigh_88 (by decide) ?_
    refine lv_aload_n hx hb dX0_weigh_89 rfl (lv_at hl 0 rfl) ?_
    refine g_getR B fl_RX0_18 gH1.1 kh0 rfl rfl rfl rfl rfl dX0_weigh_90 (fun q_4 s_4 k_q_4 => ?_)
    refine lv_iconst (v := 0) hx hb dX0_weigh_93 (by decide) ?_
    refine lv_aload_n hx hb dX0_weigh_94 rfl (lv_at hl 0 rfl) ?_
    refine g_get B fl_RX0_9 gH1.1 kh0 rfl rfl rfl dX0_weigh_95 s_2 ?_
    refine g_copyI (n := u79_h0_0) (n0 := 12) (n1 := 12) B hl.1 gH1 k_q_3 k_q_4 rfl rfl rfl rfl rfl rfl (fun _ => rfl) (fun _ => rfl) (by decide) rfl rfl (by omega) (by omega) (by omega) rfl (mc_wsL_law_r12 _ (List.mem_of_getElem? (i := 8) rfl)) (mc_wsL_law_r12 _ (List.mem_of_getElem? (i := 9) rfl)) (mc_wsL_law_r12 _ (List.mem_of_getElem? (i := 10) rfl)) (mc_wsL_law_r12 _ (List.mem_of_getElem? (i := 11) rfl)) (Nat.le_of_ble_eq_true rfl) (by decide) dX0_weigh_98 (fun H5 lc5 gH5 rH5 => ?_)
    exact rtV B hr hlk hh hQ gH5 trivial dX0_weigh_101
  have b4 : ∀ (n4 : Nat) (H4 : Heap) (lc4 : List Loc) (ls : Array Slot) (v4_1 : Int32) (v4_2 : Int32), 12 - v4_2.toInt < (n4 : Int) → zG E wS_X0_weigh H0 H4 lc4 → lv_has ls 3 [(0, .ref h0), (1, .int v4_1), (2, .int v4_2)] → 0 ≤ v4_2.toInt → v4_2.toInt ≤ 12 → W p l e rm_X0_weigh s m args below meth c H4 lc4 0 0 Q (F0 m 4 ls []) := by
    intro n4
    induction n4 with
    | zero =>
      intro H4 lc4 ls v4_1 v4_2 hm4 gH4 hl f4_1 f4_2
      exact absurd hm4 (by omega)
    | succ n4 ih4 =>
      intro H4 lc4 ls v4_1 v4_2 hm4 gH4 hl f4_1 f4_2
      refine lv_iload_n hx hb dX0_weigh_4 rfl (lv_at hl 2 rfl) ?_
      refine lv_aload_n hx hb dX0_weigh_5 rfl (lv_at hl 0 rfl) ?_
      refine g_getI B fl_RX0_9 gH4.1 kh0 rfl rfl rfl rfl rfl dX0_weigh_6 (fun x_6 s_6 a_6 b_6 => ?_)
      refine lv_icmp_ge (tgt := 56) hx hb dX0_weigh_9 (by decide) (fun c_7 => ?_) (fun c_7 => ?_)
      · have f_7 := z_le c_7 rfl rfl
        refine lv_iload_n hx hb dX0_weigh_56 rfl (lv_at hl 1 rfl) ?_
        refine lv_aload_n hx hb dX0_weigh_57 rfl (lv_at hl 0 rfl) ?_
        refine g_getI B fl_RX0_15 gH4.1 kh0 rfl rfl rfl rfl rfl dX0_weigh_58 (fun x_8 s_8 a_8 b_8 => ?_)
        refine lv_icmp_lt (tgt := 79) hx hb dX0_weigh_61 (by decide) (fun c_9 => ?_) (fun c_9 => ?_)
        · have f_9 := z_lt c_9 rfl rfl
          exact b79 H4 lc4 ls v4_1 x_6 gH4 (lv_sub hl [0, 1] rfl) (by omega) (by omega) s_6
        · have f_9 := z_nlt c_9 rfl rfl
          refine lv_iload_n hx hb dX0_weigh_64 rfl (lv_at hl 1 rfl) ?_
          refine lv_aload_n hx hb dX0_weigh_65 rfl (lv_at hl 0 rfl) ?_
          refine g_get B fl_RX0_15 gH4.1 kh0 rfl rfl rfl dX0_weigh_66 s_8 ?_
          refine lv_icmp_ne (tgt := 101) hx hb dX0_weigh_69 (by decide) (fun c_10 => ?_) (fun c_10 => ?_)
          · have f_10 := z_ne c_10 rfl rfl
            exact rtV B hr hlk hh hQ gH4 trivial dX0_weigh_101
          · have f_10 := z_eq c_10 rfl rfl
            refine lv_aload_n hx hb dX0_weigh_72 rfl (lv_at hl 0 rfl) ?_
            refine zkPI (zrV (rest := []) B (c_X0_isEarlier l E hV H4 gH4.1 h0 kh0) cl_RX0_51 gH4.1 kh0 rfl rfl rfl rfl hl.1 rfl (Nat.le_of_ble_eq_true rfl) dX0_weigh_73 rfl rfl ⟨rfl, rfl⟩ ⟨Nat.zero_le _, Nat.zero_le _⟩ (zO.of gH4 hh)) (fun x_11 hp_11 => ?_)
            obtain ⟨hp_11_1, hp_11_2⟩ := hp_11
            refine lv_if_eq (tgt := 101) hx hb dX0_weigh_76 (by decide) (fun c_12 => ?_) (fun c_12 => ?_)
            · have f_12 := z_eq c_12 rfl kl_0
              exact rtV B hr hlk hh hQ gH4 trivial dX0_weigh_101
            · have f_12 := z_ne c_12 rfl kl_0
              exact b79 H4 lc4 ls v4_1 x_6 gH4 (lv_sub hl [0, 1] rfl) (by omega) (by omega) s_6
      · have f_7 := z_nle c_7 rfl rfl
        refine lv_aload_n hx hb dX0_weigh_12 rfl (lv_at hl 0 rfl) ?_
        refine g_getR B fl_RX0_31 gH4.1 kh0 rfl rfl rfl rfl rfl dX0_weigh_13 (fun q_13 s_13 k_q_13 => ?_)
        refine lv_aload_n hx hb dX0_weigh_16 rfl (lv_at hl 0 rfl) ?_
        refine g_getR B fl_RX0_25 gH4.1 kh0 rfl rfl rfl rfl rfl dX0_weigh_17 (fun q_14 s_14 k_q_14 => ?_)
        refine lv_iload_n hx hb dX0_weigh_20 rfl (lv_at hl 2 rfl) ?_
        refine g_ialdI (i := v4_2) (N := 12) B gH4.1 k_q_14 rfl rfl rfl rfl (by omega) (by omega) rfl dX0_weigh_21 (fun x_15 s_15 a_15 b_15 => ?_)
        refine lv_aload_n hx hb dX0_weigh_22 rfl (lv_at hl 0 rfl) ?_
        refine g_getR B fl_RX0_28 gH4.1 kh0 rfl rfl rfl rfl rfl dX0_weigh_23 (fun q_16 s_16 k_q_16 => ?_)
        refine lv_iload_n hx hb dX0_weigh_26 rfl (lv_at hl 2 rfl) ?_
        refine g_ialdI (i := v4_2) (N := 12) B gH4.1 k_q_16 rfl rfl rfl rfl (by omega) (by omega) rfl dX0_weigh_27 (fun x_17 s_17 a_17 b_17 => ?_)
        refine g_iastI (i := x_15) (N := 12) B hV gH4 k_q_13 rfl rfl rfl rfl (by omega) (by omega) rfl (z_rng _).1 (z_rng _).2 rfl dX0_weigh_28 (fun H18 lc18 gH18 uH18 => ?_)
        have s_19 := uH18.keep (Or.inl (k_ne kh0 k_q_13 rfl)) s_6
        have s_20 := uH18.keep (Or.inl (k_ne kh0 k_q_13 rfl)) s_13
        have s_21 := uH18.keep (Or.inl (k_ne kh0 k_q_13 rfl)) s_14
        have s_22 := uH18.keep (Or.inl (k_ne k_q_14 k_q_13 rfl)) s_15
        have s_23 := uH18.keep (Or.inl (k_ne kh0 k_q_13 rfl)) s_16
        have s_24 := uH18.keep (Or.inl (k_ne k_q_16 k_q_13 rfl)) s_17
        refine lv_iload_n hx hb dX0_weigh_29 rfl (lv_at hl 1 rfl) ?_
        refine lv_aload_n hx hb dX0_weigh_30 rfl (lv_at hl 0 rfl) ?_
        refine g_get B fl_RX0_28 gH18.1 kh0 rfl rfl rfl dX0_weigh_31 s_23 ?_
        refine lv_iload_n hx hb dX0_weigh_34 rfl (lv_at hl 2 rfl) ?_
        refine g_iald (i := v4_2) (N := 12) B gH18.1 k_q_16 rfl rfl rfl rfl (by omega) (by omega) s_24 dX0_weigh_35 ?_
        refine lv_aload_n hx hb dX0_weigh_36 rfl (lv_at hl 0 rfl) ?_
        refine g_getR B fl_RX0_22 gH18.1 kh0 rfl rfl rfl rfl rfl dX0_weigh_37 (fun q_25 s_25 k_q_25 => ?_)
        refine lv_aload_n hx hb dX0_weigh_40 rfl (lv_at hl 0 rfl) ?_
        refine g_get B fl_RX0_25 gH18.1 kh0 rfl rfl rfl dX0_weigh_41 s_21 ?_
        refine lv_iload_n hx hb dX0_weigh_44 rfl (lv_at hl 2 rfl) ?_
        refine g_iald (i := v4_2) (N := 12) B gH18.1 k_q_14 rfl rfl rfl rfl (by omega) (by omega) s_22 dX0_weigh_45 ?_
        refine g_ialdI (i := x_15) (N := 12) B gH18.1 k_q_25 rfl rfl rfl rfl (by omega) (by omega) rfl dX0_weigh_46 (fun x_26 s_26 a_26 b_26 => ?_)
        refine lv_imul hx hb dX0_weigh_47 ?_
        refine lv_topi (fun x_27 e_27 => ?_)
        refine lv_iadd hx hb dX0_weigh_48 ?_
        refine lv_topi (fun x_28 e_28 => ?_)
        refine lv_istore_n (lv' := [(1, .int x_28), (0, .ref h0), (2, .int v4_2)]) hx hb dX0_weigh_49 rfl hl (by decide) rfl (fun ls hl => ?_)
        obtain ⟨x_29, e_29⟩ : ∃ y : Int32, (v4_2 : Int32) + Int32.ofInt 1 = y := ⟨_, rfl⟩
        refine lv_iinc (v := x_29) (lv' := [(2, .int x_29), (1, .int x_28), (0, .ref h0)]) hx hb dX0_weigh_50 hl (k := 2) rfl e_29 (by decide) rfl (fun ls hl => ?_)
        have t_29 := z_inc2 e_29 rfl (by decide) (by omega) (by omega)
        refine lv_goto (tgt := 4) hx hb dX0_weigh_53 (by decide) ?_
        exact ih4 H18 lc18 ls x_28 x_29 (by omega) gH18 (lv_sub hl [2, 1, 0] rfl) (by omega) (by omega)
  refine lv_iconst (v := 0) hx hb dX0_weigh_0 (by decide) ?_
  refine lv_istore_n (lv' := [(1, .int 0), (0, .ref h0)]) hx hb dX0_weigh_1 rfl hl (by decide) rfl (fun ls hl => ?_)
  refine lv_iconst (v := 0) hx hb dX0_weigh_2 (by decide) ?_
  refine lv_istore_n (lv' := [(2, .int 0), (1, .int 0), (0, .ref h0)]) hx hb dX0_weigh_3 rfl hl (by decide) rfl (fun ls hl => ?_)
  have := kl_0
  have := kl_0
  exact b4 13 H0 [] ls 0 0 (by omega) hG0 (lv_sub hl [2, 1, 0] rfl) (by omega) (by omega)

theorem dX0_sortByOften_0 : decode cX0_sortByOften 0 = .ok (.iconst 0, 1) := by decide +kernel
theorem dX0_sortByOften_1 : decode cX0_sortByOften 1 = .ok (.istore_n 1, 1) := by decide +kernel
theorem dX0_sortByOften_2 : decode cX0_sortByOften 2 = .ok (.iload_n 1, 1) := by decide +kernel
theorem dX0_sortByOften_3 : decode cX0_sortByOften 3 = .ok (.aload_n 0, 1) := by decide +kernel
theorem dX0_sortByOften_4 : decode cX0_sortByOften 4 = .ok (.getfield 9, 3) := by decide +kernel
theorem dX0_sortByOften_7 : decode cX0_sortByOften 7 = .ok (.if_icmp .ge 64, 3) := by decide +kernel
theorem dX0_sortByOften_10 : decode cX0_sortByOften 10 = .ok (.iload_n 1, 1) := by decide +kernel
theorem dX0_sortByOften_11 : decode cX0_sortByOften 11 = .ok (.istore_n 2, 1) := by decide +kernel
theorem dX0_sortByOften_12 : decode cX0_sortByOften 12 = .ok (.iload_n 2, 1) := by decide +kernel
theorem dX0_sortByOften_13 : decode cX0_sortByOften 13 = .ok (.ifCond .le 45, 3) := by decide +kernel
theorem dX0_sortByOften_16 : decode cX0_sortByOften 16 = .ok (.aload_n 0, 1) := by decide +kernel
theorem dX0_sortByOften_17 : decode cX0_sortByOften 17 = .ok (.getfield 22, 3) := by decide +kernel
theorem dX0_sortByOften_20 : decode cX0_sortByOften 20 = .ok (.aload_n 0, 1) := by decide +kernel
theorem dX0_sortByOften_21 : decode cX0_sortByOften 21 = .ok (.getfield 25, 3) := by decide +kernel
theorem dX0_sortByOften_24 : decode cX0_sortByOften 24 = .ok (.iload_n 2, 1) := by decide +kernel
theorem dX0_sortByOften_25 : decode cX0_sortByOften 25 = .ok (.iconst 1, 1) := by decide +kernel
theorem dX0_sortByOften_26 : decode cX0_sortByOften 26 = .ok (.isub, 1) := by decide +kernel
theorem dX0_sortByOften_27 : decode cX0_sortByOften 27 = .ok (.iaload, 1) := by decide +kernel
theorem dX0_sortByOften_28 : decode cX0_sortByOften 28 = .ok (.iaload, 1) := by decide +kernel
theorem dX0_sortByOften_29 : decode cX0_sortByOften 29 = .ok (.aload_n 0, 1) := by decide +kernel
theorem dX0_sortByOften_30 : decode cX0_sortByOften 30 = .ok (.getfield 22, 3) := by decide +kernel
theorem dX0_sortByOften_33 : decode cX0_sortByOften 33 = .ok (.iload_n 1, 1) := by decide +kernel
theorem dX0_sortByOften_34 : decode cX0_sortByOften 34 = .ok (.iaload, 1) := by decide +kernel
theorem dX0_sortByOften_35 : decode cX0_sortByOften 35 = .ok (.if_icmp .ge 23, 3) := by decide +kernel
theorem dX0_sortByOften_38 : decode cX0_sortByOften 38 = .ok (.aload_n 0, 1) := by decide +kernel
theorem dX0_sortByOften_39 : decode cX0_sortByOften 39 = .ok (.getfield 25, 3) := by decide +kernel
theorem dX0_sortByOften_42 : decode cX0_sortByOften 42 = .ok (.iload_n 2, 1) := by decide +kernel
theorem dX0_sortByOften_43 : decode cX0_sortByOften 43 = .ok (.aload_n 0, 1) := by decide +kernel
theorem dX0_sortByOften_44 : decode cX0_sortByOften 44 = .ok (.getfield 25, 3) := by decide +kernel
theorem dX0_sortByOften_47 : decode cX0_sortByOften 47 = .ok (.iload_n 2, 1) := by decide +kernel
theorem dX0_sortByOften_48 : decode cX0_sortByOften 48 = .ok (.iconst 1, 1) := by decide +kernel
theorem dX0_sortByOften_49 : decode cX0_sortByOften 49 = .ok (.isub, 1) := by decide +kernel
theorem dX0_sortByOften_50 : decode cX0_sortByOften 50 = .ok (.iaload, 1) := by decide +kernel
theorem dX0_sortByOften_51 : decode cX0_sortByOften 51 = .ok (.iastore, 1) := by decide +kernel
theorem dX0_sortByOften_52 : decode cX0_sortByOften 52 = .ok (.iinc 2 (-1), 3) := by decide +kernel
theorem dX0_sortByOften_55 : decode cX0_sortByOften 55 = .ok (.goto (-43), 3) := by decide +kernel
theorem dX0_sortByOften_58 : decode cX0_sortByOften 58 = .ok (.aload_n 0, 1) := by decide +kernel
theorem dX0_sortByOften_59 : decode cX0_sortByOften 59 = .ok (.getfield 25, 3) := by decide +kernel
theorem dX0_sortByOften_62 : decode cX0_sortByOften 62 = .ok (.iload_n 2, 1) := by decide +kernel
theorem dX0_sortByOften_63 : decode cX0_sortByOften 63 = .ok (.iload_n 1, 1) := by decide +kernel
theorem dX0_sortByOften_64 : decode cX0_sortByOften 64 = .ok (.iastore, 1) := by decide +kernel
theorem dX0_sortByOften_65 : decode cX0_sortByOften 65 = .ok (.iinc 1 1, 3) := by decide +kernel
theorem dX0_sortByOften_68 : decode cX0_sortByOften 68 = .ok (.goto (-66), 3) := by decide +kernel
theorem dX0_sortByOften_71 : decode cX0_sortByOften 71 = .ok (.return_, 1) := by decide +kernel
def rm_X0_sortByOften : Room := { frames := 0, cells := 0, slots := 0, locals := 0 }
abbrev wS_X0_sortByOften : List (Nat × Nat) := [(22, 99)]
set_option maxRecDepth 100000 in
set_option maxHeartbeats 4000000 in
theorem c_X0_sortByOften (l : Launch) (E : zE) (hV : zV E) (H0 : Heap) (hT0 : HT E H0) (h0 : Nat) (kh0 : eK E h0 = 1) : Met l yX0_sortByOften (zws yX0_sortByOften cX0_sortByOften 3 none) rm_X0_sortByOften (zP E H0 [.ref h0]) (zQV E E wS_X0_sortByOften (fun H1 => True)) 0 0 (zfr E) := by
  refine zEnt (by decide) (Nat.le_of_ble_eq_true rfl) (fun p e s m args below meth c ls Q B hr hlk hh hQ hl => ?_)
  have hx := B.1
  have hb := B.2.1
  have hG0 : zG E wS_X0_sortByOften H0 H0 [] := zG.rf hT0
  have hl : lv_has ls 3 [(0, .ref h0)] := hl
  have b2 : ∀ (n2 : Nat) (H2 : Heap) (lc2 : List Loc) (ls : Array Slot) (v2_1 : Int32), 12 - v2_1.toInt < (n2 : Int) → zG E wS_X0_sortByOften H0 H2 lc2 → lv_has ls 3 [(0, .ref h0), (1, .int v2_1)] → 0 ≤ v2_1.toInt → v2_1.toInt ≤ 12 → W p l e rm_X0_sortByOften s m args below meth c H2 lc2 0 0 Q (F0 m 2 ls []) := by
    intro n2
    induction n2 with
    | zero =>
      intro H2 lc2 ls v2_1 hm2 gH2 hl f2_1 f2_2
      exact absurd hm2 (by omega)
    | succ n2 ih2 =>
      intro H2 lc2 ls v2_1 hm2 gH2 hl f2_1 f2_2
      have b58 : ∀ (H58 : Heap) (lc58 : List Loc) (ls : Array Slot) (v58_2 : Int32) (u58_h0_0 : Int32), zG E wS_X0_sortByOften H0 H58 lc58 → lv_has ls 3 [(0, .ref h0), (1, .int v2_1), (2, .int v58_2)] → v2_1.toInt ≤ 11 → 0 ≤ v58_2.toInt → v58_2.toInt ≤ 11 → 1 ≤ u58_h0_0.toInt → u58_h0_0.toInt ≤ 12 → sl H58 h0 (zix E 1 0) = some (.int u58_h0_0) → W p l e rm_X0_sortByOften s m args below meth c H58 lc58 0 0 Q (F0 m 58 ls []) := by
        intro H58 lc58 ls v58_2 u58_h0_0 gH58 hl f58_1 f58_2 f58_3 f58_4 f58_5 s58_u58_h0_0
        refine lv_aload_n hx hb dX0_sortByOften_58 rfl (lv_at hl 0 rfl) ?_
        refine g_getR B fl_RX0_25 gH58.1 kh0 rfl rfl rfl rfl rfl dX0_sortByOften_59 (fun q_1 s_1 k_q_1 => ?_)
        refine lv_iload_n hx hb dX0_sortByOften_62 rfl (lv_at hl 2 rfl) ?_
        refine lv_iload_n hx hb dX0_sortByOften_63 rfl (lv_at hl 1 rfl) ?_
        refine g_iastI (i := v58_2) (N := 12) B hV gH58 k_q_1 rfl rfl rfl rfl (by omega) (by omega) rfl (by omega) (by omega) rfl dX0_sortByOften_64 (fun H2 lc2 gH2 uH2 => ?_)
        have s_3 := uH2.keep (Or.inl (k_ne kh0 k_q_1 rfl)) s58_u58_h0_0
        have s_4 := uH2.keep (Or.inl (k_ne kh0 k_q_1 rfl)) s_1
        obtain ⟨x_5, e_5⟩ : ∃ y : Int32, (v2_1 : Int32) + Int32.ofInt 1 = y := ⟨_, rfl⟩
        refine lv_iinc (v := x_5) (lv' := [(1, .int x_5), (0, .ref h0), (2, .int v58_2)]) hx hb dX0_sortByOften_65 hl (k := 1) rfl e_5 (by decide) rfl (fun ls hl => ?_)
        have t_5 := z_inc2 e_5 rfl (by decide) (by omega) (by omega)
        refine lv_goto (tgt := 2) hx hb dX0_sortByOften_68 (by decide) ?_
        exact ih2 H2 lc2 ls x_5 (by omega) gH2 (lv_sub hl [1, 0] rfl) (by omega) (by omega)
      have b12 : ∀ (n12 : Nat) (H12 : Heap) (lc12 : List Loc) (ls : Array Slot) (v12_2 : Int32) (u12_h0_0 : Int32), v12_2.toInt - 0 < (n12 : Int) → zG E wS_X0_sortByOften H0 H12 lc12 → lv_has ls 3 [(0, .ref h0), (1, .int v2_1), (2, .int v12_2)] → v2_1.toInt ≤ 11 → 0 ≤ v12_2.toInt → v12_2.toInt ≤ 11 → 1 ≤ u12_h0_0.toInt → u12_h0_0.toInt ≤ 12 → sl H12 h0 (zix E 1 0) = some (.int u12_h0_0) → W p l e rm_X0_sortByOften s m args below meth c H12 lc12 0 0 Q (F0 m 12 ls []) := by
        intro n12
        induction n12 with
        | zero =>
          intro H12 lc12 ls v12_2 u12_h0_0 hm12 gH12 hl f12_1 f12_2 f12_3 f12_4 f12_5 s12_u12_h0_0
          exact absurd hm12 (by omega)
        | succ n12 ih12 =>
          intro H12 lc12 ls v12_2 u12_h0_0 hm12 gH12 hl f12_1 f12_2 f12_3 f12_4 f12_5 s12_u12_h0_0
          refine lv_iload_n hx hb dX0_sortByOften_12 rfl (lv_at hl 2 rfl) ?_
          refine lv_if_le (tgt := 58) hx hb dX0_sortByOften_13 (by decide) (fun c_6 => ?_) (fun c_6 => ?_)
          · have f_6 := z_le c_6 rfl kl_0
            exact b58 H12 lc12 ls v12_2 u12_h0_0 gH12 (lv_sub hl [0, 1, 2] rfl) (by omega) (by omega) (by omega) (by omega) (by omega) s12_u12_h0_0
          · have f_6 := z_nle c_6 rfl kl_0
            refine lv_aload_n hx hb dX0_sortByOften_16 rfl (lv_at hl 0 rfl) ?_
            refine g_getR B fl_RX0_22 gH12.1 kh0 rfl rfl rfl rfl rfl dX0_sortByOften_17 (fun q_7 s_7 k_q_7 => ?_)
            refine lv_aload_n hx hb dX0_sortByOften_20 rfl (lv_at hl 0 rfl) ?_
            refine g_getR B fl_RX0_25 gH12.1 kh0 rfl rfl rfl rfl rfl dX0_sortByOften_21 (fun q_8 s_8 k_q_8 => ?_)
            refine lv_iload_n hx hb dX0_sortByOften_24 rfl (lv_at hl 2 rfl) ?_
            refine lv_iconst (v := 1) hx hb dX0_sortByOften_25 (by decide) ?_
            refine lv_isub hx hb dX0_sortByOften_26 ?_
            refine lv_topi (fun x_9 e_9 => ?_)
            have t_9 := z_sub e_9 rfl kl_1 (by omega) (by omega)
            refine g_ialdI (i := x_9) (N := 12) B gH12.1 k_q_8 rfl rfl rfl rfl (by omega) (by omega) rfl dX0_sortByOften_27 (fun x_10 s_10 a_10 b_10 => ?_)
            refine g_ialdI (i := x_10) (N := 12) B gH12.1 k_q_7 rfl rfl rfl rfl (by omega) (by omega) rfl dX0_sortByOften_28 (fun x_11 s_11 a_11 b_11 => ?_)
            refine lv_aload_n hx hb dX0_sortByOften_29 rfl (lv_at hl 0 rfl) ?_
            refine g_get B fl_RX0_22 gH12.1 kh0 rfl rfl rfl dX0_sortByOften_30 s_7 ?_
            refine lv_iload_n hx hb dX0_sortByOften_33 rfl (lv_at hl 1 rfl) ?_
            refine g_ialdI (i := v2_1) (N := 12) B gH12.1 k_q_7 rfl rfl rfl rfl (by omega) (by omega) rfl dX0_sortByOften_34 (fun x_12 s_12 a_12 b_12 => ?_)
            refine lv_icmp_ge (tgt := 58) hx hb dX0_sortByOften_35 (by decide) (fun c_13 => ?_) (fun c_13 => ?_)
            · have f_13 := z_le c_13 rfl rfl
              exact b58 H12 lc12 ls v12_2 u12_h0_0 gH12 (lv_sub hl [0, 1, 2] rfl) (by omega) (by omega) (by omega) (by omega) (by omega) s12_u12_h0_0
            · have f_13 := z_nle c_13 rfl rfl
              refine lv_aload_n hx hb dX0_sortByOften_38 rfl (lv_at hl 0 rfl) ?_
              refine g_get B fl_RX0_25 gH12.1 kh0 rfl rfl rfl dX0_sortByOften_39 s_8 ?_
              refine lv_iload_n hx hb dX0_sortByOften_42 rfl (lv_at hl 2 rfl) ?_
              refine lv_aload_n hx hb dX0_sortByOften_43 rfl (lv_at hl 0 rfl) ?_
              refine g_get B fl_RX0_25 gH12.1 kh0 rfl rfl rfl dX0_sortByOften_44 s_8 ?_
              refine lv_iload_n hx hb dX0_sortByOften_47 rfl (lv_at hl 2 rfl) ?_
              refine lv_iconst (v := 1) hx hb dX0_sortByOften_48 (by decide) ?_
              refine lv_isub hx hb dX0_sortByOften_49 ?_
              refine lv_topi (fun x_14 e_14 => ?_)
              have t_14 := z_sub e_14 rfl kl_1 (by omega) (by omega)
              refine g_ialdI (i := x_14) (N := 12) B gH12.1 k_q_8 rfl rfl rfl rfl (by omega) (by omega) rfl dX0_sortByOften_50 (fun x_15 s_15 a_15 b_15 => ?_)
              refine g_iastI (i := v12_2) (N := 12) B hV gH12 k_q_8 rfl rfl rfl rfl (by omega) (by omega) rfl (by omega) (by omega) rfl dX0_sortByOften_51 (fun H16 lc16 gH16 uH16 => ?_)
              have s_17 := uH16.keep (Or.inl (k_ne kh0 k_q_8 rfl)) s12_u12_h0_0
              have s_18 := uH16.keep (Or.inl (k_ne kh0 k_q_8 rfl)) s_7
              have s_19 := uH16.keep (Or.inl (k_ne kh0 k_q_8 rfl)) s_8
              have s_20 := uH16.keep (Or.inl (k_ne k_q_7 k_q_8 rfl)) s_11
              have s_21 := uH16.keep (Or.inl (k_ne k_q_7 k_q_8 rfl)) s_12
              obtain ⟨x_22, e_22⟩ : ∃ y : Int32, (v12_2 : Int32) + Int32.ofInt (-1) = y := ⟨_, rfl⟩
              refine lv_iinc (v := x_22) (lv' := [(2, .int x_22), (0, .ref h0), (1, .int v2_1)]) hx hb dX0_sortByOften_52 hl (k := 2) rfl e_22 (by decide) rfl (fun ls hl => ?_)
              have t_22 := z_inc2 e_22 rfl (by decide) (by omega) (by omega)
              refine lv_goto (tgt := 12) hx hb dX0_sortByOften_55 (by decide) ?_
              exact ih12 H16 lc16 ls x_22 u12_h0_0 (by omega) gH16 (lv_sub hl [1, 2, 0] rfl) (by omega) (by omega) (by omega) (by omega) (by omega) s_17
      refine lv_iload_n hx hb dX0_sortByOften_2 rfl (lv_at hl 1 rfl) ?_
      refine lv_aload_n hx hb dX0_sortByOften_3 rfl (lv_at hl 0 rfl) ?_
      refine g_getI B fl_RX0_9 gH2.1 kh0 rfl rfl rfl rfl rfl dX0_sortByOften_4 (fun x_23 s_23 a_23 b_23 => ?_)
      refine lv_icmp_ge (tgt := 71) hx hb dX0_sortByOften_7 (by decide) (fun c_24 => ?_) (fun c_24 => ?_)
      · have f_24 := z_le c_24 rfl rfl
        exact rtV B hr hlk hh hQ gH2 trivial dX0_sortByOften_71
      · have f_24 := z_nle c_24 rfl rfl
        refine lv_iload_n hx hb dX0_sortByOften_10 rfl (lv_at hl 1 rfl) ?_
        refine lv_istore_n (lv' := [(2, .int v2_1), (0, .ref h0), (1, .int v2_1)]) hx hb dX0_sortByOften_11 rfl hl (by decide) rfl (fun ls hl => ?_)
        exact b12 12 H2 lc2 ls v2_1 x_23 (by omega) gH2 (lv_sub hl [1, 2, 0] rfl) (by omega) (by omega) (by omega) (by omega) (by omega) s_23
  refine lv_iconst (v := 0) hx hb dX0_sortByOften_0 (by decide) ?_
  refine lv_istore_n (lv' := [(1, .int 0), (0, .ref h0)]) hx hb dX0_sortByOften_1 rfl hl (by decide) rfl (fun ls hl => ?_)
  have := kl_0
  exact b2 13 H0 [] ls 0 (by omega) hG0 (lv_sub hl [1, 0] rfl) (by omega) (by omega)

theorem dX0_spread_0 : decode cX0_spread 0 = .ok (.aload_n 0, 1) := by decide +kernel
theorem dX0_spread_1 : decode cX0_spread 1 = .ok (.getfield 9, 3) := by decide +kernel
theorem dX0_spread_4 : decode cX0_spread 4 = .ok (.iload_n 3, 1) := by decide +kernel
theorem dX0_spread_5 : decode cX0_spread 5 = .ok (.isub, 1) := by decide +kernel
theorem dX0_spread_6 : decode cX0_spread 6 = .ok (.istore 4, 2) := by decide +kernel
theorem dX0_spread_8 : decode cX0_spread 8 = .ok (.iload_n 1, 1) := by decide +kernel
theorem dX0_spread_9 : decode cX0_spread 9 = .ok (.bipush 12, 2) := by decide +kernel
theorem dX0_spread_11 : decode cX0_spread 11 = .ok (.if_icmp .gt 9, 3) := by decide +kernel
theorem dX0_spread_14 : decode cX0_spread 14 = .ok (.iload_n 2, 1) := by decide +kernel
theorem dX0_spread_15 : decode cX0_spread 15 = .ok (.iload 4, 2) := by decide +kernel
theorem dX0_spread_17 : decode cX0_spread 17 = .ok (.if_icmp .le 4, 3) := by decide +kernel
theorem dX0_spread_20 : decode cX0_spread 20 = .ok (.return_, 1) := by decide +kernel
theorem dX0_spread_21 : decode cX0_spread 21 = .ok (.iload_n 2, 1) := by decide +kernel
theorem dX0_spread_22 : decode cX0_spread 22 = .ok (.iload 4, 2) := by decide +kernel
theorem dX0_spread_24 : decode cX0_spread 24 = .ok (.if_icmp .ne 34, 3) := by decide +kernel
theorem dX0_spread_27 : decode cX0_spread 27 = .ok (.iload_n 3, 1) := by decide +kernel
theorem dX0_spread_28 : decode cX0_spread 28 = .ok (.istore 5, 2) := by decide +kernel
theorem dX0_spread_30 : decode cX0_spread 30 = .ok (.iload 5, 2) := by decide +kernel
theorem dX0_spread_32 : decode cX0_spread 32 = .ok (.aload_n 0, 1) := by decide +kernel
theorem dX0_spread_33 : decode cX0_spread 33 = .ok (.getfield 9, 3) := by decide +kernel
theorem dX0_spread_36 : decode cX0_spread 36 = .ok (.if_icmp .ge 17, 3) := by decide +kernel
theorem dX0_spread_39 : decode cX0_spread 39 = .ok (.aload_n 0, 1) := by decide +kernel
theorem dX0_spread_40 : decode cX0_spread 40 = .ok (.getfield 28, 3) := by decide +kernel
theorem dX0_spread_43 : decode cX0_spread 43 = .ok (.iload 5, 2) := by decide +kernel
theorem dX0_spread_45 : decode cX0_spread 45 = .ok (.iload_n 1, 1) := by decide +kernel
theorem dX0_spread_46 : decode cX0_spread 46 = .ok (.iastore, 1) := by decide +kernel
theorem dX0_spread_47 : decode cX0_spread 47 = .ok (.iinc 5 1, 3) := by decide +kernel
theorem dX0_spread_50 : decode cX0_spread 50 = .ok (.goto (-20), 3) := by decide +kernel
theorem dX0_spread_53 : decode cX0_spread 53 = .ok (.aload_n 0, 1) := by decide +kernel
theorem dX0_spread_54 : decode cX0_spread 54 = .ok (.invokevirtual 48, 3) := by decide +kernel
theorem dX0_spread_57 : decode cX0_spread 57 = .ok (.return_, 1) := by decide +kernel
theorem dX0_spread_58 : decode cX0_spread 58 = .ok (.iconst 0, 1) := by decide +kernel
theorem dX0_spread_59 : decode cX0_spread 59 = .ok (.istore 5, 2) := by decide +kernel
theorem dX0_spread_61 : decode cX0_spread 61 = .ok (.iload 5, 2) := by decide +kernel
theorem dX0_spread_63 : decode cX0_spread 63 = .ok (.iload_n 2, 1) := by decide +kernel
theorem dX0_spread_64 : decode cX0_spread 64 = .ok (.if_icmp .ge 43, 3) := by decide +kernel
theorem dX0_spread_67 : decode cX0_spread 67 = .ok (.iload 5, 2) := by decide +kernel
theorem dX0_spread_69 : decode cX0_spread 69 = .ok (.ifCond .le 15, 3) := by decide +kernel
theorem dX0_spread_72 : decode cX0_spread 72 = .ok (.aload_n 0, 1) := by decide +kernel
theorem dX0_spread_73 : decode cX0_spread 73 = .ok (.getfield 28, 3) := by decide +kernel
theorem dX0_spread_76 : decode cX0_spread 76 = .ok (.iload_n 3, 1) := by decide +kernel
theorem dX0_spread_77 : decode cX0_spread 77 = .ok (.iload 5, 2) := by decide +kernel
theorem dX0_spread_79 : decode cX0_spread 79 = .ok (.iadd, 1) := by decide +kernel
theorem dX0_spread_80 : decode cX0_spread 80 = .ok (.iconst 1, 1) := by decide +kernel
theorem dX0_spread_81 : decode cX0_spread 81 = .ok (.isub, 1) := by decide +kernel
theorem dX0_spread_82 : decode cX0_spread 82 = .ok (.iload_n 1, 1) := by decide +kernel
theorem dX0_spread_83 : decode cX0_spread 83 = .ok (.iastore, 1) := by decide +kernel
theorem dX0_spread_84 : decode cX0_spread 84 = .ok (.aload_n 0, 1) := by decide +kernel
theorem dX0_spread_85 : decode cX0_spread 85 = .ok (.iload_n 1, 1) := by decide +kernel
theorem dX0_spread_86 : decode cX0_spread 86 = .ok (.iconst 1, 1) := by decide +kernel
theorem dX0_spread_87 : decode cX0_spread 87 = .ok (.iadd, 1) := by decide +kernel
theorem dX0_spread_88 : decode cX0_spread 88 = .ok (.iconst 2, 1) := by decide +kernel
theorem dX0_spread_89 : decode cX0_spread 89 = .ok (.iload_n 2, 1) := by decide +kernel
theorem dX0_spread_90 : decode cX0_spread 90 = .ok (.iload 5, 2) := by decide +kernel
theorem dX0_spread_92 : decode cX0_spread 92 = .ok (.isub, 1) := by decide +kernel
theorem dX0_spread_93 : decode cX0_spread 93 = .ok (.imul, 1) := by decide +kernel
theorem dX0_spread_94 : decode cX0_spread 94 = .ok (.iload_n 3, 1) := by decide +kernel
theorem dX0_spread_95 : decode cX0_spread 95 = .ok (.iload 5, 2) := by decide +kernel
theorem dX0_spread_97 : decode cX0_spread 97 = .ok (.iadd, 1) := by decide +kernel
theorem dX0_spread_98 : decode cX0_spread 98 = .ok (.invokevirtual 44, 3) := by decide +kernel
theorem dX0_spread_101 : decode cX0_spread 101 = .ok (.iinc 5 1, 3) := by decide +kernel
theorem dX0_spread_104 : decode cX0_spread 104 = .ok (.goto (-43), 3) := by decide +kernel
theorem dX0_spread_107 : decode cX0_spread 107 = .ok (.return_, 1) := by decide +kernel
def rm_X0_spread_d13 : Room := { frames := 0, cells := 0, slots := 0, locals := 0 }
set_option maxRecDepth 100000 in
set_option maxHeartbeats 4000000 in
theorem c_X0_spread_d13 (l : Launch) (E : zE) (hV : zV E) (H0 : Heap) (hT0 : HT E H0) (h0 : Nat) (kh0 : eK E h0 = 1) (p0 : Int32) (p0_lo : 13 ≤ p0.toInt) (p0_hi : p0.toInt ≤ 13) (p1 : Int32) (p1_lo : 0 ≤ p1.toInt) (p1_hi : p1.toInt ≤ 24) (p2 : Int32) (p2_lo : 0 ≤ p2.toInt) (p2_hi : p2.toInt ≤ 12) : Met l yX0_spread (zws yX0_spread cX0_spread 6 none) rm_X0_spread_d13 (zP E H0 [.ref h0, .int p0, .int p1, .int p2]) (zPV) 0 0 (fun _ => False) := by
  refine zEnt (by decide) (Nat.le_of_ble_eq_true rfl) (fun p e s m args below meth c ls Q B hr hlk hh hQ hl => ?_)
  have hx := B.1
  have hb := B.2.1
  have hl : lv_has ls 6 [(0, .ref h0), (1, .int p0), (2, .int p1), (3, .int p2)] := hl
  refine lv_aload_n hx hb dX0_spread_0 rfl (lv_at hl 0 rfl) ?_
  refine g_getI B fl_RX0_9 hT0 kh0 rfl rfl rfl rfl rfl dX0_spread_1 (fun x_1 s_1 a_1 b_1 => ?_)
  refine lv_iload_n hx hb dX0_spread_4 rfl (lv_at hl 3 rfl) ?_
  refine lv_isub hx hb dX0_spread_5 ?_
  refine lv_topi (fun x_2 e_2 => ?_)
  have t_2 := z_sub e_2 rfl rfl (by omega) (by omega)
  refine lv_istore (lv' := [(4, .int x_2), (0, .ref h0), (1, .int p0), (2, .int p1), (3, .int p2)]) hx hb dX0_spread_6 hl (by decide) rfl (fun ls hl => ?_)
  refine lv_iload_n hx hb dX0_spread_8 rfl (lv_at hl 2 rfl) ?_
  refine lv_bipush (v := 12) hx hb dX0_spread_9 (by decide) ?_
  refine lv_icmp_gt (tgt := 20) hx hb dX0_spread_11 (by decide) (fun c_3 => ?_) (fun c_3 => ?_)
  · have f_3 := z_lt c_3 kl_12 rfl
    exact rtPV B hr hlk hh hQ dX0_spread_20
  · have f_3 := z_nlt c_3 kl_12 rfl
    exact False.elim (by omega)

def rm_X0_spread_d12 : Room := { frames := 2, cells := 0, slots := 0, locals := 62 }
abbrev wS_X0_spread_d12 : List (Nat × Nat) := [(1, 1), (20, 99), (23, 99), (24, 99)]
set_option maxRecDepth 100000 in
set_option maxHeartbeats 4000000 in
theorem c_X0_spread_d12 (l : Launch) (E : zE) (hV : zV E) (H0 : Heap) (hT0 : HT E H0) (h0 : Nat) (kh0 : eK E h0 = 1) (p0 : Int32) (p0_lo : 12 ≤ p0.toInt) (p0_hi : p0.toInt ≤ 12) (p1 : Int32) (p1_lo : 0 ≤ p1.toInt) (p1_hi : p1.toInt ≤ 24) (p2 : Int32) (p2_lo : 0 ≤ p2.toInt) (p2_hi : p2.toInt ≤ 12) : Met l yX0_spread (zws yX0_spread cX0_spread 6 none) rm_X0_spread_d12 (zP E H0 [.ref h0, .int p0, .int p1, .int p2]) (zQV E E wS_X0_spread_d12 (fun H1 => True)) 0 0 (zfr E) := by
  refine zEnt (by decide) (Nat.le_of_ble_eq_true rfl) (fun p e s m args below meth c ls Q B hr hlk hh hQ hl => ?_)
  have hx := B.1
  have hb := B.2.1
  have hG0 : zG E wS_X0_spread_d12 H0 H0 [] := zG.rf hT0
  have hl : lv_has ls 6 [(0, .ref h0), (1, .int p0), (2, .int p1), (3, .int p2)] := hl
  have b61 : ∀ (n61 : Nat) (H61 : Heap) (lc61 : List Loc) (ls : Array Slot) (v61_5 : Int32), 12 - v61_5.toInt < (n61 : Int) → zG E wS_X0_spread_d12 H0 H61 lc61 → lv_has ls 6 [(0, .ref h0), (1, .int p0), (2, .int p1), (3, .int p2), (5, .int v61_5)] → p1.toInt ≤ 12 → 0 ≤ v61_5.toInt → v61_5.toInt ≤ 12 → p1.toInt + p2.toInt < 12 → W p l e rm_X0_spread_d12 s m args below meth c H61 lc61 0 0 Q (F0 m 61 ls []) := by
    intro n61
    induction n61 with
    | zero =>
      intro H61 lc61 ls v61_5 hm61 gH61 hl f61_1 f61_2 f61_3 f61_4
      exact absurd hm61 (by omega)
    | succ n61 ih61 =>
      intro H61 lc61 ls v61_5 hm61 gH61 hl f61_1 f61_2 f61_3 f61_4
      have b84 : ∀ (H84 : Heap) (lc84 : List Loc) (ls : Array Slot), zG E wS_X0_spread_d12 H0 H84 lc84 → lv_has ls 6 [(0, .ref h0), (1, .int p0), (2, .int p1), (3, .int p2), (5, .int v61_5)] → 1 ≤ p1.toInt → v61_5.toInt ≤ 11 → v61_5.toInt < p1.toInt → W p l e rm_X0_spread_d12 s m args below meth c H84 lc84 0 0 Q (F0 m 84 ls []) := by
        intro H84 lc84 ls gH84 hl f84_1 f84_2 f84_3
        refine lv_aload_n hx hb dX0_spread_84 rfl (lv_at hl 0 rfl) ?_
        refine lv_iload_n hx hb dX0_spread_85 rfl (lv_at hl 1 rfl) ?_
        refine lv_iconst (v := 1) hx hb dX0_spread_86 (by decide) ?_
        refine lv_iadd hx hb dX0_spread_87 ?_
        refine lv_topi (fun x_1 e_1 => ?_)
        have t_1 := z_add e_1 rfl kl_1 (by omega) (by omega)
        refine lv_iconst (v := 2) hx hb dX0_spread_88 (by decide) ?_
        refine lv_iload_n hx hb dX0_spread_89 rfl (lv_at hl 2 rfl) ?_
        refine lv_iload hx hb dX0_spread_90 (lv_at hl 4 rfl) ?_
        refine lv_isub hx hb dX0_spread_92 ?_
        refine lv_topi (fun x_2 e_2 => ?_)
        have t_2 := z_sub e_2 rfl rfl (by omega) (by omega)
        refine lv_imul hx hb dX0_spread_93 ?_
        refine lv_topi (fun x_3 e_3 => ?_)
        have t_3 := z_mul e_3 kl_2 rfl (by omega) (by omega)
        refine lv_iload_n hx hb dX0_spread_94 rfl (lv_at hl 3 rfl) ?_
        refine lv_iload hx hb dX0_spread_95 (lv_at hl 4 rfl) ?_
        refine lv_iadd hx hb dX0_spread_97 ?_
        refine lv_topi (fun x_4 e_4 => ?_)
        have t_4 := z_add e_4 rfl rfl (by omega) (by omega)
        refine zkPV (zrV (rest := []) B (c_X0_spread_d13 l E hV H84 gH84.1 h0 kh0 x_1 (by omega) (by omega) x_3 (by omega) (by omega) x_4 (by omega) (by omega)) cl_RX0_44 gH84.1 kh0 rfl rfl rfl rfl hl.1 rfl (Nat.le_of_ble_eq_true rfl) dX0_spread_98 rfl rfl ⟨rfl, rfl⟩ ⟨Nat.zero_le _, Nat.zero_le _⟩ (zO.of gH84 hh)) ?_
        obtain ⟨x_6, e_6⟩ : ∃ y : Int32, (v61_5 : Int32) + Int32.ofInt 1 = y := ⟨_, rfl⟩
        refine lv_iinc (v := x_6) (lv' := [(5, .int x_6), (0, .ref h0), (1, .int p0), (2, .int p1), (3, .int p2)]) hx hb dX0_spread_101 hl (k := 4) rfl e_6 (by decide) rfl (fun ls hl => ?_)
        have t_6 := z_inc2 e_6 rfl (by decide) (by omega) (by omega)
        refine lv_goto (tgt := 61) hx hb dX0_spread_104 (by decide) ?_
        exact ih61 H84 lc84 ls x_6 (by omega) gH84 (lv_sub hl [1, 2, 3, 4, 0] rfl) (by omega) (by omega) (by omega) (by omega)
      refine lv_iload hx hb dX0_spread_61 (lv_at hl 4 rfl) ?_
      refine lv_iload_n hx hb dX0_spread_63 rfl (lv_at hl 2 rfl) ?_
      refine lv_icmp_ge (tgt := 107) hx hb dX0_spread_64 (by decide) (fun c_7 => ?_) (fun c_7 => ?_)
      · have f_7 := z_le c_7 rfl rfl
        exact rtV B hr hlk hh hQ gH61 trivial dX0_spread_107
      · have f_7 := z_nle c_7 rfl rfl
        refine lv_iload hx hb dX0_spread_67 (lv_at hl 4 rfl) ?_
        refine lv_if_le (tgt := 84) hx hb dX0_spread_69 (by decide) (fun c_8 => ?_) (fun c_8 => ?_)
        · have f_8 := z_le c_8 rfl kl_0
          exact b84 H61 lc61 ls gH61 (lv_sub hl [0, 1, 2, 3, 4] rfl) (by omega) (by omega) (by omega)
        · have f_8 := z_nle c_8 rfl kl_0
          refine lv_aload_n hx hb dX0_spread_72 rfl (lv_at hl 0 rfl) ?_
          refine g_getR B fl_RX0_28 gH61.1 kh0 rfl rfl rfl rfl rfl dX0_spread_73 (fun q_9 s_9 k_q_9 => ?_)
          refine lv_iload_n hx hb dX0_spread_76 rfl (lv_at hl 3 rfl) ?_
          refine lv_iload hx hb dX0_spread_77 (lv_at hl 4 rfl) ?_
          refine lv_iadd hx hb dX0_spread_79 ?_
          refine lv_topi (fun x_10 e_10 => ?_)
          have t_10 := z_add e_10 rfl rfl (by omega) (by omega)
          refine lv_iconst (v := 1) hx hb dX0_spread_80 (by decide) ?_
          refine lv_isub hx hb dX0_spread_81 ?_
          refine lv_topi (fun x_11 e_11 => ?_)
          have t_11 := z_sub e_11 rfl kl_1 (by omega) (by omega)
          refine lv_iload_n hx hb dX0_spread_82 rfl (lv_at hl 1 rfl) ?_
          refine g_iastI (i := x_11) (N := 12) B hV gH61 k_q_9 rfl rfl rfl rfl (by omega) (by omega) rfl (z_rng _).1 (z_rng _).2 rfl dX0_spread_83 (fun H12 lc12 gH12 uH12 => ?_)
          have s_13 := uH12.keep (Or.inl (k_ne kh0 k_q_9 rfl)) s_9
          exact b84 H12 lc12 ls gH12 (lv_sub hl [0, 1, 2, 3, 4] rfl) (by omega) (by omega) (by omega)
  have b30 : ∀ (n30 : Nat) (H30 : Heap) (lc30 : List Loc) (ls : Array Slot) (v30_5 : Int32) (u30_h0_0 : Int32), 12 - v30_5.toInt < (n30 : Int) → zG E wS_X0_spread_d12 H0 H30 lc30 → lv_has ls 6 [(0, .ref h0), (1, .int p0), (5, .int v30_5)] → 0 ≤ v30_5.toInt → v30_5.toInt ≤ 12 → 0 ≤ u30_h0_0.toInt → u30_h0_0.toInt ≤ 12 → sl H30 h0 (zix E 1 0) = some (.int u30_h0_0) → W p l e rm_X0_spread_d12 s m args below meth c H30 lc30 0 0 Q (F0 m 30 ls []) := by
    intro n30
    induction n30 with
    | zero =>
      intro H30 lc30 ls v30_5 u30_h0_0 hm30 gH30 hl f30_1 f30_2 f30_3 f30_4 s30_u30_h0_0
      exact absurd hm30 (by omega)
    | succ n30 ih30 =>
      intro H30 lc30 ls v30_5 u30_h0_0 hm30 gH30 hl f30_1 f30_2 f30_3 f30_4 s30_u30_h0_0
      refine lv_iload hx hb dX0_spread_30 (lv_at hl 2 rfl) ?_
      refine lv_aload_n hx hb dX0_spread_32 rfl (lv_at hl 0 rfl) ?_
      refine g_get B fl_RX0_9 gH30.1 kh0 rfl rfl rfl dX0_spread_33 s30_u30_h0_0 ?_
      refine lv_icmp_ge (tgt := 53) hx hb dX0_spread_36 (by decide) (fun c_14 => ?_) (fun c_14 => ?_)
      · have f_14 := z_le c_14 rfl rfl
        refine lv_aload_n hx hb dX0_spread_53 rfl (lv_at hl 0 rfl) ?_
        refine zkV (zrV (rest := []) B (c_X0_weigh l E hV H30 gH30.1 h0 kh0) cl_RX0_48 gH30.1 kh0 rfl rfl rfl rfl hl.1 rfl (Nat.le_of_ble_eq_true rfl) dX0_spread_54 rfl rfl ⟨rfl, rfl⟩ ⟨Nat.zero_le _, Nat.zero_le _⟩ (zO.of gH30 hh)) gH30 rfl (fun H15 lc15 hp_15 gH15 rH15 => ?_)
        exact rtV B hr hlk hh hQ gH15 trivial dX0_spread_57
      · have f_14 := z_nle c_14 rfl rfl
        refine lv_aload_n hx hb dX0_spread_39 rfl (lv_at hl 0 rfl) ?_
        refine g_getR B fl_RX0_28 gH30.1 kh0 rfl rfl rfl rfl rfl dX0_spread_40 (fun q_16 s_16 k_q_16 => ?_)
        refine lv_iload hx hb dX0_spread_43 (lv_at hl 2 rfl) ?_
        refine lv_iload_n hx hb dX0_spread_45 rfl (lv_at hl 1 rfl) ?_
        refine g_iastI (i := v30_5) (N := 12) B hV gH30 k_q_16 rfl rfl rfl rfl (by omega) (by omega) rfl (z_rng _).1 (z_rng _).2 rfl dX0_spread_46 (fun H17 lc17 gH17 uH17 => ?_)
        have s_18 := uH17.keep (Or.inl (k_ne kh0 k_q_16 rfl)) s30_u30_h0_0
        have s_19 := uH17.keep (Or.inl (k_ne kh0 k_q_16 rfl)) s_16
        obtain ⟨x_20, e_20⟩ : ∃ y : Int32, (v30_5 : Int32) + Int32.ofInt 1 = y := ⟨_, rfl⟩
        refine lv_iinc (v := x_20) (lv' := [(5, .int x_20), (0, .ref h0), (1, .int p0)]) hx hb dX0_spread_47 hl (k := 2) rfl e_20 (by decide) rfl (fun ls hl => ?_)
        have t_20 := z_inc2 e_20 rfl (by decide) (by omega) (by omega)
        refine lv_goto (tgt := 30) hx hb dX0_spread_50 (by decide) ?_
        exact ih30 H17 lc17 ls x_20 u30_h0_0 (by omega) gH17 (lv_sub hl [1, 2, 0] rfl) (by omega) (by omega) (by omega) (by omega) s_18
  refine lv_aload_n hx hb dX0_spread_0 rfl (lv_at hl 0 rfl) ?_
  refine g_getI B fl_RX0_9 hT0 kh0 rfl rfl rfl rfl rfl dX0_spread_1 (fun x_21 s_21 a_21 b_21 => ?_)
  refine lv_iload_n hx hb dX0_spread_4 rfl (lv_at hl 3 rfl) ?_
  refine lv_isub hx hb dX0_spread_5 ?_
  refine lv_topi (fun x_22 e_22 => ?_)
  have t_22 := z_sub e_22 rfl rfl (by omega) (by omega)
  refine lv_istore (lv' := [(4, .int x_22), (0, .ref h0), (1, .int p0), (2, .int p1), (3, .int p2)]) hx hb dX0_spread_6 hl (by decide) rfl (fun ls hl => ?_)
  refine lv_iload_n hx hb dX0_spread_8 rfl (lv_at hl 2 rfl) ?_
  refine lv_bipush (v := 12) hx hb dX0_spread_9 (by decide) ?_
  refine lv_icmp_gt (tgt := 20) hx hb dX0_spread_11 (by decide) (fun c_23 => ?_) (fun c_23 => ?_)
  · have f_23 := z_lt c_23 kl_12 rfl
    exact False.elim (by omega)
  · have f_23 := z_nlt c_23 kl_12 rfl
    refine lv_iload_n hx hb dX0_spread_14 rfl (lv_at hl 3 rfl) ?_
    refine lv_iload hx hb dX0_spread_15 (lv_at hl 0 rfl) ?_
    refine lv_icmp_le (tgt := 21) hx hb dX0_spread_17 (by decide) (fun c_24 => ?_) (fun c_24 => ?_)
    · have f_24 := z_le c_24 rfl rfl
      refine lv_iload_n hx hb dX0_spread_21 rfl (lv_at hl 3 rfl) ?_
      refine lv_iload hx hb dX0_spread_22 (lv_at hl 0 rfl) ?_
      refine lv_icmp_ne (tgt := 58) hx hb dX0_spread_24 (by decide) (fun c_25 => ?_) (fun c_25 => ?_)
      · have f_25 := z_ne c_25 rfl rfl
        refine lv_iconst (v := 0) hx hb dX0_spread_58 (by decide) ?_
        refine lv_istore (lv' := [(5, .int 0), (4, .int x_22), (0, .ref h0), (1, .int p0), (2, .int p1), (3, .int p2)]) hx hb dX0_spread_59 hl (by decide) rfl (fun ls hl => ?_)
        have := kl_0
        exact b61 13 H0 [] ls 0 (by omega) hG0 (lv_sub hl [2, 3, 4, 5, 0] rfl) (by omega) (by omega) (by omega) (by omega)
      · have f_25 := z_eq c_25 rfl rfl
        refine lv_iload_n hx hb dX0_spread_27 rfl (lv_at hl 4 rfl) ?_
        refine lv_istore (lv' := [(5, .int p2), (4, .int x_22), (0, .ref h0), (1, .int p0), (2, .int p1), (3, .int p2)]) hx hb dX0_spread_28 hl (by decide) rfl (fun ls hl => ?_)
        exact b30 13 H0 [] ls p2 x_21 (by omega) hG0 (lv_sub hl [2, 3, 0] rfl) (by omega) (by omega) (by omega) (by omega) s_21
    · have f_24 := z_nle c_24 rfl rfl
      exact rtV B hr hlk hh hQ hG0 trivial dX0_spread_20

def rm_X0_spread_d11 : Room := { frames := 3, cells := 0, slots := 0, locals := 87 }
abbrev wS_X0_spread_d11 : List (Nat × Nat) := [(1, 1), (20, 99), (23, 99), (24, 99)]
set_option maxRecDepth 100000 in
set_option maxHeartbeats 4000000 in
theorem c_X0_spread_d11 (l : Launch) (E : zE) (hV : zV E) (H0 : Heap) (hT0 : HT E H0) (h0 : Nat) (kh0 : eK E h0 = 1) (p0 : Int32) (p0_lo : 11 ≤ p0.toInt) (p0_hi : p0.toInt ≤ 11) (p1 : Int32) (p1_lo : 0 ≤ p1.toInt) (p1_hi : p1.toInt ≤ 24) (p2 : Int32) (p2_lo : 0 ≤ p2.toInt) (p2_hi : p2.toInt ≤ 12) : Met l yX0_spread (zws yX0_spread cX0_spread 6 none) rm_X0_spread_d11 (zP E H0 [.ref h0, .int p0, .int p1, .int p2]) (zQV E E wS_X0_spread_d11 (fun H1 => True)) 0 0 (zfr E) := by
  refine zEnt (by decide) (Nat.le_of_ble_eq_true rfl) (fun p e s m args below meth c ls Q B hr hlk hh hQ hl => ?_)
  have hx := B.1
  have hb := B.2.1
  have hG0 : zG E wS_X0_spread_d11 H0 H0 [] := zG.rf hT0
  have hl : lv_has ls 6 [(0, .ref h0), (1, .int p0), (2, .int p1), (3, .int p2)] := hl
  have b61 : ∀ (n61 : Nat) (H61 : Heap) (lc61 : List Loc) (ls : Array Slot) (v61_5 : Int32), 12 - v61_5.toInt < (n61 : Int) → zG E wS_X0_spread_d11 H0 H61 lc61 → lv_has ls 6 [(0, .ref h0), (1, .int p0), (2, .int p1), (3, .int p2), (5, .int v61_5)] → p1.toInt ≤ 12 → 0 ≤ v61_5.toInt → v61_5.toInt ≤ 12 → p1.toInt + p2.toInt < 12 → W p l e rm_X0_spread_d11 s m args below meth c H61 lc61 0 0 Q (F0 m 61 ls []) := by
    intro n61
    induction n61 with
    | zero =>
      intro H61 lc61 ls v61_5 hm61 gH61 hl f61_1 f61_2 f61_3 f61_4
      exact absurd hm61 (by omega)
    | succ n61 ih61 =>
      intro H61 lc61 ls v61_5 hm61 gH61 hl f61_1 f61_2 f61_3 f61_4
      have b84 : ∀ (H84 : Heap) (lc84 : List Loc) (ls : Array Slot), zG E wS_X0_spread_d11 H0 H84 lc84 → lv_has ls 6 [(0, .ref h0), (1, .int p0), (2, .int p1), (3, .int p2), (5, .int v61_5)] → 1 ≤ p1.toInt → v61_5.toInt ≤ 11 → v61_5.toInt < p1.toInt → W p l e rm_X0_spread_d11 s m args below meth c H84 lc84 0 0 Q (F0 m 84 ls []) := by
        intro H84 lc84 ls gH84 hl f84_1 f84_2 f84_3
        refine lv_aload_n hx hb dX0_spread_84 rfl (lv_at hl 0 rfl) ?_
        refine lv_iload_n hx hb dX0_spread_85 rfl (lv_at hl 1 rfl) ?_
        refine lv_iconst (v := 1) hx hb dX0_spread_86 (by decide) ?_
        refine lv_iadd hx hb dX0_spread_87 ?_
        refine lv_topi (fun x_1 e_1 => ?_)
        have t_1 := z_add e_1 rfl kl_1 (by omega) (by omega)
        refine lv_iconst (v := 2) hx hb dX0_spread_88 (by decide) ?_
        refine lv_iload_n hx hb dX0_spread_89 rfl (lv_at hl 2 rfl) ?_
        refine lv_iload hx hb dX0_spread_90 (lv_at hl 4 rfl) ?_
        refine lv_isub hx hb dX0_spread_92 ?_
        refine lv_topi (fun x_2 e_2 => ?_)
        have t_2 := z_sub e_2 rfl rfl (by omega) (by omega)
        refine lv_imul hx hb dX0_spread_93 ?_
        refine lv_topi (fun x_3 e_3 => ?_)
        have t_3 := z_mul e_3 kl_2 rfl (by omega) (by omega)
        refine lv_iload_n hx hb dX0_spread_94 rfl (lv_at hl 3 rfl) ?_
        refine lv_iload hx hb dX0_spread_95 (lv_at hl 4 rfl) ?_
        refine lv_iadd hx hb dX0_spread_97 ?_
        refine lv_topi (fun x_4 e_4 => ?_)
        have t_4 := z_add e_4 rfl rfl (by omega) (by omega)
        refine zkV (zrV (rest := []) B (c_X0_spread_d12 l E hV H84 gH84.1 h0 kh0 x_1 (by omega) (by omega) x_3 (by omega) (by omega) x_4 (by omega) (by omega)) cl_RX0_44 gH84.1 kh0 rfl rfl rfl rfl hl.1 rfl (Nat.le_of_ble_eq_true rfl) dX0_spread_98 rfl rfl ⟨rfl, rfl⟩ ⟨Nat.zero_le _, Nat.zero_le _⟩ (zO.of gH84 hh)) gH84 rfl (fun H5 lc5 hp_5 gH5 rH5 => ?_)
        obtain ⟨x_6, e_6⟩ : ∃ y : Int32, (v61_5 : Int32) + Int32.ofInt 1 = y := ⟨_, rfl⟩
        refine lv_iinc (v := x_6) (lv' := [(5, .int x_6), (0, .ref h0), (1, .int p0), (2, .int p1), (3, .int p2)]) hx hb dX0_spread_101 hl (k := 4) rfl e_6 (by decide) rfl (fun ls hl => ?_)
        have t_6 := z_inc2 e_6 rfl (by decide) (by omega) (by omega)
        refine lv_goto (tgt := 61) hx hb dX0_spread_104 (by decide) ?_
        exact ih61 H5 lc5 ls x_6 (by omega) gH5 (lv_sub hl [1, 2, 3, 4, 0] rfl) (by omega) (by omega) (by omega) (by omega)
      refine lv_iload hx hb dX0_spread_61 (lv_at hl 4 rfl) ?_
      refine lv_iload_n hx hb dX0_spread_63 rfl (lv_at hl 2 rfl) ?_
      refine lv_icmp_ge (tgt := 107) hx hb dX0_spread_64 (by decide) (fun c_7 => ?_) (fun c_7 => ?_)
      · have f_7 := z_le c_7 rfl rfl
        exact rtV B hr hlk hh hQ gH61 trivial dX0_spread_107
      · have f_7 := z_nle c_7 rfl rfl
        refine lv_iload hx hb dX0_spread_67 (lv_at hl 4 rfl) ?_
        refine lv_if_le (tgt := 84) hx hb dX0_spread_69 (by decide) (fun c_8 => ?_) (fun c_8 => ?_)
        · have f_8 := z_le c_8 rfl kl_0
          exact b84 H61 lc61 ls gH61 (lv_sub hl [0, 1, 2, 3, 4] rfl) (by omega) (by omega) (by omega)
        · have f_8 := z_nle c_8 rfl kl_0
          refine lv_aload_n hx hb dX0_spread_72 rfl (lv_at hl 0 rfl) ?_
          refine g_getR B fl_RX0_28 gH61.1 kh0 rfl rfl rfl rfl rfl dX0_spread_73 (fun q_9 s_9 k_q_9 => ?_)
          refine lv_iload_n hx hb dX0_spread_76 rfl (lv_at hl 3 rfl) ?_
          refine lv_iload hx hb dX0_spread_77 (lv_at hl 4 rfl) ?_
          refine lv_iadd hx hb dX0_spread_79 ?_
          refine lv_topi (fun x_10 e_10 => ?_)
          have t_10 := z_add e_10 rfl rfl (by omega) (by omega)
          refine lv_iconst (v := 1) hx hb dX0_spread_80 (by decide) ?_
          refine lv_isub hx hb dX0_spread_81 ?_
          refine lv_topi (fun x_11 e_11 => ?_)
          have t_11 := z_sub e_11 rfl kl_1 (by omega) (by omega)
          refine lv_iload_n hx hb dX0_spread_82 rfl (lv_at hl 1 rfl) ?_
          refine g_iastI (i := x_11) (N := 12) B hV gH61 k_q_9 rfl rfl rfl rfl (by omega) (by omega) rfl (z_rng _).1 (z_rng _).2 rfl dX0_spread_83 (fun H12 lc12 gH12 uH12 => ?_)
          have s_13 := uH12.keep (Or.inl (k_ne kh0 k_q_9 rfl)) s_9
          exact b84 H12 lc12 ls gH12 (lv_sub hl [0, 1, 2, 3, 4] rfl) (by omega) (by omega) (by omega)
  have b30 : ∀ (n30 : Nat) (H30 : Heap) (lc30 : List Loc) (ls : Array Slot) (v30_5 : Int32) (u30_h0_0 : Int32), 12 - v30_5.toInt < (n30 : Int) → zG E wS_X0_spread_d11 H0 H30 lc30 → lv_has ls 6 [(0, .ref h0), (1, .int p0), (5, .int v30_5)] → 0 ≤ v30_5.toInt → v30_5.toInt ≤ 12 → 0 ≤ u30_h0_0.toInt → u30_h0_0.toInt ≤ 12 → sl H30 h0 (zix E 1 0) = some (.int u30_h0_0) → W p l e rm_X0_spread_d11 s m args below meth c H30 lc30 0 0 Q (F0 m 30 ls []) := by
    intro n30
    induction n30 with
    | zero =>
      intro H30 lc30 ls v30_5 u30_h0_0 hm30 gH30 hl f30_1 f30_2 f30_3 f30_4 s30_u30_h0_0
      exact absurd hm30 (by omega)
    | succ n30 ih30 =>
      intro H30 lc30 ls v30_5 u30_h0_0 hm30 gH30 hl f30_1 f30_2 f30_3 f30_4 s30_u30_h0_0
      refine lv_iload hx hb dX0_spread_30 (lv_at hl 2 rfl) ?_
      refine lv_aload_n hx hb dX0_spread_32 rfl (lv_at hl 0 rfl) ?_
      refine g_get B fl_RX0_9 gH30.1 kh0 rfl rfl rfl dX0_spread_33 s30_u30_h0_0 ?_
      refine lv_icmp_ge (tgt := 53) hx hb dX0_spread_36 (by decide) (fun c_14 => ?_) (fun c_14 => ?_)
      · have f_14 := z_le c_14 rfl rfl
        refine lv_aload_n hx hb dX0_spread_53 rfl (lv_at hl 0 rfl) ?_
        refine zkV (zrV (rest := []) B (c_X0_weigh l E hV H30 gH30.1 h0 kh0) cl_RX0_48 gH30.1 kh0 rfl rfl rfl rfl hl.1 rfl (Nat.le_of_ble_eq_true rfl) dX0_spread_54 rfl rfl ⟨rfl, rfl⟩ ⟨Nat.zero_le _, Nat.zero_le _⟩ (zO.of gH30 hh)) gH30 rfl (fun H15 lc15 hp_15 gH15 rH15 => ?_)
        exact rtV B hr hlk hh hQ gH15 trivial dX0_spread_57
      · have f_14 := z_nle c_14 rfl rfl
        refine lv_aload_n hx hb dX0_spread_39 rfl (lv_at hl 0 rfl) ?_
        refine g_getR B fl_RX0_28 gH30.1 kh0 rfl rfl rfl rfl rfl dX0_spread_40 (fun q_16 s_16 k_q_16 => ?_)
        refine lv_iload hx hb dX0_spread_43 (lv_at hl 2 rfl) ?_
        refine lv_iload_n hx hb dX0_spread_45 rfl (lv_at hl 1 rfl) ?_
        refine g_iastI (i := v30_5) (N := 12) B hV gH30 k_q_16 rfl rfl rfl rfl (by omega) (by omega) rfl (z_rng _).1 (z_rng _).2 rfl dX0_spread_46 (fun H17 lc17 gH17 uH17 => ?_)
        have s_18 := uH17.keep (Or.inl (k_ne kh0 k_q_16 rfl)) s30_u30_h0_0
        have s_19 := uH17.keep (Or.inl (k_ne kh0 k_q_16 rfl)) s_16
        obtain ⟨x_20, e_20⟩ : ∃ y : Int32, (v30_5 : Int32) + Int32.ofInt 1 = y := ⟨_, rfl⟩
        refine lv_iinc (v := x_20) (lv' := [(5, .int x_20), (0, .ref h0), (1, .int p0)]) hx hb dX0_spread_47 hl (k := 2) rfl e_20 (by decide) rfl (fun ls hl => ?_)
        have t_20 := z_inc2 e_20 rfl (by decide) (by omega) (by omega)
        refine lv_goto (tgt := 30) hx hb dX0_spread_50 (by decide) ?_
        exact ih30 H17 lc17 ls x_20 u30_h0_0 (by omega) gH17 (lv_sub hl [1, 2, 0] rfl) (by omega) (by omega) (by omega) (by omega) s_18
  refine lv_aload_n hx hb dX0_spread_0 rfl (lv_at hl 0 rfl) ?_
  refine g_getI B fl_RX0_9 hT0 kh0 rfl rfl rfl rfl rfl dX0_spread_1 (fun x_21 s_21 a_21 b_21 => ?_)
  refine lv_iload_n hx hb dX0_spread_4 rfl (lv_at hl 3 rfl) ?_
  refine lv_isub hx hb dX0_spread_5 ?_
  refine lv_topi (fun x_22 e_22 => ?_)
  have t_22 := z_sub e_22 rfl rfl (by omega) (by omega)
  refine lv_istore (lv' := [(4, .int x_22), (0, .ref h0), (1, .int p0), (2, .int p1), (3, .int p2)]) hx hb dX0_spread_6 hl (by decide) rfl (fun ls hl => ?_)
  refine lv_iload_n hx hb dX0_spread_8 rfl (lv_at hl 2 rfl) ?_
  refine lv_bipush (v := 12) hx hb dX0_spread_9 (by decide) ?_
  refine lv_icmp_gt (tgt := 20) hx hb dX0_spread_11 (by decide) (fun c_23 => ?_) (fun c_23 => ?_)
  · have f_23 := z_lt c_23 kl_12 rfl
    exact False.elim (by omega)
  · have f_23 := z_nlt c_23 kl_12 rfl
    refine lv_iload_n hx hb dX0_spread_14 rfl (lv_at hl 3 rfl) ?_
    refine lv_iload hx hb dX0_spread_15 (lv_at hl 0 rfl) ?_
    refine lv_icmp_le (tgt := 21) hx hb dX0_spread_17 (by decide) (fun c_24 => ?_) (fun c_24 => ?_)
    · have f_24 := z_le c_24 rfl rfl
      refine lv_iload_n hx hb dX0_spread_21 rfl (lv_at hl 3 rfl) ?_
      refine lv_iload hx hb dX0_spread_22 (lv_at hl 0 rfl) ?_
      refine lv_icmp_ne (tgt := 58) hx hb dX0_spread_24 (by decide) (fun c_25 => ?_) (fun c_25 => ?_)
      · have f_25 := z_ne c_25 rfl rfl
        refine lv_iconst (v := 0) hx hb dX0_spread_58 (by decide) ?_
        refine lv_istore (lv' := [(5, .int 0), (4, .int x_22), (0, .ref h0), (1, .int p0), (2, .int p1), (3, .int p2)]) hx hb dX0_spread_59 hl (by decide) rfl (fun ls hl => ?_)
        have := kl_0
        exact b61 13 H0 [] ls 0 (by omega) hG0 (lv_sub hl [2, 3, 4, 5, 0] rfl) (by omega) (by omega) (by omega) (by omega)
      · have f_25 := z_eq c_25 rfl rfl
        refine lv_iload_n hx hb dX0_spread_27 rfl (lv_at hl 4 rfl) ?_
        refine lv_istore (lv' := [(5, .int p2), (4, .int x_22), (0, .ref h0), (1, .int p0), (2, .int p1), (3, .int p2)]) hx hb dX0_spread_28 hl (by decide) rfl (fun ls hl => ?_)
        exact b30 13 H0 [] ls p2 x_21 (by omega) hG0 (lv_sub hl [2, 3, 0] rfl) (by omega) (by omega) (by omega) (by omega) s_21
    · have f_24 := z_nle c_24 rfl rfl
      exact rtV B hr hlk hh hQ hG0 trivial dX0_spread_20

def rm_X0_spread_d10 : Room := { frames := 4, cells := 0, slots := 0, locals := 112 }
abbrev wS_X0_spread_d10 : List (Nat × Nat) := [(1, 1), (20, 99), (23, 99), (24, 99)]
set_option maxRecDepth 100000 in
set_option maxHeartbeats 4000000 in
theorem c_X0_spread_d10 (l : Launch) (E : zE) (hV : zV E) (H0 : Heap) (hT0 : HT E H0) (h0 : Nat) (kh0 : eK E h0 = 1) (p0 : Int32) (p0_lo : 10 ≤ p0.toInt) (p0_hi : p0.toInt ≤ 10) (p1 : Int32) (p1_lo : 0 ≤ p1.toInt) (p1_hi : p1.toInt ≤ 24) (p2 : Int32) (p2_lo : 0 ≤ p2.toInt) (p2_hi : p2.toInt ≤ 12) : Met l yX0_spread (zws yX0_spread cX0_spread 6 none) rm_X0_spread_d10 (zP E H0 [.ref h0, .int p0, .int p1, .int p2]) (zQV E E wS_X0_spread_d10 (fun H1 => True)) 0 0 (zfr E) := by
  refine zEnt (by decide) (Nat.le_of_ble_eq_true rfl) (fun p e s m args below meth c ls Q B hr hlk hh hQ hl => ?_)
  have hx := B.1
  have hb := B.2.1
  have hG0 : zG E wS_X0_spread_d10 H0 H0 [] := zG.rf hT0
  have hl : lv_has ls 6 [(0, .ref h0), (1, .int p0), (2, .int p1), (3, .int p2)] := hl
  have b61 : ∀ (n61 : Nat) (H61 : Heap) (lc61 : List Loc) (ls : Array Slot) (v61_5 : Int32), 12 - v61_5.toInt < (n61 : Int) → zG E wS_X0_spread_d10 H0 H61 lc61 → lv_has ls 6 [(0, .ref h0), (1, .int p0), (2, .int p1), (3, .int p2), (5, .int v61_5)] → p1.toInt ≤ 12 → 0 ≤ v61_5.toInt → v61_5.toInt ≤ 12 → p1.toInt + p2.toInt < 12 → W p l e rm_X0_spread_d10 s m args below meth c H61 lc61 0 0 Q (F0 m 61 ls []) := by
    intro n61
    induction n61 with
    | zero =>
      intro H61 lc61 ls v61_5 hm61 gH61 hl f61_1 f61_2 f61_3 f61_4
      exact absurd hm61 (by omega)
    | succ n61 ih61 =>
      intro H61 lc61 ls v61_5 hm61 gH61 hl f61_1 f61_2 f61_3 f61_4
      have b84 : ∀ (H84 : Heap) (lc84 : List Loc) (ls : Array Slot), zG E wS_X0_spread_d10 H0 H84 lc84 → lv_has ls 6 [(0, .ref h0), (1, .int p0), (2, .int p1), (3, .int p2), (5, .int v61_5)] → 1 ≤ p1.toInt → v61_5.toInt ≤ 11 → v61_5.toInt < p1.toInt → W p l e rm_X0_spread_d10 s m args below meth c H84 lc84 0 0 Q (F0 m 84 ls []) := by
        intro H84 lc84 ls gH84 hl f84_1 f84_2 f84_3
        refine lv_aload_n hx hb dX0_spread_84 rfl (lv_at hl 0 rfl) ?_
        refine lv_iload_n hx hb dX0_spread_85 rfl (lv_at hl 1 rfl) ?_
        refine lv_iconst (v := 1) hx hb dX0_spread_86 (by decide) ?_
        refine lv_iadd hx hb dX0_spread_87 ?_
        refine lv_topi (fun x_1 e_1 => ?_)
        have t_1 := z_add e_1 rfl kl_1 (by omega) (by omega)
        refine lv_iconst (v := 2) hx hb dX0_spread_88 (by decide) ?_
        refine lv_iload_n hx hb dX0_spread_89 rfl (lv_at hl 2 rfl) ?_
        refine lv_iload hx hb dX0_spread_90 (lv_at hl 4 rfl) ?_
        refine lv_isub hx hb dX0_spread_92 ?_
        refine lv_topi (fun x_2 e_2 => ?_)
        have t_2 := z_sub e_2 rfl rfl (by omega) (by omega)
        refine lv_imul hx hb dX0_spread_93 ?_
        refine lv_topi (fun x_3 e_3 => ?_)
        have t_3 := z_mul e_3 kl_2 rfl (by omega) (by omega)
        refine lv_iload_n hx hb dX0_spread_94 rfl (lv_at hl 3 rfl) ?_
        refine lv_iload hx hb dX0_spread_95 (lv_at hl 4 rfl) ?_
        refine lv_iadd hx hb dX0_spread_97 ?_
        refine lv_topi (fun x_4 e_4 => ?_)
        have t_4 := z_add e_4 rfl rfl (by omega) (by omega)
        refine zkV (zrV (rest := []) B (c_X0_spread_d11 l E hV H84 gH84.1 h0 kh0 x_1 (by omega) (by omega) x_3 (by omega) (by omega) x_4 (by omega) (by omega)) cl_RX0_44 gH84.1 kh0 rfl rfl rfl rfl hl.1 rfl (Nat.le_of_ble_eq_true rfl) dX0_spread_98 rfl rfl ⟨rfl, rfl⟩ ⟨Nat.zero_le _, Nat.zero_le _⟩ (zO.of gH84 hh)) gH84 rfl (fun H5 lc5 hp_5 gH5 rH5 => ?_)
        obtain ⟨x_6, e_6⟩ : ∃ y : Int32, (v61_5 : Int32) + Int32.ofInt 1 = y := ⟨_, rfl⟩
        refine lv_iinc (v := x_6) (lv' := [(5, .int x_6), (0, .ref h0), (1, .int p0), (2, .int p1), (3, .int p2)]) hx hb dX0_spread_101 hl (k := 4) rfl e_6 (by decide) rfl (fun ls hl => ?_)
        have t_6 := z_inc2 e_6 rfl (by decide) (by omega) (by omega)
        refine lv_goto (tgt := 61) hx hb dX0_spread_104 (by decide) ?_
        exact ih61 H5 lc5 ls x_6 (by omega) gH5 (lv_sub hl [1, 2, 3, 4, 0] rfl) (by omega) (by omega) (by omega) (by omega)
      refine lv_iload hx hb dX0_spread_61 (lv_at hl 4 rfl) ?_
      refine lv_iload_n hx hb dX0_spread_63 rfl (lv_at hl 2 rfl) ?_
      refine lv_icmp_ge (tgt := 107) hx hb dX0_spread_64 (by decide) (fun c_7 => ?_) (fun c_7 => ?_)
      · have f_7 := z_le c_7 rfl rfl
        exact rtV B hr hlk hh hQ gH61 trivial dX0_spread_107
      · have f_7 := z_nle c_7 rfl rfl
        refine lv_iload hx hb dX0_spread_67 (lv_at hl 4 rfl) ?_
        refine lv_if_le (tgt := 84) hx hb dX0_spread_69 (by decide) (fun c_8 => ?_) (fun c_8 => ?_)
        · have f_8 := z_le c_8 rfl kl_0
          exact b84 H61 lc61 ls gH61 (lv_sub hl [0, 1, 2, 3, 4] rfl) (by omega) (by omega) (by omega)
        · have f_8 := z_nle c_8 rfl kl_0
          refine lv_aload_n hx hb dX0_spread_72 rfl (lv_at hl 0 rfl) ?_
          refine g_getR B fl_RX0_28 gH61.1 kh0 rfl rfl rfl rfl rfl dX0_spread_73 (fun q_9 s_9 k_q_9 => ?_)
          refine lv_iload_n hx hb dX0_spread_76 rfl (lv_at hl 3 rfl) ?_
          refine lv_iload hx hb dX0_spread_77 (lv_at hl 4 rfl) ?_
          refine lv_iadd hx hb dX0_spread_79 ?_
          refine lv_topi (fun x_10 e_10 => ?_)
          have t_10 := z_add e_10 rfl rfl (by omega) (by omega)
          refine lv_iconst (v := 1) hx hb dX0_spread_80 (by decide) ?_
          refine lv_isub hx hb dX0_spread_81 ?_
          refine lv_topi (fun x_11 e_11 => ?_)
          have t_11 := z_sub e_11 rfl kl_1 (by omega) (by omega)
          refine lv_iload_n hx hb dX0_spread_82 rfl (lv_at hl 1 rfl) ?_
          refine g_iastI (i := x_11) (N := 12) B hV gH61 k_q_9 rfl rfl rfl rfl (by omega) (by omega) rfl (z_rng _).1 (z_rng _).2 rfl dX0_spread_83 (fun H12 lc12 gH12 uH12 => ?_)
          have s_13 := uH12.keep (Or.inl (k_ne kh0 k_q_9 rfl)) s_9
          exact b84 H12 lc12 ls gH12 (lv_sub hl [0, 1, 2, 3, 4] rfl) (by omega) (by omega) (by omega)
  have b30 : ∀ (n30 : Nat) (H30 : Heap) (lc30 : List Loc) (ls : Array Slot) (v30_5 : Int32) (u30_h0_0 : Int32), 12 - v30_5.toInt < (n30 : Int) → zG E wS_X0_spread_d10 H0 H30 lc30 → lv_has ls 6 [(0, .ref h0), (1, .int p0), (5, .int v30_5)] → 0 ≤ v30_5.toInt → v30_5.toInt ≤ 12 → 0 ≤ u30_h0_0.toInt → u30_h0_0.toInt ≤ 12 → sl H30 h0 (zix E 1 0) = some (.int u30_h0_0) → W p l e rm_X0_spread_d10 s m args below meth c H30 lc30 0 0 Q (F0 m 30 ls []) := by
    intro n30
    induction n30 with
    | zero =>
      intro H30 lc30 ls v30_5 u30_h0_0 hm30 gH30 hl f30_1 f30_2 f30_3 f30_4 s30_u30_h0_0
      exact absurd hm30 (by omega)
    | succ n30 ih30 =>
      intro H30 lc30 ls v30_5 u30_h0_0 hm30 gH30 hl f30_1 f30_2 f30_3 f30_4 s30_u30_h0_0
      refine lv_iload hx hb dX0_spread_30 (lv_at hl 2 rfl) ?_
      refine lv_aload_n hx hb dX0_spread_32 rfl (lv_at hl 0 rfl) ?_
      refine g_get B fl_RX0_9 gH30.1 kh0 rfl rfl rfl dX0_spread_33 s30_u30_h0_0 ?_
      refine lv_icmp_ge (tgt := 53) hx hb dX0_spread_36 (by decide) (fun c_14 => ?_) (fun c_14 => ?_)
      · have f_14 := z_le c_14 rfl rfl
        refine lv_aload_n hx hb dX0_spread_53 rfl (lv_at hl 0 rfl) ?_
        refine zkV (zrV (rest := []) B (c_X0_weigh l E hV H30 gH30.1 h0 kh0) cl_RX0_48 gH30.1 kh0 rfl rfl rfl rfl hl.1 rfl (Nat.le_of_ble_eq_true rfl) dX0_spread_54 rfl rfl ⟨rfl, rfl⟩ ⟨Nat.zero_le _, Nat.zero_le _⟩ (zO.of gH30 hh)) gH30 rfl (fun H15 lc15 hp_15 gH15 rH15 => ?_)
        exact rtV B hr hlk hh hQ gH15 trivial dX0_spread_57
      · have f_14 := z_nle c_14 rfl rfl
        refine lv_aload_n hx hb dX0_spread_39 rfl (lv_at hl 0 rfl) ?_
        refine g_getR B fl_RX0_28 gH30.1 kh0 rfl rfl rfl rfl rfl dX0_spread_40 (fun q_16 s_16 k_q_16 => ?_)
        refine lv_iload hx hb dX0_spread_43 (lv_at hl 2 rfl) ?_
        refine lv_iload_n hx hb dX0_spread_45 rfl (lv_at hl 1 rfl) ?_
        refine g_iastI (i := v30_5) (N := 12) B hV gH30 k_q_16 rfl rfl rfl rfl (by omega) (by omega) rfl (z_rng _).1 (z_rng _).2 rfl dX0_spread_46 (fun H17 lc17 gH17 uH17 => ?_)
        have s_18 := uH17.keep (Or.inl (k_ne kh0 k_q_16 rfl)) s30_u30_h0_0
        have s_19 := uH17.keep (Or.inl (k_ne kh0 k_q_16 rfl)) s_16
        obtain ⟨x_20, e_20⟩ : ∃ y : Int32, (v30_5 : Int32) + Int32.ofInt 1 = y := ⟨_, rfl⟩
        refine lv_iinc (v := x_20) (lv' := [(5, .int x_20), (0, .ref h0), (1, .int p0)]) hx hb dX0_spread_47 hl (k := 2) rfl e_20 (by decide) rfl (fun ls hl => ?_)
        have t_20 := z_inc2 e_20 rfl (by decide) (by omega) (by omega)
        refine lv_goto (tgt := 30) hx hb dX0_spread_50 (by decide) ?_
        exact ih30 H17 lc17 ls x_20 u30_h0_0 (by omega) gH17 (lv_sub hl [1, 2, 0] rfl) (by omega) (by omega) (by omega) (by omega) s_18
  refine lv_aload_n hx hb dX0_spread_0 rfl (lv_at hl 0 rfl) ?_
  refine g_getI B fl_RX0_9 hT0 kh0 rfl rfl rfl rfl rfl dX0_spread_1 (fun x_21 s_21 a_21 b_21 => ?_)
  refine lv_iload_n hx hb dX0_spread_4 rfl (lv_at hl 3 rfl) ?_
  refine lv_isub hx hb dX0_spread_5 ?_
  refine lv_topi (fun x_22 e_22 => ?_)
  have t_22 := z_sub e_22 rfl rfl (by omega) (by omega)
  refine lv_istore (lv' := [(4, .int x_22), (0, .ref h0), (1, .int p0), (2, .int p1), (3, .int p2)]) hx hb dX0_spread_6 hl (by decide) rfl (fun ls hl => ?_)
  refine lv_iload_n hx hb dX0_spread_8 rfl (lv_at hl 2 rfl) ?_
  refine lv_bipush (v := 12) hx hb dX0_spread_9 (by decide) ?_
  refine lv_icmp_gt (tgt := 20) hx hb dX0_spread_11 (by decide) (fun c_23 => ?_) (fun c_23 => ?_)
  · have f_23 := z_lt c_23 kl_12 rfl
    exact False.elim (by omega)
  · have f_23 := z_nlt c_23 kl_12 rfl
    refine lv_iload_n hx hb dX0_spread_14 rfl (lv_at hl 3 rfl) ?_
    refine lv_iload hx hb dX0_spread_15 (lv_at hl 0 rfl) ?_
    refine lv_icmp_le (tgt := 21) hx hb dX0_spread_17 (by decide) (fun c_24 => ?_) (fun c_24 => ?_)
    · have f_24 := z_le c_24 rfl rfl
      refine lv_iload_n hx hb dX0_spread_21 rfl (lv_at hl 3 rfl) ?_
      refine lv_iload hx hb dX0_spread_22 (lv_at hl 0 rfl) ?_
      refine lv_icmp_ne (tgt := 58) hx hb dX0_spread_24 (by decide) (fun c_25 => ?_) (fun c_25 => ?_)
      · have f_25 := z_ne c_25 rfl rfl
        refine lv_iconst (v := 0) hx hb dX0_spread_58 (by decide) ?_
        refine lv_istore (lv' := [(5, .int 0), (4, .int x_22), (0, .ref h0), (1, .int p0), (2, .int p1), (3, .int p2)]) hx hb dX0_spread_59 hl (by decide) rfl (fun ls hl => ?_)
        have := kl_0
        exact b61 13 H0 [] ls 0 (by omega) hG0 (lv_sub hl [2, 3, 4, 5, 0] rfl) (by omega) (by omega) (by omega) (by omega)
      · have f_25 := z_eq c_25 rfl rfl
        refine lv_iload_n hx hb dX0_spread_27 rfl (lv_at hl 4 rfl) ?_
        refine lv_istore (lv' := [(5, .int p2), (4, .int x_22), (0, .ref h0), (1, .int p0), (2, .int p1), (3, .int p2)]) hx hb dX0_spread_28 hl (by decide) rfl (fun ls hl => ?_)
        exact b30 13 H0 [] ls p2 x_21 (by omega) hG0 (lv_sub hl [2, 3, 0] rfl) (by omega) (by omega) (by omega) (by omega) s_21
    · have f_24 := z_nle c_24 rfl rfl
      exact rtV B hr hlk hh hQ hG0 trivial dX0_spread_20

def rm_X0_spread_d9 : Room := { frames := 5, cells := 0, slots := 0, locals := 137 }
abbrev wS_X0_spread_d9 : List (Nat × Nat) := [(1, 1), (20, 99), (23, 99), (24, 99)]
set_option maxRecDepth 100000 in
set_option maxHeartbeats 4000000 in
theorem c_X0_spread_d9 (l : Launch) (E : zE) (hV : zV E) (H0 : Heap) (hT0 : HT E H0) (h0 : Nat) (kh0 : eK E h0 = 1) (p0 : Int32) (p0_lo : 9 ≤ p0.toInt) (p0_hi : p0.toInt ≤ 9) (p1 : Int32) (p1_lo : 0 ≤ p1.toInt) (p1_hi : p1.toInt ≤ 24) (p2 : Int32) (p2_lo : 0 ≤ p2.toInt) (p2_hi : p2.toInt ≤ 12) : Met l yX0_spread (zws yX0_spread cX0_spread 6 none) rm_X0_spread_d9 (zP E H0 [.ref h0, .int p0, .int p1, .int p2]) (zQV E E wS_X0_spread_d9 (fun H1 => True)) 0 0 (zfr E) := by
  refine zEnt (by decide) (Nat.le_of_ble_eq_true rfl) (fun p e s m args below meth c ls Q B hr hlk hh hQ hl => ?_)
  have hx := B.1
  have hb := B.2.1
  have hG0 : zG E wS_X0_spread_d9 H0 H0 [] := zG.rf hT0
  have hl : lv_has ls 6 [(0, .ref h0), (1, .int p0), (2, .int p1), (3, .int p2)] := hl
  have b61 : ∀ (n61 : Nat) (H61 : Heap) (lc61 : List Loc) (ls : Array Slot) (v61_5 : Int32), 12 - v61_5.toInt < (n61 : Int) → zG E wS_X0_spread_d9 H0 H61 lc61 → lv_has ls 6 [(0, .ref h0), (1, .int p0), (2, .int p1), (3, .int p2), (5, .int v61_5)] → p1.toInt ≤ 12 → 0 ≤ v61_5.toInt → v61_5.toInt ≤ 12 → p1.toInt + p2.toInt < 12 → W p l e rm_X0_spread_d9 s m args below meth c H61 lc61 0 0 Q (F0 m 61 ls []) := by
    intro n61
    induction n61 with
    | zero =>
      intro H61 lc61 ls v61_5 hm61 gH61 hl f61_1 f61_2 f61_3 f61_4
      exact absurd hm61 (by omega)
    | succ n61 ih61 =>
      intro H61 lc61 ls v61_5 hm61 gH61 hl f61_1 f61_2 f61_3 f61_4
      have b84 : ∀ (H84 : Heap) (lc84 : List Loc) (ls : Array Slot), zG E wS_X0_spread_d9 H0 H84 lc84 → lv_has ls 6 [(0, .ref h0), (1, .int p0), (2, .int p1), (3, .int p2), (5, .int v61_5)] → 1 ≤ p1.toInt → v61_5.toInt ≤ 11 → v61_5.toInt < p1.toInt → W p l e rm_X0_spread_d9 s m args below meth c H84 lc84 0 0 Q (F0 m 84 ls []) := by
        intro H84 lc84 ls gH84 hl f84_1 f84_2 f84_3
        refine lv_aload_n hx hb dX0_spread_84 rfl (lv_at hl 0 rfl) ?_
        refine lv_iload_n hx hb dX0_spread_85 rfl (lv_at hl 1 rfl) ?_
        refine lv_iconst (v := 1) hx hb dX0_spread_86 (by decide) ?_
        refine lv_iadd hx hb dX0_spread_87 ?_
        refine lv_topi (fun x_1 e_1 => ?_)
        have t_1 := z_add e_1 rfl kl_1 (by omega) (by omega)
        refine lv_iconst (v := 2) hx hb dX0_spread_88 (by decide) ?_
        refine lv_iload_n hx hb dX0_spread_89 rfl (lv_at hl 2 rfl) ?_
        refine lv_iload hx hb dX0_spread_90 (lv_at hl 4 rfl) ?_
        refine lv_isub hx hb dX0_spread_92 ?_
        refine lv_topi (fun x_2 e_2 => ?_)
        have t_2 := z_sub e_2 rfl rfl (by omega) (by omega)
        refine lv_imul hx hb dX0_spread_93 ?_
        refine lv_topi (fun x_3 e_3 => ?_)
        have t_3 := z_mul e_3 kl_2 rfl (by omega) (by omega)
        refine lv_iload_n hx hb dX0_spread_94 rfl (lv_at hl 3 rfl) ?_
        refine lv_iload hx hb dX0_spread_95 (lv_at hl 4 rfl) ?_
        refine lv_iadd hx hb dX0_spread_97 ?_
        refine lv_topi (fun x_4 e_4 => ?_)
        have t_4 := z_add e_4 rfl rfl (by omega) (by omega)
        refine zkV (zrV (rest := []) B (c_X0_spread_d10 l E hV H84 gH84.1 h0 kh0 x_1 (by omega) (by omega) x_3 (by omega) (by omega) x_4 (by omega) (by omega)) cl_RX0_44 gH84.1 kh0 rfl rfl rfl rfl hl.1 rfl (Nat.le_of_ble_eq_true rfl) dX0_spread_98 rfl rfl ⟨rfl, rfl⟩ ⟨Nat.zero_le _, Nat.zero_le _⟩ (zO.of gH84 hh)) gH84 rfl (fun H5 lc5 hp_5 gH5 rH5 => ?_)
        obtain ⟨x_6, e_6⟩ : ∃ y : Int32, (v61_5 : Int32) + Int32.ofInt 1 = y := ⟨_, rfl⟩
        refine lv_iinc (v := x_6) (lv' := [(5, .int x_6), (0, .ref h0), (1, .int p0), (2, .int p1), (3, .int p2)]) hx hb dX0_spread_101 hl (k := 4) rfl e_6 (by decide) rfl (fun ls hl => ?_)
        have t_6 := z_inc2 e_6 rfl (by decide) (by omega) (by omega)
        refine lv_goto (tgt := 61) hx hb dX0_spread_104 (by decide) ?_
        exact ih61 H5 lc5 ls x_6 (by omega) gH5 (lv_sub hl [1, 2, 3, 4, 0] rfl) (by omega) (by omega) (by omega) (by omega)
      refine lv_iload hx hb dX0_spread_61 (lv_at hl 4 rfl) ?_
      refine lv_iload_n hx hb dX0_spread_63 rfl (lv_at hl 2 rfl) ?_
      refine lv_icmp_ge (tgt := 107) hx hb dX0_spread_64 (by decide) (fun c_7 => ?_) (fun c_7 => ?_)
      · have f_7 := z_le c_7 rfl rfl
        exact rtV B hr hlk hh hQ gH61 trivial dX0_spread_107
      · have f_7 := z_nle c_7 rfl rfl
        refine lv_iload hx hb dX0_spread_67 (lv_at hl 4 rfl) ?_
        refine lv_if_le (tgt := 84) hx hb dX0_spread_69 (by decide) (fun c_8 => ?_) (fun c_8 => ?_)
        · have f_8 := z_le c_8 rfl kl_0
          exact b84 H61 lc61 ls gH61 (lv_sub hl [0, 1, 2, 3, 4] rfl) (by omega) (by omega) (by omega)
        · have f_8 := z_nle c_8 rfl kl_0
          refine lv_aload_n hx hb dX0_spread_72 rfl (lv_at hl 0 rfl) ?_
          refine g_getR B fl_RX0_28 gH61.1 kh0 rfl rfl rfl rfl rfl dX0_spread_73 (fun q_9 s_9 k_q_9 => ?_)
          refine lv_iload_n hx hb dX0_spread_76 rfl (lv_at hl 3 rfl) ?_
          refine lv_iload hx hb dX0_spread_77 (lv_at hl 4 rfl) ?_
          refine lv_iadd hx hb dX0_spread_79 ?_
          refine lv_topi (fun x_10 e_10 => ?_)
          have t_10 := z_add e_10 rfl rfl (by omega) (by omega)
          refine lv_iconst (v := 1) hx hb dX0_spread_80 (by decide) ?_
          refine lv_isub hx hb dX0_spread_81 ?_
          refine lv_topi (fun x_11 e_11 => ?_)
          have t_11 := z_sub e_11 rfl kl_1 (by omega) (by omega)
          refine lv_iload_n hx hb dX0_spread_82 rfl (lv_at hl 1 rfl) ?_
          refine g_iastI (i := x_11) (N := 12) B hV gH61 k_q_9 rfl rfl rfl rfl (by omega) (by omega) rfl (z_rng _).1 (z_rng _).2 rfl dX0_spread_83 (fun H12 lc12 gH12 uH12 => ?_)
          have s_13 := uH12.keep (Or.inl (k_ne kh0 k_q_9 rfl)) s_9
          exact b84 H12 lc12 ls gH12 (lv_sub hl [0, 1, 2, 3, 4] rfl) (by omega) (by omega) (by omega)
  have b30 : ∀ (n30 : Nat) (H30 : Heap) (lc30 : List Loc) (ls : Array Slot) (v30_5 : Int32) (u30_h0_0 : Int32), 12 - v30_5.toInt < (n30 : Int) → zG E wS_X0_spread_d9 H0 H30 lc30 → lv_has ls 6 [(0, .ref h0), (1, .int p0), (5, .int v30_5)] → 0 ≤ v30_5.toInt → v30_5.toInt ≤ 12 → 0 ≤ u30_h0_0.toInt → u30_h0_0.toInt ≤ 12 → sl H30 h0 (zix E 1 0) = some (.int u30_h0_0) → W p l e rm_X0_spread_d9 s m args below meth c H30 lc30 0 0 Q (F0 m 30 ls []) := by
    intro n30
    induction n30 with
    | zero =>
      intro H30 lc30 ls v30_5 u30_h0_0 hm30 gH30 hl f30_1 f30_2 f30_3 f30_4 s30_u30_h0_0
      exact absurd hm30 (by omega)
    | succ n30 ih30 =>
      intro H30 lc30 ls v30_5 u30_h0_0 hm30 gH30 hl f30_1 f30_2 f30_3 f30_4 s30_u30_h0_0
      refine lv_iload hx hb dX0_spread_30 (lv_at hl 2 rfl) ?_
      refine lv_aload_n hx hb dX0_spread_32 rfl (lv_at hl 0 rfl) ?_
      refine g_get B fl_RX0_9 gH30.1 kh0 rfl rfl rfl dX0_spread_33 s30_u30_h0_0 ?_
      refine lv_icmp_ge (tgt := 53) hx hb dX0_spread_36 (by decide) (fun c_14 => ?_) (fun c_14 => ?_)
      · have f_14 := z_le c_14 rfl rfl
        refine lv_aload_n hx hb dX0_spread_53 rfl (lv_at hl 0 rfl) ?_
        refine zkV (zrV (rest := []) B (c_X0_weigh l E hV H30 gH30.1 h0 kh0) cl_RX0_48 gH30.1 kh0 rfl rfl rfl rfl hl.1 rfl (Nat.le_of_ble_eq_true rfl) dX0_spread_54 rfl rfl ⟨rfl, rfl⟩ ⟨Nat.zero_le _, Nat.zero_le _⟩ (zO.of gH30 hh)) gH30 rfl (fun H15 lc15 hp_15 gH15 rH15 => ?_)
        exact rtV B hr hlk hh hQ gH15 trivial dX0_spread_57
      · have f_14 := z_nle c_14 rfl rfl
        refine lv_aload_n hx hb dX0_spread_39 rfl (lv_at hl 0 rfl) ?_
        refine g_getR B fl_RX0_28 gH30.1 kh0 rfl rfl rfl rfl rfl dX0_spread_40 (fun q_16 s_16 k_q_16 => ?_)
        refine lv_iload hx hb dX0_spread_43 (lv_at hl 2 rfl) ?_
        refine lv_iload_n hx hb dX0_spread_45 rfl (lv_at hl 1 rfl) ?_
        refine g_iastI (i := v30_5) (N := 12) B hV gH30 k_q_16 rfl rfl rfl rfl (by omega) (by omega) rfl (z_rng _).1 (z_rng _).2 rfl dX0_spread_46 (fun H17 lc17 gH17 uH17 => ?_)
        have s_18 := uH17.keep (Or.inl (k_ne kh0 k_q_16 rfl)) s30_u30_h0_0
        have s_19 := uH17.keep (Or.inl (k_ne kh0 k_q_16 rfl)) s_16
        obtain ⟨x_20, e_20⟩ : ∃ y : Int32, (v30_5 : Int32) + Int32.ofInt 1 = y := ⟨_, rfl⟩
        refine lv_iinc (v := x_20) (lv' := [(5, .int x_20), (0, .ref h0), (1, .int p0)]) hx hb dX0_spread_47 hl (k := 2) rfl e_20 (by decide) rfl (fun ls hl => ?_)
        have t_20 := z_inc2 e_20 rfl (by decide) (by omega) (by omega)
        refine lv_goto (tgt := 30) hx hb dX0_spread_50 (by decide) ?_
        exact ih30 H17 lc17 ls x_20 u30_h0_0 (by omega) gH17 (lv_sub hl [1, 2, 0] rfl) (by omega) (by omega) (by omega) (by omega) s_18
  refine lv_aload_n hx hb dX0_spread_0 rfl (lv_at hl 0 rfl) ?_
  refine g_getI B fl_RX0_9 hT0 kh0 rfl rfl rfl rfl rfl dX0_spread_1 (fun x_21 s_21 a_21 b_21 => ?_)
  refine lv_iload_n hx hb dX0_spread_4 rfl (lv_at hl 3 rfl) ?_
  refine lv_isub hx hb dX0_spread_5 ?_
  refine lv_topi (fun x_22 e_22 => ?_)
  have t_22 := z_sub e_22 rfl rfl (by omega) (by omega)
  refine lv_istore (lv' := [(4, .int x_22), (0, .ref h0), (1, .int p0), (2, .int p1), (3, .int p2)]) hx hb dX0_spread_6 hl (by decide) rfl (fun ls hl => ?_)
  refine lv_iload_n hx hb dX0_spread_8 rfl (lv_at hl 2 rfl) ?_
  refine lv_bipush (v := 12) hx hb dX0_spread_9 (by decide) ?_
  refine lv_icmp_gt (tgt := 20) hx hb dX0_spread_11 (by decide) (fun c_23 => ?_) (fun c_23 => ?_)
  · have f_23 := z_lt c_23 kl_12 rfl
    exact False.elim (by omega)
  · have f_23 := z_nlt c_23 kl_12 rfl
    refine lv_iload_n hx hb dX0_spread_14 rfl (lv_at hl 3 rfl) ?_
    refine lv_iload hx hb dX0_spread_15 (lv_at hl 0 rfl) ?_
    refine lv_icmp_le (tgt := 21) hx hb dX0_spread_17 (by decide) (fun c_24 => ?_) (fun c_24 => ?_)
    · have f_24 := z_le c_24 rfl rfl
      refine lv_iload_n hx hb dX0_spread_21 rfl (lv_at hl 3 rfl) ?_
      refine lv_iload hx hb dX0_spread_22 (lv_at hl 0 rfl) ?_
      refine lv_icmp_ne (tgt := 58) hx hb dX0_spread_24 (by decide) (fun c_25 => ?_) (fun c_25 => ?_)
      · have f_25 := z_ne c_25 rfl rfl
        refine lv_iconst (v := 0) hx hb dX0_spread_58 (by decide) ?_
        refine lv_istore (lv' := [(5, .int 0), (4, .int x_22), (0, .ref h0), (1, .int p0), (2, .int p1), (3, .int p2)]) hx hb dX0_spread_59 hl (by decide) rfl (fun ls hl => ?_)
        have := kl_0
        exact b61 13 H0 [] ls 0 (by omega) hG0 (lv_sub hl [2, 3, 4, 5, 0] rfl) (by omega) (by omega) (by omega) (by omega)
      · have f_25 := z_eq c_25 rfl rfl
        refine lv_iload_n hx hb dX0_spread_27 rfl (lv_at hl 4 rfl) ?_
        refine lv_istore (lv' := [(5, .int p2), (4, .int x_22), (0, .ref h0), (1, .int p0), (2, .int p1), (3, .int p2)]) hx hb dX0_spread_28 hl (by decide) rfl (fun ls hl => ?_)
        exact b30 13 H0 [] ls p2 x_21 (by omega) hG0 (lv_sub hl [2, 3, 0] rfl) (by omega) (by omega) (by omega) (by omega) s_21
    · have f_24 := z_nle c_24 rfl rfl
      exact rtV B hr hlk hh hQ hG0 trivial dX0_spread_20

def rm_X0_spread_d8 : Room := { frames := 6, cells := 0, slots := 0, locals := 162 }
abbrev wS_X0_spread_d8 : List (Nat × Nat) := [(1, 1), (20, 99), (23, 99), (24, 99)]
set_option maxRecDepth 100000 in
set_option maxHeartbeats 4000000 in
theorem c_X0_spread_d8 (l : Launch) (E : zE) (hV : zV E) (H0 : Heap) (hT0 : HT E H0) (h0 : Nat) (kh0 : eK E h0 = 1) (p0 : Int32) (p0_lo : 8 ≤ p0.toInt) (p0_hi : p0.toInt ≤ 8) (p1 : Int32) (p1_lo : 0 ≤ p1.toInt) (p1_hi : p1.toInt ≤ 24) (p2 : Int32) (p2_lo : 0 ≤ p2.toInt) (p2_hi : p2.toInt ≤ 12) : Met l yX0_spread (zws yX0_spread cX0_spread 6 none) rm_X0_spread_d8 (zP E H0 [.ref h0, .int p0, .int p1, .int p2]) (zQV E E wS_X0_spread_d8 (fun H1 => True)) 0 0 (zfr E) := by
  refine zEnt (by decide) (Nat.le_of_ble_eq_true rfl) (fun p e s m args below meth c ls Q B hr hlk hh hQ hl => ?_)
  have hx := B.1
  have hb := B.2.1
  have hG0 : zG E wS_X0_spread_d8 H0 H0 [] := zG.rf hT0
  have hl : lv_has ls 6 [(0, .ref h0), (1, .int p0), (2, .int p1), (3, .int p2)] := hl
  have b61 : ∀ (n61 : Nat) (H61 : Heap) (lc61 : List Loc) (ls : Array Slot) (v61_5 : Int32), 12 - v61_5.toInt < (n61 : Int) → zG E wS_X0_spread_d8 H0 H61 lc61 → lv_has ls 6 [(0, .ref h0), (1, .int p0), (2, .int p1), (3, .int p2), (5, .int v61_5)] → p1.toInt ≤ 12 → 0 ≤ v61_5.toInt → v61_5.toInt ≤ 12 → p1.toInt + p2.toInt < 12 → W p l e rm_X0_spread_d8 s m args below meth c H61 lc61 0 0 Q (F0 m 61 ls []) := by
    intro n61
    induction n61 with
    | zero =>
      intro H61 lc61 ls v61_5 hm61 gH61 hl f61_1 f61_2 f61_3 f61_4
      exact absurd hm61 (by omega)
    | succ n61 ih61 =>
      intro H61 lc61 ls v61_5 hm61 gH61 hl f61_1 f61_2 f61_3 f61_4
      have b84 : ∀ (H84 : Heap) (lc84 : List Loc) (ls : Array Slot), zG E wS_X0_spread_d8 H0 H84 lc84 → lv_has ls 6 [(0, .ref h0), (1, .int p0), (2, .int p1), (3, .int p2), (5, .int v61_5)] → 1 ≤ p1.toInt → v61_5.toInt ≤ 11 → v61_5.toInt < p1.toInt → W p l e rm_X0_spread_d8 s m args below meth c H84 lc84 0 0 Q (F0 m 84 ls []) := by
        intro H84 lc84 ls gH84 hl f84_1 f84_2 f84_3
        refine lv_aload_n hx hb dX0_spread_84 rfl (lv_at hl 0 rfl) ?_
        refine lv_iload_n hx hb dX0_spread_85 rfl (lv_at hl 1 rfl) ?_
        refine lv_iconst (v := 1) hx hb dX0_spread_86 (by decide) ?_
        refine lv_iadd hx hb dX0_spread_87 ?_
        refine lv_topi (fun x_1 e_1 => ?_)
        have t_1 := z_add e_1 rfl kl_1 (by omega) (by omega)
        refine lv_iconst (v := 2) hx hb dX0_spread_88 (by decide) ?_
        refine lv_iload_n hx hb dX0_spread_89 rfl (lv_at hl 2 rfl) ?_
        refine lv_iload hx hb dX0_spread_90 (lv_at hl 4 rfl) ?_
        refine lv_isub hx hb dX0_spread_92 ?_
        refine lv_topi (fun x_2 e_2 => ?_)
        have t_2 := z_sub e_2 rfl rfl (by omega) (by omega)
        refine lv_imul hx hb dX0_spread_93 ?_
        refine lv_topi (fun x_3 e_3 => ?_)
        have t_3 := z_mul e_3 kl_2 rfl (by omega) (by omega)
        refine lv_iload_n hx hb dX0_spread_94 rfl (lv_at hl 3 rfl) ?_
        refine lv_iload hx hb dX0_spread_95 (lv_at hl 4 rfl) ?_
        refine lv_iadd hx hb dX0_spread_97 ?_
        refine lv_topi (fun x_4 e_4 => ?_)
        have t_4 := z_add e_4 rfl rfl (by omega) (by omega)
        refine zkV (zrV (rest := []) B (c_X0_spread_d9 l E hV H84 gH84.1 h0 kh0 x_1 (by omega) (by omega) x_3 (by omega) (by omega) x_4 (by omega) (by omega)) cl_RX0_44 gH84.1 kh0 rfl rfl rfl rfl hl.1 rfl (Nat.le_of_ble_eq_true rfl) dX0_spread_98 rfl rfl ⟨rfl, rfl⟩ ⟨Nat.zero_le _, Nat.zero_le _⟩ (zO.of gH84 hh)) gH84 rfl (fun H5 lc5 hp_5 gH5 rH5 => ?_)
        obtain ⟨x_6, e_6⟩ : ∃ y : Int32, (v61_5 : Int32) + Int32.ofInt 1 = y := ⟨_, rfl⟩
        refine lv_iinc (v := x_6) (lv' := [(5, .int x_6), (0, .ref h0), (1, .int p0), (2, .int p1), (3, .int p2)]) hx hb dX0_spread_101 hl (k := 4) rfl e_6 (by decide) rfl (fun ls hl => ?_)
        have t_6 := z_inc2 e_6 rfl (by decide) (by omega) (by omega)
        refine lv_goto (tgt := 61) hx hb dX0_spread_104 (by decide) ?_
        exact ih61 H5 lc5 ls x_6 (by omega) gH5 (lv_sub hl [1, 2, 3, 4, 0] rfl) (by omega) (by omega) (by omega) (by omega)
      refine lv_iload hx hb dX0_spread_61 (lv_at hl 4 rfl) ?_
      refine lv_iload_n hx hb dX0_spread_63 rfl (lv_at hl 2 rfl) ?_
      refine lv_icmp_ge (tgt := 107) hx hb dX0_spread_64 (by decide) (fun c_7 => ?_) (fun c_7 => ?_)
      · have f_7 := z_le c_7 rfl rfl
        exact rtV B hr hlk hh hQ gH61 trivial dX0_spread_107
      · have f_7 := z_nle c_7 rfl rfl
        refine lv_iload hx hb dX0_spread_67 (lv_at hl 4 rfl) ?_
        refine lv_if_le (tgt := 84) hx hb dX0_spread_69 (by decide) (fun c_8 => ?_) (fun c_8 => ?_)
        · have f_8 := z_le c_8 rfl kl_0
          exact b84 H61 lc61 ls gH61 (lv_sub hl [0, 1, 2, 3, 4] rfl) (by omega) (by omega) (by omega)
        · have f_8 := z_nle c_8 rfl kl_0
          refine lv_aload_n hx hb dX0_spread_72 rfl (lv_at hl 0 rfl) ?_
          refine g_getR B fl_RX0_28 gH61.1 kh0 rfl rfl rfl rfl rfl dX0_spread_73 (fun q_9 s_9 k_q_9 => ?_)
          refine lv_iload_n hx hb dX0_spread_76 rfl (lv_at hl 3 rfl) ?_
          refine lv_iload hx hb dX0_spread_77 (lv_at hl 4 rfl) ?_
          refine lv_iadd hx hb dX0_spread_79 ?_
          refine lv_topi (fun x_10 e_10 => ?_)
          have t_10 := z_add e_10 rfl rfl (by omega) (by omega)
          refine lv_iconst (v := 1) hx hb dX0_spread_80 (by decide) ?_
          refine lv_isub hx hb dX0_spread_81 ?_
          refine lv_topi (fun x_11 e_11 => ?_)
          have t_11 := z_sub e_11 rfl kl_1 (by omega) (by omega)
          refine lv_iload_n hx hb dX0_spread_82 rfl (lv_at hl 1 rfl) ?_
          refine g_iastI (i := x_11) (N := 12) B hV gH61 k_q_9 rfl rfl rfl rfl (by omega) (by omega) rfl (z_rng _).1 (z_rng _).2 rfl dX0_spread_83 (fun H12 lc12 gH12 uH12 => ?_)
          have s_13 := uH12.keep (Or.inl (k_ne kh0 k_q_9 rfl)) s_9
          exact b84 H12 lc12 ls gH12 (lv_sub hl [0, 1, 2, 3, 4] rfl) (by omega) (by omega) (by omega)
  have b30 : ∀ (n30 : Nat) (H30 : Heap) (lc30 : List Loc) (ls : Array Slot) (v30_5 : Int32) (u30_h0_0 : Int32), 12 - v30_5.toInt < (n30 : Int) → zG E wS_X0_spread_d8 H0 H30 lc30 → lv_has ls 6 [(0, .ref h0), (1, .int p0), (5, .int v30_5)] → 0 ≤ v30_5.toInt → v30_5.toInt ≤ 12 → 0 ≤ u30_h0_0.toInt → u30_h0_0.toInt ≤ 12 → sl H30 h0 (zix E 1 0) = some (.int u30_h0_0) → W p l e rm_X0_spread_d8 s m args below meth c H30 lc30 0 0 Q (F0 m 30 ls []) := by
    intro n30
    induction n30 with
    | zero =>
      intro H30 lc30 ls v30_5 u30_h0_0 hm30 gH30 hl f30_1 f30_2 f30_3 f30_4 s30_u30_h0_0
      exact absurd hm30 (by omega)
    | succ n30 ih30 =>
      intro H30 lc30 ls v30_5 u30_h0_0 hm30 gH30 hl f30_1 f30_2 f30_3 f30_4 s30_u30_h0_0
      refine lv_iload hx hb dX0_spread_30 (lv_at hl 2 rfl) ?_
      refine lv_aload_n hx hb dX0_spread_32 rfl (lv_at hl 0 rfl) ?_
      refine g_get B fl_RX0_9 gH30.1 kh0 rfl rfl rfl dX0_spread_33 s30_u30_h0_0 ?_
      refine lv_icmp_ge (tgt := 53) hx hb dX0_spread_36 (by decide) (fun c_14 => ?_) (fun c_14 => ?_)
      · have f_14 := z_le c_14 rfl rfl
        refine lv_aload_n hx hb dX0_spread_53 rfl (lv_at hl 0 rfl) ?_
        refine zkV (zrV (rest := []) B (c_X0_weigh l E hV H30 gH30.1 h0 kh0) cl_RX0_48 gH30.1 kh0 rfl rfl rfl rfl hl.1 rfl (Nat.le_of_ble_eq_true rfl) dX0_spread_54 rfl rfl ⟨rfl, rfl⟩ ⟨Nat.zero_le _, Nat.zero_le _⟩ (zO.of gH30 hh)) gH30 rfl (fun H15 lc15 hp_15 gH15 rH15 => ?_)
        exact rtV B hr hlk hh hQ gH15 trivial dX0_spread_57
      · have f_14 := z_nle c_14 rfl rfl
        refine lv_aload_n hx hb dX0_spread_39 rfl (lv_at hl 0 rfl) ?_
        refine g_getR B fl_RX0_28 gH30.1 kh0 rfl rfl rfl rfl rfl dX0_spread_40 (fun q_16 s_16 k_q_16 => ?_)
        refine lv_iload hx hb dX0_spread_43 (lv_at hl 2 rfl) ?_
        refine lv_iload_n hx hb dX0_spread_45 rfl (lv_at hl 1 rfl) ?_
        refine g_iastI (i := v30_5) (N := 12) B hV gH30 k_q_16 rfl rfl rfl rfl (by omega) (by omega) rfl (z_rng _).1 (z_rng _).2 rfl dX0_spread_46 (fun H17 lc17 gH17 uH17 => ?_)
        have s_18 := uH17.keep (Or.inl (k_ne kh0 k_q_16 rfl)) s30_u30_h0_0
        have s_19 := uH17.keep (Or.inl (k_ne kh0 k_q_16 rfl)) s_16
        obtain ⟨x_20, e_20⟩ : ∃ y : Int32, (v30_5 : Int32) + Int32.ofInt 1 = y := ⟨_, rfl⟩
        refine lv_iinc (v := x_20) (lv' := [(5, .int x_20), (0, .ref h0), (1, .int p0)]) hx hb dX0_spread_47 hl (k := 2) rfl e_20 (by decide) rfl (fun ls hl => ?_)
        have t_20 := z_inc2 e_20 rfl (by decide) (by omega) (by omega)
        refine lv_goto (tgt := 30) hx hb dX0_spread_50 (by decide) ?_
        exact ih30 H17 lc17 ls x_20 u30_h0_0 (by omega) gH17 (lv_sub hl [1, 2, 0] rfl) (by omega) (by omega) (by omega) (by omega) s_18
  refine lv_aload_n hx hb dX0_spread_0 rfl (lv_at hl 0 rfl) ?_
  refine g_getI B fl_RX0_9 hT0 kh0 rfl rfl rfl rfl rfl dX0_spread_1 (fun x_21 s_21 a_21 b_21 => ?_)
  refine lv_iload_n hx hb dX0_spread_4 rfl (lv_at hl 3 rfl) ?_
  refine lv_isub hx hb dX0_spread_5 ?_
  refine lv_topi (fun x_22 e_22 => ?_)
  have t_22 := z_sub e_22 rfl rfl (by omega) (by omega)
  refine lv_istore (lv' := [(4, .int x_22), (0, .ref h0), (1, .int p0), (2, .int p1), (3, .int p2)]) hx hb dX0_spread_6 hl (by decide) rfl (fun ls hl => ?_)
  refine lv_iload_n hx hb dX0_spread_8 rfl (lv_at hl 2 rfl) ?_
  refine lv_bipush (v := 12) hx hb dX0_spread_9 (by decide) ?_
  refine lv_icmp_gt (tgt := 20) hx hb dX0_spread_11 (by decide) (fun c_23 => ?_) (fun c_23 => ?_)
  · have f_23 := z_lt c_23 kl_12 rfl
    exact False.elim (by omega)
  · have f_23 := z_nlt c_23 kl_12 rfl
    refine lv_iload_n hx hb dX0_spread_14 rfl (lv_at hl 3 rfl) ?_
    refine lv_iload hx hb dX0_spread_15 (lv_at hl 0 rfl) ?_
    refine lv_icmp_le (tgt := 21) hx hb dX0_spread_17 (by decide) (fun c_24 => ?_) (fun c_24 => ?_)
    · have f_24 := z_le c_24 rfl rfl
      refine lv_iload_n hx hb dX0_spread_21 rfl (lv_at hl 3 rfl) ?_
      refine lv_iload hx hb dX0_spread_22 (lv_at hl 0 rfl) ?_
      refine lv_icmp_ne (tgt := 58) hx hb dX0_spread_24 (by decide) (fun c_25 => ?_) (fun c_25 => ?_)
      · have f_25 := z_ne c_25 rfl rfl
        refine lv_iconst (v := 0) hx hb dX0_spread_58 (by decide) ?_
        refine lv_istore (lv' := [(5, .int 0), (4, .int x_22), (0, .ref h0), (1, .int p0), (2, .int p1), (3, .int p2)]) hx hb dX0_spread_59 hl (by decide) rfl (fun ls hl => ?_)
        have := kl_0
        exact b61 13 H0 [] ls 0 (by omega) hG0 (lv_sub hl [2, 3, 4, 5, 0] rfl) (by omega) (by omega) (by omega) (by omega)
      · have f_25 := z_eq c_25 rfl rfl
        refine lv_iload_n hx hb dX0_spread_27 rfl (lv_at hl 4 rfl) ?_
        refine lv_istore (lv' := [(5, .int p2), (4, .int x_22), (0, .ref h0), (1, .int p0), (2, .int p1), (3, .int p2)]) hx hb dX0_spread_28 hl (by decide) rfl (fun ls hl => ?_)
        exact b30 13 H0 [] ls p2 x_21 (by omega) hG0 (lv_sub hl [2, 3, 0] rfl) (by omega) (by omega) (by omega) (by omega) s_21
    · have f_24 := z_nle c_24 rfl rfl
      exact rtV B hr hlk hh hQ hG0 trivial dX0_spread_20

def rm_X0_spread_d7 : Room := { frames := 7, cells := 0, slots := 0, locals := 187 }
abbrev wS_X0_spread_d7 : List (Nat × Nat) := [(1, 1), (20, 99), (23, 99), (24, 99)]
set_option maxRecDepth 100000 in
set_option maxHeartbeats 4000000 in
theorem c_X0_spread_d7 (l : Launch) (E : zE) (hV : zV E) (H0 : Heap) (hT0 : HT E H0) (h0 : Nat) (kh0 : eK E h0 = 1) (p0 : Int32) (p0_lo : 7 ≤ p0.toInt) (p0_hi : p0.toInt ≤ 7) (p1 : Int32) (p1_lo : 0 ≤ p1.toInt) (p1_hi : p1.toInt ≤ 24) (p2 : Int32) (p2_lo : 0 ≤ p2.toInt) (p2_hi : p2.toInt ≤ 12) : Met l yX0_spread (zws yX0_spread cX0_spread 6 none) rm_X0_spread_d7 (zP E H0 [.ref h0, .int p0, .int p1, .int p2]) (zQV E E wS_X0_spread_d7 (fun H1 => True)) 0 0 (zfr E) := by
  refine zEnt (by decide) (Nat.le_of_ble_eq_true rfl) (fun p e s m args below meth c ls Q B hr hlk hh hQ hl => ?_)
  have hx := B.1
  have hb := B.2.1
  have hG0 : zG E wS_X0_spread_d7 H0 H0 [] := zG.rf hT0
  have hl : lv_has ls 6 [(0, .ref h0), (1, .int p0), (2, .int p1), (3, .int p2)] := hl
  have b61 : ∀ (n61 : Nat) (H61 : Heap) (lc61 : List Loc) (ls : Array Slot) (v61_5 : Int32), 12 - v61_5.toInt < (n61 : Int) → zG E wS_X0_spread_d7 H0 H61 lc61 → lv_has ls 6 [(0, .ref h0), (1, .int p0), (2, .int p1), (3, .int p2), (5, .int v61_5)] → p1.toInt ≤ 12 → 0 ≤ v61_5.toInt → v61_5.toInt ≤ 12 → p1.toInt + p2.toInt < 12 → W p l e rm_X0_spread_d7 s m args below meth c H61 lc61 0 0 Q (F0 m 61 ls []) := by
    intro n61
    induction n61 with
    | zero =>
      intro H61 lc61 ls v61_5 hm61 gH61 hl f61_1 f61_2 f61_3 f61_4
      exact absurd hm61 (by omega)
    | succ n61 ih61 =>
      intro H61 lc61 ls v61_5 hm61 gH61 hl f61_1 f61_2 f61_3 f61_4
      have b84 : ∀ (H84 : Heap) (lc84 : List Loc) (ls : Array Slot), zG E wS_X0_spread_d7 H0 H84 lc84 → lv_has ls 6 [(0, .ref h0), (1, .int p0), (2, .int p1), (3, .int p2), (5, .int v61_5)] → 1 ≤ p1.toInt → v61_5.toInt ≤ 11 → v61_5.toInt < p1.toInt → W p l e rm_X0_spread_d7 s m args below meth c H84 lc84 0 0 Q (F0 m 84 ls []) := by
        intro H84 lc84 ls gH84 hl f84_1 f84_2 f84_3
        refine lv_aload_n hx hb dX0_spread_84 rfl (lv_at hl 0 rfl) ?_
        refine lv_iload_n hx hb dX0_spread_85 rfl (lv_at hl 1 rfl) ?_
        refine lv_iconst (v := 1) hx hb dX0_spread_86 (by decide) ?_
        refine lv_iadd hx hb dX0_spread_87 ?_
        refine lv_topi (fun x_1 e_1 => ?_)
        have t_1 := z_add e_1 rfl kl_1 (by omega) (by omega)
        refine lv_iconst (v := 2) hx hb dX0_spread_88 (by decide) ?_
        refine lv_iload_n hx hb dX0_spread_89 rfl (lv_at hl 2 rfl) ?_
        refine lv_iload hx hb dX0_spread_90 (lv_at hl 4 rfl) ?_
        refine lv_isub hx hb dX0_spread_92 ?_
        refine lv_topi (fun x_2 e_2 => ?_)
        have t_2 := z_sub e_2 rfl rfl (by omega) (by omega)
        refine lv_imul hx hb dX0_spread_93 ?_
        refine lv_topi (fun x_3 e_3 => ?_)
        have t_3 := z_mul e_3 kl_2 rfl (by omega) (by omega)
        refine lv_iload_n hx hb dX0_spread_94 rfl (lv_at hl 3 rfl) ?_
        refine lv_iload hx hb dX0_spread_95 (lv_at hl 4 rfl) ?_
        refine lv_iadd hx hb dX0_spread_97 ?_
        refine lv_topi (fun x_4 e_4 => ?_)
        have t_4 := z_add e_4 rfl rfl (by omega) (by omega)
        refine zkV (zrV (rest := []) B (c_X0_spread_d8 l E hV H84 gH84.1 h0 kh0 x_1 (by omega) (by omega) x_3 (by omega) (by omega) x_4 (by omega) (by omega)) cl_RX0_44 gH84.1 kh0 rfl rfl rfl rfl hl.1 rfl (Nat.le_of_ble_eq_true rfl) dX0_spread_98 rfl rfl ⟨rfl, rfl⟩ ⟨Nat.zero_le _, Nat.zero_le _⟩ (zO.of gH84 hh)) gH84 rfl (fun H5 lc5 hp_5 gH5 rH5 => ?_)
        obtain ⟨x_6, e_6⟩ : ∃ y : Int32, (v61_5 : Int32) + Int32.ofInt 1 = y := ⟨_, rfl⟩
        refine lv_iinc (v := x_6) (lv' := [(5, .int x_6), (0, .ref h0), (1, .int p0), (2, .int p1), (3, .int p2)]) hx hb dX0_spread_101 hl (k := 4) rfl e_6 (by decide) rfl (fun ls hl => ?_)
        have t_6 := z_inc2 e_6 rfl (by decide) (by omega) (by omega)
        refine lv_goto (tgt := 61) hx hb dX0_spread_104 (by decide) ?_
        exact ih61 H5 lc5 ls x_6 (by omega) gH5 (lv_sub hl [1, 2, 3, 4, 0] rfl) (by omega) (by omega) (by omega) (by omega)
      refine lv_iload hx hb dX0_spread_61 (lv_at hl 4 rfl) ?_
      refine lv_iload_n hx hb dX0_spread_63 rfl (lv_at hl 2 rfl) ?_
      refine lv_icmp_ge (tgt := 107) hx hb dX0_spread_64 (by decide) (fun c_7 => ?_) (fun c_7 => ?_)
      · have f_7 := z_le c_7 rfl rfl
        exact rtV B hr hlk hh hQ gH61 trivial dX0_spread_107
      · have f_7 := z_nle c_7 rfl rfl
        refine lv_iload hx hb dX0_spread_67 (lv_at hl 4 rfl) ?_
        refine lv_if_le (tgt := 84) hx hb dX0_spread_69 (by decide) (fun c_8 => ?_) (fun c_8 => ?_)
        · have f_8 := z_le c_8 rfl kl_0
          exact b84 H61 lc61 ls gH61 (lv_sub hl [0, 1, 2, 3, 4] rfl) (by omega) (by omega) (by omega)
        · have f_8 := z_nle c_8 rfl kl_0
          refine lv_aload_n hx hb dX0_spread_72 rfl (lv_at hl 0 rfl) ?_
          refine g_getR B fl_RX0_28 gH61.1 kh0 rfl rfl rfl rfl rfl dX0_spread_73 (fun q_9 s_9 k_q_9 => ?_)
          refine lv_iload_n hx hb dX0_spread_76 rfl (lv_at hl 3 rfl) ?_
          refine lv_iload hx hb dX0_spread_77 (lv_at hl 4 rfl) ?_
          refine lv_iadd hx hb dX0_spread_79 ?_
          refine lv_topi (fun x_10 e_10 => ?_)
          have t_10 := z_add e_10 rfl rfl (by omega) (by omega)
          refine lv_iconst (v := 1) hx hb dX0_spread_80 (by decide) ?_
          refine lv_isub hx hb dX0_spread_81 ?_
          refine lv_topi (fun x_11 e_11 => ?_)
          have t_11 := z_sub e_11 rfl kl_1 (by omega) (by omega)
          refine lv_iload_n hx hb dX0_spread_82 rfl (lv_at hl 1 rfl) ?_
          refine g_iastI (i := x_11) (N := 12) B hV gH61 k_q_9 rfl rfl rfl rfl (by omega) (by omega) rfl (z_rng _).1 (z_rng _).2 rfl dX0_spread_83 (fun H12 lc12 gH12 uH12 => ?_)
          have s_13 := uH12.keep (Or.inl (k_ne kh0 k_q_9 rfl)) s_9
          exact b84 H12 lc12 ls gH12 (lv_sub hl [0, 1, 2, 3, 4] rfl) (by omega) (by omega) (by omega)
  have b30 : ∀ (n30 : Nat) (H30 : Heap) (lc30 : List Loc) (ls : Array Slot) (v30_5 : Int32) (u30_h0_0 : Int32), 12 - v30_5.toInt < (n30 : Int) → zG E wS_X0_spread_d7 H0 H30 lc30 → lv_has ls 6 [(0, .ref h0), (1, .int p0), (5, .int v30_5)] → 0 ≤ v30_5.toInt → v30_5.toInt ≤ 12 → 0 ≤ u30_h0_0.toInt → u30_h0_0.toInt ≤ 12 → sl H30 h0 (zix E 1 0) = some (.int u30_h0_0) → W p l e rm_X0_spread_d7 s m args below meth c H30 lc30 0 0 Q (F0 m 30 ls []) := by
    intro n30
    induction n30 with
    | zero =>
      intro H30 lc30 ls v30_5 u30_h0_0 hm30 gH30 hl f30_1 f30_2 f30_3 f30_4 s30_u30_h0_0
      exact absurd hm30 (by omega)
    | succ n30 ih30 =>
      intro H30 lc30 ls v30_5 u30_h0_0 hm30 gH30 hl f30_1 f30_2 f30_3 f30_4 s30_u30_h0_0
      refine lv_iload hx hb dX0_spread_30 (lv_at hl 2 rfl) ?_
      refine lv_aload_n hx hb dX0_spread_32 rfl (lv_at hl 0 rfl) ?_
      refine g_get B fl_RX0_9 gH30.1 kh0 rfl rfl rfl dX0_spread_33 s30_u30_h0_0 ?_
      refine lv_icmp_ge (tgt := 53) hx hb dX0_spread_36 (by decide) (fun c_14 => ?_) (fun c_14 => ?_)
      · have f_14 := z_le c_14 rfl rfl
        refine lv_aload_n hx hb dX0_spread_53 rfl (lv_at hl 0 rfl) ?_
        refine zkV (zrV (rest := []) B (c_X0_weigh l E hV H30 gH30.1 h0 kh0) cl_RX0_48 gH30.1 kh0 rfl rfl rfl rfl hl.1 rfl (Nat.le_of_ble_eq_true rfl) dX0_spread_54 rfl rfl ⟨rfl, rfl⟩ ⟨Nat.zero_le _, Nat.zero_le _⟩ (zO.of gH30 hh)) gH30 rfl (fun H15 lc15 hp_15 gH15 rH15 => ?_)
        exact rtV B hr hlk hh hQ gH15 trivial dX0_spread_57
      · have f_14 := z_nle c_14 rfl rfl
        refine lv_aload_n hx hb dX0_spread_39 rfl (lv_at hl 0 rfl) ?_
        refine g_getR B fl_RX0_28 gH30.1 kh0 rfl rfl rfl rfl rfl dX0_spread_40 (fun q_16 s_16 k_q_16 => ?_)
        refine lv_iload hx hb dX0_spread_43 (lv_at hl 2 rfl) ?_
        refine lv_iload_n hx hb dX0_spread_45 rfl (lv_at hl 1 rfl) ?_
        refine g_iastI (i := v30_5) (N := 12) B hV gH30 k_q_16 rfl rfl rfl rfl (by omega) (by omega) rfl (z_rng _).1 (z_rng _).2 rfl dX0_spread_46 (fun H17 lc17 gH17 uH17 => ?_)
        have s_18 := uH17.keep (Or.inl (k_ne kh0 k_q_16 rfl)) s30_u30_h0_0
        have s_19 := uH17.keep (Or.inl (k_ne kh0 k_q_16 rfl)) s_16
        obtain ⟨x_20, e_20⟩ : ∃ y : Int32, (v30_5 : Int32) + Int32.ofInt 1 = y := ⟨_, rfl⟩
        refine lv_iinc (v := x_20) (lv' := [(5, .int x_20), (0, .ref h0), (1, .int p0)]) hx hb dX0_spread_47 hl (k := 2) rfl e_20 (by decide) rfl (fun ls hl => ?_)
        have t_20 := z_inc2 e_20 rfl (by decide) (by omega) (by omega)
        refine lv_goto (tgt := 30) hx hb dX0_spread_50 (by decide) ?_
        exact ih30 H17 lc17 ls x_20 u30_h0_0 (by omega) gH17 (lv_sub hl [1, 2, 0] rfl) (by omega) (by omega) (by omega) (by omega) s_18
  refine lv_aload_n hx hb dX0_spread_0 rfl (lv_at hl 0 rfl) ?_
  refine g_getI B fl_RX0_9 hT0 kh0 rfl rfl rfl rfl rfl dX0_spread_1 (fun x_21 s_21 a_21 b_21 => ?_)
  refine lv_iload_n hx hb dX0_spread_4 rfl (lv_at hl 3 rfl) ?_
  refine lv_isub hx hb dX0_spread_5 ?_
  refine lv_topi (fun x_22 e_22 => ?_)
  have t_22 := z_sub e_22 rfl rfl (by omega) (by omega)
  refine lv_istore (lv' := [(4, .int x_22), (0, .ref h0), (1, .int p0), (2, .int p1), (3, .int p2)]) hx hb dX0_spread_6 hl (by decide) rfl (fun ls hl => ?_)
  refine lv_iload_n hx hb dX0_spread_8 rfl (lv_at hl 2 rfl) ?_
  refine lv_bipush (v := 12) hx hb dX0_spread_9 (by decide) ?_
  refine lv_icmp_gt (tgt := 20) hx hb dX0_spread_11 (by decide) (fun c_23 => ?_) (fun c_23 => ?_)
  · have f_23 := z_lt c_23 kl_12 rfl
    exact False.elim (by omega)
  · have f_23 := z_nlt c_23 kl_12 rfl
    refine lv_iload_n hx hb dX0_spread_14 rfl (lv_at hl 3 rfl) ?_
    refine lv_iload hx hb dX0_spread_15 (lv_at hl 0 rfl) ?_
    refine lv_icmp_le (tgt := 21) hx hb dX0_spread_17 (by decide) (fun c_24 => ?_) (fun c_24 => ?_)
    · have f_24 := z_le c_24 rfl rfl
      refine lv_iload_n hx hb dX0_spread_21 rfl (lv_at hl 3 rfl) ?_
      refine lv_iload hx hb dX0_spread_22 (lv_at hl 0 rfl) ?_
      refine lv_icmp_ne (tgt := 58) hx hb dX0_spread_24 (by decide) (fun c_25 => ?_) (fun c_25 => ?_)
      · have f_25 := z_ne c_25 rfl rfl
        refine lv_iconst (v := 0) hx hb dX0_spread_58 (by decide) ?_
        refine lv_istore (lv' := [(5, .int 0), (4, .int x_22), (0, .ref h0), (1, .int p0), (2, .int p1), (3, .int p2)]) hx hb dX0_spread_59 hl (by decide) rfl (fun ls hl => ?_)
        have := kl_0
        exact b61 13 H0 [] ls 0 (by omega) hG0 (lv_sub hl [2, 3, 4, 5, 0] rfl) (by omega) (by omega) (by omega) (by omega)
      · have f_25 := z_eq c_25 rfl rfl
        refine lv_iload_n hx hb dX0_spread_27 rfl (lv_at hl 4 rfl) ?_
        refine lv_istore (lv' := [(5, .int p2), (4, .int x_22), (0, .ref h0), (1, .int p0), (2, .int p1), (3, .int p2)]) hx hb dX0_spread_28 hl (by decide) rfl (fun ls hl => ?_)
        exact b30 13 H0 [] ls p2 x_21 (by omega) hG0 (lv_sub hl [2, 3, 0] rfl) (by omega) (by omega) (by omega) (by omega) s_21
    · have f_24 := z_nle c_24 rfl rfl
      exact rtV B hr hlk hh hQ hG0 trivial dX0_spread_20

def rm_X0_spread_d6 : Room := { frames := 8, cells := 0, slots := 0, locals := 212 }
abbrev wS_X0_spread_d6 : List (Nat × Nat) := [(1, 1), (20, 99), (23, 99), (24, 99)]
set_option maxRecDepth 100000 in
set_option maxHeartbeats 4000000 in
theorem c_X0_spread_d6 (l : Launch) (E : zE) (hV : zV E) (H0 : Heap) (hT0 : HT E H0) (h0 : Nat) (kh0 : eK E h0 = 1) (p0 : Int32) (p0_lo : 6 ≤ p0.toInt) (p0_hi : p0.toInt ≤ 6) (p1 : Int32) (p1_lo : 0 ≤ p1.toInt) (p1_hi : p1.toInt ≤ 24) (p2 : Int32) (p2_lo : 0 ≤ p2.toInt) (p2_hi : p2.toInt ≤ 12) : Met l yX0_spread (zws yX0_spread cX0_spread 6 none) rm_X0_spread_d6 (zP E H0 [.ref h0, .int p0, .int p1, .int p2]) (zQV E E wS_X0_spread_d6 (fun H1 => True)) 0 0 (zfr E) := by
  refine zEnt (by decide) (Nat.le_of_ble_eq_true rfl) (fun p e s m args below meth c ls Q B hr hlk hh hQ hl => ?_)
  have hx := B.1
  have hb := B.2.1
  have hG0 : zG E wS_X0_spread_d6 H0 H0 [] := zG.rf hT0
  have hl : lv_has ls 6 [(0, .ref h0), (1, .int p0), (2, .int p1), (3, .int p2)] := hl
  have b61 : ∀ (n61 : Nat) (H61 : Heap) (lc61 : List Loc) (ls : Array Slot) (v61_5 : Int32), 12 - v61_5.toInt < (n61 : Int) → zG E wS_X0_spread_d6 H0 H61 lc61 → lv_has ls 6 [(0, .ref h0), (1, .int p0), (2, .int p1), (3, .int p2), (5, .int v61_5)] → p1.toInt ≤ 12 → 0 ≤ v61_5.toInt → v61_5.toInt ≤ 12 → p1.toInt + p2.toInt < 12 → W p l e rm_X0_spread_d6 s m args below meth c H61 lc61 0 0 Q (F0 m 61 ls []) := by
    intro n61
    induction n61 with
    | zero =>
      intro H61 lc61 ls v61_5 hm61 gH61 hl f61_1 f61_2 f61_3 f61_4
      exact absurd hm61 (by omega)
    | succ n61 ih61 =>
      intro H61 lc61 ls v61_5 hm61 gH61 hl f61_1 f61_2 f61_3 f61_4
      have b84 : ∀ (H84 : Heap) (lc84 : List Loc) (ls : Array Slot), zG E wS_X0_spread_d6 H0 H84 lc84 → lv_has ls 6 [(0, .ref h0), (1, .int p0), (2, .int p1), (3, .int p2), (5, .int v61_5)] → 1 ≤ p1.toInt → v61_5.toInt ≤ 11 → v61_5.toInt < p1.toInt → W p l e rm_X0_spread_d6 s m args below meth c H84 lc84 0 0 Q (F0 m 84 ls []) := by
        intro H84 lc84 ls gH84 hl f84_1 f84_2 f84_3
        refine lv_aload_n hx hb dX0_spread_84 rfl (lv_at hl 0 rfl) ?_
        refine lv_iload_n hx hb dX0_spread_85 rfl (lv_at hl 1 rfl) ?_
        refine lv_iconst (v := 1) hx hb dX0_spread_86 (by decide) ?_
        refine lv_iadd hx hb dX0_spread_87 ?_
        refine lv_topi (fun x_1 e_1 => ?_)
        have t_1 := z_add e_1 rfl kl_1 (by omega) (by omega)
        refine lv_iconst (v := 2) hx hb dX0_spread_88 (by decide) ?_
        refine lv_iload_n hx hb dX0_spread_89 rfl (lv_at hl 2 rfl) ?_
        refine lv_iload hx hb dX0_spread_90 (lv_at hl 4 rfl) ?_
        refine lv_isub hx hb dX0_spread_92 ?_
        refine lv_topi (fun x_2 e_2 => ?_)
        have t_2 := z_sub e_2 rfl rfl (by omega) (by omega)
        refine lv_imul hx hb dX0_spread_93 ?_
        refine lv_topi (fun x_3 e_3 => ?_)
        have t_3 := z_mul e_3 kl_2 rfl (by omega) (by omega)
        refine lv_iload_n hx hb dX0_spread_94 rfl (lv_at hl 3 rfl) ?_
        refine lv_iload hx hb dX0_spread_95 (lv_at hl 4 rfl) ?_
        refine lv_iadd hx hb dX0_spread_97 ?_
        refine lv_topi (fun x_4 e_4 => ?_)
        have t_4 := z_add e_4 rfl rfl (by omega) (by omega)
        refine zkV (zrV (rest := []) B (c_X0_spread_d7 l E hV H84 gH84.1 h0 kh0 x_1 (by omega) (by omega) x_3 (by omega) (by omega) x_4 (by omega) (by omega)) cl_RX0_44 gH84.1 kh0 rfl rfl rfl rfl hl.1 rfl (Nat.le_of_ble_eq_true rfl) dX0_spread_98 rfl rfl ⟨rfl, rfl⟩ ⟨Nat.zero_le _, Nat.zero_le _⟩ (zO.of gH84 hh)) gH84 rfl (fun H5 lc5 hp_5 gH5 rH5 => ?_)
        obtain ⟨x_6, e_6⟩ : ∃ y : Int32, (v61_5 : Int32) + Int32.ofInt 1 = y := ⟨_, rfl⟩
        refine lv_iinc (v := x_6) (lv' := [(5, .int x_6), (0, .ref h0), (1, .int p0), (2, .int p1), (3, .int p2)]) hx hb dX0_spread_101 hl (k := 4) rfl e_6 (by decide) rfl (fun ls hl => ?_)
        have t_6 := z_inc2 e_6 rfl (by decide) (by omega) (by omega)
        refine lv_goto (tgt := 61) hx hb dX0_spread_104 (by decide) ?_
        exact ih61 H5 lc5 ls x_6 (by omega) gH5 (lv_sub hl [1, 2, 3, 4, 0] rfl) (by omega) (by omega) (by omega) (by omega)
      refine lv_iload hx hb dX0_spread_61 (lv_at hl 4 rfl) ?_
      refine lv_iload_n hx hb dX0_spread_63 rfl (lv_at hl 2 rfl) ?_
      refine lv_icmp_ge (tgt := 107) hx hb dX0_spread_64 (by decide) (fun c_7 => ?_) (fun c_7 => ?_)
      · have f_7 := z_le c_7 rfl rfl
        exact rtV B hr hlk hh hQ gH61 trivial dX0_spread_107
      · have f_7 := z_nle c_7 rfl rfl
        refine lv_iload hx hb dX0_spread_67 (lv_at hl 4 rfl) ?_
        refine lv_if_le (tgt := 84) hx hb dX0_spread_69 (by decide) (fun c_8 => ?_) (fun c_8 => ?_)
        · have f_8 := z_le c_8 rfl kl_0
          exact b84 H61 lc61 ls gH61 (lv_sub hl [0, 1, 2, 3, 4] rfl) (by omega) (by omega) (by omega)
        · have f_8 := z_nle c_8 rfl kl_0
          refine lv_aload_n hx hb dX0_spread_72 rfl (lv_at hl 0 rfl) ?_
          refine g_getR B fl_RX0_28 gH61.1 kh0 rfl rfl rfl rfl rfl dX0_spread_73 (fun q_9 s_9 k_q_9 => ?_)
          refine lv_iload_n hx hb dX0_spread_76 rfl (lv_at hl 3 rfl) ?_
          refine lv_iload hx hb dX0_spread_77 (lv_at hl 4 rfl) ?_
          refine lv_iadd hx hb dX0_spread_79 ?_
          refine lv_topi (fun x_10 e_10 => ?_)
          have t_10 := z_add e_10 rfl rfl (by omega) (by omega)
          refine lv_iconst (v := 1) hx hb dX0_spread_80 (by decide) ?_
          refine lv_isub hx hb dX0_spread_81 ?_
          refine lv_topi (fun x_11 e_11 => ?_)
          have t_11 := z_sub e_11 rfl kl_1 (by omega) (by omega)
          refine lv_iload_n hx hb dX0_spread_82 rfl (lv_at hl 1 rfl) ?_
          refine g_iastI (i := x_11) (N := 12) B hV gH61 k_q_9 rfl rfl rfl rfl (by omega) (by omega) rfl (z_rng _).1 (z_rng _).2 rfl dX0_spread_83 (fun H12 lc12 gH12 uH12 => ?_)
          have s_13 := uH12.keep (Or.inl (k_ne kh0 k_q_9 rfl)) s_9
          exact b84 H12 lc12 ls gH12 (lv_sub hl [0, 1, 2, 3, 4] rfl) (by omega) (by omega) (by omega)
  have b30 : ∀ (n30 : Nat) (H30 : Heap) (lc30 : List Loc) (ls : Array Slot) (v30_5 : Int32) (u30_h0_0 : Int32), 12 - v30_5.toInt < (n30 : Int) → zG E wS_X0_spread_d6 H0 H30 lc30 → lv_has ls 6 [(0, .ref h0), (1, .int p0), (5, .int v30_5)] → 0 ≤ v30_5.toInt → v30_5.toInt ≤ 12 → 0 ≤ u30_h0_0.toInt → u30_h0_0.toInt ≤ 12 → sl H30 h0 (zix E 1 0) = some (.int u30_h0_0) → W p l e rm_X0_spread_d6 s m args below meth c H30 lc30 0 0 Q (F0 m 30 ls []) := by
    intro n30
    induction n30 with
    | zero =>
      intro H30 lc30 ls v30_5 u30_h0_0 hm30 gH30 hl f30_1 f30_2 f30_3 f30_4 s30_u30_h0_0
      exact absurd hm30 (by omega)
    | succ n30 ih30 =>
      intro H30 lc30 ls v30_5 u30_h0_0 hm30 gH30 hl f30_1 f30_2 f30_3 f30_4 s30_u30_h0_0
      refine lv_iload hx hb dX0_spread_30 (lv_at hl 2 rfl) ?_
      refine lv_aload_n hx hb dX0_spread_32 rfl (lv_at hl 0 rfl) ?_
      refine g_get B fl_RX0_9 gH30.1 kh0 rfl rfl rfl dX0_spread_33 s30_u30_h0_0 ?_
      refine lv_icmp_ge (tgt := 53) hx hb dX0_spread_36 (by decide) (fun c_14 => ?_) (fun c_14 => ?_)
      · have f_14 := z_le c_14 rfl rfl
        refine lv_aload_n hx hb dX0_spread_53 rfl (lv_at hl 0 rfl) ?_
        refine zkV (zrV (rest := []) B (c_X0_weigh l E hV H30 gH30.1 h0 kh0) cl_RX0_48 gH30.1 kh0 rfl rfl rfl rfl hl.1 rfl (Nat.le_of_ble_eq_true rfl) dX0_spread_54 rfl rfl ⟨rfl, rfl⟩ ⟨Nat.zero_le _, Nat.zero_le _⟩ (zO.of gH30 hh)) gH30 rfl (fun H15 lc15 hp_15 gH15 rH15 => ?_)
        exact rtV B hr hlk hh hQ gH15 trivial dX0_spread_57
      · have f_14 := z_nle c_14 rfl rfl
        refine lv_aload_n hx hb dX0_spread_39 rfl (lv_at hl 0 rfl) ?_
        refine g_getR B fl_RX0_28 gH30.1 kh0 rfl rfl rfl rfl rfl dX0_spread_40 (fun q_16 s_16 k_q_16 => ?_)
        refine lv_iload hx hb dX0_spread_43 (lv_at hl 2 rfl) ?_
        refine lv_iload_n hx hb dX0_spread_45 rfl (lv_at hl 1 rfl) ?_
        refine g_iastI (i := v30_5) (N := 12) B hV gH30 k_q_16 rfl rfl rfl rfl (by omega) (by omega) rfl (z_rng _).1 (z_rng _).2 rfl dX0_spread_46 (fun H17 lc17 gH17 uH17 => ?_)
        have s_18 := uH17.keep (Or.inl (k_ne kh0 k_q_16 rfl)) s30_u30_h0_0
        have s_19 := uH17.keep (Or.inl (k_ne kh0 k_q_16 rfl)) s_16
        obtain ⟨x_20, e_20⟩ : ∃ y : Int32, (v30_5 : Int32) + Int32.ofInt 1 = y := ⟨_, rfl⟩
        refine lv_iinc (v := x_20) (lv' := [(5, .int x_20), (0, .ref h0), (1, .int p0)]) hx hb dX0_spread_47 hl (k := 2) rfl e_20 (by decide) rfl (fun ls hl => ?_)
        have t_20 := z_inc2 e_20 rfl (by decide) (by omega) (by omega)
        refine lv_goto (tgt := 30) hx hb dX0_spread_50 (by decide) ?_
        exact ih30 H17 lc17 ls x_20 u30_h0_0 (by omega) gH17 (lv_sub hl [1, 2, 0] rfl) (by omega) (by omega) (by omega) (by omega) s_18
  refine lv_aload_n hx hb dX0_spread_0 rfl (lv_at hl 0 rfl) ?_
  refine g_getI B fl_RX0_9 hT0 kh0 rfl rfl rfl rfl rfl dX0_spread_1 (fun x_21 s_21 a_21 b_21 => ?_)
  refine lv_iload_n hx hb dX0_spread_4 rfl (lv_at hl 3 rfl) ?_
  refine lv_isub hx hb dX0_spread_5 ?_
  refine lv_topi (fun x_22 e_22 => ?_)
  have t_22 := z_sub e_22 rfl rfl (by omega) (by omega)
  refine lv_istore (lv' := [(4, .int x_22), (0, .ref h0), (1, .int p0), (2, .int p1), (3, .int p2)]) hx hb dX0_spread_6 hl (by decide) rfl (fun ls hl => ?_)
  refine lv_iload_n hx hb dX0_spread_8 rfl (lv_at hl 2 rfl) ?_
  refine lv_bipush (v := 12) hx hb dX0_spread_9 (by decide) ?_
  refine lv_icmp_gt (tgt := 20) hx hb dX0_spread_11 (by decide) (fun c_23 => ?_) (fun c_23 => ?_)
  · have f_23 := z_lt c_23 kl_12 rfl
    exact False.elim (by omega)
  · have f_23 := z_nlt c_23 kl_12 rfl
    refine lv_iload_n hx hb dX0_spread_14 rfl (lv_at hl 3 rfl) ?_
    refine lv_iload hx hb dX0_spread_15 (lv_at hl 0 rfl) ?_
    refine lv_icmp_le (tgt := 21) hx hb dX0_spread_17 (by decide) (fun c_24 => ?_) (fun c_24 => ?_)
    · have f_24 := z_le c_24 rfl rfl
      refine lv_iload_n hx hb dX0_spread_21 rfl (lv_at hl 3 rfl) ?_
      refine lv_iload hx hb dX0_spread_22 (lv_at hl 0 rfl) ?_
      refine lv_icmp_ne (tgt := 58) hx hb dX0_spread_24 (by decide) (fun c_25 => ?_) (fun c_25 => ?_)
      · have f_25 := z_ne c_25 rfl rfl
        refine lv_iconst (v := 0) hx hb dX0_spread_58 (by decide) ?_
        refine lv_istore (lv' := [(5, .int 0), (4, .int x_22), (0, .ref h0), (1, .int p0), (2, .int p1), (3, .int p2)]) hx hb dX0_spread_59 hl (by decide) rfl (fun ls hl => ?_)
        have := kl_0
        exact b61 13 H0 [] ls 0 (by omega) hG0 (lv_sub hl [2, 3, 4, 5, 0] rfl) (by omega) (by omega) (by omega) (by omega)
      · have f_25 := z_eq c_25 rfl rfl
        refine lv_iload_n hx hb dX0_spread_27 rfl (lv_at hl 4 rfl) ?_
        refine lv_istore (lv' := [(5, .int p2), (4, .int x_22), (0, .ref h0), (1, .int p0), (2, .int p1), (3, .int p2)]) hx hb dX0_spread_28 hl (by decide) rfl (fun ls hl => ?_)
        exact b30 13 H0 [] ls p2 x_21 (by omega) hG0 (lv_sub hl [2, 3, 0] rfl) (by omega) (by omega) (by omega) (by omega) s_21
    · have f_24 := z_nle c_24 rfl rfl
      exact rtV B hr hlk hh hQ hG0 trivial dX0_spread_20

def rm_X0_spread_d5 : Room := { frames := 9, cells := 0, slots := 0, locals := 237 }
abbrev wS_X0_spread_d5 : List (Nat × Nat) := [(1, 1), (20, 99), (23, 99), (24, 99)]
set_option maxRecDepth 100000 in
set_option maxHeartbeats 4000000 in
theorem c_X0_spread_d5 (l : Launch) (E : zE) (hV : zV E) (H0 : Heap) (hT0 : HT E H0) (h0 : Nat) (kh0 : eK E h0 = 1) (p0 : Int32) (p0_lo : 5 ≤ p0.toInt) (p0_hi : p0.toInt ≤ 5) (p1 : Int32) (p1_lo : 0 ≤ p1.toInt) (p1_hi : p1.toInt ≤ 24) (p2 : Int32) (p2_lo : 0 ≤ p2.toInt) (p2_hi : p2.toInt ≤ 12) : Met l yX0_spread (zws yX0_spread cX0_spread 6 none) rm_X0_spread_d5 (zP E H0 [.ref h0, .int p0, .int p1, .int p2]) (zQV E E wS_X0_spread_d5 (fun H1 => True)) 0 0 (zfr E) := by
  refine zEnt (by decide) (Nat.le_of_ble_eq_true rfl) (fun p e s m args below meth c ls Q B hr hlk hh hQ hl => ?_)
  have hx := B.1
  have hb := B.2.1
  have hG0 : zG E wS_X0_spread_d5 H0 H0 [] := zG.rf hT0
  have hl : lv_has ls 6 [(0, .ref h0), (1, .int p0), (2, .int p1), (3, .int p2)] := hl
  have b61 : ∀ (n61 : Nat) (H61 : Heap) (lc61 : List Loc) (ls : Array Slot) (v61_5 : Int32), 12 - v61_5.toInt < (n61 : Int) → zG E wS_X0_spread_d5 H0 H61 lc61 → lv_has ls 6 [(0, .ref h0), (1, .int p0), (2, .int p1), (3, .int p2), (5, .int v61_5)] → p1.toInt ≤ 12 → 0 ≤ v61_5.toInt → v61_5.toInt ≤ 12 → p1.toInt + p2.toInt < 12 → W p l e rm_X0_spread_d5 s m args below meth c H61 lc61 0 0 Q (F0 m 61 ls []) := by
    intro n61
    induction n61 with
    | zero =>
      intro H61 lc61 ls v61_5 hm61 gH61 hl f61_1 f61_2 f61_3 f61_4
      exact absurd hm61 (by omega)
    | succ n61 ih61 =>
      intro H61 lc61 ls v61_5 hm61 gH61 hl f61_1 f61_2 f61_3 f61_4
      have b84 : ∀ (H84 : Heap) (lc84 : List Loc) (ls : Array Slot), zG E wS_X0_spread_d5 H0 H84 lc84 → lv_has ls 6 [(0, .ref h0), (1, .int p0), (2, .int p1), (3, .int p2), (5, .int v61_5)] → 1 ≤ p1.toInt → v61_5.toInt ≤ 11 → v61_5.toInt < p1.toInt → W p l e rm_X0_spread_d5 s m args below meth c H84 lc84 0 0 Q (F0 m 84 ls []) := by
        intro H84 lc84 ls gH84 hl f84_1 f84_2 f84_3
        refine lv_aload_n hx hb dX0_spread_84 rfl (lv_at hl 0 rfl) ?_
        refine lv_iload_n hx hb dX0_spread_85 rfl (lv_at hl 1 rfl) ?_
        refine lv_iconst (v := 1) hx hb dX0_spread_86 (by decide) ?_
        refine lv_iadd hx hb dX0_spread_87 ?_
        refine lv_topi (fun x_1 e_1 => ?_)
        have t_1 := z_add e_1 rfl kl_1 (by omega) (by omega)
        refine lv_iconst (v := 2) hx hb dX0_spread_88 (by decide) ?_
        refine lv_iload_n hx hb dX0_spread_89 rfl (lv_at hl 2 rfl) ?_
        refine lv_iload hx hb dX0_spread_90 (lv_at hl 4 rfl) ?_
        refine lv_isub hx hb dX0_spread_92 ?_
        refine lv_topi (fun x_2 e_2 => ?_)
        have t_2 := z_sub e_2 rfl rfl (by omega) (by omega)
        refine lv_imul hx hb dX0_spread_93 ?_
        refine lv_topi (fun x_3 e_3 => ?_)
        have t_3 := z_mul e_3 kl_2 rfl (by omega) (by omega)
        refine lv_iload_n hx hb dX0_spread_94 rfl (lv_at hl 3 rfl) ?_
        refine lv_iload hx hb dX0_spread_95 (lv_at hl 4 rfl) ?_
        refine lv_iadd hx hb dX0_spread_97 ?_
        refine lv_topi (fun x_4 e_4 => ?_)
        have t_4 := z_add e_4 rfl rfl (by omega) (by omega)
        refine zkV (zrV (rest := []) B (c_X0_spread_d6 l E hV H84 gH84.1 h0 kh0 x_1 (by omega) (by omega) x_3 (by omega) (by omega) x_4 (by omega) (by omega)) cl_RX0_44 gH84.1 kh0 rfl rfl rfl rfl hl.1 rfl (Nat.le_of_ble_eq_true rfl) dX0_spread_98 rfl rfl ⟨rfl, rfl⟩ ⟨Nat.zero_le _, Nat.zero_le _⟩ (zO.of gH84 hh)) gH84 rfl (fun H5 lc5 hp_5 gH5 rH5 => ?_)
        obtain ⟨x_6, e_6⟩ : ∃ y : Int32, (v61_5 : Int32) + Int32.ofInt 1 = y := ⟨_, rfl⟩
        refine lv_iinc (v := x_6) (lv' := [(5, .int x_6), (0, .ref h0), (1, .int p0), (2, .int p1), (3, .int p2)]) hx hb dX0_spread_101 hl (k := 4) rfl e_6 (by decide) rfl (fun ls hl => ?_)
        have t_6 := z_inc2 e_6 rfl (by decide) (by omega) (by omega)
        refine lv_goto (tgt := 61) hx hb dX0_spread_104 (by decide) ?_
        exact ih61 H5 lc5 ls x_6 (by omega) gH5 (lv_sub hl [1, 2, 3, 4, 0] rfl) (by omega) (by omega) (by omega) (by omega)
      refine lv_iload hx hb dX0_spread_61 (lv_at hl 4 rfl) ?_
      refine lv_iload_n hx hb dX0_spread_63 rfl (lv_at hl 2 rfl) ?_
      refine lv_icmp_ge (tgt := 107) hx hb dX0_spread_64 (by decide) (fun c_7 => ?_) (fun c_7 => ?_)
      · have f_7 := z_le c_7 rfl rfl
        exact rtV B hr hlk hh hQ gH61 trivial dX0_spread_107
      · have f_7 := z_nle c_7 rfl rfl
        refine lv_iload hx hb dX0_spread_67 (lv_at hl 4 rfl) ?_
        refine lv_if_le (tgt := 84) hx hb dX0_spread_69 (by decide) (fun c_8 => ?_) (fun c_8 => ?_)
        · have f_8 := z_le c_8 rfl kl_0
          exact b84 H61 lc61 ls gH61 (lv_sub hl [0, 1, 2, 3, 4] rfl) (by omega) (by omega) (by omega)
        · have f_8 := z_nle c_8 rfl kl_0
          refine lv_aload_n hx hb dX0_spread_72 rfl (lv_at hl 0 rfl) ?_
          refine g_getR B fl_RX0_28 gH61.1 kh0 rfl rfl rfl rfl rfl dX0_spread_73 (fun q_9 s_9 k_q_9 => ?_)
          refine lv_iload_n hx hb dX0_spread_76 rfl (lv_at hl 3 rfl) ?_
          refine lv_iload hx hb dX0_spread_77 (lv_at hl 4 rfl) ?_
          refine lv_iadd hx hb dX0_spread_79 ?_
          refine lv_topi (fun x_10 e_10 => ?_)
          have t_10 := z_add e_10 rfl rfl (by omega) (by omega)
          refine lv_iconst (v := 1) hx hb dX0_spread_80 (by decide) ?_
          refine lv_isub hx hb dX0_spread_81 ?_
          refine lv_topi (fun x_11 e_11 => ?_)
          have t_11 := z_sub e_11 rfl kl_1 (by omega) (by omega)
          refine lv_iload_n hx hb dX0_spread_82 rfl (lv_at hl 1 rfl) ?_
          refine g_iastI (i := x_11) (N := 12) B hV gH61 k_q_9 rfl rfl rfl rfl (by omega) (by omega) rfl (z_rng _).1 (z_rng _).2 rfl dX0_spread_83 (fun H12 lc12 gH12 uH12 => ?_)
          have s_13 := uH12.keep (Or.inl (k_ne kh0 k_q_9 rfl)) s_9
          exact b84 H12 lc12 ls gH12 (lv_sub hl [0, 1, 2, 3, 4] rfl) (by omega) (by omega) (by omega)
  have b30 : ∀ (n30 : Nat) (H30 : Heap) (lc30 : List Loc) (ls : Array Slot) (v30_5 : Int32) (u30_h0_0 : Int32), 12 - v30_5.toInt < (n30 : Int) → zG E wS_X0_spread_d5 H0 H30 lc30 → lv_has ls 6 [(0, .ref h0), (1, .int p0), (5, .int v30_5)] → 0 ≤ v30_5.toInt → v30_5.toInt ≤ 12 → 0 ≤ u30_h0_0.toInt → u30_h0_0.toInt ≤ 12 → sl H30 h0 (zix E 1 0) = some (.int u30_h0_0) → W p l e rm_X0_spread_d5 s m args below meth c H30 lc30 0 0 Q (F0 m 30 ls []) := by
    intro n30
    induction n30 with
    | zero =>
      intro H30 lc30 ls v30_5 u30_h0_0 hm30 gH30 hl f30_1 f30_2 f30_3 f30_4 s30_u30_h0_0
      exact absurd hm30 (by omega)
    | succ n30 ih30 =>
      intro H30 lc30 ls v30_5 u30_h0_0 hm30 gH30 hl f30_1 f30_2 f30_3 f30_4 s30_u30_h0_0
      refine lv_iload hx hb dX0_spread_30 (lv_at hl 2 rfl) ?_
      refine lv_aload_n hx hb dX0_spread_32 rfl (lv_at hl 0 rfl) ?_
      refine g_get B fl_RX0_9 gH30.1 kh0 rfl rfl rfl dX0_spread_33 s30_u30_h0_0 ?_
      refine lv_icmp_ge (tgt := 53) hx hb dX0_spread_36 (by decide) (fun c_14 => ?_) (fun c_14 => ?_)
      · have f_14 := z_le c_14 rfl rfl
        refine lv_aload_n hx hb dX0_spread_53 rfl (lv_at hl 0 rfl) ?_
        refine zkV (zrV (rest := []) B (c_X0_weigh l E hV H30 gH30.1 h0 kh0) cl_RX0_48 gH30.1 kh0 rfl rfl rfl rfl hl.1 rfl (Nat.le_of_ble_eq_true rfl) dX0_spread_54 rfl rfl ⟨rfl, rfl⟩ ⟨Nat.zero_le _, Nat.zero_le _⟩ (zO.of gH30 hh)) gH30 rfl (fun H15 lc15 hp_15 gH15 rH15 => ?_)
        exact rtV B hr hlk hh hQ gH15 trivial dX0_spread_57
      · have f_14 := z_nle c_14 rfl rfl
        refine lv_aload_n hx hb dX0_spread_39 rfl (lv_at hl 0 rfl) ?_
        refine g_getR B fl_RX0_28 gH30.1 kh0 rfl rfl rfl rfl rfl dX0_spread_40 (fun q_16 s_16 k_q_16 => ?_)
        refine lv_iload hx hb dX0_spread_43 (lv_at hl 2 rfl) ?_
        refine lv_iload_n hx hb dX0_spread_45 rfl (lv_at hl 1 rfl) ?_
        refine g_iastI (i := v30_5) (N := 12) B hV gH30 k_q_16 rfl rfl rfl rfl (by omega) (by omega) rfl (z_rng _).1 (z_rng _).2 rfl dX0_spread_46 (fun H17 lc17 gH17 uH17 => ?_)
        have s_18 := uH17.keep (Or.inl (k_ne kh0 k_q_16 rfl)) s30_u30_h0_0
        have s_19 := uH17.keep (Or.inl (k_ne kh0 k_q_16 rfl)) s_16
        obtain ⟨x_20, e_20⟩ : ∃ y : Int32, (v30_5 : Int32) + Int32.ofInt 1 = y := ⟨_, rfl⟩
        refine lv_iinc (v := x_20) (lv' := [(5, .int x_20), (0, .ref h0), (1, .int p0)]) hx hb dX0_spread_47 hl (k := 2) rfl e_20 (by decide) rfl (fun ls hl => ?_)
        have t_20 := z_inc2 e_20 rfl (by decide) (by omega) (by omega)
        refine lv_goto (tgt := 30) hx hb dX0_spread_50 (by decide) ?_
        exact ih30 H17 lc17 ls x_20 u30_h0_0 (by omega) gH17 (lv_sub hl [1, 2, 0] rfl) (by omega) (by omega) (by omega) (by omega) s_18
  refine lv_aload_n hx hb dX0_spread_0 rfl (lv_at hl 0 rfl) ?_
  refine g_getI B fl_RX0_9 hT0 kh0 rfl rfl rfl rfl rfl dX0_spread_1 (fun x_21 s_21 a_21 b_21 => ?_)
  refine lv_iload_n hx hb dX0_spread_4 rfl (lv_at hl 3 rfl) ?_
  refine lv_isub hx hb dX0_spread_5 ?_
  refine lv_topi (fun x_22 e_22 => ?_)
  have t_22 := z_sub e_22 rfl rfl (by omega) (by omega)
  refine lv_istore (lv' := [(4, .int x_22), (0, .ref h0), (1, .int p0), (2, .int p1), (3, .int p2)]) hx hb dX0_spread_6 hl (by decide) rfl (fun ls hl => ?_)
  refine lv_iload_n hx hb dX0_spread_8 rfl (lv_at hl 2 rfl) ?_
  refine lv_bipush (v := 12) hx hb dX0_spread_9 (by decide) ?_
  refine lv_icmp_gt (tgt := 20) hx hb dX0_spread_11 (by decide) (fun c_23 => ?_) (fun c_23 => ?_)
  · have f_23 := z_lt c_23 kl_12 rfl
    exact False.elim (by omega)
  · have f_23 := z_nlt c_23 kl_12 rfl
    refine lv_iload_n hx hb dX0_spread_14 rfl (lv_at hl 3 rfl) ?_
    refine lv_iload hx hb dX0_spread_15 (lv_at hl 0 rfl) ?_
    refine lv_icmp_le (tgt := 21) hx hb dX0_spread_17 (by decide) (fun c_24 => ?_) (fun c_24 => ?_)
    · have f_24 := z_le c_24 rfl rfl
      refine lv_iload_n hx hb dX0_spread_21 rfl (lv_at hl 3 rfl) ?_
      refine lv_iload hx hb dX0_spread_22 (lv_at hl 0 rfl) ?_
      refine lv_icmp_ne (tgt := 58) hx hb dX0_spread_24 (by decide) (fun c_25 => ?_) (fun c_25 => ?_)
      · have f_25 := z_ne c_25 rfl rfl
        refine lv_iconst (v := 0) hx hb dX0_spread_58 (by decide) ?_
        refine lv_istore (lv' := [(5, .int 0), (4, .int x_22), (0, .ref h0), (1, .int p0), (2, .int p1), (3, .int p2)]) hx hb dX0_spread_59 hl (by decide) rfl (fun ls hl => ?_)
        have := kl_0
        exact b61 13 H0 [] ls 0 (by omega) hG0 (lv_sub hl [2, 3, 4, 5, 0] rfl) (by omega) (by omega) (by omega) (by omega)
      · have f_25 := z_eq c_25 rfl rfl
        refine lv_iload_n hx hb dX0_spread_27 rfl (lv_at hl 4 rfl) ?_
        refine lv_istore (lv' := [(5, .int p2), (4, .int x_22), (0, .ref h0), (1, .int p0), (2, .int p1), (3, .int p2)]) hx hb dX0_spread_28 hl (by decide) rfl (fun ls hl => ?_)
        exact b30 13 H0 [] ls p2 x_21 (by omega) hG0 (lv_sub hl [2, 3, 0] rfl) (by omega) (by omega) (by omega) (by omega) s_21
    · have f_24 := z_nle c_24 rfl rfl
      exact rtV B hr hlk hh hQ hG0 trivial dX0_spread_20

def rm_X0_spread_d4 : Room := { frames := 10, cells := 0, slots := 0, locals := 262 }
abbrev wS_X0_spread_d4 : List (Nat × Nat) := [(1, 1), (20, 99), (23, 99), (24, 99)]
set_option maxRecDepth 100000 in
set_option maxHeartbeats 4000000 in
theorem c_X0_spread_d4 (l : Launch) (E : zE) (hV : zV E) (H0 : Heap) (hT0 : HT E H0) (h0 : Nat) (kh0 : eK E h0 = 1) (p0 : Int32) (p0_lo : 4 ≤ p0.toInt) (p0_hi : p0.toInt ≤ 4) (p1 : Int32) (p1_lo : 0 ≤ p1.toInt) (p1_hi : p1.toInt ≤ 24) (p2 : Int32) (p2_lo : 0 ≤ p2.toInt) (p2_hi : p2.toInt ≤ 12) : Met l yX0_spread (zws yX0_spread cX0_spread 6 none) rm_X0_spread_d4 (zP E H0 [.ref h0, .int p0, .int p1, .int p2]) (zQV E E wS_X0_spread_d4 (fun H1 => True)) 0 0 (zfr E) := by
  refine zEnt (by decide) (Nat.le_of_ble_eq_true rfl) (fun p e s m args below meth c ls Q B hr hlk hh hQ hl => ?_)
  have hx := B.1
  have hb := B.2.1
  have hG0 : zG E wS_X0_spread_d4 H0 H0 [] := zG.rf hT0
  have hl : lv_has ls 6 [(0, .ref h0), (1, .int p0), (2, .int p1), (3, .int p2)] := hl
  have b61 : ∀ (n61 : Nat) (H61 : Heap) (lc61 : List Loc) (ls : Array Slot) (v61_5 : Int32), 12 - v61_5.toInt < (n61 : Int) → zG E wS_X0_spread_d4 H0 H61 lc61 → lv_has ls 6 [(0, .ref h0), (1, .int p0), (2, .int p1), (3, .int p2), (5, .int v61_5)] → p1.toInt ≤ 12 → 0 ≤ v61_5.toInt → v61_5.toInt ≤ 12 → p1.toInt + p2.toInt < 12 → W p l e rm_X0_spread_d4 s m args below meth c H61 lc61 0 0 Q (F0 m 61 ls []) := by
    intro n61
    induction n61 with
    | zero =>
      intro H61 lc61 ls v61_5 hm61 gH61 hl f61_1 f61_2 f61_3 f61_4
      exact absurd hm61 (by omega)
    | succ n61 ih61 =>
      intro H61 lc61 ls v61_5 hm61 gH61 hl f61_1 f61_2 f61_3 f61_4
      have b84 : ∀ (H84 : Heap) (lc84 : List Loc) (ls : Array Slot), zG E wS_X0_spread_d4 H0 H84 lc84 → lv_has ls 6 [(0, .ref h0), (1, .int p0), (2, .int p1), (3, .int p2), (5, .int v61_5)] → 1 ≤ p1.toInt → v61_5.toInt ≤ 11 → v61_5.toInt < p1.toInt → W p l e rm_X0_spread_d4 s m args below meth c H84 lc84 0 0 Q (F0 m 84 ls []) := by
        intro H84 lc84 ls gH84 hl f84_1 f84_2 f84_3
        refine lv_aload_n hx hb dX0_spread_84 rfl (lv_at hl 0 rfl) ?_
        refine lv_iload_n hx hb dX0_spread_85 rfl (lv_at hl 1 rfl) ?_
        refine lv_iconst (v := 1) hx hb dX0_spread_86 (by decide) ?_
        refine lv_iadd hx hb dX0_spread_87 ?_
        refine lv_topi (fun x_1 e_1 => ?_)
        have t_1 := z_add e_1 rfl kl_1 (by omega) (by omega)
        refine lv_iconst (v := 2) hx hb dX0_spread_88 (by decide) ?_
        refine lv_iload_n hx hb dX0_spread_89 rfl (lv_at hl 2 rfl) ?_
        refine lv_iload hx hb dX0_spread_90 (lv_at hl 4 rfl) ?_
        refine lv_isub hx hb dX0_spread_92 ?_
        refine lv_topi (fun x_2 e_2 => ?_)
        have t_2 := z_sub e_2 rfl rfl (by omega) (by omega)
        refine lv_imul hx hb dX0_spread_93 ?_
        refine lv_topi (fun x_3 e_3 => ?_)
        have t_3 := z_mul e_3 kl_2 rfl (by omega) (by omega)
        refine lv_iload_n hx hb dX0_spread_94 rfl (lv_at hl 3 rfl) ?_
        refine lv_iload hx hb dX0_spread_95 (lv_at hl 4 rfl) ?_
        refine lv_iadd hx hb dX0_spread_97 ?_
        refine lv_topi (fun x_4 e_4 => ?_)
        have t_4 := z_add e_4 rfl rfl (by omega) (by omega)
        refine zkV (zrV (rest := []) B (c_X0_spread_d5 l E hV H84 gH84.1 h0 kh0 x_1 (by omega) (by omega) x_3 (by omega) (by omega) x_4 (by omega) (by omega)) cl_RX0_44 gH84.1 kh0 rfl rfl rfl rfl hl.1 rfl (Nat.le_of_ble_eq_true rfl) dX0_spread_98 rfl rfl ⟨rfl, rfl⟩ ⟨Nat.zero_le _, Nat.zero_le _⟩ (zO.of gH84 hh)) gH84 rfl (fun H5 lc5 hp_5 gH5 rH5 => ?_)
        obtain ⟨x_6, e_6⟩ : ∃ y : Int32, (v61_5 : Int32) + Int32.ofInt 1 = y := ⟨_, rfl⟩
        refine lv_iinc (v := x_6) (lv' := [(5, .int x_6), (0, .ref h0), (1, .int p0), (2, .int p1), (3, .int p2)]) hx hb dX0_spread_101 hl (k := 4) rfl e_6 (by decide) rfl (fun ls hl => ?_)
        have t_6 := z_inc2 e_6 rfl (by decide) (by omega) (by omega)
        refine lv_goto (tgt := 61) hx hb dX0_spread_104 (by decide) ?_
        exact ih61 H5 lc5 ls x_6 (by omega) gH5 (lv_sub hl [1, 2, 3, 4, 0] rfl) (by omega) (by omega) (by omega) (by omega)
      refine lv_iload hx hb dX0_spread_61 (lv_at hl 4 rfl) ?_
      refine lv_iload_n hx hb dX0_spread_63 rfl (lv_at hl 2 rfl) ?_
      refine lv_icmp_ge (tgt := 107) hx hb dX0_spread_64 (by decide) (fun c_7 => ?_) (fun c_7 => ?_)
      · have f_7 := z_le c_7 rfl rfl
        exact rtV B hr hlk hh hQ gH61 trivial dX0_spread_107
      · have f_7 := z_nle c_7 rfl rfl
        refine lv_iload hx hb dX0_spread_67 (lv_at hl 4 rfl) ?_
        refine lv_if_le (tgt := 84) hx hb dX0_spread_69 (by decide) (fun c_8 => ?_) (fun c_8 => ?_)
        · have f_8 := z_le c_8 rfl kl_0
          exact b84 H61 lc61 ls gH61 (lv_sub hl [0, 1, 2, 3, 4] rfl) (by omega) (by omega) (by omega)
        · have f_8 := z_nle c_8 rfl kl_0
          refine lv_aload_n hx hb dX0_spread_72 rfl (lv_at hl 0 rfl) ?_
          refine g_getR B fl_RX0_28 gH61.1 kh0 rfl rfl rfl rfl rfl dX0_spread_73 (fun q_9 s_9 k_q_9 => ?_)
          refine lv_iload_n hx hb dX0_spread_76 rfl (lv_at hl 3 rfl) ?_
          refine lv_iload hx hb dX0_spread_77 (lv_at hl 4 rfl) ?_
          refine lv_iadd hx hb dX0_spread_79 ?_
          refine lv_topi (fun x_10 e_10 => ?_)
          have t_10 := z_add e_10 rfl rfl (by omega) (by omega)
          refine lv_iconst (v := 1) hx hb dX0_spread_80 (by decide) ?_
          refine lv_isub hx hb dX0_spread_81 ?_
          refine lv_topi (fun x_11 e_11 => ?_)
          have t_11 := z_sub e_11 rfl kl_1 (by omega) (by omega)
          refine lv_iload_n hx hb dX0_spread_82 rfl (lv_at hl 1 rfl) ?_
          refine g_iastI (i := x_11) (N := 12) B hV gH61 k_q_9 rfl rfl rfl rfl (by omega) (by omega) rfl (z_rng _).1 (z_rng _).2 rfl dX0_spread_83 (fun H12 lc12 gH12 uH12 => ?_)
          have s_13 := uH12.keep (Or.inl (k_ne kh0 k_q_9 rfl)) s_9
          exact b84 H12 lc12 ls gH12 (lv_sub hl [0, 1, 2, 3, 4] rfl) (by omega) (by omega) (by omega)
  have b30 : ∀ (n30 : Nat) (H30 : Heap) (lc30 : List Loc) (ls : Array Slot) (v30_5 : Int32) (u30_h0_0 : Int32), 12 - v30_5.toInt < (n30 : Int) → zG E wS_X0_spread_d4 H0 H30 lc30 → lv_has ls 6 [(0, .ref h0), (1, .int p0), (5, .int v30_5)] → 0 ≤ v30_5.toInt → v30_5.toInt ≤ 12 → 0 ≤ u30_h0_0.toInt → u30_h0_0.toInt ≤ 12 → sl H30 h0 (zix E 1 0) = some (.int u30_h0_0) → W p l e rm_X0_spread_d4 s m args below meth c H30 lc30 0 0 Q (F0 m 30 ls []) := by
    intro n30
    induction n30 with
    | zero =>
      intro H30 lc30 ls v30_5 u30_h0_0 hm30 gH30 hl f30_1 f30_2 f30_3 f30_4 s30_u30_h0_0
      exact absurd hm30 (by omega)
    | succ n30 ih30 =>
      intro H30 lc30 ls v30_5 u30_h0_0 hm30 gH30 hl f30_1 f30_2 f30_3 f30_4 s30_u30_h0_0
      refine lv_iload hx hb dX0_spread_30 (lv_at hl 2 rfl) ?_
      refine lv_aload_n hx hb dX0_spread_32 rfl (lv_at hl 0 rfl) ?_
      refine g_get B fl_RX0_9 gH30.1 kh0 rfl rfl rfl dX0_spread_33 s30_u30_h0_0 ?_
      refine lv_icmp_ge (tgt := 53) hx hb dX0_spread_36 (by decide) (fun c_14 => ?_) (fun c_14 => ?_)
      · have f_14 := z_le c_14 rfl rfl
        refine lv_aload_n hx hb dX0_spread_53 rfl (lv_at hl 0 rfl) ?_
        refine zkV (zrV (rest := []) B (c_X0_weigh l E hV H30 gH30.1 h0 kh0) cl_RX0_48 gH30.1 kh0 rfl rfl rfl rfl hl.1 rfl (Nat.le_of_ble_eq_true rfl) dX0_spread_54 rfl rfl ⟨rfl, rfl⟩ ⟨Nat.zero_le _, Nat.zero_le _⟩ (zO.of gH30 hh)) gH30 rfl (fun H15 lc15 hp_15 gH15 rH15 => ?_)
        exact rtV B hr hlk hh hQ gH15 trivial dX0_spread_57
      · have f_14 := z_nle c_14 rfl rfl
        refine lv_aload_n hx hb dX0_spread_39 rfl (lv_at hl 0 rfl) ?_
        refine g_getR B fl_RX0_28 gH30.1 kh0 rfl rfl rfl rfl rfl dX0_spread_40 (fun q_16 s_16 k_q_16 => ?_)
        refine lv_iload hx hb dX0_spread_43 (lv_at hl 2 rfl) ?_
        refine lv_iload_n hx hb dX0_spread_45 rfl (lv_at hl 1 rfl) ?_
        refine g_iastI (i := v30_5) (N := 12) B hV gH30 k_q_16 rfl rfl rfl rfl (by omega) (by omega) rfl (z_rng _).1 (z_rng _).2 rfl dX0_spread_46 (fun H17 lc17 gH17 uH17 => ?_)
        have s_18 := uH17.keep (Or.inl (k_ne kh0 k_q_16 rfl)) s30_u30_h0_0
        have s_19 := uH17.keep (Or.inl (k_ne kh0 k_q_16 rfl)) s_16
        obtain ⟨x_20, e_20⟩ : ∃ y : Int32, (v30_5 : Int32) + Int32.ofInt 1 = y := ⟨_, rfl⟩
        refine lv_iinc (v := x_20) (lv' := [(5, .int x_20), (0, .ref h0), (1, .int p0)]) hx hb dX0_spread_47 hl (k := 2) rfl e_20 (by decide) rfl (fun ls hl => ?_)
        have t_20 := z_inc2 e_20 rfl (by decide) (by omega) (by omega)
        refine lv_goto (tgt := 30) hx hb dX0_spread_50 (by decide) ?_
        exact ih30 H17 lc17 ls x_20 u30_h0_0 (by omega) gH17 (lv_sub hl [1, 2, 0] rfl) (by omega) (by omega) (by omega) (by omega) s_18
  refine lv_aload_n hx hb dX0_spread_0 rfl (lv_at hl 0 rfl) ?_
  refine g_getI B fl_RX0_9 hT0 kh0 rfl rfl rfl rfl rfl dX0_spread_1 (fun x_21 s_21 a_21 b_21 => ?_)
  refine lv_iload_n hx hb dX0_spread_4 rfl (lv_at hl 3 rfl) ?_
  refine lv_isub hx hb dX0_spread_5 ?_
  refine lv_topi (fun x_22 e_22 => ?_)
  have t_22 := z_sub e_22 rfl rfl (by omega) (by omega)
  refine lv_istore (lv' := [(4, .int x_22), (0, .ref h0), (1, .int p0), (2, .int p1), (3, .int p2)]) hx hb dX0_spread_6 hl (by decide) rfl (fun ls hl => ?_)
  refine lv_iload_n hx hb dX0_spread_8 rfl (lv_at hl 2 rfl) ?_
  refine lv_bipush (v := 12) hx hb dX0_spread_9 (by decide) ?_
  refine lv_icmp_gt (tgt := 20) hx hb dX0_spread_11 (by decide) (fun c_23 => ?_) (fun c_23 => ?_)
  · have f_23 := z_lt c_23 kl_12 rfl
    exact False.elim (by omega)
  · have f_23 := z_nlt c_23 kl_12 rfl
    refine lv_iload_n hx hb dX0_spread_14 rfl (lv_at hl 3 rfl) ?_
    refine lv_iload hx hb dX0_spread_15 (lv_at hl 0 rfl) ?_
    refine lv_icmp_le (tgt := 21) hx hb dX0_spread_17 (by decide) (fun c_24 => ?_) (fun c_24 => ?_)
    · have f_24 := z_le c_24 rfl rfl
      refine lv_iload_n hx hb dX0_spread_21 rfl (lv_at hl 3 rfl) ?_
      refine lv_iload hx hb dX0_spread_22 (lv_at hl 0 rfl) ?_
      refine lv_icmp_ne (tgt := 58) hx hb dX0_spread_24 (by decide) (fun c_25 => ?_) (fun c_25 => ?_)
      · have f_25 := z_ne c_25 rfl rfl
        refine lv_iconst (v := 0) hx hb dX0_spread_58 (by decide) ?_
        refine lv_istore (lv' := [(5, .int 0), (4, .int x_22), (0, .ref h0), (1, .int p0), (2, .int p1), (3, .int p2)]) hx hb dX0_spread_59 hl (by decide) rfl (fun ls hl => ?_)
        have := kl_0
        exact b61 13 H0 [] ls 0 (by omega) hG0 (lv_sub hl [2, 3, 4, 5, 0] rfl) (by omega) (by omega) (by omega) (by omega)
      · have f_25 := z_eq c_25 rfl rfl
        refine lv_iload_n hx hb dX0_spread_27 rfl (lv_at hl 4 rfl) ?_
        refine lv_istore (lv' := [(5, .int p2), (4, .int x_22), (0, .ref h0), (1, .int p0), (2, .int p1), (3, .int p2)]) hx hb dX0_spread_28 hl (by decide) rfl (fun ls hl => ?_)
        exact b30 13 H0 [] ls p2 x_21 (by omega) hG0 (lv_sub hl [2, 3, 0] rfl) (by omega) (by omega) (by omega) (by omega) s_21
    · have f_24 := z_nle c_24 rfl rfl
      exact rtV B hr hlk hh hQ hG0 trivial dX0_spread_20

def rm_X0_spread_d3 : Room := { frames := 11, cells := 0, slots := 0, locals := 287 }
abbrev wS_X0_spread_d3 : List (Nat × Nat) := [(1, 1), (20, 99), (23, 99), (24, 99)]
set_option maxRecDepth 100000 in
set_option maxHeartbeats 4000000 in
theorem c_X0_spread_d3 (l : Launch) (E : zE) (hV : zV E) (H0 : Heap) (hT0 : HT E H0) (h0 : Nat) (kh0 : eK E h0 = 1) (p0 : Int32) (p0_lo : 3 ≤ p0.toInt) (p0_hi : p0.toInt ≤ 3) (p1 : Int32) (p1_lo : 0 ≤ p1.toInt) (p1_hi : p1.toInt ≤ 24) (p2 : Int32) (p2_lo : 0 ≤ p2.toInt) (p2_hi : p2.toInt ≤ 12) : Met l yX0_spread (zws yX0_spread cX0_spread 6 none) rm_X0_spread_d3 (zP E H0 [.ref h0, .int p0, .int p1, .int p2]) (zQV E E wS_X0_spread_d3 (fun H1 => True)) 0 0 (zfr E) := by
  refine zEnt (by decide) (Nat.le_of_ble_eq_true rfl) (fun p e s m args below meth c ls Q B hr hlk hh hQ hl => ?_)
  have hx := B.1
  have hb := B.2.1
  have hG0 : zG E wS_X0_spread_d3 H0 H0 [] := zG.rf hT0
  have hl : lv_has ls 6 [(0, .ref h0), (1, .int p0), (2, .int p1), (3, .int p2)] := hl
  have b61 : ∀ (n61 : Nat) (H61 : Heap) (lc61 : List Loc) (ls : Array Slot) (v61_5 : Int32), 12 - v61_5.toInt < (n61 : Int) → zG E wS_X0_spread_d3 H0 H61 lc61 → lv_has ls 6 [(0, .ref h0), (1, .int p0), (2, .int p1), (3, .int p2), (5, .int v61_5)] → p1.toInt ≤ 12 → 0 ≤ v61_5.toInt → v61_5.toInt ≤ 12 → p1.toInt + p2.toInt < 12 → W p l e rm_X0_spread_d3 s m args below meth c H61 lc61 0 0 Q (F0 m 61 ls []) := by
    intro n61
    induction n61 with
    | zero =>
      intro H61 lc61 ls v61_5 hm61 gH61 hl f61_1 f61_2 f61_3 f61_4
      exact absurd hm61 (by omega)
    | succ n61 ih61 =>
      intro H61 lc61 ls v61_5 hm61 gH61 hl f61_1 f61_2 f61_3 f61_4
      have b84 : ∀ (H84 : Heap) (lc84 : List Loc) (ls : Array Slot), zG E wS_X0_spread_d3 H0 H84 lc84 → lv_has ls 6 [(0, .ref h0), (1, .int p0), (2, .int p1), (3, .int p2), (5, .int v61_5)] → 1 ≤ p1.toInt → v61_5.toInt ≤ 11 → v61_5.toInt < p1.toInt → W p l e rm_X0_spread_d3 s m args below meth c H84 lc84 0 0 Q (F0 m 84 ls []) := by
        intro H84 lc84 ls gH84 hl f84_1 f84_2 f84_3
        refine lv_aload_n hx hb dX0_spread_84 rfl (lv_at hl 0 rfl) ?_
        refine lv_iload_n hx hb dX0_spread_85 rfl (lv_at hl 1 rfl) ?_
        refine lv_iconst (v := 1) hx hb dX0_spread_86 (by decide) ?_
        refine lv_iadd hx hb dX0_spread_87 ?_
        refine lv_topi (fun x_1 e_1 => ?_)
        have t_1 := z_add e_1 rfl kl_1 (by omega) (by omega)
        refine lv_iconst (v := 2) hx hb dX0_spread_88 (by decide) ?_
        refine lv_iload_n hx hb dX0_spread_89 rfl (lv_at hl 2 rfl) ?_
        refine lv_iload hx hb dX0_spread_90 (lv_at hl 4 rfl) ?_
        refine lv_isub hx hb dX0_spread_92 ?_
        refine lv_topi (fun x_2 e_2 => ?_)
        have t_2 := z_sub e_2 rfl rfl (by omega) (by omega)
        refine lv_imul hx hb dX0_spread_93 ?_
        refine lv_topi (fun x_3 e_3 => ?_)
        have t_3 := z_mul e_3 kl_2 rfl (by omega) (by omega)
        refine lv_iload_n hx hb dX0_spread_94 rfl (lv_at hl 3 rfl) ?_
        refine lv_iload hx hb dX0_spread_95 (lv_at hl 4 rfl) ?_
        refine lv_iadd hx hb dX0_spread_97 ?_
        refine lv_topi (fun x_4 e_4 => ?_)
        have t_4 := z_add e_4 rfl rfl (by omega) (by omega)
        refine zkV (zrV (rest := []) B (c_X0_spread_d4 l E hV H84 gH84.1 h0 kh0 x_1 (by omega) (by omega) x_3 (by omega) (by omega) x_4 (by omega) (by omega)) cl_RX0_44 gH84.1 kh0 rfl rfl rfl rfl hl.1 rfl (Nat.le_of_ble_eq_true rfl) dX0_spread_98 rfl rfl ⟨rfl, rfl⟩ ⟨Nat.zero_le _, Nat.zero_le _⟩ (zO.of gH84 hh)) gH84 rfl (fun H5 lc5 hp_5 gH5 rH5 => ?_)
        obtain ⟨x_6, e_6⟩ : ∃ y : Int32, (v61_5 : Int32) + Int32.ofInt 1 = y := ⟨_, rfl⟩
        refine lv_iinc (v := x_6) (lv' := [(5, .int x_6), (0, .ref h0), (1, .int p0), (2, .int p1), (3, .int p2)]) hx hb dX0_spread_101 hl (k := 4) rfl e_6 (by decide) rfl (fun ls hl => ?_)
        have t_6 := z_inc2 e_6 rfl (by decide) (by omega) (by omega)
        refine lv_goto (tgt := 61) hx hb dX0_spread_104 (by decide) ?_
        exact ih61 H5 lc5 ls x_6 (by omega) gH5 (lv_sub hl [1, 2, 3, 4, 0] rfl) (by omega) (by omega) (by omega) (by omega)
      refine lv_iload hx hb dX0_spread_61 (lv_at hl 4 rfl) ?_
      refine lv_iload_n hx hb dX0_spread_63 rfl (lv_at hl 2 rfl) ?_
      refine lv_icmp_ge (tgt := 107) hx hb dX0_spread_64 (by decide) (fun c_7 => ?_) (fun c_7 => ?_)
      · have f_7 := z_le c_7 rfl rfl
        exact rtV B hr hlk hh hQ gH61 trivial dX0_spread_107
      · have f_7 := z_nle c_7 rfl rfl
        refine lv_iload hx hb dX0_spread_67 (lv_at hl 4 rfl) ?_
        refine lv_if_le (tgt := 84) hx hb dX0_spread_69 (by decide) (fun c_8 => ?_) (fun c_8 => ?_)
        · have f_8 := z_le c_8 rfl kl_0
          exact b84 H61 lc61 ls gH61 (lv_sub hl [0, 1, 2, 3, 4] rfl) (by omega) (by omega) (by omega)
        · have f_8 := z_nle c_8 rfl kl_0
          refine lv_aload_n hx hb dX0_spread_72 rfl (lv_at hl 0 rfl) ?_
          refine g_getR B fl_RX0_28 gH61.1 kh0 rfl rfl rfl rfl rfl dX0_spread_73 (fun q_9 s_9 k_q_9 => ?_)
          refine lv_iload_n hx hb dX0_spread_76 rfl (lv_at hl 3 rfl) ?_
          refine lv_iload hx hb dX0_spread_77 (lv_at hl 4 rfl) ?_
          refine lv_iadd hx hb dX0_spread_79 ?_
          refine lv_topi (fun x_10 e_10 => ?_)
          have t_10 := z_add e_10 rfl rfl (by omega) (by omega)
          refine lv_iconst (v := 1) hx hb dX0_spread_80 (by decide) ?_
          refine lv_isub hx hb dX0_spread_81 ?_
          refine lv_topi (fun x_11 e_11 => ?_)
          have t_11 := z_sub e_11 rfl kl_1 (by omega) (by omega)
          refine lv_iload_n hx hb dX0_spread_82 rfl (lv_at hl 1 rfl) ?_
          refine g_iastI (i := x_11) (N := 12) B hV gH61 k_q_9 rfl rfl rfl rfl (by omega) (by omega) rfl (z_rng _).1 (z_rng _).2 rfl dX0_spread_83 (fun H12 lc12 gH12 uH12 => ?_)
          have s_13 := uH12.keep (Or.inl (k_ne kh0 k_q_9 rfl)) s_9
          exact b84 H12 lc12 ls gH12 (lv_sub hl [0, 1, 2, 3, 4] rfl) (by omega) (by omega) (by omega)
  have b30 : ∀ (n30 : Nat) (H30 : Heap) (lc30 : List Loc) (ls : Array Slot) (v30_5 : Int32) (u30_h0_0 : Int32), 12 - v30_5.toInt < (n30 : Int) → zG E wS_X0_spread_d3 H0 H30 lc30 → lv_has ls 6 [(0, .ref h0), (1, .int p0), (5, .int v30_5)] → 0 ≤ v30_5.toInt → v30_5.toInt ≤ 12 → 0 ≤ u30_h0_0.toInt → u30_h0_0.toInt ≤ 12 → sl H30 h0 (zix E 1 0) = some (.int u30_h0_0) → W p l e rm_X0_spread_d3 s m args below meth c H30 lc30 0 0 Q (F0 m 30 ls []) := by
    intro n30
    induction n30 with
    | zero =>
      intro H30 lc30 ls v30_5 u30_h0_0 hm30 gH30 hl f30_1 f30_2 f30_3 f30_4 s30_u30_h0_0
      exact absurd hm30 (by omega)
    | succ n30 ih30 =>
      intro H30 lc30 ls v30_5 u30_h0_0 hm30 gH30 hl f30_1 f30_2 f30_3 f30_4 s30_u30_h0_0
      refine lv_iload hx hb dX0_spread_30 (lv_at hl 2 rfl) ?_
      refine lv_aload_n hx hb dX0_spread_32 rfl (lv_at hl 0 rfl) ?_
      refine g_get B fl_RX0_9 gH30.1 kh0 rfl rfl rfl dX0_spread_33 s30_u30_h0_0 ?_
      refine lv_icmp_ge (tgt := 53) hx hb dX0_spread_36 (by decide) (fun c_14 => ?_) (fun c_14 => ?_)
      · have f_14 := z_le c_14 rfl rfl
        refine lv_aload_n hx hb dX0_spread_53 rfl (lv_at hl 0 rfl) ?_
        refine zkV (zrV (rest := []) B (c_X0_weigh l E hV H30 gH30.1 h0 kh0) cl_RX0_48 gH30.1 kh0 rfl rfl rfl rfl hl.1 rfl (Nat.le_of_ble_eq_true rfl) dX0_spread_54 rfl rfl ⟨rfl, rfl⟩ ⟨Nat.zero_le _, Nat.zero_le _⟩ (zO.of gH30 hh)) gH30 rfl (fun H15 lc15 hp_15 gH15 rH15 => ?_)
        exact rtV B hr hlk hh hQ gH15 trivial dX0_spread_57
      · have f_14 := z_nle c_14 rfl rfl
        refine lv_aload_n hx hb dX0_spread_39 rfl (lv_at hl 0 rfl) ?_
        refine g_getR B fl_RX0_28 gH30.1 kh0 rfl rfl rfl rfl rfl dX0_spread_40 (fun q_16 s_16 k_q_16 => ?_)
        refine lv_iload hx hb dX0_spread_43 (lv_at hl 2 rfl) ?_
        refine lv_iload_n hx hb dX0_spread_45 rfl (lv_at hl 1 rfl) ?_
        refine g_iastI (i := v30_5) (N := 12) B hV gH30 k_q_16 rfl rfl rfl rfl (by omega) (by omega) rfl (z_rng _).1 (z_rng _).2 rfl dX0_spread_46 (fun H17 lc17 gH17 uH17 => ?_)
        have s_18 := uH17.keep (Or.inl (k_ne kh0 k_q_16 rfl)) s30_u30_h0_0
        have s_19 := uH17.keep (Or.inl (k_ne kh0 k_q_16 rfl)) s_16
        obtain ⟨x_20, e_20⟩ : ∃ y : Int32, (v30_5 : Int32) + Int32.ofInt 1 = y := ⟨_, rfl⟩
        refine lv_iinc (v := x_20) (lv' := [(5, .int x_20), (0, .ref h0), (1, .int p0)]) hx hb dX0_spread_47 hl (k := 2) rfl e_20 (by decide) rfl (fun ls hl => ?_)
        have t_20 := z_inc2 e_20 rfl (by decide) (by omega) (by omega)
        refine lv_goto (tgt := 30) hx hb dX0_spread_50 (by decide) ?_
        exact ih30 H17 lc17 ls x_20 u30_h0_0 (by omega) gH17 (lv_sub hl [1, 2, 0] rfl) (by omega) (by omega) (by omega) (by omega) s_18
  refine lv_aload_n hx hb dX0_spread_0 rfl (lv_at hl 0 rfl) ?_
  refine g_getI B fl_RX0_9 hT0 kh0 rfl rfl rfl rfl rfl dX0_spread_1 (fun x_21 s_21 a_21 b_21 => ?_)
  refine lv_iload_n hx hb dX0_spread_4 rfl (lv_at hl 3 rfl) ?_
  refine lv_isub hx hb dX0_spread_5 ?_
  refine lv_topi (fun x_22 e_22 => ?_)
  have t_22 := z_sub e_22 rfl rfl (by omega) (by omega)
  refine lv_istore (lv' := [(4, .int x_22), (0, .ref h0), (1, .int p0), (2, .int p1), (3, .int p2)]) hx hb dX0_spread_6 hl (by decide) rfl (fun ls hl => ?_)
  refine lv_iload_n hx hb dX0_spread_8 rfl (lv_at hl 2 rfl) ?_
  refine lv_bipush (v := 12) hx hb dX0_spread_9 (by decide) ?_
  refine lv_icmp_gt (tgt := 20) hx hb dX0_spread_11 (by decide) (fun c_23 => ?_) (fun c_23 => ?_)
  · have f_23 := z_lt c_23 kl_12 rfl
    exact False.elim (by omega)
  · have f_23 := z_nlt c_23 kl_12 rfl
    refine lv_iload_n hx hb dX0_spread_14 rfl (lv_at hl 3 rfl) ?_
    refine lv_iload hx hb dX0_spread_15 (lv_at hl 0 rfl) ?_
    refine lv_icmp_le (tgt := 21) hx hb dX0_spread_17 (by decide) (fun c_24 => ?_) (fun c_24 => ?_)
    · have f_24 := z_le c_24 rfl rfl
      refine lv_iload_n hx hb dX0_spread_21 rfl (lv_at hl 3 rfl) ?_
      refine lv_iload hx hb dX0_spread_22 (lv_at hl 0 rfl) ?_
      refine lv_icmp_ne (tgt := 58) hx hb dX0_spread_24 (by decide) (fun c_25 => ?_) (fun c_25 => ?_)
      · have f_25 := z_ne c_25 rfl rfl
        refine lv_iconst (v := 0) hx hb dX0_spread_58 (by decide) ?_
        refine lv_istore (lv' := [(5, .int 0), (4, .int x_22), (0, .ref h0), (1, .int p0), (2, .int p1), (3, .int p2)]) hx hb dX0_spread_59 hl (by decide) rfl (fun ls hl => ?_)
        have := kl_0
        exact b61 13 H0 [] ls 0 (by omega) hG0 (lv_sub hl [2, 3, 4, 5, 0] rfl) (by omega) (by omega) (by omega) (by omega)
      · have f_25 := z_eq c_25 rfl rfl
        refine lv_iload_n hx hb dX0_spread_27 rfl (lv_at hl 4 rfl) ?_
        refine lv_istore (lv' := [(5, .int p2), (4, .int x_22), (0, .ref h0), (1, .int p0), (2, .int p1), (3, .int p2)]) hx hb dX0_spread_28 hl (by decide) rfl (fun ls hl => ?_)
        exact b30 13 H0 [] ls p2 x_21 (by omega) hG0 (lv_sub hl [2, 3, 0] rfl) (by omega) (by omega) (by omega) (by omega) s_21
    · have f_24 := z_nle c_24 rfl rfl
      exact rtV B hr hlk hh hQ hG0 trivial dX0_spread_20

def rm_X0_spread_d2 : Room := { frames := 12, cells := 0, slots := 0, locals := 312 }
abbrev wS_X0_spread_d2 : List (Nat × Nat) := [(1, 1), (20, 99), (23, 99), (24, 99)]
set_option maxRecDepth 100000 in
set_option maxHeartbeats 4000000 in
theorem c_X0_spread_d2 (l : Launch) (E : zE) (hV : zV E) (H0 : Heap) (hT0 : HT E H0) (h0 : Nat) (kh0 : eK E h0 = 1) (p0 : Int32) (p0_lo : 2 ≤ p0.toInt) (p0_hi : p0.toInt ≤ 2) (p1 : Int32) (p1_lo : 0 ≤ p1.toInt) (p1_hi : p1.toInt ≤ 24) (p2 : Int32) (p2_lo : 0 ≤ p2.toInt) (p2_hi : p2.toInt ≤ 12) : Met l yX0_spread (zws yX0_spread cX0_spread 6 none) rm_X0_spread_d2 (zP E H0 [.ref h0, .int p0, .int p1, .int p2]) (zQV E E wS_X0_spread_d2 (fun H1 => True)) 0 0 (zfr E) := by
  refine zEnt (by decide) (Nat.le_of_ble_eq_true rfl) (fun p e s m args below meth c ls Q B hr hlk hh hQ hl => ?_)
  have hx := B.1
  have hb := B.2.1
  have hG0 : zG E wS_X0_spread_d2 H0 H0 [] := zG.rf hT0
  have hl : lv_has ls 6 [(0, .ref h0), (1, .int p0), (2, .int p1), (3, .int p2)] := hl
  have b61 : ∀ (n61 : Nat) (H61 : Heap) (lc61 : List Loc) (ls : Array Slot) (v61_5 : Int32), 12 - v61_5.toInt < (n61 : Int) → zG E wS_X0_spread_d2 H0 H61 lc61 → lv_has ls 6 [(0, .ref h0), (1, .int p0), (2, .int p1), (3, .int p2), (5, .int v61_5)] → p1.toInt ≤ 12 → 0 ≤ v61_5.toInt → v61_5.toInt ≤ 12 → p1.toInt + p2.toInt < 12 → W p l e rm_X0_spread_d2 s m args below meth c H61 lc61 0 0 Q (F0 m 61 ls []) := by
    intro n61
    induction n61 with
    | zero =>
      intro H61 lc61 ls v61_5 hm61 gH61 hl f61_1 f61_2 f61_3 f61_4
      exact absurd hm61 (by omega)
    | succ n61 ih61 =>
      intro H61 lc61 ls v61_5 hm61 gH61 hl f61_1 f61_2 f61_3 f61_4
      have b84 : ∀ (H84 : Heap) (lc84 : List Loc) (ls : Array Slot), zG E wS_X0_spread_d2 H0 H84 lc84 → lv_has ls 6 [(0, .ref h0), (1, .int p0), (2, .int p1), (3, .int p2), (5, .int v61_5)] → 1 ≤ p1.toInt → v61_5.toInt ≤ 11 → v61_5.toInt < p1.toInt → W p l e rm_X0_spread_d2 s m args below meth c H84 lc84 0 0 Q (F0 m 84 ls []) := by
        intro H84 lc84 ls gH84 hl f84_1 f84_2 f84_3
        refine lv_aload_n hx hb dX0_spread_84 rfl (lv_at hl 0 rfl) ?_
        refine lv_iload_n hx hb dX0_spread_85 rfl (lv_at hl 1 rfl) ?_
        refine lv_iconst (v := 1) hx hb dX0_spread_86 (by decide) ?_
        refine lv_iadd hx hb dX0_spread_87 ?_
        refine lv_topi (fun x_1 e_1 => ?_)
        have t_1 := z_add e_1 rfl kl_1 (by omega) (by omega)
        refine lv_iconst (v := 2) hx hb dX0_spread_88 (by decide) ?_
        refine lv_iload_n hx hb dX0_spread_89 rfl (lv_at hl 2 rfl) ?_
        refine lv_iload hx hb dX0_spread_90 (lv_at hl 4 rfl) ?_
        refine lv_isub hx hb dX0_spread_92 ?_
        refine lv_topi (fun x_2 e_2 => ?_)
        have t_2 := z_sub e_2 rfl rfl (by omega) (by omega)
        refine lv_imul hx hb dX0_spread_93 ?_
        refine lv_topi (fun x_3 e_3 => ?_)
        have t_3 := z_mul e_3 kl_2 rfl (by omega) (by omega)
        refine lv_iload_n hx hb dX0_spread_94 rfl (lv_at hl 3 rfl) ?_
        refine lv_iload hx hb dX0_spread_95 (lv_at hl 4 rfl) ?_
        refine lv_iadd hx hb dX0_spread_97 ?_
        refine lv_topi (fun x_4 e_4 => ?_)
        have t_4 := z_add e_4 rfl rfl (by omega) (by omega)
        refine zkV (zrV (rest := []) B (c_X0_spread_d3 l E hV H84 gH84.1 h0 kh0 x_1 (by omega) (by omega) x_3 (by omega) (by omega) x_4 (by omega) (by omega)) cl_RX0_44 gH84.1 kh0 rfl rfl rfl rfl hl.1 rfl (Nat.le_of_ble_eq_true rfl) dX0_spread_98 rfl rfl ⟨rfl, rfl⟩ ⟨Nat.zero_le _, Nat.zero_le _⟩ (zO.of gH84 hh)) gH84 rfl (fun H5 lc5 hp_5 gH5 rH5 => ?_)
        obtain ⟨x_6, e_6⟩ : ∃ y : Int32, (v61_5 : Int32) + Int32.ofInt 1 = y := ⟨_, rfl⟩
        refine lv_iinc (v := x_6) (lv' := [(5, .int x_6), (0, .ref h0), (1, .int p0), (2, .int p1), (3, .int p2)]) hx hb dX0_spread_101 hl (k := 4) rfl e_6 (by decide) rfl (fun ls hl => ?_)
        have t_6 := z_inc2 e_6 rfl (by decide) (by omega) (by omega)
        refine lv_goto (tgt := 61) hx hb dX0_spread_104 (by decide) ?_
        exact ih61 H5 lc5 ls x_6 (by omega) gH5 (lv_sub hl [1, 2, 3, 4, 0] rfl) (by omega) (by omega) (by omega) (by omega)
      refine lv_iload hx hb dX0_spread_61 (lv_at hl 4 rfl) ?_
      refine lv_iload_n hx hb dX0_spread_63 rfl (lv_at hl 2 rfl) ?_
      refine lv_icmp_ge (tgt := 107) hx hb dX0_spread_64 (by decide) (fun c_7 => ?_) (fun c_7 => ?_)
      · have f_7 := z_le c_7 rfl rfl
        exact rtV B hr hlk hh hQ gH61 trivial dX0_spread_107
      · have f_7 := z_nle c_7 rfl rfl
        refine lv_iload hx hb dX0_spread_67 (lv_at hl 4 rfl) ?_
        refine lv_if_le (tgt := 84) hx hb dX0_spread_69 (by decide) (fun c_8 => ?_) (fun c_8 => ?_)
        · have f_8 := z_le c_8 rfl kl_0
          exact b84 H61 lc61 ls gH61 (lv_sub hl [0, 1, 2, 3, 4] rfl) (by omega) (by omega) (by omega)
        · have f_8 := z_nle c_8 rfl kl_0
          refine lv_aload_n hx hb dX0_spread_72 rfl (lv_at hl 0 rfl) ?_
          refine g_getR B fl_RX0_28 gH61.1 kh0 rfl rfl rfl rfl rfl dX0_spread_73 (fun q_9 s_9 k_q_9 => ?_)
          refine lv_iload_n hx hb dX0_spread_76 rfl (lv_at hl 3 rfl) ?_
          refine lv_iload hx hb dX0_spread_77 (lv_at hl 4 rfl) ?_
          refine lv_iadd hx hb dX0_spread_79 ?_
          refine lv_topi (fun x_10 e_10 => ?_)
          have t_10 := z_add e_10 rfl rfl (by omega) (by omega)
          refine lv_iconst (v := 1) hx hb dX0_spread_80 (by decide) ?_
          refine lv_isub hx hb dX0_spread_81 ?_
          refine lv_topi (fun x_11 e_11 => ?_)
          have t_11 := z_sub e_11 rfl kl_1 (by omega) (by omega)
          refine lv_iload_n hx hb dX0_spread_82 rfl (lv_at hl 1 rfl) ?_
          refine g_iastI (i := x_11) (N := 12) B hV gH61 k_q_9 rfl rfl rfl rfl (by omega) (by omega) rfl (z_rng _).1 (z_rng _).2 rfl dX0_spread_83 (fun H12 lc12 gH12 uH12 => ?_)
          have s_13 := uH12.keep (Or.inl (k_ne kh0 k_q_9 rfl)) s_9
          exact b84 H12 lc12 ls gH12 (lv_sub hl [0, 1, 2, 3, 4] rfl) (by omega) (by omega) (by omega)
  have b30 : ∀ (n30 : Nat) (H30 : Heap) (lc30 : List Loc) (ls : Array Slot) (v30_5 : Int32) (u30_h0_0 : Int32), 12 - v30_5.toInt < (n30 : Int) → zG E wS_X0_spread_d2 H0 H30 lc30 → lv_has ls 6 [(0, .ref h0), (1, .int p0), (5, .int v30_5)] → 0 ≤ v30_5.toInt → v30_5.toInt ≤ 12 → 0 ≤ u30_h0_0.toInt → u30_h0_0.toInt ≤ 12 → sl H30 h0 (zix E 1 0) = some (.int u30_h0_0) → W p l e rm_X0_spread_d2 s m args below meth c H30 lc30 0 0 Q (F0 m 30 ls []) := by
    intro n30
    induction n30 with
    | zero =>
      intro H30 lc30 ls v30_5 u30_h0_0 hm30 gH30 hl f30_1 f30_2 f30_3 f30_4 s30_u30_h0_0
      exact absurd hm30 (by omega)
    | succ n30 ih30 =>
      intro H30 lc30 ls v30_5 u30_h0_0 hm30 gH30 hl f30_1 f30_2 f30_3 f30_4 s30_u30_h0_0
      refine lv_iload hx hb dX0_spread_30 (lv_at hl 2 rfl) ?_
      refine lv_aload_n hx hb dX0_spread_32 rfl (lv_at hl 0 rfl) ?_
      refine g_get B fl_RX0_9 gH30.1 kh0 rfl rfl rfl dX0_spread_33 s30_u30_h0_0 ?_
      refine lv_icmp_ge (tgt := 53) hx hb dX0_spread_36 (by decide) (fun c_14 => ?_) (fun c_14 => ?_)
      · have f_14 := z_le c_14 rfl rfl
        refine lv_aload_n hx hb dX0_spread_53 rfl (lv_at hl 0 rfl) ?_
        refine zkV (zrV (rest := []) B (c_X0_weigh l E hV H30 gH30.1 h0 kh0) cl_RX0_48 gH30.1 kh0 rfl rfl rfl rfl hl.1 rfl (Nat.le_of_ble_eq_true rfl) dX0_spread_54 rfl rfl ⟨rfl, rfl⟩ ⟨Nat.zero_le _, Nat.zero_le _⟩ (zO.of gH30 hh)) gH30 rfl (fun H15 lc15 hp_15 gH15 rH15 => ?_)
        exact rtV B hr hlk hh hQ gH15 trivial dX0_spread_57
      · have f_14 := z_nle c_14 rfl rfl
        refine lv_aload_n hx hb dX0_spread_39 rfl (lv_at hl 0 rfl) ?_
        refine g_getR B fl_RX0_28 gH30.1 kh0 rfl rfl rfl rfl rfl dX0_spread_40 (fun q_16 s_16 k_q_16 => ?_)
        refine lv_iload hx hb dX0_spread_43 (lv_at hl 2 rfl) ?_
        refine lv_iload_n hx hb dX0_spread_45 rfl (lv_at hl 1 rfl) ?_
        refine g_iastI (i := v30_5) (N := 12) B hV gH30 k_q_16 rfl rfl rfl rfl (by omega) (by omega) rfl (z_rng _).1 (z_rng _).2 rfl dX0_spread_46 (fun H17 lc17 gH17 uH17 => ?_)
        have s_18 := uH17.keep (Or.inl (k_ne kh0 k_q_16 rfl)) s30_u30_h0_0
        have s_19 := uH17.keep (Or.inl (k_ne kh0 k_q_16 rfl)) s_16
        obtain ⟨x_20, e_20⟩ : ∃ y : Int32, (v30_5 : Int32) + Int32.ofInt 1 = y := ⟨_, rfl⟩
        refine lv_iinc (v := x_20) (lv' := [(5, .int x_20), (0, .ref h0), (1, .int p0)]) hx hb dX0_spread_47 hl (k := 2) rfl e_20 (by decide) rfl (fun ls hl => ?_)
        have t_20 := z_inc2 e_20 rfl (by decide) (by omega) (by omega)
        refine lv_goto (tgt := 30) hx hb dX0_spread_50 (by decide) ?_
        exact ih30 H17 lc17 ls x_20 u30_h0_0 (by omega) gH17 (lv_sub hl [1, 2, 0] rfl) (by omega) (by omega) (by omega) (by omega) s_18
  refine lv_aload_n hx hb dX0_spread_0 rfl (lv_at hl 0 rfl) ?_
  refine g_getI B fl_RX0_9 hT0 kh0 rfl rfl rfl rfl rfl dX0_spread_1 (fun x_21 s_21 a_21 b_21 => ?_)
  refine lv_iload_n hx hb dX0_spread_4 rfl (lv_at hl 3 rfl) ?_
  refine lv_isub hx hb dX0_spread_5 ?_
  refine lv_topi (fun x_22 e_22 => ?_)
  have t_22 := z_sub e_22 rfl rfl (by omega) (by omega)
  refine lv_istore (lv' := [(4, .int x_22), (0, .ref h0), (1, .int p0), (2, .int p1), (3, .int p2)]) hx hb dX0_spread_6 hl (by decide) rfl (fun ls hl => ?_)
  refine lv_iload_n hx hb dX0_spread_8 rfl (lv_at hl 2 rfl) ?_
  refine lv_bipush (v := 12) hx hb dX0_spread_9 (by decide) ?_
  refine lv_icmp_gt (tgt := 20) hx hb dX0_spread_11 (by decide) (fun c_23 => ?_) (fun c_23 => ?_)
  · have f_23 := z_lt c_23 kl_12 rfl
    exact False.elim (by omega)
  · have f_23 := z_nlt c_23 kl_12 rfl
    refine lv_iload_n hx hb dX0_spread_14 rfl (lv_at hl 3 rfl) ?_
    refine lv_iload hx hb dX0_spread_15 (lv_at hl 0 rfl) ?_
    refine lv_icmp_le (tgt := 21) hx hb dX0_spread_17 (by decide) (fun c_24 => ?_) (fun c_24 => ?_)
    · have f_24 := z_le c_24 rfl rfl
      refine lv_iload_n hx hb dX0_spread_21 rfl (lv_at hl 3 rfl) ?_
      refine lv_iload hx hb dX0_spread_22 (lv_at hl 0 rfl) ?_
      refine lv_icmp_ne (tgt := 58) hx hb dX0_spread_24 (by decide) (fun c_25 => ?_) (fun c_25 => ?_)
      · have f_25 := z_ne c_25 rfl rfl
        refine lv_iconst (v := 0) hx hb dX0_spread_58 (by decide) ?_
        refine lv_istore (lv' := [(5, .int 0), (4, .int x_22), (0, .ref h0), (1, .int p0), (2, .int p1), (3, .int p2)]) hx hb dX0_spread_59 hl (by decide) rfl (fun ls hl => ?_)
        have := kl_0
        exact b61 13 H0 [] ls 0 (by omega) hG0 (lv_sub hl [2, 3, 4, 5, 0] rfl) (by omega) (by omega) (by omega) (by omega)
      · have f_25 := z_eq c_25 rfl rfl
        refine lv_iload_n hx hb dX0_spread_27 rfl (lv_at hl 4 rfl) ?_
        refine lv_istore (lv' := [(5, .int p2), (4, .int x_22), (0, .ref h0), (1, .int p0), (2, .int p1), (3, .int p2)]) hx hb dX0_spread_28 hl (by decide) rfl (fun ls hl => ?_)
        exact b30 13 H0 [] ls p2 x_21 (by omega) hG0 (lv_sub hl [2, 3, 0] rfl) (by omega) (by omega) (by omega) (by omega) s_21
    · have f_24 := z_nle c_24 rfl rfl
      exact rtV B hr hlk hh hQ hG0 trivial dX0_spread_20

def rm_X0_spread_d1 : Room := { frames := 13, cells := 0, slots := 0, locals := 337 }
abbrev wS_X0_spread_d1 : List (Nat × Nat) := [(1, 1), (20, 99), (23, 99), (24, 99)]
set_option maxRecDepth 100000 in
set_option maxHeartbeats 4000000 in
theorem c_X0_spread_d1 (l : Launch) (E : zE) (hV : zV E) (H0 : Heap) (hT0 : HT E H0) (h0 : Nat) (kh0 : eK E h0 = 1) (p0 : Int32) (p0_lo : 1 ≤ p0.toInt) (p0_hi : p0.toInt ≤ 1) (p1 : Int32) (p1_lo : 0 ≤ p1.toInt) (p1_hi : p1.toInt ≤ 24) (p2 : Int32) (p2_lo : 0 ≤ p2.toInt) (p2_hi : p2.toInt ≤ 12) : Met l yX0_spread (zws yX0_spread cX0_spread 6 none) rm_X0_spread_d1 (zP E H0 [.ref h0, .int p0, .int p1, .int p2]) (zQV E E wS_X0_spread_d1 (fun H1 => True)) 0 0 (zfr E) := by
  refine zEnt (by decide) (Nat.le_of_ble_eq_true rfl) (fun p e s m args below meth c ls Q B hr hlk hh hQ hl => ?_)
  have hx := B.1
  have hb := B.2.1
  have hG0 : zG E wS_X0_spread_d1 H0 H0 [] := zG.rf hT0
  have hl : lv_has ls 6 [(0, .ref h0), (1, .int p0), (2, .int p1), (3, .int p2)] := hl
  have b61 : ∀ (n61 : Nat) (H61 : Heap) (lc61 : List Loc) (ls : Array Slot) (v61_5 : Int32), 12 - v61_5.toInt < (n61 : Int) → zG E wS_X0_spread_d1 H0 H61 lc61 → lv_has ls 6 [(0, .ref h0), (1, .int p0), (2, .int p1), (3, .int p2), (5, .int v61_5)] → p1.toInt ≤ 12 → 0 ≤ v61_5.toInt → v61_5.toInt ≤ 12 → p1.toInt + p2.toInt < 12 → W p l e rm_X0_spread_d1 s m args below meth c H61 lc61 0 0 Q (F0 m 61 ls []) := by
    intro n61
    induction n61 with
    | zero =>
      intro H61 lc61 ls v61_5 hm61 gH61 hl f61_1 f61_2 f61_3 f61_4
      exact absurd hm61 (by omega)
    | succ n61 ih61 =>
      intro H61 lc61 ls v61_5 hm61 gH61 hl f61_1 f61_2 f61_3 f61_4
      have b84 : ∀ (H84 : Heap) (lc84 : List Loc) (ls : Array Slot), zG E wS_X0_spread_d1 H0 H84 lc84 → lv_has ls 6 [(0, .ref h0), (1, .int p0), (2, .int p1), (3, .int p2), (5, .int v61_5)] → 1 ≤ p1.toInt → v61_5.toInt ≤ 11 → v61_5.toInt < p1.toInt → W p l e rm_X0_spread_d1 s m args below meth c H84 lc84 0 0 Q (F0 m 84 ls []) := by
        intro H84 lc84 ls gH84 hl f84_1 f84_2 f84_3
        refine lv_aload_n hx hb dX0_spread_84 rfl (lv_at hl 0 rfl) ?_
        refine lv_iload_n hx hb dX0_spread_85 rfl (lv_at hl 1 rfl) ?_
        refine lv_iconst (v := 1) hx hb dX0_spread_86 (by decide) ?_
        refine lv_iadd hx hb dX0_spread_87 ?_
        refine lv_topi (fun x_1 e_1 => ?_)
        have t_1 := z_add e_1 rfl kl_1 (by omega) (by omega)
        refine lv_iconst (v := 2) hx hb dX0_spread_88 (by decide) ?_
        refine lv_iload_n hx hb dX0_spread_89 rfl (lv_at hl 2 rfl) ?_
        refine lv_iload hx hb dX0_spread_90 (lv_at hl 4 rfl) ?_
        refine lv_isub hx hb dX0_spread_92 ?_
        refine lv_topi (fun x_2 e_2 => ?_)
        have t_2 := z_sub e_2 rfl rfl (by omega) (by omega)
        refine lv_imul hx hb dX0_spread_93 ?_
        refine lv_topi (fun x_3 e_3 => ?_)
        have t_3 := z_mul e_3 kl_2 rfl (by omega) (by omega)
        refine lv_iload_n hx hb dX0_spread_94 rfl (lv_at hl 3 rfl) ?_
        refine lv_iload hx hb dX0_spread_95 (lv_at hl 4 rfl) ?_
        refine lv_iadd hx hb dX0_spread_97 ?_
        refine lv_topi (fun x_4 e_4 => ?_)
        have t_4 := z_add e_4 rfl rfl (by omega) (by omega)
        refine zkV (zrV (rest := []) B (c_X0_spread_d2 l E hV H84 gH84.1 h0 kh0 x_1 (by omega) (by omega) x_3 (by omega) (by omega) x_4 (by omega) (by omega)) cl_RX0_44 gH84.1 kh0 rfl rfl rfl rfl hl.1 rfl (Nat.le_of_ble_eq_true rfl) dX0_spread_98 rfl rfl ⟨rfl, rfl⟩ ⟨Nat.zero_le _, Nat.zero_le _⟩ (zO.of gH84 hh)) gH84 rfl (fun H5 lc5 hp_5 gH5 rH5 => ?_)
        obtain ⟨x_6, e_6⟩ : ∃ y : Int32, (v61_5 : Int32) + Int32.ofInt 1 = y := ⟨_, rfl⟩
        refine lv_iinc (v := x_6) (lv' := [(5, .int x_6), (0, .ref h0), (1, .int p0), (2, .int p1), (3, .int p2)]) hx hb dX0_spread_101 hl (k := 4) rfl e_6 (by decide) rfl (fun ls hl => ?_)
        have t_6 := z_inc2 e_6 rfl (by decide) (by omega) (by omega)
        refine lv_goto (tgt := 61) hx hb dX0_spread_104 (by decide) ?_
        exact ih61 H5 lc5 ls x_6 (by omega) gH5 (lv_sub hl [1, 2, 3, 4, 0] rfl) (by omega) (by omega) (by omega) (by omega)
      refine lv_iload hx hb dX0_spread_61 (lv_at hl 4 rfl) ?_
      refine lv_iload_n hx hb dX0_spread_63 rfl (lv_at hl 2 rfl) ?_
      refine lv_icmp_ge (tgt := 107) hx hb dX0_spread_64 (by decide) (fun c_7 => ?_) (fun c_7 => ?_)
      · have f_7 := z_le c_7 rfl rfl
        exact rtV B hr hlk hh hQ gH61 trivial dX0_spread_107
      · have f_7 := z_nle c_7 rfl rfl
        refine lv_iload hx hb dX0_spread_67 (lv_at hl 4 rfl) ?_
        refine lv_if_le (tgt := 84) hx hb dX0_spread_69 (by decide) (fun c_8 => ?_) (fun c_8 => ?_)
        · have f_8 := z_le c_8 rfl kl_0
          exact b84 H61 lc61 ls gH61 (lv_sub hl [0, 1, 2, 3, 4] rfl) (by omega) (by omega) (by omega)
        · have f_8 := z_nle c_8 rfl kl_0
          refine lv_aload_n hx hb dX0_spread_72 rfl (lv_at hl 0 rfl) ?_
          refine g_getR B fl_RX0_28 gH61.1 kh0 rfl rfl rfl rfl rfl dX0_spread_73 (fun q_9 s_9 k_q_9 => ?_)
          refine lv_iload_n hx hb dX0_spread_76 rfl (lv_at hl 3 rfl) ?_
          refine lv_iload hx hb dX0_spread_77 (lv_at hl 4 rfl) ?_
          refine lv_iadd hx hb dX0_spread_79 ?_
          refine lv_topi (fun x_10 e_10 => ?_)
          have t_10 := z_add e_10 rfl rfl (by omega) (by omega)
          refine lv_iconst (v := 1) hx hb dX0_spread_80 (by decide) ?_
          refine lv_isub hx hb dX0_spread_81 ?_
          refine lv_topi (fun x_11 e_11 => ?_)
          have t_11 := z_sub e_11 rfl kl_1 (by omega) (by omega)
          refine lv_iload_n hx hb dX0_spread_82 rfl (lv_at hl 1 rfl) ?_
          refine g_iastI (i := x_11) (N := 12) B hV gH61 k_q_9 rfl rfl rfl rfl (by omega) (by omega) rfl (z_rng _).1 (z_rng _).2 rfl dX0_spread_83 (fun H12 lc12 gH12 uH12 => ?_)
          have s_13 := uH12.keep (Or.inl (k_ne kh0 k_q_9 rfl)) s_9
          exact b84 H12 lc12 ls gH12 (lv_sub hl [0, 1, 2, 3, 4] rfl) (by omega) (by omega) (by omega)
  have b30 : ∀ (n30 : Nat) (H30 : Heap) (lc30 : List Loc) (ls : Array Slot) (v30_5 : Int32) (u30_h0_0 : Int32), 12 - v30_5.toInt < (n30 : Int) → zG E wS_X0_spread_d1 H0 H30 lc30 → lv_has ls 6 [(0, .ref h0), (1, .int p0), (5, .int v30_5)] → 0 ≤ v30_5.toInt → v30_5.toInt ≤ 12 → 0 ≤ u30_h0_0.toInt → u30_h0_0.toInt ≤ 12 → sl H30 h0 (zix E 1 0) = some (.int u30_h0_0) → W p l e rm_X0_spread_d1 s m args below meth c H30 lc30 0 0 Q (F0 m 30 ls []) := by
    intro n30
    induction n30 with
    | zero =>
      intro H30 lc30 ls v30_5 u30_h0_0 hm30 gH30 hl f30_1 f30_2 f30_3 f30_4 s30_u30_h0_0
      exact absurd hm30 (by omega)
    | succ n30 ih30 =>
      intro H30 lc30 ls v30_5 u30_h0_0 hm30 gH30 hl f30_1 f30_2 f30_3 f30_4 s30_u30_h0_0
      refine lv_iload hx hb dX0_spread_30 (lv_at hl 2 rfl) ?_
      refine lv_aload_n hx hb dX0_spread_32 rfl (lv_at hl 0 rfl) ?_
      refine g_get B fl_RX0_9 gH30.1 kh0 rfl rfl rfl dX0_spread_33 s30_u30_h0_0 ?_
      refine lv_icmp_ge (tgt := 53) hx hb dX0_spread_36 (by decide) (fun c_14 => ?_) (fun c_14 => ?_)
      · have f_14 := z_le c_14 rfl rfl
        refine lv_aload_n hx hb dX0_spread_53 rfl (lv_at hl 0 rfl) ?_
        refine zkV (zrV (rest := []) B (c_X0_weigh l E hV H30 gH30.1 h0 kh0) cl_RX0_48 gH30.1 kh0 rfl rfl rfl rfl hl.1 rfl (Nat.le_of_ble_eq_true rfl) dX0_spread_54 rfl rfl ⟨rfl, rfl⟩ ⟨Nat.zero_le _, Nat.zero_le _⟩ (zO.of gH30 hh)) gH30 rfl (fun H15 lc15 hp_15 gH15 rH15 => ?_)
        exact rtV B hr hlk hh hQ gH15 trivial dX0_spread_57
      · have f_14 := z_nle c_14 rfl rfl
        refine lv_aload_n hx hb dX0_spread_39 rfl (lv_at hl 0 rfl) ?_
        refine g_getR B fl_RX0_28 gH30.1 kh0 rfl rfl rfl rfl rfl dX0_spread_40 (fun q_16 s_16 k_q_16 => ?_)
        refine lv_iload hx hb dX0_spread_43 (lv_at hl 2 rfl) ?_
        refine lv_iload_n hx hb dX0_spread_45 rfl (lv_at hl 1 rfl) ?_
        refine g_iastI (i := v30_5) (N := 12) B hV gH30 k_q_16 rfl rfl rfl rfl (by omega) (by omega) rfl (z_rng _).1 (z_rng _).2 rfl dX0_spread_46 (fun H17 lc17 gH17 uH17 => ?_)
        have s_18 := uH17.keep (Or.inl (k_ne kh0 k_q_16 rfl)) s30_u30_h0_0
        have s_19 := uH17.keep (Or.inl (k_ne kh0 k_q_16 rfl)) s_16
        obtain ⟨x_20, e_20⟩ : ∃ y : Int32, (v30_5 : Int32) + Int32.ofInt 1 = y := ⟨_, rfl⟩
        refine lv_iinc (v := x_20) (lv' := [(5, .int x_20), (0, .ref h0), (1, .int p0)]) hx hb dX0_spread_47 hl (k := 2) rfl e_20 (by decide) rfl (fun ls hl => ?_)
        have t_20 := z_inc2 e_20 rfl (by decide) (by omega) (by omega)
        refine lv_goto (tgt := 30) hx hb dX0_spread_50 (by decide) ?_
        exact ih30 H17 lc17 ls x_20 u30_h0_0 (by omega) gH17 (lv_sub hl [1, 2, 0] rfl) (by omega) (by omega) (by omega) (by omega) s_18
  refine lv_aload_n hx hb dX0_spread_0 rfl (lv_at hl 0 rfl) ?_
  refine g_getI B fl_RX0_9 hT0 kh0 rfl rfl rfl rfl rfl dX0_spread_1 (fun x_21 s_21 a_21 b_21 => ?_)
  refine lv_iload_n hx hb dX0_spread_4 rfl (lv_at hl 3 rfl) ?_
  refine lv_isub hx hb dX0_spread_5 ?_
  refine lv_topi (fun x_22 e_22 => ?_)
  have t_22 := z_sub e_22 rfl rfl (by omega) (by omega)
  refine lv_istore (lv' := [(4, .int x_22), (0, .ref h0), (1, .int p0), (2, .int p1), (3, .int p2)]) hx hb dX0_spread_6 hl (by decide) rfl (fun ls hl => ?_)
  refine lv_iload_n hx hb dX0_spread_8 rfl (lv_at hl 2 rfl) ?_
  refine lv_bipush (v := 12) hx hb dX0_spread_9 (by decide) ?_
  refine lv_icmp_gt (tgt := 20) hx hb dX0_spread_11 (by decide) (fun c_23 => ?_) (fun c_23 => ?_)
  · have f_23 := z_lt c_23 kl_12 rfl
    exact False.elim (by omega)
  · have f_23 := z_nlt c_23 kl_12 rfl
    refine lv_iload_n hx hb dX0_spread_14 rfl (lv_at hl 3 rfl) ?_
    refine lv_iload hx hb dX0_spread_15 (lv_at hl 0 rfl) ?_
    refine lv_icmp_le (tgt := 21) hx hb dX0_spread_17 (by decide) (fun c_24 => ?_) (fun c_24 => ?_)
    · have f_24 := z_le c_24 rfl rfl
      refine lv_iload_n hx hb dX0_spread_21 rfl (lv_at hl 3 rfl) ?_
      refine lv_iload hx hb dX0_spread_22 (lv_at hl 0 rfl) ?_
      refine lv_icmp_ne (tgt := 58) hx hb dX0_spread_24 (by decide) (fun c_25 => ?_) (fun c_25 => ?_)
      · have f_25 := z_ne c_25 rfl rfl
        refine lv_iconst (v := 0) hx hb dX0_spread_58 (by decide) ?_
        refine lv_istore (lv' := [(5, .int 0), (4, .int x_22), (0, .ref h0), (1, .int p0), (2, .int p1), (3, .int p2)]) hx hb dX0_spread_59 hl (by decide) rfl (fun ls hl => ?_)
        have := kl_0
        exact b61 13 H0 [] ls 0 (by omega) hG0 (lv_sub hl [2, 3, 4, 5, 0] rfl) (by omega) (by omega) (by omega) (by omega)
      · have f_25 := z_eq c_25 rfl rfl
        refine lv_iload_n hx hb dX0_spread_27 rfl (lv_at hl 4 rfl) ?_
        refine lv_istore (lv' := [(5, .int p2), (4, .int x_22), (0, .ref h0), (1, .int p0), (2, .int p1), (3, .int p2)]) hx hb dX0_spread_28 hl (by decide) rfl (fun ls hl => ?_)
        exact b30 13 H0 [] ls p2 x_21 (by omega) hG0 (lv_sub hl [2, 3, 0] rfl) (by omega) (by omega) (by omega) (by omega) s_21
    · have f_24 := z_nle c_24 rfl rfl
      exact rtV B hr hlk hh hQ hG0 trivial dX0_spread_20

def rm_X0_spread_d0 : Room := { frames := 14, cells := 0, slots := 0, locals := 362 }
abbrev wS_X0_spread_d0 : List (Nat × Nat) := [(1, 1), (20, 99), (23, 99), (24, 99)]
set_option maxRecDepth 100000 in
set_option maxHeartbeats 4000000 in
theorem c_X0_spread_d0 (l : Launch) (E : zE) (hV : zV E) (H0 : Heap) (hT0 : HT E H0) (h0 : Nat) (kh0 : eK E h0 = 1) (p0 : Int32) (p0_lo : 0 ≤ p0.toInt) (p0_hi : p0.toInt ≤ 0) (p1 : Int32) (p1_lo : 0 ≤ p1.toInt) (p1_hi : p1.toInt ≤ 24) (p2 : Int32) (p2_lo : 0 ≤ p2.toInt) (p2_hi : p2.toInt ≤ 12) : Met l yX0_spread (zws yX0_spread cX0_spread 6 none) rm_X0_spread_d0 (zP E H0 [.ref h0, .int p0, .int p1, .int p2]) (zQV E E wS_X0_spread_d0 (fun H1 => True)) 0 0 (zfr E) := by
  refine zEnt (by decide) (Nat.le_of_ble_eq_true rfl) (fun p e s m args below meth c ls Q B hr hlk hh hQ hl => ?_)
  have hx := B.1
  have hb := B.2.1
  have hG0 : zG E wS_X0_spread_d0 H0 H0 [] := zG.rf hT0
  have hl : lv_has ls 6 [(0, .ref h0), (1, .int p0), (2, .int p1), (3, .int p2)] := hl
  have b61 : ∀ (n61 : Nat) (H61 : Heap) (lc61 : List Loc) (ls : Array Slot) (v61_5 : Int32), 12 - v61_5.toInt < (n61 : Int) → zG E wS_X0_spread_d0 H0 H61 lc61 → lv_has ls 6 [(0, .ref h0), (1, .int p0), (2, .int p1), (3, .int p2), (5, .int v61_5)] → p1.toInt ≤ 12 → 0 ≤ v61_5.toInt → v61_5.toInt ≤ 12 → p1.toInt + p2.toInt < 12 → W p l e rm_X0_spread_d0 s m args below meth c H61 lc61 0 0 Q (F0 m 61 ls []) := by
    intro n61
    induction n61 with
    | zero =>
      intro H61 lc61 ls v61_5 hm61 gH61 hl f61_1 f61_2 f61_3 f61_4
      exact absurd hm61 (by omega)
    | succ n61 ih61 =>
      intro H61 lc61 ls v61_5 hm61 gH61 hl f61_1 f61_2 f61_3 f61_4
      have b84 : ∀ (H84 : Heap) (lc84 : List Loc) (ls : Array Slot), zG E wS_X0_spread_d0 H0 H84 lc84 → lv_has ls 6 [(0, .ref h0), (1, .int p0), (2, .int p1), (3, .int p2), (5, .int v61_5)] → 1 ≤ p1.toInt → v61_5.toInt ≤ 11 → v61_5.toInt < p1.toInt → W p l e rm_X0_spread_d0 s m args below meth c H84 lc84 0 0 Q (F0 m 84 ls []) := by
        intro H84 lc84 ls gH84 hl f84_1 f84_2 f84_3
        refine lv_aload_n hx hb dX0_spread_84 rfl (lv_at hl 0 rfl) ?_
        refine lv_iload_n hx hb dX0_spread_85 rfl (lv_at hl 1 rfl) ?_
        refine lv_iconst (v := 1) hx hb dX0_spread_86 (by decide) ?_
        refine lv_iadd hx hb dX0_spread_87 ?_
        refine lv_topi (fun x_1 e_1 => ?_)
        have t_1 := z_add e_1 rfl kl_1 (by omega) (by omega)
        refine lv_iconst (v := 2) hx hb dX0_spread_88 (by decide) ?_
        refine lv_iload_n hx hb dX0_spread_89 rfl (lv_at hl 2 rfl) ?_
        refine lv_iload hx hb dX0_spread_90 (lv_at hl 4 rfl) ?_
        refine lv_isub hx hb dX0_spread_92 ?_
        refine lv_topi (fun x_2 e_2 => ?_)
        have t_2 := z_sub e_2 rfl rfl (by omega) (by omega)
        refine lv_imul hx hb dX0_spread_93 ?_
        refine lv_topi (fun x_3 e_3 => ?_)
        have t_3 := z_mul e_3 kl_2 rfl (by omega) (by omega)
        refine lv_iload_n hx hb dX0_spread_94 rfl (lv_at hl 3 rfl) ?_
        refine lv_iload hx hb dX0_spread_95 (lv_at hl 4 rfl) ?_
        refine lv_iadd hx hb dX0_spread_97 ?_
        refine lv_topi (fun x_4 e_4 => ?_)
        have t_4 := z_add e_4 rfl rfl (by omega) (by omega)
        refine zkV (zrV (rest := []) B (c_X0_spread_d1 l E hV H84 gH84.1 h0 kh0 x_1 (by omega) (by omega) x_3 (by omega) (by omega) x_4 (by omega) (by omega)) cl_RX0_44 gH84.1 kh0 rfl rfl rfl rfl hl.1 rfl (Nat.le_of_ble_eq_true rfl) dX0_spread_98 rfl rfl ⟨rfl, rfl⟩ ⟨Nat.zero_le _, Nat.zero_le _⟩ (zO.of gH84 hh)) gH84 rfl (fun H5 lc5 hp_5 gH5 rH5 => ?_)
        obtain ⟨x_6, e_6⟩ : ∃ y : Int32, (v61_5 : Int32) + Int32.ofInt 1 = y := ⟨_, rfl⟩
        refine lv_iinc (v := x_6) (lv' := [(5, .int x_6), (0, .ref h0), (1, .int p0), (2, .int p1), (3, .int p2)]) hx hb dX0_spread_101 hl (k := 4) rfl e_6 (by decide) rfl (fun ls hl => ?_)
        have t_6 := z_inc2 e_6 rfl (by decide) (by omega) (by omega)
        refine lv_goto (tgt := 61) hx hb dX0_spread_104 (by decide) ?_
        exact ih61 H5 lc5 ls x_6 (by omega) gH5 (lv_sub hl [1, 2, 3, 4, 0] rfl) (by omega) (by omega) (by omega) (by omega)
      refine lv_iload hx hb dX0_spread_61 (lv_at hl 4 rfl) ?_
      refine lv_iload_n hx hb dX0_spread_63 rfl (lv_at hl 2 rfl) ?_
      refine lv_icmp_ge (tgt := 107) hx hb dX0_spread_64 (by decide) (fun c_7 => ?_) (fun c_7 => ?_)
      · have f_7 := z_le c_7 rfl rfl
        exact rtV B hr hlk hh hQ gH61 trivial dX0_spread_107
      · have f_7 := z_nle c_7 rfl rfl
        refine lv_iload hx hb dX0_spread_67 (lv_at hl 4 rfl) ?_
        refine lv_if_le (tgt := 84) hx hb dX0_spread_69 (by decide) (fun c_8 => ?_) (fun c_8 => ?_)
        · have f_8 := z_le c_8 rfl kl_0
          exact b84 H61 lc61 ls gH61 (lv_sub hl [0, 1, 2, 3, 4] rfl) (by omega) (by omega) (by omega)
        · have f_8 := z_nle c_8 rfl kl_0
          refine lv_aload_n hx hb dX0_spread_72 rfl (lv_at hl 0 rfl) ?_
          refine g_getR B fl_RX0_28 gH61.1 kh0 rfl rfl rfl rfl rfl dX0_spread_73 (fun q_9 s_9 k_q_9 => ?_)
          refine lv_iload_n hx hb dX0_spread_76 rfl (lv_at hl 3 rfl) ?_
          refine lv_iload hx hb dX0_spread_77 (lv_at hl 4 rfl) ?_
          refine lv_iadd hx hb dX0_spread_79 ?_
          refine lv_topi (fun x_10 e_10 => ?_)
          have t_10 := z_add e_10 rfl rfl (by omega) (by omega)
          refine lv_iconst (v := 1) hx hb dX0_spread_80 (by decide) ?_
          refine lv_isub hx hb dX0_spread_81 ?_
          refine lv_topi (fun x_11 e_11 => ?_)
          have t_11 := z_sub e_11 rfl kl_1 (by omega) (by omega)
          refine lv_iload_n hx hb dX0_spread_82 rfl (lv_at hl 1 rfl) ?_
          refine g_iastI (i := x_11) (N := 12) B hV gH61 k_q_9 rfl rfl rfl rfl (by omega) (by omega) rfl (z_rng _).1 (z_rng _).2 rfl dX0_spread_83 (fun H12 lc12 gH12 uH12 => ?_)
          have s_13 := uH12.keep (Or.inl (k_ne kh0 k_q_9 rfl)) s_9
          exact b84 H12 lc12 ls gH12 (lv_sub hl [0, 1, 2, 3, 4] rfl) (by omega) (by omega) (by omega)
  have b30 : ∀ (n30 : Nat) (H30 : Heap) (lc30 : List Loc) (ls : Array Slot) (v30_5 : Int32) (u30_h0_0 : Int32), 12 - v30_5.toInt < (n30 : Int) → zG E wS_X0_spread_d0 H0 H30 lc30 → lv_has ls 6 [(0, .ref h0), (1, .int p0), (5, .int v30_5)] → 0 ≤ v30_5.toInt → v30_5.toInt ≤ 12 → 0 ≤ u30_h0_0.toInt → u30_h0_0.toInt ≤ 12 → sl H30 h0 (zix E 1 0) = some (.int u30_h0_0) → W p l e rm_X0_spread_d0 s m args below meth c H30 lc30 0 0 Q (F0 m 30 ls []) := by
    intro n30
    induction n30 with
    | zero =>
      intro H30 lc30 ls v30_5 u30_h0_0 hm30 gH30 hl f30_1 f30_2 f30_3 f30_4 s30_u30_h0_0
      exact absurd hm30 (by omega)
    | succ n30 ih30 =>
      intro H30 lc30 ls v30_5 u30_h0_0 hm30 gH30 hl f30_1 f30_2 f30_3 f30_4 s30_u30_h0_0
      refine lv_iload hx hb dX0_spread_30 (lv_at hl 2 rfl) ?_
      refine lv_aload_n hx hb dX0_spread_32 rfl (lv_at hl 0 rfl) ?_
      refine g_get B fl_RX0_9 gH30.1 kh0 rfl rfl rfl dX0_spread_33 s30_u30_h0_0 ?_
      refine lv_icmp_ge (tgt := 53) hx hb dX0_spread_36 (by decide) (fun c_14 => ?_) (fun c_14 => ?_)
      · have f_14 := z_le c_14 rfl rfl
        refine lv_aload_n hx hb dX0_spread_53 rfl (lv_at hl 0 rfl) ?_
        refine zkV (zrV (rest := []) B (c_X0_weigh l E hV H30 gH30.1 h0 kh0) cl_RX0_48 gH30.1 kh0 rfl rfl rfl rfl hl.1 rfl (Nat.le_of_ble_eq_true rfl) dX0_spread_54 rfl rfl ⟨rfl, rfl⟩ ⟨Nat.zero_le _, Nat.zero_le _⟩ (zO.of gH30 hh)) gH30 rfl (fun H15 lc15 hp_15 gH15 rH15 => ?_)
        exact rtV B hr hlk hh hQ gH15 trivial dX0_spread_57
      · have f_14 := z_nle c_14 rfl rfl
        refine lv_aload_n hx hb dX0_spread_39 rfl (lv_at hl 0 rfl) ?_
        refine g_getR B fl_RX0_28 gH30.1 kh0 rfl rfl rfl rfl rfl dX0_spread_40 (fun q_16 s_16 k_q_16 => ?_)
        refine lv_iload hx hb dX0_spread_43 (lv_at hl 2 rfl) ?_
        refine lv_iload_n hx hb dX0_spread_45 rfl (lv_at hl 1 rfl) ?_
        refine g_iastI (i := v30_5) (N := 12) B hV gH30 k_q_16 rfl rfl rfl rfl (by omega) (by omega) rfl (z_rng _).1 (z_rng _).2 rfl dX0_spread_46 (fun H17 lc17 gH17 uH17 => ?_)
        have s_18 := uH17.keep (Or.inl (k_ne kh0 k_q_16 rfl)) s30_u30_h0_0
        have s_19 := uH17.keep (Or.inl (k_ne kh0 k_q_16 rfl)) s_16
        obtain ⟨x_20, e_20⟩ : ∃ y : Int32, (v30_5 : Int32) + Int32.ofInt 1 = y := ⟨_, rfl⟩
        refine lv_iinc (v := x_20) (lv' := [(5, .int x_20), (0, .ref h0), (1, .int p0)]) hx hb dX0_spread_47 hl (k := 2) rfl e_20 (by decide) rfl (fun ls hl => ?_)
        have t_20 := z_inc2 e_20 rfl (by decide) (by omega) (by omega)
        refine lv_goto (tgt := 30) hx hb dX0_spread_50 (by decide) ?_
        exact ih30 H17 lc17 ls x_20 u30_h0_0 (by omega) gH17 (lv_sub hl [1, 2, 0] rfl) (by omega) (by omega) (by omega) (by omega) s_18
  refine lv_aload_n hx hb dX0_spread_0 rfl (lv_at hl 0 rfl) ?_
  refine g_getI B fl_RX0_9 hT0 kh0 rfl rfl rfl rfl rfl dX0_spread_1 (fun x_21 s_21 a_21 b_21 => ?_)
  refine lv_iload_n hx hb dX0_spread_4 rfl (lv_at hl 3 rfl) ?_
  refine lv_isub hx hb dX0_spread_5 ?_
  refine lv_topi (fun x_22 e_22 => ?_)
  have t_22 := z_sub e_22 rfl rfl (by omega) (by omega)
  refine lv_istore (lv' := [(4, .int x_22), (0, .ref h0), (1, .int p0), (2, .int p1), (3, .int p2)]) hx hb dX0_spread_6 hl (by decide) rfl (fun ls hl => ?_)
  refine lv_iload_n hx hb dX0_spread_8 rfl (lv_at hl 2 rfl) ?_
  refine lv_bipush (v := 12) hx hb dX0_spread_9 (by decide) ?_
  refine lv_icmp_gt (tgt := 20) hx hb dX0_spread_11 (by decide) (fun c_23 => ?_) (fun c_23 => ?_)
  · have f_23 := z_lt c_23 kl_12 rfl
    exact False.elim (by omega)
  · have f_23 := z_nlt c_23 kl_12 rfl
    refine lv_iload_n hx hb dX0_spread_14 rfl (lv_at hl 3 rfl) ?_
    refine lv_iload hx hb dX0_spread_15 (lv_at hl 0 rfl) ?_
    refine lv_icmp_le (tgt := 21) hx hb dX0_spread_17 (by decide) (fun c_24 => ?_) (fun c_24 => ?_)
    · have f_24 := z_le c_24 rfl rfl
      refine lv_iload_n hx hb dX0_spread_21 rfl (lv_at hl 3 rfl) ?_
      refine lv_iload hx hb dX0_spread_22 (lv_at hl 0 rfl) ?_
      refine lv_icmp_ne (tgt := 58) hx hb dX0_spread_24 (by decide) (fun c_25 => ?_) (fun c_25 => ?_)
      · have f_25 := z_ne c_25 rfl rfl
        refine lv_iconst (v := 0) hx hb dX0_spread_58 (by decide) ?_
        refine lv_istore (lv' := [(5, .int 0), (4, .int x_22), (0, .ref h0), (1, .int p0), (2, .int p1), (3, .int p2)]) hx hb dX0_spread_59 hl (by decide) rfl (fun ls hl => ?_)
        have := kl_0
        exact b61 13 H0 [] ls 0 (by omega) hG0 (lv_sub hl [2, 3, 4, 5, 0] rfl) (by omega) (by omega) (by omega) (by omega)
      · have f_25 := z_eq c_25 rfl rfl
        refine lv_iload_n hx hb dX0_spread_27 rfl (lv_at hl 4 rfl) ?_
        refine lv_istore (lv' := [(5, .int p2), (4, .int x_22), (0, .ref h0), (1, .int p0), (2, .int p1), (3, .int p2)]) hx hb dX0_spread_28 hl (by decide) rfl (fun ls hl => ?_)
        exact b30 13 H0 [] ls p2 x_21 (by omega) hG0 (lv_sub hl [2, 3, 0] rfl) (by omega) (by omega) (by omega) (by omega) s_21
    · have f_24 := z_nle c_24 rfl rfl
      exact rtV B hr hlk hh hQ hG0 trivial dX0_spread_20

theorem dX0_settle_0 : decode cX0_settle 0 = .ok (.aload_n 0, 1) := by decide +kernel
theorem dX0_settle_1 : decode cX0_settle 1 = .ok (.aload_n 1, 1) := by decide +kernel
theorem dX0_settle_2 : decode cX0_settle 2 = .ok (.getfield 34, 3) := by decide +kernel
theorem dX0_settle_5 : decode cX0_settle 5 = .ok (.putfield 9, 3) := by decide +kernel
theorem dX0_settle_8 : decode cX0_settle 8 = .ok (.aload_n 0, 1) := by decide +kernel
theorem dX0_settle_9 : decode cX0_settle 9 = .ok (.iconst 0, 1) := by decide +kernel
theorem dX0_settle_10 : decode cX0_settle 10 = .ok (.putfield 15, 3) := by decide +kernel
theorem dX0_settle_13 : decode cX0_settle 13 = .ok (.iconst 0, 1) := by decide +kernel
theorem dX0_settle_14 : decode cX0_settle 14 = .ok (.istore_n 2, 1) := by decide +kernel
theorem dX0_settle_15 : decode cX0_settle 15 = .ok (.iload_n 2, 1) := by decide +kernel
theorem dX0_settle_16 : decode cX0_settle 16 = .ok (.aload_n 0, 1) := by decide +kernel
theorem dX0_settle_17 : decode cX0_settle 17 = .ok (.getfield 9, 3) := by decide +kernel
theorem dX0_settle_20 : decode cX0_settle 20 = .ok (.if_icmp .ge 21, 3) := by decide +kernel
theorem dX0_settle_23 : decode cX0_settle 23 = .ok (.aload_n 0, 1) := by decide +kernel
theorem dX0_settle_24 : decode cX0_settle 24 = .ok (.getfield 22, 3) := by decide +kernel
theorem dX0_settle_27 : decode cX0_settle 27 = .ok (.iload_n 2, 1) := by decide +kernel
theorem dX0_settle_28 : decode cX0_settle 28 = .ok (.aload_n 1, 1) := by decide +kernel
theorem dX0_settle_29 : decode cX0_settle 29 = .ok (.getfield 39, 3) := by decide +kernel
theorem dX0_settle_32 : decode cX0_settle 32 = .ok (.iload_n 2, 1) := by decide +kernel
theorem dX0_settle_33 : decode cX0_settle 33 = .ok (.iaload, 1) := by decide +kernel
theorem dX0_settle_34 : decode cX0_settle 34 = .ok (.iastore, 1) := by decide +kernel
theorem dX0_settle_35 : decode cX0_settle 35 = .ok (.iinc 2 1, 3) := by decide +kernel
theorem dX0_settle_38 : decode cX0_settle 38 = .ok (.goto (-23), 3) := by decide +kernel
theorem dX0_settle_41 : decode cX0_settle 41 = .ok (.aload_n 0, 1) := by decide +kernel
theorem dX0_settle_42 : decode cX0_settle 42 = .ok (.getfield 9, 3) := by decide +kernel
theorem dX0_settle_45 : decode cX0_settle 45 = .ok (.iconst 1, 1) := by decide +kernel
theorem dX0_settle_46 : decode cX0_settle 46 = .ok (.if_icmp .ne 23, 3) := by decide +kernel
theorem dX0_settle_49 : decode cX0_settle 49 = .ok (.aload_n 0, 1) := by decide +kernel
theorem dX0_settle_50 : decode cX0_settle 50 = .ok (.getfield 18, 3) := by decide +kernel
theorem dX0_settle_53 : decode cX0_settle 53 = .ok (.iconst 0, 1) := by decide +kernel
theorem dX0_settle_54 : decode cX0_settle 54 = .ok (.iconst 1, 1) := by decide +kernel
theorem dX0_settle_55 : decode cX0_settle 55 = .ok (.iastore, 1) := by decide +kernel
theorem dX0_settle_56 : decode cX0_settle 56 = .ok (.aload_n 0, 1) := by decide +kernel
theorem dX0_settle_57 : decode cX0_settle 57 = .ok (.aload_n 0, 1) := by decide +kernel
theorem dX0_settle_58 : decode cX0_settle 58 = .ok (.getfield 22, 3) := by decide +kernel
theorem dX0_settle_61 : decode cX0_settle 61 = .ok (.iconst 0, 1) := by decide +kernel
theorem dX0_settle_62 : decode cX0_settle 62 = .ok (.iaload, 1) := by decide +kernel
theorem dX0_settle_63 : decode cX0_settle 63 = .ok (.putfield 15, 3) := by decide +kernel
theorem dX0_settle_66 : decode cX0_settle 66 = .ok (.goto 28, 3) := by decide +kernel
theorem dX0_settle_69 : decode cX0_settle 69 = .ok (.aload_n 0, 1) := by decide +kernel
theorem dX0_settle_70 : decode cX0_settle 70 = .ok (.getfield 9, 3) := by decide +kernel
theorem dX0_settle_73 : decode cX0_settle 73 = .ok (.iconst 1, 1) := by decide +kernel
theorem dX0_settle_74 : decode cX0_settle 74 = .ok (.if_icmp .le 20, 3) := by decide +kernel
theorem dX0_settle_77 : decode cX0_settle 77 = .ok (.aload_n 0, 1) := by decide +kernel
theorem dX0_settle_78 : decode cX0_settle 78 = .ok (.invokevirtual 40, 3) := by decide +kernel
theorem dX0_settle_81 : decode cX0_settle 81 = .ok (.aload_n 0, 1) := by decide +kernel
theorem dX0_settle_82 : decode cX0_settle 82 = .ok (.ldc 43, 2) := by decide +kernel
theorem dX0_settle_84 : decode cX0_settle 84 = .ok (.putfield 15, 3) := by decide +kernel
theorem dX0_settle_87 : decode cX0_settle 87 = .ok (.aload_n 0, 1) := by decide +kernel
theorem dX0_settle_88 : decode cX0_settle 88 = .ok (.iconst 0, 1) := by decide +kernel
theorem dX0_settle_89 : decode cX0_settle 89 = .ok (.iconst 1, 1) := by decide +kernel
theorem dX0_settle_90 : decode cX0_settle 90 = .ok (.iconst 0, 1) := by decide +kernel
theorem dX0_settle_91 : decode cX0_settle 91 = .ok (.invokevirtual 44, 3) := by decide +kernel
theorem dX0_settle_94 : decode cX0_settle 94 = .ok (.return_, 1) := by decide +kernel
def rm_X0_settle : Room := { frames := 15, cells := 0, slots := 0, locals := 387 }
abbrev wS_X0_settle : List (Nat × Nat) := [(1, 0), (1, 1), (20, 99), (21, 99), (22, 99), (23, 99), (24, 99)]
set_option maxRecDepth 100000 in
set_option maxHeartbeats 4000000 in
theorem c_X0_settle (l : Launch) (E : zE) (hV : zV E) (H0 : Heap) (hT0 : HT E H0) (h0 : Nat) (kh0 : eK E h0 = 1) (p0 : Nat) (kp0 : eK E p0 = 11) : Met l yX0_settle (zws yX0_settle cX0_settle 3 none) rm_X0_settle (zP E H0 [.ref h0, .ref p0]) (zQV E E wS_X0_settle (fun H1 => True)) 0 0 (zfr E) := by
  refine zEnt (by decide) (Nat.le_of_ble_eq_true rfl) (fun p e s m args below meth c ls Q B hr hlk hh hQ hl => ?_)
  have hx := B.1
  have hb := B.2.1
  have hG0 : zG E wS_X0_settle H0 H0 [] := zG.rf hT0
  have hl : lv_has ls 3 [(0, .ref h0), (1, .ref p0)] := hl
  have b15 : ∀ (n15 : Nat) (H15 : Heap) (lc15 : List Loc) (ls : Array Slot) (v15_2 : Int32) (u15_h0_0 : Int32), 12 - v15_2.toInt < (n15 : Int) → zG E wS_X0_settle H0 H15 lc15 → lv_has ls 3 [(0, .ref h0), (1, .ref p0), (2, .int v15_2)] → 0 ≤ v15_2.toInt → v15_2.toInt ≤ 12 → 0 ≤ u15_h0_0.toInt → u15_h0_0.toInt ≤ 12 → sl H15 h0 (zix E 1 0) = some (.int u15_h0_0) → W p l e rm_X0_settle s m args below meth c H15 lc15 0 0 Q (F0 m 15 ls []) := by
    intro n15
    induction n15 with
    | zero =>
      intro H15 lc15 ls v15_2 u15_h0_0 hm15 gH15 hl f15_1 f15_2 f15_3 f15_4 s15_u15_h0_0
      exact absurd hm15 (by omega)
    | succ n15 ih15 =>
      intro H15 lc15 ls v15_2 u15_h0_0 hm15 gH15 hl f15_1 f15_2 f15_3 f15_4 s15_u15_h0_0
      refine lv_iload_n hx hb dX0_settle_15 rfl (lv_at hl 2 rfl) ?_
      refine lv_aload_n hx hb dX0_settle_16 rfl (lv_at hl 0 rfl) ?_
      refine g_get B fl_RX0_9 gH15.1 kh0 rfl rfl rfl dX0_settle_17 s15_u15_h0_0 ?_
      refine lv_icmp_ge (tgt := 41) hx hb dX0_settle_20 (by decide) (fun c_1 => ?_) (fun c_1 => ?_)
      · have f_1 := z_le c_1 rfl rfl
        refine lv_aload_n hx hb dX0_settle_41 rfl (lv_at hl 0 rfl) ?_
        refine g_get B fl_RX0_9 gH15.1 kh0 rfl rfl rfl dX0_settle_42 s15_u15_h0_0 ?_
        refine lv_iconst (v := 1) hx hb dX0_settle_45 (by decide) ?_
        refine lv_icmp_ne (tgt := 69) hx hb dX0_settle_46 (by decide) (fun c_2 => ?_) (fun c_2 => ?_)
        · have f_2 := z_ne c_2 rfl kl_1
          refine lv_aload_n hx hb dX0_settle_69 rfl (lv_at hl 0 rfl) ?_
          refine g_get B fl_RX0_9 gH15.1 kh0 rfl rfl rfl dX0_settle_70 s15_u15_h0_0 ?_
          refine lv_iconst (v := 1) hx hb dX0_settle_73 (by decide) ?_
          refine lv_icmp_le (tgt := 94) hx hb dX0_settle_74 (by decide) (fun c_3 => ?_) (fun c_3 => ?_)
          · have f_3 := z_le c_3 rfl kl_1
            exact rtV B hr hlk hh hQ gH15 trivial dX0_settle_94
          · have f_3 := z_nle c_3 rfl kl_1
            refine lv_aload_n hx hb dX0_settle_77 rfl (lv_at hl 0 rfl) ?_
            refine zkV (zrV (rest := []) B (c_X0_sortByOften l E hV H15 gH15.1 h0 kh0) cl_RX0_40 gH15.1 kh0 rfl rfl rfl rfl hl.1 rfl (Nat.le_of_ble_eq_true rfl) dX0_settle_78 rfl rfl ⟨rfl, rfl⟩ ⟨Nat.zero_le _, Nat.zero_le _⟩ (zO.of gH15 hh)) gH15 rfl (fun H4 lc4 hp_4 gH4 rH4 => ?_)
            refine lv_aload_n hx hb dX0_settle_81 rfl (lv_at hl 0 rfl) ?_
            refine lv_ldc hx hb B.2.2.2.1 (B.2.2.2.2.1 _ (mc_wsL_law_r11 _ (List.mem_of_getElem? (i := 19) rfl))) dX0_settle_82 ?_
            have := kl_143857
            refine g_putI B fp_RX0_15 hV gH4 kh0 rfl rfl rfl rfl rfl (z_rng _).1 (z_rng _).2 rfl dX0_settle_84 (fun H5 lc5 gH5 uH5 => ?_)
            refine lv_aload_n hx hb dX0_settle_87 rfl (lv_at hl 0 rfl) ?_
            refine lv_iconst (v := 0) hx hb dX0_settle_88 (by decide) ?_
            refine lv_iconst (v := 1) hx hb dX0_settle_89 (by decide) ?_
            refine lv_iconst (v := 0) hx hb dX0_settle_90 (by decide) ?_
            have := kl_0
            have := kl_1
            have := kl_0
            refine zkV (zrV (rest := []) B (c_X0_spread_d0 l E hV H5 gH5.1 h0 kh0 0 (by omega) (by omega) 1 (by omega) (by omega) 0 (by omega) (by omega)) cl_RX0_44 gH5.1 kh0 rfl rfl rfl rfl hl.1 rfl (Nat.le_of_ble_eq_true rfl) dX0_settle_91 rfl rfl ⟨rfl, rfl⟩ ⟨Nat.zero_le _, Nat.zero_le _⟩ (zO.of gH5 hh)) gH5 rfl (fun H6 lc6 hp_6 gH6 rH6 => ?_)
            exact rtV B hr hlk hh hQ gH6 trivial dX0_settle_94
        · have f_2 := z_eq c_2 rfl kl_1
          refine lv_aload_n hx hb dX0_settle_49 rfl (lv_at hl 0 rfl) ?_
          refine g_getR B fl_RX0_18 gH15.1 kh0 rfl rfl rfl rfl rfl dX0_settle_50 (fun q_7 s_7 k_q_7 => ?_)
          refine lv_iconst (v := 0) hx hb dX0_settle_53 (by decide) ?_
          refine lv_iconst (v := 1) hx hb dX0_settle_54 (by decide) ?_
          have := kl_0
          have := kl_1
          refine g_iastI (i := 0) (N := 12) B hV gH15 k_q_7 rfl rfl rfl rfl (by omega) (by omega) rfl (z_rng _).1 (z_rng _).2 rfl dX0_settle_55 (fun H8 lc8 gH8 uH8 => ?_)
          refine lv_aload_n hx hb dX0_settle_56 rfl (lv_at hl 0 rfl) ?_
          refine lv_aload_n hx hb dX0_settle_57 rfl (lv_at hl 0 rfl) ?_
          refine g_getR B fl_RX0_22 gH8.1 kh0 rfl rfl rfl rfl rfl dX0_settle_58 (fun q_9 s_9 k_q_9 => ?_)
          refine lv_iconst (v := 0) hx hb dX0_settle_61 (by decide) ?_
          have := kl_0
          refine g_ialdI (i := 0) (N := 12) B gH8.1 k_q_9 rfl rfl rfl rfl (by omega) (by omega) rfl dX0_settle_62 (fun x_10 s_10 a_10 b_10 => ?_)
          refine g_putI B fp_RX0_15 hV gH8 kh0 rfl rfl rfl rfl rfl (z_rng _).1 (z_rng _).2 rfl dX0_settle_63 (fun H11 lc11 gH11 uH11 => ?_)
          refine lv_goto (tgt := 94) hx hb dX0_settle_66 (by decide) ?_
          exact rtV B hr hlk hh hQ gH11 trivial dX0_settle_94
      · have f_1 := z_nle c_1 rfl rfl
        refine lv_aload_n hx hb dX0_settle_23 rfl (lv_at hl 0 rfl) ?_
        refine g_getR B fl_RX0_22 gH15.1 kh0 rfl rfl rfl rfl rfl dX0_settle_24 (fun q_12 s_12 k_q_12 => ?_)
        refine lv_iload_n hx hb dX0_settle_27 rfl (lv_at hl 2 rfl) ?_
        refine lv_aload_n hx hb dX0_settle_28 rfl (lv_at hl 1 rfl) ?_
        refine g_getR B fl_RX0_39 gH15.1 kp0 rfl rfl rfl rfl rfl dX0_settle_29 (fun q_13 s_13 k_q_13 => ?_)
        refine lv_iload_n hx hb dX0_settle_32 rfl (lv_at hl 2 rfl) ?_
        refine g_ialdI (i := v15_2) (N := 12) B gH15.1 k_q_13 rfl rfl rfl rfl (by omega) (by omega) rfl dX0_settle_33 (fun x_14 s_14 a_14 b_14 => ?_)
        refine g_iastI (i := v15_2) (N := 12) B hV gH15 k_q_12 rfl rfl rfl rfl (by omega) (by omega) rfl (z_rng _).1 (z_rng _).2 rfl dX0_settle_34 (fun H15 lc15 gH15 uH15 => ?_)
        have s_16 := uH15.keep (Or.inl (k_ne kh0 k_q_12 rfl)) s15_u15_h0_0
        have s_17 := uH15.keep (Or.inl (k_ne kh0 k_q_12 rfl)) s_12
        have s_18 := uH15.keep (Or.inl (k_ne kp0 k_q_12 rfl)) s_13
        have s_19 := uH15.keep (Or.inl (k_ne k_q_13 k_q_12 rfl)) s_14
        obtain ⟨x_20, e_20⟩ : ∃ y : Int32, (v15_2 : Int32) + Int32.ofInt 1 = y := ⟨_, rfl⟩
        refine lv_iinc (v := x_20) (lv' := [(2, .int x_20), (0, .ref h0), (1, .ref p0)]) hx hb dX0_settle_35 hl (k := 2) rfl e_20 (by decide) rfl (fun ls hl => ?_)
        have t_20 := z_inc2 e_20 rfl (by decide) (by omega) (by omega)
        refine lv_goto (tgt := 15) hx hb dX0_settle_38 (by decide) ?_
        exact ih15 H15 lc15 ls x_20 u15_h0_0 (by omega) gH15 (lv_sub hl [1, 2, 0] rfl) (by omega) (by omega) (by omega) (by omega) s_16
  refine lv_aload_n hx hb dX0_settle_0 rfl (lv_at hl 0 rfl) ?_
  refine lv_aload_n hx hb dX0_settle_1 rfl (lv_at hl 1 rfl) ?_
  refine g_getI B fl_RX0_34 hT0 kp0 rfl rfl rfl rfl rfl dX0_settle_2 (fun x_21 s_21 a_21 b_21 => ?_)
  refine g_putI B fp_RX0_9 hV hG0 kh0 rfl rfl rfl rfl rfl (by omega) (by omega) rfl dX0_settle_5 (fun H22 lc22 gH22 uH22 => ?_)
  refine lv_aload_n hx hb dX0_settle_8 rfl (lv_at hl 0 rfl) ?_
  refine lv_iconst (v := 0) hx hb dX0_settle_9 (by decide) ?_
  have := kl_0
  refine g_putI B fp_RX0_15 hV gH22 kh0 rfl rfl rfl rfl rfl (z_rng _).1 (z_rng _).2 rfl dX0_settle_10 (fun H23 lc23 gH23 uH23 => ?_)
  have s_24 := uH23.keep (Or.inr (j_ne hV rfl rfl rfl rfl)) uH22.2.1
  refine lv_iconst (v := 0) hx hb dX0_settle_13 (by decide) ?_
  refine lv_istore_n (lv' := [(2, .int 0), (0, .ref h0), (1, .ref p0)]) hx hb dX0_settle_14 rfl hl (by decide) rfl (fun ls hl => ?_)
  have := kl_0
  exact b15 13 H23 lc23 ls 0 x_21 (by omega) gH23 (lv_sub hl [1, 2, 0] rfl) (by omega) (by omega) (by omega) (by omega) s_24
