theorem dX6_isSpent_0 : decode cX6_isSpent 0 = .ok (.aload_n 0, 1) := by decide +kernel
theorem dX6_isSpent_1 : decode cX6_isSpent 1 = .ok (.getfield 17, 3) := by decide +kernel
theorem dX6_isSpent_4 : decode cX6_isSpent 4 = .ok (.sipush 30000, 3) := by decide +kernel
theorem dX6_isSpent_7 : decode cX6_isSpent 7 = .ok (.if_icmp .le 7, 3) := by decide +kernel
theorem dX6_isSpent_10 : decode cX6_isSpent 10 = .ok (.iconst 1, 1) := by decide +kernel
theorem dX6_isSpent_11 : decode cX6_isSpent 11 = .ok (.goto 4, 3) := by decide +kernel
theorem dX6_isSpent_14 : decode cX6_isSpent 14 = .ok (.iconst 0, 1) := by decide +kernel
theorem dX6_isSpent_15 : decode cX6_isSpent 15 = .ok (.ireturn, 1) := by decide +kernel
def rm_X6_isSpent : Room := { frames := 0, cells := 0, slots := 0, locals := 0 }
set_option maxRecDepth 100000 in
set_option maxHeartbeats 4000000 in
theorem c_X6_isSpent (l : Launch) (E : zE) (hV : zV E) (H0 : Heap) (hT0 : HT E H0) (h0 : Nat) (kh0 : eK E h0 = 7) : Met l yX6_isSpent (zws yX6_isSpent cX6_isSpent 1 (some .boolean)) rm_X6_isSpent (zP E H0 [.ref h0]) (zPI (fun r => 0 ≤ r.toInt ∧ r.toInt ≤ 1)) 0 0 (fun _ => False) := by
  refine zEnt (by decide) (Nat.le_of_ble_eq_true rfl) (fun p e s m args below meth c ls Q B hr hlk hh hQ hl => ?_)
  have hx := B.1
  have hb := B.2.1
  have hl : lv_has ls 1 [(0, .ref h0)] := hl
  refine lv_aload_n hx hb dX6_isSpent_0 rfl (lv_at hl 0 rfl) ?_
  refine g_getI B fl_RX6_17 hT0 kh0 rfl rfl rfl rfl rfl dX6_isSpent_1 (fun x_1 s_1 a_1 b_1 => ?_)
  refine lv_sipush (v := 30000) hx hb dX6_isSpent_4 (by decide) ?_
  refine lv_icmp_le (tgt := 14) hx hb dX6_isSpent_7 (by decide) (fun c_2 => ?_) (fun c_2 => ?_)
  · have f_2 := z_le c_2 rfl kl_30000
    refine lv_iconst (v := 0) hx hb dX6_isSpent_14 (by decide) ?_
    have := kl_0
    have := kl_0
    exact rtPI (v := 0) B hr hlk hh hQ rfl ⟨by omega, by omega⟩ dX6_isSpent_15
  · have f_2 := z_nle c_2 rfl kl_30000
    refine lv_iconst (v := 1) hx hb dX6_isSpent_10 (by decide) ?_
    refine lv_goto (tgt := 15) hx hb dX6_isSpent_11 (by decide) ?_
    have := kl_1
    have := kl_1
    exact rtPI (v := 1) B hr hlk hh hQ rfl ⟨by omega, by omega⟩ dX6_isSpent_15

theorem dX6_bestFrom_0 : decode cX6_bestFrom 0 = .ok (.iload_n 1, 1) := by decide +kernel
theorem dX6_bestFrom_1 : decode cX6_bestFrom 1 = .ok (.iconst 4, 1) := by decide +kernel
theorem dX6_bestFrom_2 : decode cX6_bestFrom 2 = .ok (.if_icmp .lt 5, 3) := by decide +kernel
theorem dX6_bestFrom_5 : decode cX6_bestFrom 5 = .ok (.iconst (-1), 1) := by decide +kernel
theorem dX6_bestFrom_6 : decode cX6_bestFrom 6 = .ok (.ireturn, 1) := by decide +kernel
theorem dX6_bestFrom_7 : decode cX6_bestFrom 7 = .ok (.iconst (-1), 1) := by decide +kernel
theorem dX6_bestFrom_8 : decode cX6_bestFrom 8 = .ok (.istore 5, 2) := by decide +kernel
theorem dX6_bestFrom_10 : decode cX6_bestFrom 10 = .ok (.iconst 0, 1) := by decide +kernel
theorem dX6_bestFrom_11 : decode cX6_bestFrom 11 = .ok (.istore 6, 2) := by decide +kernel
theorem dX6_bestFrom_13 : decode cX6_bestFrom 13 = .ok (.iload 6, 2) := by decide +kernel
theorem dX6_bestFrom_15 : decode cX6_bestFrom 15 = .ok (.aload_n 0, 1) := by decide +kernel
theorem dX6_bestFrom_16 : decode cX6_bestFrom 16 = .ok (.getfield 21, 3) := by decide +kernel
theorem dX6_bestFrom_19 : decode cX6_bestFrom 19 = .ok (.getfield 51, 3) := by decide +kernel
theorem dX6_bestFrom_22 : decode cX6_bestFrom 22 = .ok (.if_icmp .ge 81, 3) := by decide +kernel
theorem dX6_bestFrom_25 : decode cX6_bestFrom 25 = .ok (.iload 5, 2) := by decide +kernel
theorem dX6_bestFrom_27 : decode cX6_bestFrom 27 = .ok (.iconst 1, 1) := by decide +kernel
theorem dX6_bestFrom_28 : decode cX6_bestFrom 28 = .ok (.if_icmp .ge 75, 3) := by decide +kernel
theorem dX6_bestFrom_31 : decode cX6_bestFrom 31 = .ok (.aload_n 0, 1) := by decide +kernel
theorem dX6_bestFrom_32 : decode cX6_bestFrom 32 = .ok (.invokevirtual 34, 3) := by decide +kernel
theorem dX6_bestFrom_35 : decode cX6_bestFrom 35 = .ok (.ifCond .ne 68, 3) := by decide +kernel
theorem dX6_bestFrom_38 : decode cX6_bestFrom 38 = .ok (.iload 4, 2) := by decide +kernel
theorem dX6_bestFrom_40 : decode cX6_bestFrom 40 = .ok (.iload 6, 2) := by decide +kernel
theorem dX6_bestFrom_42 : decode cX6_bestFrom 42 = .ok (.iushr, 1) := by decide +kernel
theorem dX6_bestFrom_43 : decode cX6_bestFrom 43 = .ok (.iconst 1, 1) := by decide +kernel
theorem dX6_bestFrom_44 : decode cX6_bestFrom 44 = .ok (.iand, 1) := by decide +kernel
theorem dX6_bestFrom_45 : decode cX6_bestFrom 45 = .ok (.ifCond .eq 52, 3) := by decide +kernel
theorem dX6_bestFrom_48 : decode cX6_bestFrom 48 = .ok (.aload_n 0, 1) := by decide +kernel
theorem dX6_bestFrom_49 : decode cX6_bestFrom 49 = .ok (.getfield 11, 3) := by decide +kernel
theorem dX6_bestFrom_52 : decode cX6_bestFrom 52 = .ok (.iload_n 1, 1) := by decide +kernel
theorem dX6_bestFrom_53 : decode cX6_bestFrom 53 = .ok (.iconst 1, 1) := by decide +kernel
theorem dX6_bestFrom_54 : decode cX6_bestFrom 54 = .ok (.iadd, 1) := by decide +kernel
theorem dX6_bestFrom_55 : decode cX6_bestFrom 55 = .ok (.aaload, 1) := by decide +kernel
theorem dX6_bestFrom_56 : decode cX6_bestFrom 56 = .ok (.aload_n 0, 1) := by decide +kernel
theorem dX6_bestFrom_57 : decode cX6_bestFrom 57 = .ok (.getfield 11, 3) := by decide +kernel
theorem dX6_bestFrom_60 : decode cX6_bestFrom 60 = .ok (.iload_n 1, 1) := by decide +kernel
theorem dX6_bestFrom_61 : decode cX6_bestFrom 61 = .ok (.aaload, 1) := by decide +kernel
theorem dX6_bestFrom_62 : decode cX6_bestFrom 62 = .ok (.invokevirtual 26, 3) := by decide +kernel
theorem dX6_bestFrom_65 : decode cX6_bestFrom 65 = .ok (.aload_n 0, 1) := by decide +kernel
theorem dX6_bestFrom_66 : decode cX6_bestFrom 66 = .ok (.getfield 11, 3) := by decide +kernel
theorem dX6_bestFrom_69 : decode cX6_bestFrom 69 = .ok (.iload_n 1, 1) := by decide +kernel
theorem dX6_bestFrom_70 : decode cX6_bestFrom 70 = .ok (.iconst 1, 1) := by decide +kernel
theorem dX6_bestFrom_71 : decode cX6_bestFrom 71 = .ok (.iadd, 1) := by decide +kernel
theorem dX6_bestFrom_72 : decode cX6_bestFrom 72 = .ok (.aaload, 1) := by decide +kernel
theorem dX6_bestFrom_73 : decode cX6_bestFrom 73 = .ok (.iload_n 3, 1) := by decide +kernel
theorem dX6_bestFrom_74 : decode cX6_bestFrom 74 = .ok (.iload 6, 2) := by decide +kernel
theorem dX6_bestFrom_76 : decode cX6_bestFrom 76 = .ok (.invokevirtual 67, 3) := by decide +kernel
theorem dX6_bestFrom_79 : decode cX6_bestFrom 79 = .ok (.iload 5, 2) := by decide +kernel
theorem dX6_bestFrom_81 : decode cX6_bestFrom 81 = .ok (.aload_n 0, 1) := by decide +kernel
theorem dX6_bestFrom_82 : decode cX6_bestFrom 82 = .ok (.iload_n 1, 1) := by decide +kernel
theorem dX6_bestFrom_83 : decode cX6_bestFrom 83 = .ok (.iconst 1, 1) := by decide +kernel
theorem dX6_bestFrom_84 : decode cX6_bestFrom 84 = .ok (.iadd, 1) := by decide +kernel
theorem dX6_bestFrom_85 : decode cX6_bestFrom 85 = .ok (.iload_n 2, 1) := by decide +kernel
theorem dX6_bestFrom_86 : decode cX6_bestFrom 86 = .ok (.iconst 1, 1) := by decide +kernel
theorem dX6_bestFrom_87 : decode cX6_bestFrom 87 = .ok (.isub, 1) := by decide +kernel
theorem dX6_bestFrom_88 : decode cX6_bestFrom 88 = .ok (.invokevirtual 30, 3) := by decide +kernel
theorem dX6_bestFrom_91 : decode cX6_bestFrom 91 = .ok (.ineg, 1) := by decide +kernel
theorem dX6_bestFrom_92 : decode cX6_bestFrom 92 = .ok (.invokestatic 62, 3) := by decide +kernel
theorem dX6_bestFrom_95 : decode cX6_bestFrom 95 = .ok (.istore 5, 2) := by decide +kernel
theorem dX6_bestFrom_97 : decode cX6_bestFrom 97 = .ok (.iinc 6 1, 3) := by decide +kernel
theorem dX6_bestFrom_100 : decode cX6_bestFrom 100 = .ok (.goto (-87), 3) := by decide +kernel
theorem dX6_bestFrom_103 : decode cX6_bestFrom 103 = .ok (.iload 5, 2) := by decide +kernel
theorem dX6_bestFrom_105 : decode cX6_bestFrom 105 = .ok (.ireturn, 1) := by decide +kernel
def rm_X6_bestFrom_d4 : Room := { frames := 0, cells := 0, slots := 0, locals := 0 }
set_option maxRecDepth 100000 in
set_option maxHeartbeats 4000000 in
theorem c_X6_bestFrom_d4 (l : Launch) (E : zE) (hV : zV E) (H0 : Heap) (hT0 : HT E H0) (h0 : Nat) (kh0 : eK E h0 = 7) (p0 : Int32) (p0_lo : 4 ≤ p0.toInt) (p0_hi : p0.toInt ≤ 4) (p1 : Int32) (p2 : Int32) (p3 : Int32) : Met l yX6_bestFrom (zws yX6_bestFrom cX6_bestFrom 7 (some .int)) rm_X6_bestFrom_d4 (zP E H0 [.ref h0, .int p0, .int p1, .int p2, .int p3]) (zPI (fun r => (-1) ≤ r.toInt ∧ r.toInt ≤ (-1))) 0 0 (fun _ => False) := by
  refine zEnt (by decide) (Nat.le_of_ble_eq_true rfl) (fun p e s m args below meth c ls Q B hr hlk hh hQ hl => ?_)
  have hx := B.1
  have hb := B.2.1
  have hl : lv_has ls 7 [(0, .ref h0), (1, .int p0), (2, .int p1), (3, .int p2), (4, .int p3)] := hl
  refine lv_iload_n hx hb dX6_bestFrom_0 rfl (lv_at hl 1 rfl) ?_
  refine lv_iconst (v := 4) hx hb dX6_bestFrom_1 (by decide) ?_
  refine lv_icmp_lt (tgt := 7) hx hb dX6_bestFrom_2 (by decide) (fun c_1 => ?_) (fun c_1 => ?_)
  · have f_1 := z_lt c_1 rfl kl_4
    exact False.elim (by omega)
  · have f_1 := z_nlt c_1 rfl kl_4
    refine lv_iconst (v := (-1)) hx hb dX6_bestFrom_5 (by decide) ?_
    have := kl_m1
    have := kl_m1
    exact rtPI (v := (-1)) B hr hlk hh hQ rfl ⟨by omega, by omega⟩ dX6_bestFrom_6

theorem dX6_worthAt_0 : decode cX6_worthAt 0 = .ok (.aload_n 0, 1) := by decide +kernel
theorem dX6_worthAt_1 : decode cX6_worthAt 1 = .ok (.dup, 1) := by decide +kernel
theorem dX6_worthAt_2 : decode cX6_worthAt 2 = .ok (.getfield 17, 3) := by decide +kernel
theorem dX6_worthAt_5 : decode cX6_worthAt 5 = .ok (.iconst 1, 1) := by decide +kernel
theorem dX6_worthAt_6 : decode cX6_worthAt 6 = .ok (.iadd, 1) := by decide +kernel
theorem dX6_worthAt_7 : decode cX6_worthAt 7 = .ok (.putfield 17, 3) := by decide +kernel
theorem dX6_worthAt_10 : decode cX6_worthAt 10 = .ok (.aload_n 0, 1) := by decide +kernel
theorem dX6_worthAt_11 : decode cX6_worthAt 11 = .ok (.invokevirtual 34, 3) := by decide +kernel
theorem dX6_worthAt_14 : decode cX6_worthAt 14 = .ok (.ifCond .eq 5, 3) := by decide +kernel
theorem dX6_worthAt_17 : decode cX6_worthAt 17 = .ok (.iconst 0, 1) := by decide +kernel
theorem dX6_worthAt_18 : decode cX6_worthAt 18 = .ok (.ireturn, 1) := by decide +kernel
theorem dX6_worthAt_19 : decode cX6_worthAt 19 = .ok (.aload_n 0, 1) := by decide +kernel
theorem dX6_worthAt_20 : decode cX6_worthAt 20 = .ok (.getfield 11, 3) := by decide +kernel
theorem dX6_worthAt_23 : decode cX6_worthAt 23 = .ok (.iload_n 1, 1) := by decide +kernel
theorem dX6_worthAt_24 : decode cX6_worthAt 24 = .ok (.aaload, 1) := by decide +kernel
theorem dX6_worthAt_25 : decode cX6_worthAt 25 = .ok (.astore_n 3, 1) := by decide +kernel
theorem dX6_worthAt_26 : decode cX6_worthAt 26 = .ok (.aload_n 0, 1) := by decide +kernel
theorem dX6_worthAt_27 : decode cX6_worthAt 27 = .ok (.getfield 21, 3) := by decide +kernel
theorem dX6_worthAt_30 : decode cX6_worthAt 30 = .ok (.aload_n 3, 1) := by decide +kernel
theorem dX6_worthAt_31 : decode cX6_worthAt 31 = .ok (.invokevirtual 38, 3) := by decide +kernel
theorem dX6_worthAt_34 : decode cX6_worthAt 34 = .ok (.istore 4, 2) := by decide +kernel
theorem dX6_worthAt_36 : decode cX6_worthAt 36 = .ok (.iload 4, 2) := by decide +kernel
theorem dX6_worthAt_38 : decode cX6_worthAt 38 = .ok (.iconst (-1), 1) := by decide +kernel
theorem dX6_worthAt_39 : decode cX6_worthAt 39 = .ok (.if_icmp .eq 18, 3) := by decide +kernel
theorem dX6_worthAt_42 : decode cX6_worthAt 42 = .ok (.iload 4, 2) := by decide +kernel
theorem dX6_worthAt_44 : decode cX6_worthAt 44 = .ok (.aload_n 3, 1) := by decide +kernel
theorem dX6_worthAt_45 : decode cX6_worthAt 45 = .ok (.getfield 44, 3) := by decide +kernel
theorem dX6_worthAt_48 : decode cX6_worthAt 48 = .ok (.if_icmp .ne 7, 3) := by decide +kernel
theorem dX6_worthAt_51 : decode cX6_worthAt 51 = .ok (.iconst (-1), 1) := by decide +kernel
theorem dX6_worthAt_52 : decode cX6_worthAt 52 = .ok (.goto 4, 3) := by decide +kernel
theorem dX6_worthAt_55 : decode cX6_worthAt 55 = .ok (.iconst 1, 1) := by decide +kernel
theorem dX6_worthAt_56 : decode cX6_worthAt 56 = .ok (.ireturn, 1) := by decide +kernel
theorem dX6_worthAt_57 : decode cX6_worthAt 57 = .ok (.iload_n 2, 1) := by decide +kernel
theorem dX6_worthAt_58 : decode cX6_worthAt 58 = .ok (.ifCond .le 8, 3) := by decide +kernel
theorem dX6_worthAt_61 : decode cX6_worthAt 61 = .ok (.iload_n 1, 1) := by decide +kernel
theorem dX6_worthAt_62 : decode cX6_worthAt 62 = .ok (.iconst 4, 1) := by decide +kernel
theorem dX6_worthAt_63 : decode cX6_worthAt 63 = .ok (.if_icmp .lt 20, 3) := by decide +kernel
theorem dX6_worthAt_66 : decode cX6_worthAt 66 = .ok (.aload_n 0, 1) := by decide +kernel
theorem dX6_worthAt_67 : decode cX6_worthAt 67 = .ok (.getfield 21, 3) := by decide +kernel
theorem dX6_worthAt_70 : decode cX6_worthAt 70 = .ok (.aload_n 3, 1) := by decide +kernel
theorem dX6_worthAt_71 : decode cX6_worthAt 71 = .ok (.invokevirtual 47, 3) := by decide +kernel
theorem dX6_worthAt_74 : decode cX6_worthAt 74 = .ok (.ifCond .eq 7, 3) := by decide +kernel
theorem dX6_worthAt_77 : decode cX6_worthAt 77 = .ok (.iconst 0, 1) := by decide +kernel
theorem dX6_worthAt_78 : decode cX6_worthAt 78 = .ok (.goto 4, 3) := by decide +kernel
theorem dX6_worthAt_81 : decode cX6_worthAt 81 = .ok (.iconst (-1), 1) := by decide +kernel
theorem dX6_worthAt_82 : decode cX6_worthAt 82 = .ok (.ireturn, 1) := by decide +kernel
theorem dX6_worthAt_83 : decode cX6_worthAt 83 = .ok (.iconst (-1), 1) := by decide +kernel
theorem dX6_worthAt_84 : decode cX6_worthAt 84 = .ok (.istore 5, 2) := by decide +kernel
theorem dX6_worthAt_86 : decode cX6_worthAt 86 = .ok (.iconst 0, 1) := by decide +kernel
theorem dX6_worthAt_87 : decode cX6_worthAt 87 = .ok (.istore 6, 2) := by decide +kernel
theorem dX6_worthAt_89 : decode cX6_worthAt 89 = .ok (.iload 6, 2) := by decide +kernel
theorem dX6_worthAt_91 : decode cX6_worthAt 91 = .ok (.aload_n 0, 1) := by decide +kernel
theorem dX6_worthAt_92 : decode cX6_worthAt 92 = .ok (.getfield 21, 3) := by decide +kernel
theorem dX6_worthAt_95 : decode cX6_worthAt 95 = .ok (.getfield 51, 3) := by decide +kernel
theorem dX6_worthAt_98 : decode cX6_worthAt 98 = .ok (.if_icmp .ge 56, 3) := by decide +kernel
theorem dX6_worthAt_101 : decode cX6_worthAt 101 = .ok (.iload 5, 2) := by decide +kernel
theorem dX6_worthAt_103 : decode cX6_worthAt 103 = .ok (.iconst 1, 1) := by decide +kernel
theorem dX6_worthAt_104 : decode cX6_worthAt 104 = .ok (.if_icmp .ge 50, 3) := by decide +kernel
theorem dX6_worthAt_107 : decode cX6_worthAt 107 = .ok (.aload_n 0, 1) := by decide +kernel
theorem dX6_worthAt_108 : decode cX6_worthAt 108 = .ok (.invokevirtual 34, 3) := by decide +kernel
theorem dX6_worthAt_111 : decode cX6_worthAt 111 = .ok (.ifCond .ne 43, 3) := by decide +kernel
theorem dX6_worthAt_114 : decode cX6_worthAt 114 = .ok (.aload_n 0, 1) := by decide +kernel
theorem dX6_worthAt_115 : decode cX6_worthAt 115 = .ok (.getfield 21, 3) := by decide +kernel
theorem dX6_worthAt_118 : decode cX6_worthAt 118 = .ok (.aload_n 3, 1) := by decide +kernel
theorem dX6_worthAt_119 : decode cX6_worthAt 119 = .ok (.iload 6, 2) := by decide +kernel
theorem dX6_worthAt_121 : decode cX6_worthAt 121 = .ok (.invokevirtual 54, 3) := by decide +kernel
theorem dX6_worthAt_124 : decode cX6_worthAt 124 = .ok (.istore 7, 2) := by decide +kernel
theorem dX6_worthAt_126 : decode cX6_worthAt 126 = .ok (.iload 7, 2) := by decide +kernel
theorem dX6_worthAt_128 : decode cX6_worthAt 128 = .ok (.ifCond .eq 20, 3) := by decide +kernel
theorem dX6_worthAt_131 : decode cX6_worthAt 131 = .ok (.iload 5, 2) := by decide +kernel
theorem dX6_worthAt_133 : decode cX6_worthAt 133 = .ok (.aload_n 0, 1) := by decide +kernel
theorem dX6_worthAt_134 : decode cX6_worthAt 134 = .ok (.iload_n 1, 1) := by decide +kernel
theorem dX6_worthAt_135 : decode cX6_worthAt 135 = .ok (.iload_n 2, 1) := by decide +kernel
theorem dX6_worthAt_136 : decode cX6_worthAt 136 = .ok (.iload 6, 2) := by decide +kernel
theorem dX6_worthAt_138 : decode cX6_worthAt 138 = .ok (.iload 7, 2) := by decide +kernel
theorem dX6_worthAt_140 : decode cX6_worthAt 140 = .ok (.invokevirtual 58, 3) := by decide +kernel
theorem dX6_worthAt_143 : decode cX6_worthAt 143 = .ok (.invokestatic 62, 3) := by decide +kernel
theorem dX6_worthAt_146 : decode cX6_worthAt 146 = .ok (.istore 5, 2) := by decide +kernel
theorem dX6_worthAt_148 : decode cX6_worthAt 148 = .ok (.iinc 6 1, 3) := by decide +kernel
theorem dX6_worthAt_151 : decode cX6_worthAt 151 = .ok (.goto (-62), 3) := by decide +kernel
theorem dX6_worthAt_154 : decode cX6_worthAt 154 = .ok (.iload 5, 2) := by decide +kernel
theorem dX6_worthAt_156 : decode cX6_worthAt 156 = .ok (.ireturn, 1) := by decide +kernel
def rm_X6_worthAt_d4 : Room := { frames := 3, cells := 0, slots := 0, locals := 81 }
abbrev wS_X6_worthAt_d4 : List (Nat × Nat) := [(7, 2)]
set_option maxRecDepth 100000 in
set_option maxHeartbeats 4000000 in
theorem c_X6_worthAt_d4 (l : Launch) (E : zE) (hV : zV E) (H0 : Heap) (hT0 : HT E H0) (h0 : Nat) (kh0 : eK E h0 = 7) (p0 : Int32) (p0_lo : 4 ≤ p0.toInt) (p0_hi : p0.toInt ≤ 4) (p1 : Int32) : Met l yX6_worthAt (zws yX6_worthAt cX6_worthAt 8 (some .int)) rm_X6_worthAt_d4 (zP E H0 [.ref h0, .int p0, .int p1]) (zQI E E wS_X6_worthAt_d4 (fun r H1 => (-1) ≤ r.toInt ∧ r.toInt ≤ 1)) 0 0 (zfr E) := by
  refine zEnt (by decide) (Nat.le_of_ble_eq_true rfl) (fun p e s m args below meth c ls Q B hr hlk hh hQ hl => ?_)
  have hx := B.1
  have hb := B.2.1
  have hG0 : zG E wS_X6_worthAt_d4 H0 H0 [] := zG.rf hT0
  have hl : lv_has ls 8 [(0, .ref h0), (1, .int p0), (2, .int p1)] := hl
  have b66 : ∀ (H66 : Heap) (lc66 : List Loc) (ls : Array Slot) (v66_3 : Nat) (u66_h0_0 : Nat), zG E wS_X6_worthAt_d4 H0 H66 lc66 → lv_has ls 8 [(0, .ref h0), (3, .ref v66_3)] → eK E v66_3 = 5 → eK E u66_h0_0 = 3 → sl H66 h0 (zix E 7 0) = some (.ref u66_h0_0) → W p l e rm_X6_worthAt_d4 s m args below meth c H66 lc66 0 0 Q (F0 m 66 ls []) := by
    intro H66 lc66 ls v66_3 u66_h0_0 gH66 hl k_v66_3 k_u66_h0_0 s66_u66_h0_0
    refine lv_aload_n hx hb dX6_worthAt_66 rfl (lv_at hl 0 rfl) ?_
    refine g_get B fl_RX6_21 gH66.1 kh0 rfl rfl rfl dX6_worthAt_67 s66_u66_h0_0 ?_
    refine lv_aload_n hx hb dX6_worthAt_70 rfl (lv_at hl 1 rfl) ?_
    refine zkPI (zrV (rest := []) B (c_X2_canMove l E hV H66 gH66.1 u66_h0_0 k_u66_h0_0 v66_3 k_v66_3) cl_RX6_47 gH66.1 k_u66_h0_0 rfl rfl rfl rfl hl.1 rfl (Nat.le_of_ble_eq_true rfl) dX6_worthAt_71 rfl rfl ⟨rfl, rfl⟩ ⟨Nat.zero_le _, Nat.zero_le _⟩ (zO.of gH66 hh)) (fun x_1 hp_1 => ?_)
    obtain ⟨hp_1_1, hp_1_2⟩ := hp_1
    refine lv_if_eq (tgt := 81) hx hb dX6_worthAt_74 (by decide) (fun c_2 => ?_) (fun c_2 => ?_)
    · have f_2 := z_eq c_2 rfl kl_0
      refine lv_iconst (v := (-1)) hx hb dX6_worthAt_81 (by decide) ?_
      have := kl_m1
      have := kl_m1
      exact rtI (v := (-1)) B hr hlk hh hQ gH66 rfl ⟨by omega, by omega⟩ dX6_worthAt_82
    · have f_2 := z_ne c_2 rfl kl_0
      refine lv_iconst (v := 0) hx hb dX6_worthAt_77 (by decide) ?_
      refine lv_goto (tgt := 82) hx hb dX6_worthAt_78 (by decide) ?_
      have := kl_0
      have := kl_0
      exact rtI (v := 0) B hr hlk hh hQ gH66 rfl ⟨by omega, by omega⟩ dX6_worthAt_82
  refine lv_aload_n hx hb dX6_worthAt_0 rfl (lv_at hl 0 rfl) ?_
  refine lv_dup hx hb dX6_worthAt_1 rfl ?_
  refine g_getI B fl_RX6_17 hT0 kh0 rfl rfl rfl rfl rfl dX6_worthAt_2 (fun x_3 s_3 a_3 b_3 => ?_)
  refine lv_iconst (v := 1) hx hb dX6_worthAt_5 (by decide) ?_
  refine lv_iadd hx hb dX6_worthAt_6 ?_
  refine lv_topi (fun x_4 e_4 => ?_)
  refine g_putI B fp_RX6_17 hV hG0 kh0 rfl rfl rfl rfl rfl (z_rng _).1 (z_rng _).2 rfl dX6_worthAt_7 (fun H5 lc5 gH5 uH5 => ?_)
  refine lv_aload_n hx hb dX6_worthAt_10 rfl (lv_at hl 0 rfl) ?_
  refine zkPI (zrV (rest := []) B (c_X6_isSpent l E hV H5 gH5.1 h0 kh0) cl_RX6_34 gH5.1 kh0 rfl rfl rfl rfl hl.1 rfl (Nat.le_of_ble_eq_true rfl) dX6_worthAt_11 rfl rfl ⟨rfl, rfl⟩ ⟨Nat.zero_le _, Nat.zero_le _⟩ (zO.of gH5 hh)) (fun x_6 hp_6 => ?_)
  obtain ⟨hp_6_1, hp_6_2⟩ := hp_6
  refine lv_if_eq (tgt := 19) hx hb dX6_worthAt_14 (by decide) (fun c_7 => ?_) (fun c_7 => ?_)
  · have f_7 := z_eq c_7 rfl kl_0
    refine lv_aload_n hx hb dX6_worthAt_19 rfl (lv_at hl 0 rfl) ?_
    refine g_getR B fl_RX6_11 gH5.1 kh0 rfl rfl rfl rfl rfl dX6_worthAt_20 (fun q_8 s_8 k_q_8 => ?_)
    refine lv_iload_n hx hb dX6_worthAt_23 rfl (lv_at hl 1 rfl) ?_
    refine g_aaldI (i := p0) (N := 5) B gH5.1 k_q_8 rfl rfl rfl rfl rfl (by omega) (by omega) rfl dX6_worthAt_24 (fun q_9 s_9 k_q_9 => ?_)
    refine lv_astore_n (lv' := [(3, .ref q_9), (0, .ref h0), (1, .int p0), (2, .int p1)]) hx hb dX6_worthAt_25 rfl hl (by decide) rfl (fun ls hl => ?_)
    refine lv_aload_n hx hb dX6_worthAt_26 rfl (lv_at hl 1 rfl) ?_
    refine g_getR B fl_RX6_21 gH5.1 kh0 rfl rfl rfl rfl rfl dX6_worthAt_27 (fun q_10 s_10 k_q_10 => ?_)
    refine lv_aload_n hx hb dX6_worthAt_30 rfl (lv_at hl 0 rfl) ?_
    refine zkPI (zrV (rest := []) B (c_X2_kingless l E hV H5 gH5.1 q_10 k_q_10 q_9 k_q_9) cl_RX6_38 gH5.1 k_q_10 rfl rfl rfl rfl hl.1 rfl (Nat.le_of_ble_eq_true rfl) dX6_worthAt_31 rfl rfl ⟨rfl, rfl⟩ ⟨Nat.zero_le _, Nat.zero_le _⟩ (zO.of gH5 hh)) (fun x_11 hp_11 => ?_)
    obtain ⟨hp_11_1, hp_11_2⟩ := hp_11
    refine lv_istore (lv' := [(4, .int x_11), (3, .ref q_9), (0, .ref h0), (1, .int p0), (2, .int p1)]) hx hb dX6_worthAt_34 hl (by decide) rfl (fun ls hl => ?_)
    refine lv_iload hx hb dX6_worthAt_36 (lv_at hl 0 rfl) ?_
    refine lv_iconst (v := (-1)) hx hb dX6_worthAt_38 (by decide) ?_
    refine lv_icmp_eq (tgt := 57) hx hb dX6_worthAt_39 (by decide) (fun c_12 => ?_) (fun c_12 => ?_)
    · have f_12 := z_eq c_12 rfl kl_m1
      refine lv_iload_n hx hb dX6_worthAt_57 rfl (lv_at hl 4 rfl) ?_
      refine lv_if_le (tgt := 66) hx hb dX6_worthAt_58 (by decide) (fun c_13 => ?_) (fun c_13 => ?_)
      · have f_13 := z_le c_13 rfl kl_0
        exact b66 H5 lc5 ls q_9 q_10 gH5 (lv_sub hl [2, 1] rfl) k_q_9 k_q_10 s_10
      · have f_13 := z_nle c_13 rfl kl_0
        refine lv_iload_n hx hb dX6_worthAt_61 rfl (lv_at hl 3 rfl) ?_
        refine lv_iconst (v := 4) hx hb dX6_worthAt_62 (by decide) ?_
        refine lv_icmp_lt (tgt := 83) hx hb dX6_worthAt_63 (by decide) (fun c_14 => ?_) (fun c_14 => ?_)
        · have f_14 := z_lt c_14 rfl kl_4
          exact False.elim (by omega)
        · have f_14 := z_nlt c_14 rfl kl_4
          exact b66 H5 lc5 ls q_9 q_10 gH5 (lv_sub hl [2, 1] rfl) k_q_9 k_q_10 s_10
    · have f_12 := z_ne c_12 rfl kl_m1
      refine lv_iload hx hb dX6_worthAt_42 (lv_at hl 0 rfl) ?_
      refine lv_aload_n hx hb dX6_worthAt_44 rfl (lv_at hl 1 rfl) ?_
      refine g_getI B fl_RX6_44 gH5.1 k_q_9 rfl rfl rfl rfl rfl dX6_worthAt_45 (fun x_15 s_15 a_15 b_15 => ?_)
      refine lv_icmp_ne (tgt := 55) hx hb dX6_worthAt_48 (by decide) (fun c_16 => ?_) (fun c_16 => ?_)
      · have f_16 := z_ne c_16 rfl rfl
        refine lv_iconst (v := 1) hx hb dX6_worthAt_55 (by decide) ?_
        have := kl_1
        have := kl_1
        exact rtI (v := 1) B hr hlk hh hQ gH5 rfl ⟨by omega, by omega⟩ dX6_worthAt_56
      · have f_16 := z_eq c_16 rfl rfl
        refine lv_iconst (v := (-1)) hx hb dX6_worthAt_51 (by decide) ?_
        refine lv_goto (tgt := 56) hx hb dX6_worthAt_52 (by decide) ?_
        have := kl_m1
        have := kl_m1
        exact rtI (v := (-1)) B hr hlk hh hQ gH5 rfl ⟨by omega, by omega⟩ dX6_worthAt_56
  · have f_7 := z_ne c_7 rfl kl_0
    refine lv_iconst (v := 0) hx hb dX6_worthAt_17 (by decide) ?_
    have := kl_0
    have := kl_0
    exact rtI (v := 0) B hr hlk hh hQ gH5 rfl ⟨by omega, by omega⟩ dX6_worthAt_18

def rm_X6_bestFrom_d3 : Room := { frames := 4, cells := 0, slots := 0, locals := 108 }
abbrev wS_X6_bestFrom_d3 : List (Nat × Nat) := [(5, 0), (5, 1), (5, 2), (5, 3), (5, 4), (5, 5), (5, 6), (7, 2)]
set_option maxRecDepth 100000 in
set_option maxHeartbeats 4000000 in
theorem c_X6_bestFrom_d3 (l : Launch) (E : zE) (hV : zV E) (H0 : Heap) (hT0 : HT E H0) (h0 : Nat) (kh0 : eK E h0 = 7) (p0 : Int32) (p0_lo : 3 ≤ p0.toInt) (p0_hi : p0.toInt ≤ 3) (p1 : Int32) (p2 : Int32) (p3 : Int32) : Met l yX6_bestFrom (zws yX6_bestFrom cX6_bestFrom 7 (some .int)) rm_X6_bestFrom_d3 (zP E H0 [.ref h0, .int p0, .int p1, .int p2, .int p3]) (zQI E E wS_X6_bestFrom_d3 (fun r H1 => (-1) ≤ r.toInt ∧ r.toInt ≤ 1)) 0 0 (zfr E) := by
  refine zEnt (by decide) (Nat.le_of_ble_eq_true rfl) (fun p e s m args below meth c ls Q B hr hlk hh hQ hl => ?_)
  have hx := B.1
  have hb := B.2.1
  have hG0 : zG E wS_X6_bestFrom_d3 H0 H0 [] := zG.rf hT0
  have hl : lv_has ls 7 [(0, .ref h0), (1, .int p0), (2, .int p1), (3, .int p2), (4, .int p3)] := hl
  have b13 : ∀ (n13 : Nat) (H13 : Heap) (lc13 : List Loc) (ls : Array Slot) (v13_5 : Int32) (v13_6 : Int32), 30 - v13_6.toInt < (n13 : Int) → zG E wS_X6_bestFrom_d3 H0 H13 lc13 → lv_has ls 7 [(0, .ref h0), (1, .int p0), (2, .int p1), (3, .int p2), (4, .int p3), (5, .int v13_5), (6, .int v13_6)] → (-1) ≤ v13_5.toInt → v13_5.toInt ≤ 1 → 0 ≤ v13_6.toInt → v13_6.toInt ≤ 30 → W p l e rm_X6_bestFrom_d3 s m args below meth c H13 lc13 0 0 Q (F0 m 13 ls []) := by
    intro n13
    induction n13 with
    | zero =>
      intro H13 lc13 ls v13_5 v13_6 hm13 gH13 hl f13_1 f13_2 f13_3 f13_4
      exact absurd hm13 (by omega)
    | succ n13 ih13 =>
      intro H13 lc13 ls v13_5 v13_6 hm13 gH13 hl f13_1 f13_2 f13_3 f13_4
      have b97 : ∀ (H97 : Heap) (lc97 : List Loc) (ls : Array Slot) (v97_5 : Int32) (u97_h0_0 : Nat), zG E wS_X6_bestFrom_d3 H0 H97 lc97 → lv_has ls 7 [(0, .ref h0), (1, .int p0), (2, .int p1), (3, .int p2), (4, .int p3), (5, .int v97_5), (6, .int v13_6)] → eK E u97_h0_0 = 3 → (-1) ≤ v97_5.toInt → v97_5.toInt ≤ 1 → v13_6.toInt ≤ 29 → sl H97 h0 (zix E 7 0) = some (.ref u97_h0_0) → W p l e rm_X6_bestFrom_d3 s m args below meth c H97 lc97 0 0 Q (F0 m 97 ls []) := by
        intro H97 lc97 ls v97_5 u97_h0_0 gH97 hl k_u97_h0_0 f97_1 f97_2 f97_3 s97_u97_h0_0
        obtain ⟨x_1, e_1⟩ : ∃ y : Int32, (v13_6 : Int32) + Int32.ofInt 1 = y := ⟨_, rfl⟩
        refine lv_iinc (v := x_1) (lv' := [(6, .int x_1), (0, .ref h0), (1, .int p0), (2, .int p1), (3, .int p2), (4, .int p3), (5, .int v97_5)]) hx hb dX6_bestFrom_97 hl (k := 6) rfl e_1 (by decide) rfl (fun ls hl => ?_)
        have t_1 := z_inc2 e_1 rfl (by decide) (by omega) (by omega)
        refine lv_goto (tgt := 13) hx hb dX6_bestFrom_100 (by decide) ?_
        exact ih13 H97 lc97 ls v97_5 x_1 (by omega) gH97 (lv_sub hl [1, 2, 3, 4, 5, 6, 0] rfl) (by omega) (by omega) (by omega) (by omega)
      refine lv_iload hx hb dX6_bestFrom_13 (lv_at hl 6 rfl) ?_
      refine lv_aload_n hx hb dX6_bestFrom_15 rfl (lv_at hl 0 rfl) ?_
      refine g_getR B fl_RX6_21 gH13.1 kh0 rfl rfl rfl rfl rfl dX6_bestFrom_16 (fun q_2 s_2 k_q_2 => ?_)
      refine g_getI B fl_RX6_51 gH13.1 k_q_2 rfl rfl rfl rfl rfl dX6_bestFrom_19 (fun x_3 s_3 a_3 b_3 => ?_)
      refine lv_icmp_ge (tgt := 103) hx hb dX6_bestFrom_22 (by decide) (fun c_4 => ?_) (fun c_4 => ?_)
      · have f_4 := z_le c_4 rfl rfl
        refine lv_iload hx hb dX6_bestFrom_103 (lv_at hl 5 rfl) ?_
        exact rtI (v := v13_5) B hr hlk hh hQ gH13 rfl ⟨by omega, by omega⟩ dX6_bestFrom_105
      · have f_4 := z_nle c_4 rfl rfl
        refine lv_iload hx hb dX6_bestFrom_25 (lv_at hl 5 rfl) ?_
        refine lv_iconst (v := 1) hx hb dX6_bestFrom_27 (by decide) ?_
        refine lv_icmp_ge (tgt := 103) hx hb dX6_bestFrom_28 (by decide) (fun c_5 => ?_) (fun c_5 => ?_)
        · have f_5 := z_le c_5 kl_1 rfl
          refine lv_iload hx hb dX6_bestFrom_103 (lv_at hl 5 rfl) ?_
          exact rtI (v := v13_5) B hr hlk hh hQ gH13 rfl ⟨by omega, by omega⟩ dX6_bestFrom_105
        · have f_5 := z_nle c_5 kl_1 rfl
          refine lv_aload_n hx hb dX6_bestFrom_31 rfl (lv_at hl 0 rfl) ?_
          refine zkPI (zrV (rest := []) B (c_X6_isSpent l E hV H13 gH13.1 h0 kh0) cl_RX6_34 gH13.1 kh0 rfl rfl rfl rfl hl.1 rfl (Nat.le_of_ble_eq_true rfl) dX6_bestFrom_32 rfl rfl ⟨rfl, rfl⟩ ⟨Nat.zero_le _, Nat.zero_le _⟩ (zO.of gH13 hh)) (fun x_6 hp_6 => ?_)
          obtain ⟨hp_6_1, hp_6_2⟩ := hp_6
          refine lv_if_ne (tgt := 103) hx hb dX6_bestFrom_35 (by decide) (fun c_7 => ?_) (fun c_7 => ?_)
          · have f_7 := z_ne c_7 rfl kl_0
            refine lv_iload hx hb dX6_bestFrom_103 (lv_at hl 5 rfl) ?_
            exact rtI (v := v13_5) B hr hlk hh hQ gH13 rfl ⟨by omega, by omega⟩ dX6_bestFrom_105
          · have f_7 := z_eq c_7 rfl kl_0
            refine lv_iload hx hb dX6_bestFrom_38 (lv_at hl 4 rfl) ?_
            refine lv_iload hx hb dX6_bestFrom_40 (lv_at hl 6 rfl) ?_
            refine lv_iushr hx hb dX6_bestFrom_42 rfl ?_
            refine lv_topi (fun x_8 e_8 => ?_)
            refine lv_iconst (v := 1) hx hb dX6_bestFrom_43 (by decide) ?_
            refine lv_iand hx hb dX6_bestFrom_44 ?_
            refine lv_topi (fun x_9 e_9 => ?_)
            have t_9 := z_andR e_9 kl_1 (by omega)
            refine lv_if_eq (tgt := 97) hx hb dX6_bestFrom_45 (by decide) (fun c_10 => ?_) (fun c_10 => ?_)
            · have f_10 := z_eq c_10 rfl kl_0
              exact b97 H13 lc13 ls v13_5 q_2 gH13 (lv_sub hl [0, 1, 2, 3, 4, 5, 6] rfl) k_q_2 (by omega) (by omega) (by omega) s_2
            · have f_10 := z_ne c_10 rfl kl_0
              refine lv_aload_n hx hb dX6_bestFrom_48 rfl (lv_at hl 0 rfl) ?_
              refine g_getR B fl_RX6_11 gH13.1 kh0 rfl rfl rfl rfl rfl dX6_bestFrom_49 (fun q_11 s_11 k_q_11 => ?_)
              refine lv_iload_n hx hb dX6_bestFrom_52 rfl (lv_at hl 1 rfl) ?_
              refine lv_iconst (v := 1) hx hb dX6_bestFrom_53 (by decide) ?_
              refine lv_iadd hx hb dX6_bestFrom_54 ?_
              refine lv_topi (fun x_12 e_12 => ?_)
              have t_12 := z_add e_12 rfl kl_1 (by omega) (by omega)
              refine g_aaldI (i := x_12) (N := 5) B gH13.1 k_q_11 rfl rfl rfl rfl rfl (by omega) (by omega) rfl dX6_bestFrom_55 (fun q_13 s_13 k_q_13 => ?_)
              refine lv_aload_n hx hb dX6_bestFrom_56 rfl (lv_at hl 0 rfl) ?_
              refine g_get B fl_RX6_11 gH13.1 kh0 rfl rfl rfl dX6_bestFrom_57 s_11 ?_
              refine lv_iload_n hx hb dX6_bestFrom_60 rfl (lv_at hl 1 rfl) ?_
              refine g_aaldI (i := p0) (N := 5) B gH13.1 k_q_11 rfl rfl rfl rfl rfl (by omega) (by omega) rfl dX6_bestFrom_61 (fun q_14 s_14 k_q_14 => ?_)
              refine zkV (zrV (rest := []) B (c_X4_copyOf l E hV H13 gH13.1 q_13 k_q_13 q_14 k_q_14) cl_RX6_26 gH13.1 k_q_13 rfl rfl rfl rfl hl.1 rfl (Nat.le_of_ble_eq_true rfl) dX6_bestFrom_62 rfl rfl ⟨rfl, rfl⟩ ⟨Nat.zero_le _, Nat.zero_le _⟩ (zO.of gH13 hh)) gH13 rfl (fun H15 lc15 hp_15 gH15 rH15 => ?_)
              have s_16 := rH15.keep hV kh0 rfl s_2
              have s_17 := rH15.keep hV k_q_2 rfl s_3
              have s_18 := rH15.keep hV kh0 rfl s_11
              have s_19 := rH15.keepA k_q_11 rfl s_13
              have s_20 := rH15.keepA k_q_11 rfl s_14
              refine lv_aload_n hx hb dX6_bestFrom_65 rfl (lv_at hl 0 rfl) ?_
              refine g_get B fl_RX6_11 gH15.1 kh0 rfl rfl rfl dX6_bestFrom_66 s_18 ?_
              refine lv_iload_n hx hb dX6_bestFrom_69 rfl (lv_at hl 1 rfl) ?_
              refine lv_iconst (v := 1) hx hb dX6_bestFrom_70 (by decide) ?_
              refine lv_iadd hx hb dX6_bestFrom_71 ?_
              refine lv_topi (fun x_21 e_21 => ?_)
              have t_21 := z_add e_21 rfl kl_1 (by omega) (by omega)
              refine g_aaldI (i := x_21) (N := 5) B gH15.1 k_q_11 rfl rfl rfl rfl rfl (by omega) (by omega) rfl dX6_bestFrom_72 (fun q_22 s_22 k_q_22 => ?_)
              refine lv_iload_n hx hb dX6_bestFrom_73 rfl (lv_at hl 3 rfl) ?_
              refine lv_iload hx hb dX6_bestFrom_74 (lv_at hl 6 rfl) ?_
              refine zkV (zrV (rest := []) B (c_X4_carry l E hV H15 gH15.1 q_22 k_q_22 p2 v13_6) cl_RX6_67 gH15.1 k_q_22 rfl rfl rfl rfl hl.1 rfl (Nat.le_of_ble_eq_true rfl) dX6_bestFrom_76 rfl rfl ⟨rfl, rfl⟩ ⟨Nat.zero_le _, Nat.zero_le _⟩ (zO.of gH15 hh)) gH15 rfl (fun H23 lc23 hp_23 gH23 rH23 => ?_)
              have s_24 := rH23.keep hV kh0 rfl s_16
              have s_25 := rH23.keep hV k_q_2 rfl s_17
              have s_26 := rH23.keep hV kh0 rfl s_18
              have s_27 := rH23.keepA k_q_11 rfl s_19
              have s_28 := rH23.keepA k_q_11 rfl s_20
              have s_29 := rH23.keepA k_q_11 rfl s_22
              refine lv_iload hx hb dX6_bestFrom_79 (lv_at hl 5 rfl) ?_
              refine lv_aload_n hx hb dX6_bestFrom_81 rfl (lv_at hl 0 rfl) ?_
              refine lv_iload_n hx hb dX6_bestFrom_82 rfl (lv_at hl 1 rfl) ?_
              refine lv_iconst (v := 1) hx hb dX6_bestFrom_83 (by decide) ?_
              refine lv_iadd hx hb dX6_bestFrom_84 ?_
              refine lv_topi (fun x_30 e_30 => ?_)
              have t_30 := z_add e_30 rfl kl_1 (by omega) (by omega)
              refine lv_iload_n hx hb dX6_bestFrom_85 rfl (lv_at hl 2 rfl) ?_
              refine lv_iconst (v := 1) hx hb dX6_bestFrom_86 (by decide) ?_
              refine lv_isub hx hb dX6_bestFrom_87 ?_
              refine lv_topi (fun x_31 e_31 => ?_)
              refine zkI (zrV (rest := [.int v13_5]) B (c_X6_worthAt_d4 l E hV H23 gH23.1 h0 kh0 x_30 (by omega) (by omega) x_31) cl_RX6_30 gH23.1 kh0 rfl rfl rfl rfl hl.1 rfl (Nat.le_of_ble_eq_true rfl) dX6_bestFrom_88 rfl rfl ⟨rfl, rfl⟩ ⟨Nat.zero_le _, Nat.zero_le _⟩ (zO.of gH23 hh)) gH23 rfl (fun x_32 H32 lc32 hp_32 gH32 rH32 => ?_)
              have s_33 := rH32.keep hV kh0 rfl s_24
              have s_34 := rH32.keep hV k_q_2 rfl s_25
              have s_35 := rH32.keep hV kh0 rfl s_26
              have s_36 := rH32.keepA k_q_11 rfl s_27
              have s_37 := rH32.keepA k_q_11 rfl s_28
              have s_38 := rH32.keepA k_q_11 rfl s_29
              obtain ⟨hp_32_1, hp_32_2⟩ := hp_32
              refine lv_ineg hx hb dX6_bestFrom_91 ?_
              refine lv_topi (fun x_39 e_39 => ?_)
              have t_39 := z_neg e_39 rfl (by omega)
              refine va_mmax hx hb (B.2.2.1.trans hl.1.symm) B.2.2.2.1 (B.2.2.2.2.1 _ (mc_wsL_law_r36 _ (List.mem_of_getElem? (i := 22) rfl))) (B.2.2.2.2.1 _ (mc_wsL_law_r36 _ (List.mem_of_getElem? (i := 23) rfl))) (B.2.2.2.2.1 _ (mc_wsL_law_r17 _ (List.mem_of_getElem? (i := 10) rfl))) (B.2.2.2.2.1 _ (mc_wsL_law_r37 _ (List.mem_of_getElem? (i := 0) rfl))) (Nat.le_of_ble_eq_true rfl) (Nat.le_of_ble_eq_true rfl) (Nat.zero_le _) (Nat.zero_le _) dX6_bestFrom_92 ?_
              refine lv_topi (fun x_40 e_40 => ?_)
              have t_40 := z_max e_40 rfl rfl
              refine lv_istore (lv' := [(5, .int x_40), (0, .ref h0), (1, .int p0), (2, .int p1), (3, .int p2), (4, .int p3), (6, .int v13_6)]) hx hb dX6_bestFrom_95 hl (by decide) rfl (fun ls hl => ?_)
              exact b97 H32 lc32 ls x_40 q_2 gH32 (lv_sub hl [1, 2, 3, 4, 5, 0, 6] rfl) k_q_2 (by omega) (by omega) (by omega) s_33
  refine lv_iload_n hx hb dX6_bestFrom_0 rfl (lv_at hl 1 rfl) ?_
  refine lv_iconst (v := 4) hx hb dX6_bestFrom_1 (by decide) ?_
  refine lv_icmp_lt (tgt := 7) hx hb dX6_bestFrom_2 (by decide) (fun c_41 => ?_) (fun c_41 => ?_)
  · have f_41 := z_lt c_41 rfl kl_4
    refine lv_iconst (v := (-1)) hx hb dX6_bestFrom_7 (by decide) ?_
    refine lv_istore (lv' := [(5, .int (-1)), (0, .ref h0), (1, .int p0), (2, .int p1), (3, .int p2), (4, .int p3)]) hx hb dX6_bestFrom_8 hl (by decide) rfl (fun ls hl => ?_)
    refine lv_iconst (v := 0) hx hb dX6_bestFrom_10 (by decide) ?_
    refine lv_istore (lv' := [(6, .int 0), (5, .int (-1)), (0, .ref h0), (1, .int p0), (2, .int p1), (3, .int p2), (4, .int p3)]) hx hb dX6_bestFrom_11 hl (by decide) rfl (fun ls hl => ?_)
    have := kl_m1
    have := kl_0
    exact b13 31 H0 [] ls (-1) 0 (by omega) hG0 (lv_sub hl [2, 3, 4, 5, 6, 1, 0] rfl) (by omega) (by omega) (by omega) (by omega)
  · have f_41 := z_nlt c_41 rfl kl_4
    exact False.elim (by omega)

def rm_X6_worthAt_d3 : Room := { frames := 5, cells := 0, slots := 0, locals := 134 }
abbrev wS_X6_worthAt_d3 : List (Nat × Nat) := [(5, 0), (5, 1), (5, 2), (5, 3), (5, 4), (5, 5), (5, 6), (7, 2)]
set_option maxRecDepth 100000 in
set_option maxHeartbeats 4000000 in
theorem c_X6_worthAt_d3 (l : Launch) (E : zE) (hV : zV E) (H0 : Heap) (hT0 : HT E H0) (h0 : Nat) (kh0 : eK E h0 = 7) (p0 : Int32) (p0_lo : 3 ≤ p0.toInt) (p0_hi : p0.toInt ≤ 3) (p1 : Int32) : Met l yX6_worthAt (zws yX6_worthAt cX6_worthAt 8 (some .int)) rm_X6_worthAt_d3 (zP E H0 [.ref h0, .int p0, .int p1]) (zQI E E wS_X6_worthAt_d3 (fun r H1 => (-1) ≤ r.toInt ∧ r.toInt ≤ 1)) 0 0 (zfr E) := by
  refine zEnt (by decide) (Nat.le_of_ble_eq_true rfl) (fun p e s m args below meth c ls Q B hr hlk hh hQ hl => ?_)
  have hx := B.1
  have hb := B.2.1
  have hG0 : zG E wS_X6_worthAt_d3 H0 H0 [] := zG.rf hT0
  have hl : lv_has ls 8 [(0, .ref h0), (1, .int p0), (2, .int p1)] := hl
  have b66 : ∀ (H66 : Heap) (lc66 : List Loc) (ls : Array Slot) (v66_3 : Nat) (u66_h0_0 : Nat), zG E wS_X6_worthAt_d3 H0 H66 lc66 → lv_has ls 8 [(0, .ref h0), (3, .ref v66_3)] → eK E v66_3 = 5 → eK E u66_h0_0 = 3 → sl H66 h0 (zix E 7 0) = some (.ref u66_h0_0) → W p l e rm_X6_worthAt_d3 s m args below meth c H66 lc66 0 0 Q (F0 m 66 ls []) := by
    intro H66 lc66 ls v66_3 u66_h0_0 gH66 hl k_v66_3 k_u66_h0_0 s66_u66_h0_0
    refine lv_aload_n hx hb dX6_worthAt_66 rfl (lv_at hl 0 rfl) ?_
    refine g_get B fl_RX6_21 gH66.1 kh0 rfl rfl rfl dX6_worthAt_67 s66_u66_h0_0 ?_
    refine lv_aload_n hx hb dX6_worthAt_70 rfl (lv_at hl 1 rfl) ?_
    refine zkPI (zrV (rest := []) B (c_X2_canMove l E hV H66 gH66.1 u66_h0_0 k_u66_h0_0 v66_3 k_v66_3) cl_RX6_47 gH66.1 k_u66_h0_0 rfl rfl rfl rfl hl.1 rfl (Nat.le_of_ble_eq_true rfl) dX6_worthAt_71 rfl rfl ⟨rfl, rfl⟩ ⟨Nat.zero_le _, Nat.zero_le _⟩ (zO.of gH66 hh)) (fun x_1 hp_1 => ?_)
    obtain ⟨hp_1_1, hp_1_2⟩ := hp_1
    refine lv_if_eq (tgt := 81) hx hb dX6_worthAt_74 (by decide) (fun c_2 => ?_) (fun c_2 => ?_)
    · have f_2 := z_eq c_2 rfl kl_0
      refine lv_iconst (v := (-1)) hx hb dX6_worthAt_81 (by decide) ?_
      have := kl_m1
      have := kl_m1
      exact rtI (v := (-1)) B hr hlk hh hQ gH66 rfl ⟨by omega, by omega⟩ dX6_worthAt_82
    · have f_2 := z_ne c_2 rfl kl_0
      refine lv_iconst (v := 0) hx hb dX6_worthAt_77 (by decide) ?_
      refine lv_goto (tgt := 82) hx hb dX6_worthAt_78 (by decide) ?_
      have := kl_0
      have := kl_0
      exact rtI (v := 0) B hr hlk hh hQ gH66 rfl ⟨by omega, by omega⟩ dX6_worthAt_82
  have b89 : ∀ (n89 : Nat) (H89 : Heap) (lc89 : List Loc) (ls : Array Slot) (v89_3 : Nat) (v89_5 : Int32) (v89_6 : Int32) (u89_h0_0 : Nat), 30 - v89_6.toInt < (n89 : Int) → zG E wS_X6_worthAt_d3 H0 H89 lc89 → lv_has ls 8 [(0, .ref h0), (1, .int p0), (2, .int p1), (3, .ref v89_3), (5, .int v89_5), (6, .int v89_6)] → eK E v89_3 = 5 → eK E u89_h0_0 = 3 → 1 ≤ p1.toInt → (-1) ≤ v89_5.toInt → v89_5.toInt ≤ 1 → 0 ≤ v89_6.toInt → v89_6.toInt ≤ 30 → sl H89 h0 (zix E 7 0) = some (.ref u89_h0_0) → W p l e rm_X6_worthAt_d3 s m args below meth c H89 lc89 0 0 Q (F0 m 89 ls []) := by
    intro n89
    induction n89 with
    | zero =>
      intro H89 lc89 ls v89_3 v89_5 v89_6 u89_h0_0 hm89 gH89 hl k_v89_3 k_u89_h0_0 f89_1 f89_2 f89_3 f89_4 f89_5 s89_u89_h0_0
      exact absurd hm89 (by omega)
    | succ n89 ih89 =>
      intro H89 lc89 ls v89_3 v89_5 v89_6 u89_h0_0 hm89 gH89 hl k_v89_3 k_u89_h0_0 f89_1 f89_2 f89_3 f89_4 f89_5 s89_u89_h0_0
      have b148 : ∀ (H148 : Heap) (lc148 : List Loc) (ls : Array Slot) (v148_5 : Int32) (u148_u89_h0_0_0 : Int32), zG E wS_X6_worthAt_d3 H0 H148 lc148 → lv_has ls 8 [(0, .ref h0), (1, .int p0), (2, .int p1), (3, .ref v89_3), (5, .int v148_5), (6, .int v89_6)] → (-1) ≤ v148_5.toInt → v148_5.toInt ≤ 1 → v89_6.toInt ≤ 29 → 1 ≤ u148_u89_h0_0_0.toInt → u148_u89_h0_0_0.toInt ≤ 30 → sl H148 h0 (zix E 7 0) = some (.ref u89_h0_0) → sl H148 u89_h0_0 (zix E 3 0) = some (.int u148_u89_h0_0_0) → W p l e rm_X6_worthAt_d3 s m args below meth c H148 lc148 0 0 Q (F0 m 148 ls []) := by
        intro H148 lc148 ls v148_5 u148_u89_h0_0_0 gH148 hl f148_1 f148_2 f148_3 f148_4 f148_5 s148_u148_h0_0 s148_u148_u89_h0_0_0
        obtain ⟨x_3, e_3⟩ : ∃ y : Int32, (v89_6 : Int32) + Int32.ofInt 1 = y := ⟨_, rfl⟩
        refine lv_iinc (v := x_3) (lv' := [(6, .int x_3), (0, .ref h0), (1, .int p0), (2, .int p1), (3, .ref v89_3), (5, .int v148_5)]) hx hb dX6_worthAt_148 hl (k := 5) rfl e_3 (by decide) rfl (fun ls hl => ?_)
        have t_3 := z_inc2 e_3 rfl (by decide) (by omega) (by omega)
        refine lv_goto (tgt := 89) hx hb dX6_worthAt_151 (by decide) ?_
        exact ih89 H148 lc148 ls v89_3 v148_5 x_3 u89_h0_0 (by omega) gH148 (lv_sub hl [1, 2, 3, 4, 5, 0] rfl) k_v89_3 k_u89_h0_0 (by omega) (by omega) (by omega) (by omega) (by omega) s148_u148_h0_0
      refine lv_iload hx hb dX6_worthAt_89 (lv_at hl 5 rfl) ?_
      refine lv_aload_n hx hb dX6_worthAt_91 rfl (lv_at hl 0 rfl) ?_
      refine g_get B fl_RX6_21 gH89.1 kh0 rfl rfl rfl dX6_worthAt_92 s89_u89_h0_0 ?_
      refine g_getI B fl_RX6_51 gH89.1 k_u89_h0_0 rfl rfl rfl rfl rfl dX6_worthAt_95 (fun x_4 s_4 a_4 b_4 => ?_)
      refine lv_icmp_ge (tgt := 154) hx hb dX6_worthAt_98 (by decide) (fun c_5 => ?_) (fun c_5 => ?_)
      · have f_5 := z_le c_5 rfl rfl
        refine lv_iload hx hb dX6_worthAt_154 (lv_at hl 4 rfl) ?_
        exact rtI (v := v89_5) B hr hlk hh hQ gH89 rfl ⟨by omega, by omega⟩ dX6_worthAt_156
      · have f_5 := z_nle c_5 rfl rfl
        refine lv_iload hx hb dX6_worthAt_101 (lv_at hl 4 rfl) ?_
        refine lv_iconst (v := 1) hx hb dX6_worthAt_103 (by decide) ?_
        refine lv_icmp_ge (tgt := 154) hx hb dX6_worthAt_104 (by decide) (fun c_6 => ?_) (fun c_6 => ?_)
        · have f_6 := z_le c_6 kl_1 rfl
          refine lv_iload hx hb dX6_worthAt_154 (lv_at hl 4 rfl) ?_
          exact rtI (v := v89_5) B hr hlk hh hQ gH89 rfl ⟨by omega, by omega⟩ dX6_worthAt_156
        · have f_6 := z_nle c_6 kl_1 rfl
          refine lv_aload_n hx hb dX6_worthAt_107 rfl (lv_at hl 0 rfl) ?_
          refine zkPI (zrV (rest := []) B (c_X6_isSpent l E hV H89 gH89.1 h0 kh0) cl_RX6_34 gH89.1 kh0 rfl rfl rfl rfl hl.1 rfl (Nat.le_of_ble_eq_true rfl) dX6_worthAt_108 rfl rfl ⟨rfl, rfl⟩ ⟨Nat.zero_le _, Nat.zero_le _⟩ (zO.of gH89 hh)) (fun x_7 hp_7 => ?_)
          obtain ⟨hp_7_1, hp_7_2⟩ := hp_7
          refine lv_if_ne (tgt := 154) hx hb dX6_worthAt_111 (by decide) (fun c_8 => ?_) (fun c_8 => ?_)
          · have f_8 := z_ne c_8 rfl kl_0
            refine lv_iload hx hb dX6_worthAt_154 (lv_at hl 4 rfl) ?_
            exact rtI (v := v89_5) B hr hlk hh hQ gH89 rfl ⟨by omega, by omega⟩ dX6_worthAt_156
          · have f_8 := z_eq c_8 rfl kl_0
            refine lv_aload_n hx hb dX6_worthAt_114 rfl (lv_at hl 0 rfl) ?_
            refine g_get B fl_RX6_21 gH89.1 kh0 rfl rfl rfl dX6_worthAt_115 s89_u89_h0_0 ?_
            refine lv_aload_n hx hb dX6_worthAt_118 rfl (lv_at hl 3 rfl) ?_
            refine lv_iload hx hb dX6_worthAt_119 (lv_at hl 5 rfl) ?_
            refine zkPI (zrV (rest := []) B (c_X2_reach l E hV H89 gH89.1 u89_h0_0 k_u89_h0_0 v89_3 k_v89_3 v89_6) cl_RX6_54 gH89.1 k_u89_h0_0 rfl rfl rfl rfl hl.1 rfl (Nat.le_of_ble_eq_true rfl) dX6_worthAt_121 rfl rfl ⟨rfl, rfl⟩ ⟨Nat.zero_le _, Nat.zero_le _⟩ (zO.of gH89 hh)) (fun x_9 hp_9 => ?_)
            refine lv_istore (lv' := [(7, .int x_9), (0, .ref h0), (1, .int p0), (2, .int p1), (3, .ref v89_3), (5, .int v89_5), (6, .int v89_6)]) hx hb dX6_worthAt_124 hl (by decide) rfl (fun ls hl => ?_)
            refine lv_iload hx hb dX6_worthAt_126 (lv_at hl 0 rfl) ?_
            refine lv_if_eq (tgt := 148) hx hb dX6_worthAt_128 (by decide) (fun c_10 => ?_) (fun c_10 => ?_)
            · have f_10 := z_eq c_10 rfl kl_0
              exact b148 H89 lc89 ls v89_5 x_4 gH89 (lv_sub hl [1, 2, 3, 4, 5, 6] rfl) (by omega) (by omega) (by omega) (by omega) (by omega) s89_u89_h0_0 s_4
            · have f_10 := z_ne c_10 rfl kl_0
              refine lv_iload hx hb dX6_worthAt_131 (lv_at hl 5 rfl) ?_
              refine lv_aload_n hx hb dX6_worthAt_133 rfl (lv_at hl 1 rfl) ?_
              refine lv_iload_n hx hb dX6_worthAt_134 rfl (lv_at hl 2 rfl) ?_
              refine lv_iload_n hx hb dX6_worthAt_135 rfl (lv_at hl 3 rfl) ?_
              refine lv_iload hx hb dX6_worthAt_136 (lv_at hl 6 rfl) ?_
              refine lv_iload hx hb dX6_worthAt_138 (lv_at hl 0 rfl) ?_
              refine zkI (zrV (rest := [.int v89_5]) B (c_X6_bestFrom_d3 l E hV H89 gH89.1 h0 kh0 p0 (by omega) (by omega) p1 v89_6 x_9) cl_RX6_58 gH89.1 kh0 rfl rfl rfl rfl hl.1 rfl (Nat.le_of_ble_eq_true rfl) dX6_worthAt_140 rfl rfl ⟨rfl, rfl⟩ ⟨Nat.zero_le _, Nat.zero_le _⟩ (zO.of gH89 hh)) gH89 rfl (fun x_11 H11 lc11 hp_11 gH11 rH11 => ?_)
              have s_12 := rH11.keep hV kh0 rfl s89_u89_h0_0
              have s_13 := rH11.keep hV k_u89_h0_0 rfl s_4
              obtain ⟨hp_11_1, hp_11_2⟩ := hp_11
              refine va_mmax hx hb (B.2.2.1.trans hl.1.symm) B.2.2.2.1 (B.2.2.2.2.1 _ (mc_wsL_law_r36 _ (List.mem_of_getElem? (i := 22) rfl))) (B.2.2.2.2.1 _ (mc_wsL_law_r36 _ (List.mem_of_getElem? (i := 23) rfl))) (B.2.2.2.2.1 _ (mc_wsL_law_r17 _ (List.mem_of_getElem? (i := 10) rfl))) (B.2.2.2.2.1 _ (mc_wsL_law_r37 _ (List.mem_of_getElem? (i := 0) rfl))) (Nat.le_of_ble_eq_true rfl) (Nat.le_of_ble_eq_true rfl) (Nat.zero_le _) (Nat.zero_le _) dX6_worthAt_143 ?_
              refine lv_topi (fun x_14 e_14 => ?_)
              have t_14 := z_max e_14 rfl rfl
              refine lv_istore (lv' := [(5, .int x_14), (7, .int x_9), (0, .ref h0), (1, .int p0), (2, .int p1), (3, .ref v89_3), (6, .int v89_6)]) hx hb dX6_worthAt_146 hl (by decide) rfl (fun ls hl => ?_)
              exact b148 H11 lc11 ls x_14 x_4 gH11 (lv_sub hl [2, 3, 4, 5, 0, 6] rfl) (by omega) (by omega) (by omega) (by omega) (by omega) s_12 s_13
  refine lv_aload_n hx hb dX6_worthAt_0 rfl (lv_at hl 0 rfl) ?_
  refine lv_dup hx hb dX6_worthAt_1 rfl ?_
  refine g_getI B fl_RX6_17 hT0 kh0 rfl rfl rfl rfl rfl dX6_worthAt_2 (fun x_15 s_15 a_15 b_15 => ?_)
  refine lv_iconst (v := 1) hx hb dX6_worthAt_5 (by decide) ?_
  refine lv_iadd hx hb dX6_worthAt_6 ?_
  refine lv_topi (fun x_16 e_16 => ?_)
  refine g_putI B fp_RX6_17 hV hG0 kh0 rfl rfl rfl rfl rfl (z_rng _).1 (z_rng _).2 rfl dX6_worthAt_7 (fun H17 lc17 gH17 uH17 => ?_)
  refine lv_aload_n hx hb dX6_worthAt_10 rfl (lv_at hl 0 rfl) ?_
  refine zkPI (zrV (rest := []) B (c_X6_isSpent l E hV H17 gH17.1 h0 kh0) cl_RX6_34 gH17.1 kh0 rfl rfl rfl rfl hl.1 rfl (Nat.le_of_ble_eq_true rfl) dX6_worthAt_11 rfl rfl ⟨rfl, rfl⟩ ⟨Nat.zero_le _, Nat.zero_le _⟩ (zO.of gH17 hh)) (fun x_18 hp_18 => ?_)
  obtain ⟨hp_18_1, hp_18_2⟩ := hp_18
  refine lv_if_eq (tgt := 19) hx hb dX6_worthAt_14 (by decide) (fun c_19 => ?_) (fun c_19 => ?_)
  · have f_19 := z_eq c_19 rfl kl_0
    refine lv_aload_n hx hb dX6_worthAt_19 rfl (lv_at hl 0 rfl) ?_
    refine g_getR B fl_RX6_11 gH17.1 kh0 rfl rfl rfl rfl rfl dX6_worthAt_20 (fun q_20 s_20 k_q_20 => ?_)
    refine lv_iload_n hx hb dX6_worthAt_23 rfl (lv_at hl 1 rfl) ?_
    refine g_aaldI (i := p0) (N := 5) B gH17.1 k_q_20 rfl rfl rfl rfl rfl (by omega) (by omega) rfl dX6_worthAt_24 (fun q_21 s_21 k_q_21 => ?_)
    refine lv_astore_n (lv' := [(3, .ref q_21), (0, .ref h0), (1, .int p0), (2, .int p1)]) hx hb dX6_worthAt_25 rfl hl (by decide) rfl (fun ls hl => ?_)
    refine lv_aload_n hx hb dX6_worthAt_26 rfl (lv_at hl 1 rfl) ?_
    refine g_getR B fl_RX6_21 gH17.1 kh0 rfl rfl rfl rfl rfl dX6_worthAt_27 (fun q_22 s_22 k_q_22 => ?_)
    refine lv_aload_n hx hb dX6_worthAt_30 rfl (lv_at hl 0 rfl) ?_
    refine zkPI (zrV (rest := []) B (c_X2_kingless l E hV H17 gH17.1 q_22 k_q_22 q_21 k_q_21) cl_RX6_38 gH17.1 k_q_22 rfl rfl rfl rfl hl.1 rfl (Nat.le_of_ble_eq_true rfl) dX6_worthAt_31 rfl rfl ⟨rfl, rfl⟩ ⟨Nat.zero_le _, Nat.zero_le _⟩ (zO.of gH17 hh)) (fun x_23 hp_23 => ?_)
    obtain ⟨hp_23_1, hp_23_2⟩ := hp_23
    refine lv_istore (lv' := [(4, .int x_23), (3, .ref q_21), (0, .ref h0), (1, .int p0), (2, .int p1)]) hx hb dX6_worthAt_34 hl (by decide) rfl (fun ls hl => ?_)
    refine lv_iload hx hb dX6_worthAt_36 (lv_at hl 0 rfl) ?_
    refine lv_iconst (v := (-1)) hx hb dX6_worthAt_38 (by decide) ?_
    refine lv_icmp_eq (tgt := 57) hx hb dX6_worthAt_39 (by decide) (fun c_24 => ?_) (fun c_24 => ?_)
    · have f_24 := z_eq c_24 rfl kl_m1
      refine lv_iload_n hx hb dX6_worthAt_57 rfl (lv_at hl 4 rfl) ?_
      refine lv_if_le (tgt := 66) hx hb dX6_worthAt_58 (by decide) (fun c_25 => ?_) (fun c_25 => ?_)
      · have f_25 := z_le c_25 rfl kl_0
        exact b66 H17 lc17 ls q_21 q_22 gH17 (lv_sub hl [2, 1] rfl) k_q_21 k_q_22 s_22
      · have f_25 := z_nle c_25 rfl kl_0
        refine lv_iload_n hx hb dX6_worthAt_61 rfl (lv_at hl 3 rfl) ?_
        refine lv_iconst (v := 4) hx hb dX6_worthAt_62 (by decide) ?_
        refine lv_icmp_lt (tgt := 83) hx hb dX6_worthAt_63 (by decide) (fun c_26 => ?_) (fun c_26 => ?_)
        · have f_26 := z_lt c_26 rfl kl_4
          refine lv_iconst (v := (-1)) hx hb dX6_worthAt_83 (by decide) ?_
          refine lv_istore (lv' := [(5, .int (-1)), (4, .int x_23), (3, .ref q_21), (0, .ref h0), (1, .int p0), (2, .int p1)]) hx hb dX6_worthAt_84 hl (by decide) rfl (fun ls hl => ?_)
          refine lv_iconst (v := 0) hx hb dX6_worthAt_86 (by decide) ?_
          refine lv_istore (lv' := [(6, .int 0), (5, .int (-1)), (4, .int x_23), (3, .ref q_21), (0, .ref h0), (1, .int p0), (2, .int p1)]) hx hb dX6_worthAt_87 hl (by decide) rfl (fun ls hl => ?_)
          have := kl_m1
          have := kl_0
          exact b89 31 H17 lc17 ls q_21 (-1) 0 q_22 (by omega) gH17 (lv_sub hl [4, 5, 6, 3, 1, 0] rfl) k_q_21 k_q_22 (by omega) (by omega) (by omega) (by omega) (by omega) s_22
        · have f_26 := z_nlt c_26 rfl kl_4
          exact False.elim (by omega)
    · have f_24 := z_ne c_24 rfl kl_m1
      refine lv_iload hx hb dX6_worthAt_42 (lv_at hl 0 rfl) ?_
      refine lv_aload_n hx hb dX6_worthAt_44 rfl (lv_at hl 1 rfl) ?_
      refine g_getI B fl_RX6_44 gH17.1 k_q_21 rfl rfl rfl rfl rfl dX6_worthAt_45 (fun x_27 s_27 a_27 b_27 => ?_)
      refine lv_icmp_ne (tgt := 55) hx hb dX6_worthAt_48 (by decide) (fun c_28 => ?_) (fun c_28 => ?_)
      · have f_28 := z_ne c_28 rfl rfl
        refine lv_iconst (v := 1) hx hb dX6_worthAt_55 (by decide) ?_
        have := kl_1
        have := kl_1
        exact rtI (v := 1) B hr hlk hh hQ gH17 rfl ⟨by omega, by omega⟩ dX6_worthAt_56
      · have f_28 := z_eq c_28 rfl rfl
        refine lv_iconst (v := (-1)) hx hb dX6_worthAt_51 (by decide) ?_
        refine lv_goto (tgt := 56) hx hb dX6_worthAt_52 (by decide) ?_
        have := kl_m1
        have := kl_m1
        exact rtI (v := (-1)) B hr hlk hh hQ gH17 rfl ⟨by omega, by omega⟩ dX6_worthAt_56
  · have f_19 := z_ne c_19 rfl kl_0
    refine lv_iconst (v := 0) hx hb dX6_worthAt_17 (by decide) ?_
    have := kl_0
    have := kl_0
    exact rtI (v := 0) B hr hlk hh hQ gH17 rfl ⟨by omega, by omega⟩ dX6_worthAt_18

def rm_X6_bestFrom_d2 : Room := { frames := 6, cells := 0, slots := 0, locals := 161 }
abbrev wS_X6_bestFrom_d2 : List (Nat × Nat) := [(5, 0), (5, 1), (5, 2), (5, 3), (5, 4), (5, 5), (5, 6), (7, 2)]
set_option maxRecDepth 100000 in
set_option maxHeartbeats 4000000 in
theorem c_X6_bestFrom_d2 (l : Launch) (E : zE) (hV : zV E) (H0 : Heap) (hT0 : HT E H0) (h0 : Nat) (kh0 : eK E h0 = 7) (p0 : Int32) (p0_lo : 2 ≤ p0.toInt) (p0_hi : p0.toInt ≤ 2) (p1 : Int32) (p2 : Int32) (p3 : Int32) : Met l yX6_bestFrom (zws yX6_bestFrom cX6_bestFrom 7 (some .int)) rm_X6_bestFrom_d2 (zP E H0 [.ref h0, .int p0, .int p1, .int p2, .int p3]) (zQI E E wS_X6_bestFrom_d2 (fun r H1 => (-1) ≤ r.toInt ∧ r.toInt ≤ 1)) 0 0 (zfr E) := by
  refine zEnt (by decide) (Nat.le_of_ble_eq_true rfl) (fun p e s m args below meth c ls Q B hr hlk hh hQ hl => ?_)
  have hx := B.1
  have hb := B.2.1
  have hG0 : zG E wS_X6_bestFrom_d2 H0 H0 [] := zG.rf hT0
  have hl : lv_has ls 7 [(0, .ref h0), (1, .int p0), (2, .int p1), (3, .int p2), (4, .int p3)] := hl
  have b13 : ∀ (n13 : Nat) (H13 : Heap) (lc13 : List Loc) (ls : Array Slot) (v13_5 : Int32) (v13_6 : Int32), 30 - v13_6.toInt < (n13 : Int) → zG E wS_X6_bestFrom_d2 H0 H13 lc13 → lv_has ls 7 [(0, .ref h0), (1, .int p0), (2, .int p1), (3, .int p2), (4, .int p3), (5, .int v13_5), (6, .int v13_6)] → (-1) ≤ v13_5.toInt → v13_5.toInt ≤ 1 → 0 ≤ v13_6.toInt → v13_6.toInt ≤ 30 → W p l e rm_X6_bestFrom_d2 s m args below meth c H13 lc13 0 0 Q (F0 m 13 ls []) := by
    intro n13
    induction n13 with
    | zero =>
      intro H13 lc13 ls v13_5 v13_6 hm13 gH13 hl f13_1 f13_2 f13_3 f13_4
      exact absurd hm13 (by omega)
    | succ n13 ih13 =>
      intro H13 lc13 ls v13_5 v13_6 hm13 gH13 hl f13_1 f13_2 f13_3 f13_4
      have b97 : ∀ (H97 : Heap) (lc97 : List Loc) (ls : Array Slot) (v97_5 : Int32) (u97_h0_0 : Nat), zG E wS_X6_bestFrom_d2 H0 H97 lc97 → lv_has ls 7 [(0, .ref h0), (1, .int p0), (2, .int p1), (3, .int p2), (4, .int p3), (5, .int v97_5), (6, .int v13_6)] → eK E u97_h0_0 = 3 → (-1) ≤ v97_5.toInt → v97_5.toInt ≤ 1 → v13_6.toInt ≤ 29 → sl H97 h0 (zix E 7 0) = some (.ref u97_h0_0) → W p l e rm_X6_bestFrom_d2 s m args below meth c H97 lc97 0 0 Q (F0 m 97 ls []) := by
        intro H97 lc97 ls v97_5 u97_h0_0 gH97 hl k_u97_h0_0 f97_1 f97_2 f97_3 s97_u97_h0_0
        obtain ⟨x_1, e_1⟩ : ∃ y : Int32, (v13_6 : Int32) + Int32.ofInt 1 = y := ⟨_, rfl⟩
        refine lv_iinc (v := x_1) (lv' := [(6, .int x_1), (0, .ref h0), (1, .int p0), (2, .int p1), (3, .int p2), (4, .int p3), (5, .int v97_5)]) hx hb dX6_bestFrom_97 hl (k := 6) rfl e_1 (by decide) rfl (fun ls hl => ?_)
        have t_1 := z_inc2 e_1 rfl (by decide) (by omega) (by omega)
        refine lv_goto (tgt := 13) hx hb dX6_bestFrom_100 (by decide) ?_
        exact ih13 H97 lc97 ls v97_5 x_1 (by omega) gH97 (lv_sub hl [1, 2, 3, 4, 5, 6, 0] rfl) (by omega) (by omega) (by omega) (by omega)
      refine lv_iload hx hb dX6_bestFrom_13 (lv_at hl 6 rfl) ?_
      refine lv_aload_n hx hb dX6_bestFrom_15 rfl (lv_at hl 0 rfl) ?_
      refine g_getR B fl_RX6_21 gH13.1 kh0 rfl rfl rfl rfl rfl dX6_bestFrom_16 (fun q_2 s_2 k_q_2 => ?_)
      refine g_getI B fl_RX6_51 gH13.1 k_q_2 rfl rfl rfl rfl rfl dX6_bestFrom_19 (fun x_3 s_3 a_3 b_3 => ?_)
      refine lv_icmp_ge (tgt := 103) hx hb dX6_bestFrom_22 (by decide) (fun c_4 => ?_) (fun c_4 => ?_)
      · have f_4 := z_le c_4 rfl rfl
        refine lv_iload hx hb dX6_bestFrom_103 (lv_at hl 5 rfl) ?_
        exact rtI (v := v13_5) B hr hlk hh hQ gH13 rfl ⟨by omega, by omega⟩ dX6_bestFrom_105
      · have f_4 := z_nle c_4 rfl rfl
        refine lv_iload hx hb dX6_bestFrom_25 (lv_at hl 5 rfl) ?_
        refine lv_iconst (v := 1) hx hb dX6_bestFrom_27 (by decide) ?_
        refine lv_icmp_ge (tgt := 103) hx hb dX6_bestFrom_28 (by decide) (fun c_5 => ?_) (fun c_5 => ?_)
        · have f_5 := z_le c_5 kl_1 rfl
          refine lv_iload hx hb dX6_bestFrom_103 (lv_at hl 5 rfl) ?_
          exact rtI (v := v13_5) B hr hlk hh hQ gH13 rfl ⟨by omega, by omega⟩ dX6_bestFrom_105
        · have f_5 := z_nle c_5 kl_1 rfl
          refine lv_aload_n hx hb dX6_bestFrom_31 rfl (lv_at hl 0 rfl) ?_
          refine zkPI (zrV (rest := []) B (c_X6_isSpent l E hV H13 gH13.1 h0 kh0) cl_RX6_34 gH13.1 kh0 rfl rfl rfl rfl hl.1 rfl (Nat.le_of_ble_eq_true rfl) dX6_bestFrom_32 rfl rfl ⟨rfl, rfl⟩ ⟨Nat.zero_le _, Nat.zero_le _⟩ (zO.of gH13 hh)) (fun x_6 hp_6 => ?_)
          obtain ⟨hp_6_1, hp_6_2⟩ := hp_6
          refine lv_if_ne (tgt := 103) hx hb dX6_bestFrom_35 (by decide) (fun c_7 => ?_) (fun c_7 => ?_)
          · have f_7 := z_ne c_7 rfl kl_0
            refine lv_iload hx hb dX6_bestFrom_103 (lv_at hl 5 rfl) ?_
            exact rtI (v := v13_5) B hr hlk hh hQ gH13 rfl ⟨by omega, by omega⟩ dX6_bestFrom_105
          · have f_7 := z_eq c_7 rfl kl_0
            refine lv_iload hx hb dX6_bestFrom_38 (lv_at hl 4 rfl) ?_
            refine lv_iload hx hb dX6_bestFrom_40 (lv_at hl 6 rfl) ?_
            refine lv_iushr hx hb dX6_bestFrom_42 rfl ?_
            refine lv_topi (fun x_8 e_8 => ?_)
            refine lv_iconst (v := 1) hx hb dX6_bestFrom_43 (by decide) ?_
            refine lv_iand hx hb dX6_bestFrom_44 ?_
            refine lv_topi (fun x_9 e_9 => ?_)
            have t_9 := z_andR e_9 kl_1 (by omega)
            refine lv_if_eq (tgt := 97) hx hb dX6_bestFrom_45 (by decide) (fun c_10 => ?_) (fun c_10 => ?_)
            · have f_10 := z_eq c_10 rfl kl_0
              exact b97 H13 lc13 ls v13_5 q_2 gH13 (lv_sub hl [0, 1, 2, 3, 4, 5, 6] rfl) k_q_2 (by omega) (by omega) (by omega) s_2
            · have f_10 := z_ne c_10 rfl kl_0
              refine lv_aload_n hx hb dX6_bestFrom_48 rfl (lv_at hl 0 rfl) ?_
              refine g_getR B fl_RX6_11 gH13.1 kh0 rfl rfl rfl rfl rfl dX6_bestFrom_49 (fun q_11 s_11 k_q_11 => ?_)
              refine lv_iload_n hx hb dX6_bestFrom_52 rfl (lv_at hl 1 rfl) ?_
              refine lv_iconst (v := 1) hx hb dX6_bestFrom_53 (by decide) ?_
              refine lv_iadd hx hb dX6_bestFrom_54 ?_
              refine lv_topi (fun x_12 e_12 => ?_)
              have t_12 := z_add e_12 rfl kl_1 (by omega) (by omega)
              refine g_aaldI (i := x_12) (N := 5) B gH13.1 k_q_11 rfl rfl rfl rfl rfl (by omega) (by omega) rfl dX6_bestFrom_55 (fun q_13 s_13 k_q_13 => ?_)
              refine lv_aload_n hx hb dX6_bestFrom_56 rfl (lv_at hl 0 rfl) ?_
              refine g_get B fl_RX6_11 gH13.1 kh0 rfl rfl rfl dX6_bestFrom_57 s_11 ?_
              refine lv_iload_n hx hb dX6_bestFrom_60 rfl (lv_at hl 1 rfl) ?_
              refine g_aaldI (i := p0) (N := 5) B gH13.1 k_q_11 rfl rfl rfl rfl rfl (by omega) (by omega) rfl dX6_bestFrom_61 (fun q_14 s_14 k_q_14 => ?_)
              refine zkV (zrV (rest := []) B (c_X4_copyOf l E hV H13 gH13.1 q_13 k_q_13 q_14 k_q_14) cl_RX6_26 gH13.1 k_q_13 rfl rfl rfl rfl hl.1 rfl (Nat.le_of_ble_eq_true rfl) dX6_bestFrom_62 rfl rfl ⟨rfl, rfl⟩ ⟨Nat.zero_le _, Nat.zero_le _⟩ (zO.of gH13 hh)) gH13 rfl (fun H15 lc15 hp_15 gH15 rH15 => ?_)
              have s_16 := rH15.keep hV kh0 rfl s_2
              have s_17 := rH15.keep hV k_q_2 rfl s_3
              have s_18 := rH15.keep hV kh0 rfl s_11
              have s_19 := rH15.keepA k_q_11 rfl s_13
              have s_20 := rH15.keepA k_q_11 rfl s_14
              refine lv_aload_n hx hb dX6_bestFrom_65 rfl (lv_at hl 0 rfl) ?_
              refine g_get B fl_RX6_11 gH15.1 kh0 rfl rfl rfl dX6_bestFrom_66 s_18 ?_
              refine lv_iload_n hx hb dX6_bestFrom_69 rfl (lv_at hl 1 rfl) ?_
              refine lv_iconst (v := 1) hx hb dX6_bestFrom_70 (by decide) ?_
              refine lv_iadd hx hb dX6_bestFrom_71 ?_
              refine lv_topi (fun x_21 e_21 => ?_)
              have t_21 := z_add e_21 rfl kl_1 (by omega) (by omega)
              refine g_aaldI (i := x_21) (N := 5) B gH15.1 k_q_11 rfl rfl rfl rfl rfl (by omega) (by omega) rfl dX6_bestFrom_72 (fun q_22 s_22 k_q_22 => ?_)
              refine lv_iload_n hx hb dX6_bestFrom_73 rfl (lv_at hl 3 rfl) ?_
              refine lv_iload hx hb dX6_bestFrom_74 (lv_at hl 6 rfl) ?_
              refine zkV (zrV (rest := []) B (c_X4_carry l E hV H15 gH15.1 q_22 k_q_22 p2 v13_6) cl_RX6_67 gH15.1 k_q_22 rfl rfl rfl rfl hl.1 rfl (Nat.le_of_ble_eq_true rfl) dX6_bestFrom_76 rfl rfl ⟨rfl, rfl⟩ ⟨Nat.zero_le _, Nat.zero_le _⟩ (zO.of gH15 hh)) gH15 rfl (fun H23 lc23 hp_23 gH23 rH23 => ?_)
              have s_24 := rH23.keep hV kh0 rfl s_16
              have s_25 := rH23.keep hV k_q_2 rfl s_17
              have s_26 := rH23.keep hV kh0 rfl s_18
              have s_27 := rH23.keepA k_q_11 rfl s_19
              have s_28 := rH23.keepA k_q_11 rfl s_20
              have s_29 := rH23.keepA k_q_11 rfl s_22
              refine lv_iload hx hb dX6_bestFrom_79 (lv_at hl 5 rfl) ?_
              refine lv_aload_n hx hb dX6_bestFrom_81 rfl (lv_at hl 0 rfl) ?_
              refine lv_iload_n hx hb dX6_bestFrom_82 rfl (lv_at hl 1 rfl) ?_
              refine lv_iconst (v := 1) hx hb dX6_bestFrom_83 (by decide) ?_
              refine lv_iadd hx hb dX6_bestFrom_84 ?_
              refine lv_topi (fun x_30 e_30 => ?_)
              have t_30 := z_add e_30 rfl kl_1 (by omega) (by omega)
              refine lv_iload_n hx hb dX6_bestFrom_85 rfl (lv_at hl 2 rfl) ?_
              refine lv_iconst (v := 1) hx hb dX6_bestFrom_86 (by decide) ?_
              refine lv_isub hx hb dX6_bestFrom_87 ?_
              refine lv_topi (fun x_31 e_31 => ?_)
              refine zkI (zrV (rest := [.int v13_5]) B (c_X6_worthAt_d3 l E hV H23 gH23.1 h0 kh0 x_30 (by omega) (by omega) x_31) cl_RX6_30 gH23.1 kh0 rfl rfl rfl rfl hl.1 rfl (Nat.le_of_ble_eq_true rfl) dX6_bestFrom_88 rfl rfl ⟨rfl, rfl⟩ ⟨Nat.zero_le _, Nat.zero_le _⟩ (zO.of gH23 hh)) gH23 rfl (fun x_32 H32 lc32 hp_32 gH32 rH32 => ?_)
              have s_33 := rH32.keep hV kh0 rfl s_24
              have s_34 := rH32.keep hV k_q_2 rfl s_25
              have s_35 := rH32.keep hV kh0 rfl s_26
              have s_36 := rH32.keepA k_q_11 rfl s_27
              have s_37 := rH32.keepA k_q_11 rfl s_28
              have s_38 := rH32.keepA k_q_11 rfl s_29
              obtain ⟨hp_32_1, hp_32_2⟩ := hp_32
              refine lv_ineg hx hb dX6_bestFrom_91 ?_
              refine lv_topi (fun x_39 e_39 => ?_)
              have t_39 := z_neg e_39 rfl (by omega)
              refine va_mmax hx hb (B.2.2.1.trans hl.1.symm) B.2.2.2.1 (B.2.2.2.2.1 _ (mc_wsL_law_r36 _ (List.mem_of_getElem? (i := 22) rfl))) (B.2.2.2.2.1 _ (mc_wsL_law_r36 _ (List.mem_of_getElem? (i := 23) rfl))) (B.2.2.2.2.1 _ (mc_wsL_law_r17 _ (List.mem_of_getElem? (i := 10) rfl))) (B.2.2.2.2.1 _ (mc_wsL_law_r37 _ (List.mem_of_getElem? (i := 0) rfl))) (Nat.le_of_ble_eq_true rfl) (Nat.le_of_ble_eq_true rfl) (Nat.zero_le _) (Nat.zero_le _) dX6_bestFrom_92 ?_
              refine lv_topi (fun x_40 e_40 => ?_)
              have t_40 := z_max e_40 rfl rfl
              refine lv_istore (lv' := [(5, .int x_40), (0, .ref h0), (1, .int p0), (2, .int p1), (3, .int p2), (4, .int p3), (6, .int v13_6)]) hx hb dX6_bestFrom_95 hl (by decide) rfl (fun ls hl => ?_)
              exact b97 H32 lc32 ls x_40 q_2 gH32 (lv_sub hl [1, 2, 3, 4, 5, 0, 6] rfl) k_q_2 (by omega) (by omega) (by omega) s_33
  refine lv_iload_n hx hb dX6_bestFrom_0 rfl (lv_at hl 1 rfl) ?_
  refine lv_iconst (v := 4) hx hb dX6_bestFrom_1 (by decide) ?_
  refine lv_icmp_lt (tgt := 7) hx hb dX6_bestFrom_2 (by decide) (fun c_41 => ?_) (fun c_41 => ?_)
  · have f_41 := z_lt c_41 rfl kl_4
    refine lv_iconst (v := (-1)) hx hb dX6_bestFrom_7 (by decide) ?_
    refine lv_istore (lv' := [(5, .int (-1)), (0, .ref h0), (1, .int p0), (2, .int p1), (3, .int p2), (4, .int p3)]) hx hb dX6_bestFrom_8 hl (by decide) rfl (fun ls hl => ?_)
    refine lv_iconst (v := 0) hx hb dX6_bestFrom_10 (by decide) ?_
    refine lv_istore (lv' := [(6, .int 0), (5, .int (-1)), (0, .ref h0), (1, .int p0), (2, .int p1), (3, .int p2), (4, .int p3)]) hx hb dX6_bestFrom_11 hl (by decide) rfl (fun ls hl => ?_)
    have := kl_m1
    have := kl_0
    exact b13 31 H0 [] ls (-1) 0 (by omega) hG0 (lv_sub hl [2, 3, 4, 5, 6, 1, 0] rfl) (by omega) (by omega) (by omega) (by omega)
  · have f_41 := z_nlt c_41 rfl kl_4
    exact False.elim (by omega)

def rm_X6_worthAt_d2 : Room := { frames := 7, cells := 0, slots := 0, locals := 187 }
abbrev wS_X6_worthAt_d2 : List (Nat × Nat) := [(5, 0), (5, 1), (5, 2), (5, 3), (5, 4), (5, 5), (5, 6), (7, 2)]
set_option maxRecDepth 100000 in
set_option maxHeartbeats 4000000 in
theorem c_X6_worthAt_d2 (l : Launch) (E : zE) (hV : zV E) (H0 : Heap) (hT0 : HT E H0) (h0 : Nat) (kh0 : eK E h0 = 7) (p0 : Int32) (p0_lo : 2 ≤ p0.toInt) (p0_hi : p0.toInt ≤ 2) (p1 : Int32) : Met l yX6_worthAt (zws yX6_worthAt cX6_worthAt 8 (some .int)) rm_X6_worthAt_d2 (zP E H0 [.ref h0, .int p0, .int p1]) (zQI E E wS_X6_worthAt_d2 (fun r H1 => (-1) ≤ r.toInt ∧ r.toInt ≤ 1)) 0 0 (zfr E) := by
  refine zEnt (by decide) (Nat.le_of_ble_eq_true rfl) (fun p e s m args below meth c ls Q B hr hlk hh hQ hl => ?_)
  have hx := B.1
  have hb := B.2.1
  have hG0 : zG E wS_X6_worthAt_d2 H0 H0 [] := zG.rf hT0
  have hl : lv_has ls 8 [(0, .ref h0), (1, .int p0), (2, .int p1)] := hl
  have b66 : ∀ (H66 : Heap) (lc66 : List Loc) (ls : Array Slot) (v66_3 : Nat) (u66_h0_0 : Nat), zG E wS_X6_worthAt_d2 H0 H66 lc66 → lv_has ls 8 [(0, .ref h0), (3, .ref v66_3)] → eK E v66_3 = 5 → eK E u66_h0_0 = 3 → sl H66 h0 (zix E 7 0) = some (.ref u66_h0_0) → W p l e rm_X6_worthAt_d2 s m args below meth c H66 lc66 0 0 Q (F0 m 66 ls []) := by
    intro H66 lc66 ls v66_3 u66_h0_0 gH66 hl k_v66_3 k_u66_h0_0 s66_u66_h0_0
    refine lv_aload_n hx hb dX6_worthAt_66 rfl (lv_at hl 0 rfl) ?_
    refine g_get B fl_RX6_21 gH66.1 kh0 rfl rfl rfl dX6_worthAt_67 s66_u66_h0_0 ?_
    refine lv_aload_n hx hb dX6_worthAt_70 rfl (lv_at hl 1 rfl) ?_
    refine zkPI (zrV (rest := []) B (c_X2_canMove l E hV H66 gH66.1 u66_h0_0 k_u66_h0_0 v66_3 k_v66_3) cl_RX6_47 gH66.1 k_u66_h0_0 rfl rfl rfl rfl hl.1 rfl (Nat.le_of_ble_eq_true rfl) dX6_worthAt_71 rfl rfl ⟨rfl, rfl⟩ ⟨Nat.zero_le _, Nat.zero_le _⟩ (zO.of gH66 hh)) (fun x_1 hp_1 => ?_)
    obtain ⟨hp_1_1, hp_1_2⟩ := hp_1
    refine lv_if_eq (tgt := 81) hx hb dX6_worthAt_74 (by decide) (fun c_2 => ?_) (fun c_2 => ?_)
    · have f_2 := z_eq c_2 rfl kl_0
      refine lv_iconst (v := (-1)) hx hb dX6_worthAt_81 (by decide) ?_
      have := kl_m1
      have := kl_m1
      exact rtI (v := (-1)) B hr hlk hh hQ gH66 rfl ⟨by omega, by omega⟩ dX6_worthAt_82
    · have f_2 := z_ne c_2 rfl kl_0
      refine lv_iconst (v := 0) hx hb dX6_worthAt_77 (by decide) ?_
      refine lv_goto (tgt := 82) hx hb dX6_worthAt_78 (by decide) ?_
      have := kl_0
      have := kl_0
      exact rtI (v := 0) B hr hlk hh hQ gH66 rfl ⟨by omega, by omega⟩ dX6_worthAt_82
  have b89 : ∀ (n89 : Nat) (H89 : Heap) (lc89 : List Loc) (ls : Array Slot) (v89_3 : Nat) (v89_5 : Int32) (v89_6 : Int32) (u89_h0_0 : Nat), 30 - v89_6.toInt < (n89 : Int) → zG E wS_X6_worthAt_d2 H0 H89 lc89 → lv_has ls 8 [(0, .ref h0), (1, .int p0), (2, .int p1), (3, .ref v89_3), (5, .int v89_5), (6, .int v89_6)] → eK E v89_3 = 5 → eK E u89_h0_0 = 3 → 1 ≤ p1.toInt → (-1) ≤ v89_5.toInt → v89_5.toInt ≤ 1 → 0 ≤ v89_6.toInt → v89_6.toInt ≤ 30 → sl H89 h0 (zix E 7 0) = some (.ref u89_h0_0) → W p l e rm_X6_worthAt_d2 s m args below meth c H89 lc89 0 0 Q (F0 m 89 ls []) := by
    intro n89
    induction n89 with
    | zero =>
      intro H89 lc89 ls v89_3 v89_5 v89_6 u89_h0_0 hm89 gH89 hl k_v89_3 k_u89_h0_0 f89_1 f89_2 f89_3 f89_4 f89_5 s89_u89_h0_0
      exact absurd hm89 (by omega)
    | succ n89 ih89 =>
      intro H89 lc89 ls v89_3 v89_5 v89_6 u89_h0_0 hm89 gH89 hl k_v89_3 k_u89_h0_0 f89_1 f89_2 f89_3 f89_4 f89_5 s89_u89_h0_0
      have b148 : ∀ (H148 : Heap) (lc148 : List Loc) (ls : Array Slot) (v148_5 : Int32) (u148_u89_h0_0_0 : Int32), zG E wS_X6_worthAt_d2 H0 H148 lc148 → lv_has ls 8 [(0, .ref h0), (1, .int p0), (2, .int p1), (3, .ref v89_3), (5, .int v148_5), (6, .int v89_6)] → (-1) ≤ v148_5.toInt → v148_5.toInt ≤ 1 → v89_6.toInt ≤ 29 → 1 ≤ u148_u89_h0_0_0.toInt → u148_u89_h0_0_0.toInt ≤ 30 → sl H148 h0 (zix E 7 0) = some (.ref u89_h0_0) → sl H148 u89_h0_0 (zix E 3 0) = some (.int u148_u89_h0_0_0) → W p l e rm_X6_worthAt_d2 s m args below meth c H148 lc148 0 0 Q (F0 m 148 ls []) := by
        intro H148 lc148 ls v148_5 u148_u89_h0_0_0 gH148 hl f148_1 f148_2 f148_3 f148_4 f148_5 s148_u148_h0_0 s148_u148_u89_h0_0_0
        obtain ⟨x_3, e_3⟩ : ∃ y : Int32, (v89_6 : Int32) + Int32.ofInt 1 = y := ⟨_, rfl⟩
        refine lv_iinc (v := x_3) (lv' := [(6, .int x_3), (0, .ref h0), (1, .int p0), (2, .int p1), (3, .ref v89_3), (5, .int v148_5)]) hx hb dX6_worthAt_148 hl (k := 5) rfl e_3 (by decide) rfl (fun ls hl => ?_)
        have t_3 := z_inc2 e_3 rfl (by decide) (by omega) (by omega)
        refine lv_goto (tgt := 89) hx hb dX6_worthAt_151 (by decide) ?_
        exact ih89 H148 lc148 ls v89_3 v148_5 x_3 u89_h0_0 (by omega) gH148 (lv_sub hl [1, 2, 3, 4, 5, 0] rfl) k_v89_3 k_u89_h0_0 (by omega) (by omega) (by omega) (by omega) (by omega) s148_u148_h0_0
      refine lv_iload hx hb dX6_worthAt_89 (lv_at hl 5 rfl) ?_
      refine lv_aload_n hx hb dX6_worthAt_91 rfl (lv_at hl 0 rfl) ?_
      refine g_get B fl_RX6_21 gH89.1 kh0 rfl rfl rfl dX6_worthAt_92 s89_u89_h0_0 ?_
      refine g_getI B fl_RX6_51 gH89.1 k_u89_h0_0 rfl rfl rfl rfl rfl dX6_worthAt_95 (fun x_4 s_4 a_4 b_4 => ?_)
      refine lv_icmp_ge (tgt := 154) hx hb dX6_worthAt_98 (by decide) (fun c_5 => ?_) (fun c_5 => ?_)
      · have f_5 := z_le c_5 rfl rfl
        refine lv_iload hx hb dX6_worthAt_154 (lv_at hl 4 rfl) ?_
        exact rtI (v := v89_5) B hr hlk hh hQ gH89 rfl ⟨by omega, by omega⟩ dX6_worthAt_156
      · have f_5 := z_nle c_5 rfl rfl
        refine lv_iload hx hb dX6_worthAt_101 (lv_at hl 4 rfl) ?_
        refine lv_iconst (v := 1) hx hb dX6_worthAt_103 (by decide) ?_
        refine lv_icmp_ge (tgt := 154) hx hb dX6_worthAt_104 (by decide) (fun c_6 => ?_) (fun c_6 => ?_)
        · have f_6 := z_le c_6 kl_1 rfl
          refine lv_iload hx hb dX6_worthAt_154 (lv_at hl 4 rfl) ?_
          exact rtI (v := v89_5) B hr hlk hh hQ gH89 rfl ⟨by omega, by omega⟩ dX6_worthAt_156
        · have f_6 := z_nle c_6 kl_1 rfl
          refine lv_aload_n hx hb dX6_worthAt_107 rfl (lv_at hl 0 rfl) ?_
          refine zkPI (zrV (rest := []) B (c_X6_isSpent l E hV H89 gH89.1 h0 kh0) cl_RX6_34 gH89.1 kh0 rfl rfl rfl rfl hl.1 rfl (Nat.le_of_ble_eq_true rfl) dX6_worthAt_108 rfl rfl ⟨rfl, rfl⟩ ⟨Nat.zero_le _, Nat.zero_le _⟩ (zO.of gH89 hh)) (fun x_7 hp_7 => ?_)
          obtain ⟨hp_7_1, hp_7_2⟩ := hp_7
          refine lv_if_ne (tgt := 154) hx hb dX6_worthAt_111 (by decide) (fun c_8 => ?_) (fun c_8 => ?_)
          · have f_8 := z_ne c_8 rfl kl_0
            refine lv_iload hx hb dX6_worthAt_154 (lv_at hl 4 rfl) ?_
            exact rtI (v := v89_5) B hr hlk hh hQ gH89 rfl ⟨by omega, by omega⟩ dX6_worthAt_156
          · have f_8 := z_eq c_8 rfl kl_0
            refine lv_aload_n hx hb dX6_worthAt_114 rfl (lv_at hl 0 rfl) ?_
            refine g_get B fl_RX6_21 gH89.1 kh0 rfl rfl rfl dX6_worthAt_115 s89_u89_h0_0 ?_
            refine lv_aload_n hx hb dX6_worthAt_118 rfl (lv_at hl 3 rfl) ?_
            refine lv_iload hx hb dX6_worthAt_119 (lv_at hl 5 rfl) ?_
            refine zkPI (zrV (rest := []) B (c_X2_reach l E hV H89 gH89.1 u89_h0_0 k_u89_h0_0 v89_3 k_v89_3 v89_6) cl_RX6_54 gH89.1 k_u89_h0_0 rfl rfl rfl rfl hl.1 rfl (Nat.le_of_ble_eq_true rfl) dX6_worthAt_121 rfl rfl ⟨rfl, rfl⟩ ⟨Nat.zero_le _, Nat.zero_le _⟩ (zO.of gH89 hh)) (fun x_9 hp_9 => ?_)
            refine lv_istore (lv' := [(7, .int x_9), (0, .ref h0), (1, .int p0), (2, .int p1), (3, .ref v89_3), (5, .int v89_5), (6, .int v89_6)]) hx hb dX6_worthAt_124 hl (by decide) rfl (fun ls hl => ?_)
            refine lv_iload hx hb dX6_worthAt_126 (lv_at hl 0 rfl) ?_
            refine lv_if_eq (tgt := 148) hx hb dX6_worthAt_128 (by decide) (fun c_10 => ?_) (fun c_10 => ?_)
            · have f_10 := z_eq c_10 rfl kl_0
              exact b148 H89 lc89 ls v89_5 x_4 gH89 (lv_sub hl [1, 2, 3, 4, 5, 6] rfl) (by omega) (by omega) (by omega) (by omega) (by omega) s89_u89_h0_0 s_4
            · have f_10 := z_ne c_10 rfl kl_0
              refine lv_iload hx hb dX6_worthAt_131 (lv_at hl 5 rfl) ?_
              refine lv_aload_n hx hb dX6_worthAt_133 rfl (lv_at hl 1 rfl) ?_
              refine lv_iload_n hx hb dX6_worthAt_134 rfl (lv_at hl 2 rfl) ?_
              refine lv_iload_n hx hb dX6_worthAt_135 rfl (lv_at hl 3 rfl) ?_
              refine lv_iload hx hb dX6_worthAt_136 (lv_at hl 6 rfl) ?_
              refine lv_iload hx hb dX6_worthAt_138 (lv_at hl 0 rfl) ?_
              refine zkI (zrV (rest := [.int v89_5]) B (c_X6_bestFrom_d2 l E hV H89 gH89.1 h0 kh0 p0 (by omega) (by omega) p1 v89_6 x_9) cl_RX6_58 gH89.1 kh0 rfl rfl rfl rfl hl.1 rfl (Nat.le_of_ble_eq_true rfl) dX6_worthAt_140 rfl rfl ⟨rfl, rfl⟩ ⟨Nat.zero_le _, Nat.zero_le _⟩ (zO.of gH89 hh)) gH89 rfl (fun x_11 H11 lc11 hp_11 gH11 rH11 => ?_)
              have s_12 := rH11.keep hV kh0 rfl s89_u89_h0_0
              have s_13 := rH11.keep hV k_u89_h0_0 rfl s_4
              obtain ⟨hp_11_1, hp_11_2⟩ := hp_11
              refine va_mmax hx hb (B.2.2.1.trans hl.1.symm) B.2.2.2.1 (B.2.2.2.2.1 _ (mc_wsL_law_r36 _ (List.mem_of_getElem? (i := 22) rfl))) (B.2.2.2.2.1 _ (mc_wsL_law_r36 _ (List.mem_of_getElem? (i := 23) rfl))) (B.2.2.2.2.1 _ (mc_wsL_law_r17 _ (List.mem_of_getElem? (i := 10) rfl))) (B.2.2.2.2.1 _ (mc_wsL_law_r37 _ (List.mem_of_getElem? (i := 0) rfl))) (Nat.le_of_ble_eq_true rfl) (Nat.le_of_ble_eq_true rfl) (Nat.zero_le _) (Nat.zero_le _) dX6_worthAt_143 ?_
              refine lv_topi (fun x_14 e_14 => ?_)
              have t_14 := z_max e_14 rfl rfl
              refine lv_istore (lv' := [(5, .int x_14), (7, .int x_9), (0, .ref h0), (1, .int p0), (2, .int p1), (3, .ref v89_3), (6, .int v89_6)]) hx hb dX6_worthAt_146 hl (by decide) rfl (fun ls hl => ?_)
              exact b148 H11 lc11 ls x_14 x_4 gH11 (lv_sub hl [2, 3, 4, 5, 0, 6] rfl) (by omega) (by omega) (by omega) (by omega) (by omega) s_12 s_13
  refine lv_aload_n hx hb dX6_worthAt_0 rfl (lv_at hl 0 rfl) ?_
  refine lv_dup hx hb dX6_worthAt_1 rfl ?_
  refine g_getI B fl_RX6_17 hT0 kh0 rfl rfl rfl rfl rfl dX6_worthAt_2 (fun x_15 s_15 a_15 b_15 => ?_)
  refine lv_iconst (v := 1) hx hb dX6_worthAt_5 (by decide) ?_
  refine lv_iadd hx hb dX6_worthAt_6 ?_
  refine lv_topi (fun x_16 e_16 => ?_)
  refine g_putI B fp_RX6_17 hV hG0 kh0 rfl rfl rfl rfl rfl (z_rng _).1 (z_rng _).2 rfl dX6_worthAt_7 (fun H17 lc17 gH17 uH17 => ?_)
  refine lv_aload_n hx hb dX6_worthAt_10 rfl (lv_at hl 0 rfl) ?_
  refine zkPI (zrV (rest := []) B (c_X6_isSpent l E hV H17 gH17.1 h0 kh0) cl_RX6_34 gH17.1 kh0 rfl rfl rfl rfl hl.1 rfl (Nat.le_of_ble_eq_true rfl) dX6_worthAt_11 rfl rfl ⟨rfl, rfl⟩ ⟨Nat.zero_le _, Nat.zero_le _⟩ (zO.of gH17 hh)) (fun x_18 hp_18 => ?_)
  obtain ⟨hp_18_1, hp_18_2⟩ := hp_18
  refine lv_if_eq (tgt := 19) hx hb dX6_worthAt_14 (by decide) (fun c_19 => ?_) (fun c_19 => ?_)
  · have f_19 := z_eq c_19 rfl kl_0
    refine lv_aload_n hx hb dX6_worthAt_19 rfl (lv_at hl 0 rfl) ?_
    refine g_getR B fl_RX6_11 gH17.1 kh0 rfl rfl rfl rfl rfl dX6_worthAt_20 (fun q_20 s_20 k_q_20 => ?_)
    refine lv_iload_n hx hb dX6_worthAt_23 rfl (lv_at hl 1 rfl) ?_
    refine g_aaldI (i := p0) (N := 5) B gH17.1 k_q_20 rfl rfl rfl rfl rfl (by omega) (by omega) rfl dX6_worthAt_24 (fun q_21 s_21 k_q_21 => ?_)
    refine lv_astore_n (lv' := [(3, .ref q_21), (0, .ref h0), (1, .int p0), (2, .int p1)]) hx hb dX6_worthAt_25 rfl hl (by decide) rfl (fun ls hl => ?_)
    refine lv_aload_n hx hb dX6_worthAt_26 rfl (lv_at hl 1 rfl) ?_
    refine g_getR B fl_RX6_21 gH17.1 kh0 rfl rfl rfl rfl rfl dX6_worthAt_27 (fun q_22 s_22 k_q_22 => ?_)
    refine lv_aload_n hx hb dX6_worthAt_30 rfl (lv_at hl 0 rfl) ?_
    refine zkPI (zrV (rest := []) B (c_X2_kingless l E hV H17 gH17.1 q_22 k_q_22 q_21 k_q_21) cl_RX6_38 gH17.1 k_q_22 rfl rfl rfl rfl hl.1 rfl (Nat.le_of_ble_eq_true rfl) dX6_worthAt_31 rfl rfl ⟨rfl, rfl⟩ ⟨Nat.zero_le _, Nat.zero_le _⟩ (zO.of gH17 hh)) (fun x_23 hp_23 => ?_)
    obtain ⟨hp_23_1, hp_23_2⟩ := hp_23
    refine lv_istore (lv' := [(4, .int x_23), (3, .ref q_21), (0, .ref h0), (1, .int p0), (2, .int p1)]) hx hb dX6_worthAt_34 hl (by decide) rfl (fun ls hl => ?_)
    refine lv_iload hx hb dX6_worthAt_36 (lv_at hl 0 rfl) ?_
    refine lv_iconst (v := (-1)) hx hb dX6_worthAt_38 (by decide) ?_
    refine lv_icmp_eq (tgt := 57) hx hb dX6_worthAt_39 (by decide) (fun c_24 => ?_) (fun c_24 => ?_)
    · have f_24 := z_eq c_24 rfl kl_m1
      refine lv_iload_n hx hb dX6_worthAt_57 rfl (lv_at hl 4 rfl) ?_
      refine lv_if_le (tgt := 66) hx hb dX6_worthAt_58 (by decide) (fun c_25 => ?_) (fun c_25 => ?_)
      · have f_25 := z_le c_25 rfl kl_0
        exact b66 H17 lc17 ls q_21 q_22 gH17 (lv_sub hl [2, 1] rfl) k_q_21 k_q_22 s_22
      · have f_25 := z_nle c_25 rfl kl_0
        refine lv_iload_n hx hb dX6_worthAt_61 rfl (lv_at hl 3 rfl) ?_
        refine lv_iconst (v := 4) hx hb dX6_worthAt_62 (by decide) ?_
        refine lv_icmp_lt (tgt := 83) hx hb dX6_worthAt_63 (by decide) (fun c_26 => ?_) (fun c_26 => ?_)
        · have f_26 := z_lt c_26 rfl kl_4
          refine lv_iconst (v := (-1)) hx hb dX6_worthAt_83 (by decide) ?_
          refine lv_istore (lv' := [(5, .int (-1)), (4, .int x_23), (3, .ref q_21), (0, .ref h0), (1, .int p0), (2, .int p1)]) hx hb dX6_worthAt_84 hl (by decide) rfl (fun ls hl => ?_)
          refine lv_iconst (v := 0) hx hb dX6_worthAt_86 (by decide) ?_
          refine lv_istore (lv' := [(6, .int 0), (5, .int (-1)), (4, .int x_23), (3, .ref q_21), (0, .ref h0), (1, .int p0), (2, .int p1)]) hx hb dX6_worthAt_87 hl (by decide) rfl (fun ls hl => ?_)
          have := kl_m1
          have := kl_0
          exact b89 31 H17 lc17 ls q_21 (-1) 0 q_22 (by omega) gH17 (lv_sub hl [4, 5, 6, 3, 1, 0] rfl) k_q_21 k_q_22 (by omega) (by omega) (by omega) (by omega) (by omega) s_22
        · have f_26 := z_nlt c_26 rfl kl_4
          exact False.elim (by omega)
    · have f_24 := z_ne c_24 rfl kl_m1
      refine lv_iload hx hb dX6_worthAt_42 (lv_at hl 0 rfl) ?_
      refine lv_aload_n hx hb dX6_worthAt_44 rfl (lv_at hl 1 rfl) ?_
      refine g_getI B fl_RX6_44 gH17.1 k_q_21 rfl rfl rfl rfl rfl dX6_worthAt_45 (fun x_27 s_27 a_27 b_27 => ?_)
      refine lv_icmp_ne (tgt := 55) hx hb dX6_worthAt_48 (by decide) (fun c_28 => ?_) (fun c_28 => ?_)
      · have f_28 := z_ne c_28 rfl rfl
        refine lv_iconst (v := 1) hx hb dX6_worthAt_55 (by decide) ?_
        have := kl_1
        have := kl_1
        exact rtI (v := 1) B hr hlk hh hQ gH17 rfl ⟨by omega, by omega⟩ dX6_worthAt_56
      · have f_28 := z_eq c_28 rfl rfl
        refine lv_iconst (v := (-1)) hx hb dX6_worthAt_51 (by decide) ?_
        refine lv_goto (tgt := 56) hx hb dX6_worthAt_52 (by decide) ?_
        have := kl_m1
        have := kl_m1
        exact rtI (v := (-1)) B hr hlk hh hQ gH17 rfl ⟨by omega, by omega⟩ dX6_worthAt_56
  · have f_19 := z_ne c_19 rfl kl_0
    refine lv_iconst (v := 0) hx hb dX6_worthAt_17 (by decide) ?_
    have := kl_0
    have := kl_0
    exact rtI (v := 0) B hr hlk hh hQ gH17 rfl ⟨by omega, by omega⟩ dX6_worthAt_18

def rm_X6_bestFrom_d1 : Room := { frames := 8, cells := 0, slots := 0, locals := 214 }
abbrev wS_X6_bestFrom_d1 : List (Nat × Nat) := [(5, 0), (5, 1), (5, 2), (5, 3), (5, 4), (5, 5), (5, 6), (7, 2)]
set_option maxRecDepth 100000 in
set_option maxHeartbeats 4000000 in
theorem c_X6_bestFrom_d1 (l : Launch) (E : zE) (hV : zV E) (H0 : Heap) (hT0 : HT E H0) (h0 : Nat) (kh0 : eK E h0 = 7) (p0 : Int32) (p0_lo : 1 ≤ p0.toInt) (p0_hi : p0.toInt ≤ 1) (p1 : Int32) (p2 : Int32) (p3 : Int32) : Met l yX6_bestFrom (zws yX6_bestFrom cX6_bestFrom 7 (some .int)) rm_X6_bestFrom_d1 (zP E H0 [.ref h0, .int p0, .int p1, .int p2, .int p3]) (zQI E E wS_X6_bestFrom_d1 (fun r H1 => (-1) ≤ r.toInt ∧ r.toInt ≤ 1)) 0 0 (zfr E) := by
  refine zEnt (by decide) (Nat.le_of_ble_eq_true rfl) (fun p e s m args below meth c ls Q B hr hlk hh hQ hl => ?_)
  have hx := B.1
  have hb := B.2.1
  have hG0 : zG E wS_X6_bestFrom_d1 H0 H0 [] := zG.rf hT0
  have hl : lv_has ls 7 [(0, .ref h0), (1, .int p0), (2, .int p1), (3, .int p2), (4, .int p3)] := hl
  have b13 : ∀ (n13 : Nat) (H13 : Heap) (lc13 : List Loc) (ls : Array Slot) (v13_5 : Int32) (v13_6 : Int32), 30 - v13_6.toInt < (n13 : Int) → zG E wS_X6_bestFrom_d1 H0 H13 lc13 → lv_has ls 7 [(0, .ref h0), (1, .int p0), (2, .int p1), (3, .int p2), (4, .int p3), (5, .int v13_5), (6, .int v13_6)] → (-1) ≤ v13_5.toInt → v13_5.toInt ≤ 1 → 0 ≤ v13_6.toInt → v13_6.toInt ≤ 30 → W p l e rm_X6_bestFrom_d1 s m args below meth c H13 lc13 0 0 Q (F0 m 13 ls []) := by
    intro n13
    induction n13 with
    | zero =>
      intro H13 lc13 ls v13_5 v13_6 hm13 gH13 hl f13_1 f13_2 f13_3 f13_4
      exact absurd hm13 (by omega)
    | succ n13 ih13 =>
      intro H13 lc13 ls v13_5 v13_6 hm13 gH13 hl f13_1 f13_2 f13_3 f13_4
      have b97 : ∀ (H97 : Heap) (lc97 : List Loc) (ls : Array Slot) (v97_5 : Int32) (u97_h0_0 : Nat), zG E wS_X6_bestFrom_d1 H0 H97 lc97 → lv_has ls 7 [(0, .ref h0), (1, .int p0), (2, .int p1), (3, .int p2), (4, .int p3), (5, .int v97_5), (6, .int v13_6)] → eK E u97_h0_0 = 3 → (-1) ≤ v97_5.toInt → v97_5.toInt ≤ 1 → v13_6.toInt ≤ 29 → sl H97 h0 (zix E 7 0) = some (.ref u97_h0_0) → W p l e rm_X6_bestFrom_d1 s m args below meth c H97 lc97 0 0 Q (F0 m 97 ls []) := by
        intro H97 lc97 ls v97_5 u97_h0_0 gH97 hl k_u97_h0_0 f97_1 f97_2 f97_3 s97_u97_h0_0
        obtain ⟨x_1, e_1⟩ : ∃ y : Int32, (v13_6 : Int32) + Int32.ofInt 1 = y := ⟨_, rfl⟩
        refine lv_iinc (v := x_1) (lv' := [(6, .int x_1), (0, .ref h0), (1, .int p0), (2, .int p1), (3, .int p2), (4, .int p3), (5, .int v97_5)]) hx hb dX6_bestFrom_97 hl (k := 6) rfl e_1 (by decide) rfl (fun ls hl => ?_)
        have t_1 := z_inc2 e_1 rfl (by decide) (by omega) (by omega)
        refine lv_goto (tgt := 13) hx hb dX6_bestFrom_100 (by decide) ?_
        exact ih13 H97 lc97 ls v97_5 x_1 (by omega) gH97 (lv_sub hl [1, 2, 3, 4, 5, 6, 0] rfl) (by omega) (by omega) (by omega) (by omega)
      refine lv_iload hx hb dX6_bestFrom_13 (lv_at hl 6 rfl) ?_
      refine lv_aload_n hx hb dX6_bestFrom_15 rfl (lv_at hl 0 rfl) ?_
      refine g_getR B fl_RX6_21 gH13.1 kh0 rfl rfl rfl rfl rfl dX6_bestFrom_16 (fun q_2 s_2 k_q_2 => ?_)
      refine g_getI B fl_RX6_51 gH13.1 k_q_2 rfl rfl rfl rfl rfl dX6_bestFrom_19 (fun x_3 s_3 a_3 b_3 => ?_)
      refine lv_icmp_ge (tgt := 103) hx hb dX6_bestFrom_22 (by decide) (fun c_4 => ?_) (fun c_4 => ?_)
      · have f_4 := z_le c_4 rfl rfl
        refine lv_iload hx hb dX6_bestFrom_103 (lv_at hl 5 rfl) ?_
        exact rtI (v := v13_5) B hr hlk hh hQ gH13 rfl ⟨by omega, by omega⟩ dX6_bestFrom_105
      · have f_4 := z_nle c_4 rfl rfl
        refine lv_iload hx hb dX6_bestFrom_25 (lv_at hl 5 rfl) ?_
        refine lv_iconst (v := 1) hx hb dX6_bestFrom_27 (by decide) ?_
        refine lv_icmp_ge (tgt := 103) hx hb dX6_bestFrom_28 (by decide) (fun c_5 => ?_) (fun c_5 => ?_)
        · have f_5 := z_le c_5 kl_1 rfl
          refine lv_iload hx hb dX6_bestFrom_103 (lv_at hl 5 rfl) ?_
          exact rtI (v := v13_5) B hr hlk hh hQ gH13 rfl ⟨by omega, by omega⟩ dX6_bestFrom_105
        · have f_5 := z_nle c_5 kl_1 rfl
          refine lv_aload_n hx hb dX6_bestFrom_31 rfl (lv_at hl 0 rfl) ?_
          refine zkPI (zrV (rest := []) B (c_X6_isSpent l E hV H13 gH13.1 h0 kh0) cl_RX6_34 gH13.1 kh0 rfl rfl rfl rfl hl.1 rfl (Nat.le_of_ble_eq_true rfl) dX6_bestFrom_32 rfl rfl ⟨rfl, rfl⟩ ⟨Nat.zero_le _, Nat.zero_le _⟩ (zO.of gH13 hh)) (fun x_6 hp_6 => ?_)
          obtain ⟨hp_6_1, hp_6_2⟩ := hp_6
          refine lv_if_ne (tgt := 103) hx hb dX6_bestFrom_35 (by decide) (fun c_7 => ?_) (fun c_7 => ?_)
          · have f_7 := z_ne c_7 rfl kl_0
            refine lv_iload hx hb dX6_bestFrom_103 (lv_at hl 5 rfl) ?_
            exact rtI (v := v13_5) B hr hlk hh hQ gH13 rfl ⟨by omega, by omega⟩ dX6_bestFrom_105
          · have f_7 := z_eq c_7 rfl kl_0
            refine lv_iload hx hb dX6_bestFrom_38 (lv_at hl 4 rfl) ?_
            refine lv_iload hx hb dX6_bestFrom_40 (lv_at hl 6 rfl) ?_
            refine lv_iushr hx hb dX6_bestFrom_42 rfl ?_
            refine lv_topi (fun x_8 e_8 => ?_)
            refine lv_iconst (v := 1) hx hb dX6_bestFrom_43 (by decide) ?_
            refine lv_iand hx hb dX6_bestFrom_44 ?_
            refine lv_topi (fun x_9 e_9 => ?_)
            have t_9 := z_andR e_9 kl_1 (by omega)
            refine lv_if_eq (tgt := 97) hx hb dX6_bestFrom_45 (by decide) (fun c_10 => ?_) (fun c_10 => ?_)
            · have f_10 := z_eq c_10 rfl kl_0
              exact b97 H13 lc13 ls v13_5 q_2 gH13 (lv_sub hl [0, 1, 2, 3, 4, 5, 6] rfl) k_q_2 (by omega) (by omega) (by omega) s_2
            · have f_10 := z_ne c_10 rfl kl_0
              refine lv_aload_n hx hb dX6_bestFrom_48 rfl (lv_at hl 0 rfl) ?_
              refine g_getR B fl_RX6_11 gH13.1 kh0 rfl rfl rfl rfl rfl dX6_bestFrom_49 (fun q_11 s_11 k_q_11 => ?_)
              refine lv_iload_n hx hb dX6_bestFrom_52 rfl (lv_at hl 1 rfl) ?_
              refine lv_iconst (v := 1) hx hb dX6_bestFrom_53 (by decide) ?_
              refine lv_iadd hx hb dX6_bestFrom_54 ?_
              refine lv_topi (fun x_12 e_12 => ?_)
              have t_12 := z_add e_12 rfl kl_1 (by omega) (by omega)
              refine g_aaldI (i := x_12) (N := 5) B gH13.1 k_q_11 rfl rfl rfl rfl rfl (by omega) (by omega) rfl dX6_bestFrom_55 (fun q_13 s_13 k_q_13 => ?_)
              refine lv_aload_n hx hb dX6_bestFrom_56 rfl (lv_at hl 0 rfl) ?_
              refine g_get B fl_RX6_11 gH13.1 kh0 rfl rfl rfl dX6_bestFrom_57 s_11 ?_
              refine lv_iload_n hx hb dX6_bestFrom_60 rfl (lv_at hl 1 rfl) ?_
              refine g_aaldI (i := p0) (N := 5) B gH13.1 k_q_11 rfl rfl rfl rfl rfl (by omega) (by omega) rfl dX6_bestFrom_61 (fun q_14 s_14 k_q_14 => ?_)
              refine zkV (zrV (rest := []) B (c_X4_copyOf l E hV H13 gH13.1 q_13 k_q_13 q_14 k_q_14) cl_RX6_26 gH13.1 k_q_13 rfl rfl rfl rfl hl.1 rfl (Nat.le_of_ble_eq_true rfl) dX6_bestFrom_62 rfl rfl ⟨rfl, rfl⟩ ⟨Nat.zero_le _, Nat.zero_le _⟩ (zO.of gH13 hh)) gH13 rfl (fun H15 lc15 hp_15 gH15 rH15 => ?_)
              have s_16 := rH15.keep hV kh0 rfl s_2
              have s_17 := rH15.keep hV k_q_2 rfl s_3
              have s_18 := rH15.keep hV kh0 rfl s_11
              have s_19 := rH15.keepA k_q_11 rfl s_13
              have s_20 := rH15.keepA k_q_11 rfl s_14
              refine lv_aload_n hx hb dX6_bestFrom_65 rfl (lv_at hl 0 rfl) ?_
              refine g_get B fl_RX6_11 gH15.1 kh0 rfl rfl rfl dX6_bestFrom_66 s_18 ?_
              refine lv_iload_n hx hb dX6_bestFrom_69 rfl (lv_at hl 1 rfl) ?_
              refine lv_iconst (v := 1) hx hb dX6_bestFrom_70 (by decide) ?_
              refine lv_iadd hx hb dX6_bestFrom_71 ?_
              refine lv_topi (fun x_21 e_21 => ?_)
              have t_21 := z_add e_21 rfl kl_1 (by omega) (by omega)
              refine g_aaldI (i := x_21) (N := 5) B gH15.1 k_q_11 rfl rfl rfl rfl rfl (by omega) (by omega) rfl dX6_bestFrom_72 (fun q_22 s_22 k_q_22 => ?_)
              refine lv_iload_n hx hb dX6_bestFrom_73 rfl (lv_at hl 3 rfl) ?_
              refine lv_iload hx hb dX6_bestFrom_74 (lv_at hl 6 rfl) ?_
              refine zkV (zrV (rest := []) B (c_X4_carry l E hV H15 gH15.1 q_22 k_q_22 p2 v13_6) cl_RX6_67 gH15.1 k_q_22 rfl rfl rfl rfl hl.1 rfl (Nat.le_of_ble_eq_true rfl) dX6_bestFrom_76 rfl rfl ⟨rfl, rfl⟩ ⟨Nat.zero_le _, Nat.zero_le _⟩ (zO.of gH15 hh)) gH15 rfl (fun H23 lc23 hp_23 gH23 rH23 => ?_)
              have s_24 := rH23.keep hV kh0 rfl s_16
              have s_25 := rH23.keep hV k_q_2 rfl s_17
              have s_26 := rH23.keep hV kh0 rfl s_18
              have s_27 := rH23.keepA k_q_11 rfl s_19
              have s_28 := rH23.keepA k_q_11 rfl s_20
              have s_29 := rH23.keepA k_q_11 rfl s_22
              refine lv_iload hx hb dX6_bestFrom_79 (lv_at hl 5 rfl) ?_
              refine lv_aload_n hx hb dX6_bestFrom_81 rfl (lv_at hl 0 rfl) ?_
              refine lv_iload_n hx hb dX6_bestFrom_82 rfl (lv_at hl 1 rfl) ?_
              refine lv_iconst (v := 1) hx hb dX6_bestFrom_83 (by decide) ?_
              refine lv_iadd hx hb dX6_bestFrom_84 ?_
              refine lv_topi (fun x_30 e_30 => ?_)
              have t_30 := z_add e_30 rfl kl_1 (by omega) (by omega)
              refine lv_iload_n hx hb dX6_bestFrom_85 rfl (lv_at hl 2 rfl) ?_
              refine lv_iconst (v := 1) hx hb dX6_bestFrom_86 (by decide) ?_
              refine lv_isub hx hb dX6_bestFrom_87 ?_
              refine lv_topi (fun x_31 e_31 => ?_)
              refine zkI (zrV (rest := [.int v13_5]) B (c_X6_worthAt_d2 l E hV H23 gH23.1 h0 kh0 x_30 (by omega) (by omega) x_31) cl_RX6_30 gH23.1 kh0 rfl rfl rfl rfl hl.1 rfl (Nat.le_of_ble_eq_true rfl) dX6_bestFrom_88 rfl rfl ⟨rfl, rfl⟩ ⟨Nat.zero_le _, Nat.zero_le _⟩ (zO.of gH23 hh)) gH23 rfl (fun x_32 H32 lc32 hp_32 gH32 rH32 => ?_)
              have s_33 := rH32.keep hV kh0 rfl s_24
              have s_34 := rH32.keep hV k_q_2 rfl s_25
              have s_35 := rH32.keep hV kh0 rfl s_26
              have s_36 := rH32.keepA k_q_11 rfl s_27
              have s_37 := rH32.keepA k_q_11 rfl s_28
              have s_38 := rH32.keepA k_q_11 rfl s_29
              obtain ⟨hp_32_1, hp_32_2⟩ := hp_32
              refine lv_ineg hx hb dX6_bestFrom_91 ?_
              refine lv_topi (fun x_39 e_39 => ?_)
              have t_39 := z_neg e_39 rfl (by omega)
              refine va_mmax hx hb (B.2.2.1.trans hl.1.symm) B.2.2.2.1 (B.2.2.2.2.1 _ (mc_wsL_law_r36 _ (List.mem_of_getElem? (i := 22) rfl))) (B.2.2.2.2.1 _ (mc_wsL_law_r36 _ (List.mem_of_getElem? (i := 23) rfl))) (B.2.2.2.2.1 _ (mc_wsL_law_r17 _ (List.mem_of_getElem? (i := 10) rfl))) (B.2.2.2.2.1 _ (mc_wsL_law_r37 _ (List.mem_of_getElem? (i := 0) rfl))) (Nat.le_of_ble_eq_true rfl) (Nat.le_of_ble_eq_true rfl) (Nat.zero_le _) (Nat.zero_le _) dX6_bestFrom_92 ?_
              refine lv_topi (fun x_40 e_40 => ?_)
              have t_40 := z_max e_40 rfl rfl
              refine lv_istore (lv' := [(5, .int x_40), (0, .ref h0), (1, .int p0), (2, .int p1), (3, .int p2), (4, .int p3), (6, .int v13_6)]) hx hb dX6_bestFrom_95 hl (by decide) rfl (fun ls hl => ?_)
              exact b97 H32 lc32 ls x_40 q_2 gH32 (lv_sub hl [1, 2, 3, 4, 5, 0, 6] rfl) k_q_2 (by omega) (by omega) (by omega) s_33
  refine lv_iload_n hx hb dX6_bestFrom_0 rfl (lv_at hl 1 rfl) ?_
  refine lv_iconst (v := 4) hx hb dX6_bestFrom_1 (by decide) ?_
  refine lv_icmp_lt (tgt := 7) hx hb dX6_bestFrom_2 (by decide) (fun c_41 => ?_) (fun c_41 => ?_)
  · have f_41 := z_lt c_41 rfl kl_4
    refine lv_iconst (v := (-1)) hx hb dX6_bestFrom_7 (by decide) ?_
    refine lv_istore (lv' := [(5, .int (-1)), (0, .ref h0), (1, .int p0), (2, .int p1), (3, .int p2), (4, .int p3)]) hx hb dX6_bestFrom_8 hl (by decide) rfl (fun ls hl => ?_)
    refine lv_iconst (v := 0) hx hb dX6_bestFrom_10 (by decide) ?_
    refine lv_istore (lv' := [(6, .int 0), (5, .int (-1)), (0, .ref h0), (1, .int p0), (2, .int p1), (3, .int p2), (4, .int p3)]) hx hb dX6_bestFrom_11 hl (by decide) rfl (fun ls hl => ?_)
    have := kl_m1
    have := kl_0
    exact b13 31 H0 [] ls (-1) 0 (by omega) hG0 (lv_sub hl [2, 3, 4, 5, 6, 1, 0] rfl) (by omega) (by omega) (by omega) (by omega)
  · have f_41 := z_nlt c_41 rfl kl_4
    exact False.elim (by omega)

def rm_X6_worthAt_d1 : Room := { frames := 9, cells := 0, slots := 0, locals := 240 }
abbrev wS_X6_worthAt_d1 : List (Nat × Nat) := [(5, 0), (5, 1), (5, 2), (5, 3), (5, 4), (5, 5), (5, 6), (7, 2)]
set_option maxRecDepth 100000 in
set_option maxHeartbeats 4000000 in
theorem c_X6_worthAt_d1 (l : Launch) (E : zE) (hV : zV E) (H0 : Heap) (hT0 : HT E H0) (h0 : Nat) (kh0 : eK E h0 = 7) (p0 : Int32) (p0_lo : 1 ≤ p0.toInt) (p0_hi : p0.toInt ≤ 1) (p1 : Int32) : Met l yX6_worthAt (zws yX6_worthAt cX6_worthAt 8 (some .int)) rm_X6_worthAt_d1 (zP E H0 [.ref h0, .int p0, .int p1]) (zQI E E wS_X6_worthAt_d1 (fun r H1 => (-1) ≤ r.toInt ∧ r.toInt ≤ 1)) 0 0 (zfr E) := by
  refine zEnt (by decide) (Nat.le_of_ble_eq_true rfl) (fun p e s m args below meth c ls Q B hr hlk hh hQ hl => ?_)
  have hx := B.1
  have hb := B.2.1
  have hG0 : zG E wS_X6_worthAt_d1 H0 H0 [] := zG.rf hT0
  have hl : lv_has ls 8 [(0, .ref h0), (1, .int p0), (2, .int p1)] := hl
  have b66 : ∀ (H66 : Heap) (lc66 : List Loc) (ls : Array Slot) (v66_3 : Nat) (u66_h0_0 : Nat), zG E wS_X6_worthAt_d1 H0 H66 lc66 → lv_has ls 8 [(0, .ref h0), (3, .ref v66_3)] → eK E v66_3 = 5 → eK E u66_h0_0 = 3 → sl H66 h0 (zix E 7 0) = some (.ref u66_h0_0) → W p l e rm_X6_worthAt_d1 s m args below meth c H66 lc66 0 0 Q (F0 m 66 ls []) := by
    intro H66 lc66 ls v66_3 u66_h0_0 gH66 hl k_v66_3 k_u66_h0_0 s66_u66_h0_0
    refine lv_aload_n hx hb dX6_worthAt_66 rfl (lv_at hl 0 rfl) ?_
    refine g_get B fl_RX6_21 gH66.1 kh0 rfl rfl rfl dX6_worthAt_67 s66_u66_h0_0 ?_
    refine lv_aload_n hx hb dX6_worthAt_70 rfl (lv_at hl 1 rfl) ?_
    refine zkPI (zrV (rest := []) B (c_X2_canMove l E hV H66 gH66.1 u66_h0_0 k_u66_h0_0 v66_3 k_v66_3) cl_RX6_47 gH66.1 k_u66_h0_0 rfl rfl rfl rfl hl.1 rfl (Nat.le_of_ble_eq_true rfl) dX6_worthAt_71 rfl rfl ⟨rfl, rfl⟩ ⟨Nat.zero_le _, Nat.zero_le _⟩ (zO.of gH66 hh)) (fun x_1 hp_1 => ?_)
    obtain ⟨hp_1_1, hp_1_2⟩ := hp_1
    refine lv_if_eq (tgt := 81) hx hb dX6_worthAt_74 (by decide) (fun c_2 => ?_) (fun c_2 => ?_)
    · have f_2 := z_eq c_2 rfl kl_0
      refine lv_iconst (v := (-1)) hx hb dX6_worthAt_81 (by decide) ?_
      have := kl_m1
      have := kl_m1
      exact rtI (v := (-1)) B hr hlk hh hQ gH66 rfl ⟨by omega, by omega⟩ dX6_worthAt_82
    · have f_2 := z_ne c_2 rfl kl_0
      refine lv_iconst (v := 0) hx hb dX6_worthAt_77 (by decide) ?_
      refine lv_goto (tgt := 82) hx hb dX6_worthAt_78 (by decide) ?_
      have := kl_0
      have := kl_0
      exact rtI (v := 0) B hr hlk hh hQ gH66 rfl ⟨by omega, by omega⟩ dX6_worthAt_82
  have b89 : ∀ (n89 : Nat) (H89 : Heap) (lc89 : List Loc) (ls : Array Slot) (v89_3 : Nat) (v89_5 : Int32) (v89_6 : Int32) (u89_h0_0 : Nat), 30 - v89_6.toInt < (n89 : Int) → zG E wS_X6_worthAt_d1 H0 H89 lc89 → lv_has ls 8 [(0, .ref h0), (1, .int p0), (2, .int p1), (3, .ref v89_3), (5, .int v89_5), (6, .int v89_6)] → eK E v89_3 = 5 → eK E u89_h0_0 = 3 → 1 ≤ p1.toInt → (-1) ≤ v89_5.toInt → v89_5.toInt ≤ 1 → 0 ≤ v89_6.toInt → v89_6.toInt ≤ 30 → sl H89 h0 (zix E 7 0) = some (.ref u89_h0_0) → W p l e rm_X6_worthAt_d1 s m args below meth c H89 lc89 0 0 Q (F0 m 89 ls []) := by
    intro n89
    induction n89 with
    | zero =>
      intro H89 lc89 ls v89_3 v89_5 v89_6 u89_h0_0 hm89 gH89 hl k_v89_3 k_u89_h0_0 f89_1 f89_2 f89_3 f89_4 f89_5 s89_u89_h0_0
      exact absurd hm89 (by omega)
    | succ n89 ih89 =>
      intro H89 lc89 ls v89_3 v89_5 v89_6 u89_h0_0 hm89 gH89 hl k_v89_3 k_u89_h0_0 f89_1 f89_2 f89_3 f89_4 f89_5 s89_u89_h0_0
      have b148 : ∀ (H148 : Heap) (lc148 : List Loc) (ls : Array Slot) (v148_5 : Int32) (u148_u89_h0_0_0 : Int32), zG E wS_X6_worthAt_d1 H0 H148 lc148 → lv_has ls 8 [(0, .ref h0), (1, .int p0), (2, .int p1), (3, .ref v89_3), (5, .int v148_5), (6, .int v89_6)] → (-1) ≤ v148_5.toInt → v148_5.toInt ≤ 1 → v89_6.toInt ≤ 29 → 1 ≤ u148_u89_h0_0_0.toInt → u148_u89_h0_0_0.toInt ≤ 30 → sl H148 h0 (zix E 7 0) = some (.ref u89_h0_0) → sl H148 u89_h0_0 (zix E 3 0) = some (.int u148_u89_h0_0_0) → W p l e rm_X6_worthAt_d1 s m args below meth c H148 lc148 0 0 Q (F0 m 148 ls []) := by
        intro H148 lc148 ls v148_5 u148_u89_h0_0_0 gH148 hl f148_1 f148_2 f148_3 f148_4 f148_5 s148_u148_h0_0 s148_u148_u89_h0_0_0
        obtain ⟨x_3, e_3⟩ : ∃ y : Int32, (v89_6 : Int32) + Int32.ofInt 1 = y := ⟨_, rfl⟩
        refine lv_iinc (v := x_3) (lv' := [(6, .int x_3), (0, .ref h0), (1, .int p0), (2, .int p1), (3, .ref v89_3), (5, .int v148_5)]) hx hb dX6_worthAt_148 hl (k := 5) rfl e_3 (by decide) rfl (fun ls hl => ?_)
        have t_3 := z_inc2 e_3 rfl (by decide) (by omega) (by omega)
        refine lv_goto (tgt := 89) hx hb dX6_worthAt_151 (by decide) ?_
        exact ih89 H148 lc148 ls v89_3 v148_5 x_3 u89_h0_0 (by omega) gH148 (lv_sub hl [1, 2, 3, 4, 5, 0] rfl) k_v89_3 k_u89_h0_0 (by omega) (by omega) (by omega) (by omega) (by omega) s148_u148_h0_0
      refine lv_iload hx hb dX6_worthAt_89 (lv_at hl 5 rfl) ?_
      refine lv_aload_n hx hb dX6_worthAt_91 rfl (lv_at hl 0 rfl) ?_
      refine g_get B fl_RX6_21 gH89.1 kh0 rfl rfl rfl dX6_worthAt_92 s89_u89_h0_0 ?_
      refine g_getI B fl_RX6_51 gH89.1 k_u89_h0_0 rfl rfl rfl rfl rfl dX6_worthAt_95 (fun x_4 s_4 a_4 b_4 => ?_)
      refine lv_icmp_ge (tgt := 154) hx hb dX6_worthAt_98 (by decide) (fun c_5 => ?_) (fun c_5 => ?_)
      · have f_5 := z_le c_5 rfl rfl
        refine lv_iload hx hb dX6_worthAt_154 (lv_at hl 4 rfl) ?_
        exact rtI (v := v89_5) B hr hlk hh hQ gH89 rfl ⟨by omega, by omega⟩ dX6_worthAt_156
      · have f_5 := z_nle c_5 rfl rfl
        refine lv_iload hx hb dX6_worthAt_101 (lv_at hl 4 rfl) ?_
        refine lv_iconst (v := 1) hx hb dX6_worthAt_103 (by decide) ?_
        refine lv_icmp_ge (tgt := 154) hx hb dX6_worthAt_104 (by decide) (fun c_6 => ?_) (fun c_6 => ?_)
        · have f_6 := z_le c_6 kl_1 rfl
          refine lv_iload hx hb dX6_worthAt_154 (lv_at hl 4 rfl) ?_
          exact rtI (v := v89_5) B hr hlk hh hQ gH89 rfl ⟨by omega, by omega⟩ dX6_worthAt_156
        · have f_6 := z_nle c_6 kl_1 rfl
          refine lv_aload_n hx hb dX6_worthAt_107 rfl (lv_at hl 0 rfl) ?_
          refine zkPI (zrV (rest := []) B (c_X6_isSpent l E hV H89 gH89.1 h0 kh0) cl_RX6_34 gH89.1 kh0 rfl rfl rfl rfl hl.1 rfl (Nat.le_of_ble_eq_true rfl) dX6_worthAt_108 rfl rfl ⟨rfl, rfl⟩ ⟨Nat.zero_le _, Nat.zero_le _⟩ (zO.of gH89 hh)) (fun x_7 hp_7 => ?_)
          obtain ⟨hp_7_1, hp_7_2⟩ := hp_7
          refine lv_if_ne (tgt := 154) hx hb dX6_worthAt_111 (by decide) (fun c_8 => ?_) (fun c_8 => ?_)
          · have f_8 := z_ne c_8 rfl kl_0
            refine lv_iload hx hb dX6_worthAt_154 (lv_at hl 4 rfl) ?_
            exact rtI (v := v89_5) B hr hlk hh hQ gH89 rfl ⟨by omega, by omega⟩ dX6_worthAt_156
          · have f_8 := z_eq c_8 rfl kl_0
            refine lv_aload_n hx hb dX6_worthAt_114 rfl (lv_at hl 0 rfl) ?_
            refine g_get B fl_RX6_21 gH89.1 kh0 rfl rfl rfl dX6_worthAt_115 s89_u89_h0_0 ?_
            refine lv_aload_n hx hb dX6_worthAt_118 rfl (lv_at hl 3 rfl) ?_
            refine lv_iload hx hb dX6_worthAt_119 (lv_at hl 5 rfl) ?_
            refine zkPI (zrV (rest := []) B (c_X2_reach l E hV H89 gH89.1 u89_h0_0 k_u89_h0_0 v89_3 k_v89_3 v89_6) cl_RX6_54 gH89.1 k_u89_h0_0 rfl rfl rfl rfl hl.1 rfl (Nat.le_of_ble_eq_true rfl) dX6_worthAt_121 rfl rfl ⟨rfl, rfl⟩ ⟨Nat.zero_le _, Nat.zero_le _⟩ (zO.of gH89 hh)) (fun x_9 hp_9 => ?_)
            refine lv_istore (lv' := [(7, .int x_9), (0, .ref h0), (1, .int p0), (2, .int p1), (3, .ref v89_3), (5, .int v89_5), (6, .int v89_6)]) hx hb dX6_worthAt_124 hl (by decide) rfl (fun ls hl => ?_)
            refine lv_iload hx hb dX6_worthAt_126 (lv_at hl 0 rfl) ?_
            refine lv_if_eq (tgt := 148) hx hb dX6_worthAt_128 (by decide) (fun c_10 => ?_) (fun c_10 => ?_)
            · have f_10 := z_eq c_10 rfl kl_0
              exact b148 H89 lc89 ls v89_5 x_4 gH89 (lv_sub hl [1, 2, 3, 4, 5, 6] rfl) (by omega) (by omega) (by omega) (by omega) (by omega) s89_u89_h0_0 s_4
            · have f_10 := z_ne c_10 rfl kl_0
              refine lv_iload hx hb dX6_worthAt_131 (lv_at hl 5 rfl) ?_
              refine lv_aload_n hx hb dX6_worthAt_133 rfl (lv_at hl 1 rfl) ?_
              refine lv_iload_n hx hb dX6_worthAt_134 rfl (lv_at hl 2 rfl) ?_
              refine lv_iload_n hx hb dX6_worthAt_135 rfl (lv_at hl 3 rfl) ?_
              refine lv_iload hx hb dX6_worthAt_136 (lv_at hl 6 rfl) ?_
              refine lv_iload hx hb dX6_worthAt_138 (lv_at hl 0 rfl) ?_
              refine zkI (zrV (rest := [.int v89_5]) B (c_X6_bestFrom_d1 l E hV H89 gH89.1 h0 kh0 p0 (by omega) (by omega) p1 v89_6 x_9) cl_RX6_58 gH89.1 kh0 rfl rfl rfl rfl hl.1 rfl (Nat.le_of_ble_eq_true rfl) dX6_worthAt_140 rfl rfl ⟨rfl, rfl⟩ ⟨Nat.zero_le _, Nat.zero_le _⟩ (zO.of gH89 hh)) gH89 rfl (fun x_11 H11 lc11 hp_11 gH11 rH11 => ?_)
              have s_12 := rH11.keep hV kh0 rfl s89_u89_h0_0
              have s_13 := rH11.keep hV k_u89_h0_0 rfl s_4
              obtain ⟨hp_11_1, hp_11_2⟩ := hp_11
              refine va_mmax hx hb (B.2.2.1.trans hl.1.symm) B.2.2.2.1 (B.2.2.2.2.1 _ (mc_wsL_law_r36 _ (List.mem_of_getElem? (i := 22) rfl))) (B.2.2.2.2.1 _ (mc_wsL_law_r36 _ (List.mem_of_getElem? (i := 23) rfl))) (B.2.2.2.2.1 _ (mc_wsL_law_r17 _ (List.mem_of_getElem? (i := 10) rfl))) (B.2.2.2.2.1 _ (mc_wsL_law_r37 _ (List.mem_of_getElem? (i := 0) rfl))) (Nat.le_of_ble_eq_true rfl) (Nat.le_of_ble_eq_true rfl) (Nat.zero_le _) (Nat.zero_le _) dX6_worthAt_143 ?_
              refine lv_topi (fun x_14 e_14 => ?_)
              have t_14 := z_max e_14 rfl rfl
              refine lv_istore (lv' := [(5, .int x_14), (7, .int x_9), (0, .ref h0), (1, .int p0), (2, .int p1), (3, .ref v89_3), (6, .int v89_6)]) hx hb dX6_worthAt_146 hl (by decide) rfl (fun ls hl => ?_)
              exact b148 H11 lc11 ls x_14 x_4 gH11 (lv_sub hl [2, 3, 4, 5, 0, 6] rfl) (by omega) (by omega) (by omega) (by omega) (by omega) s_12 s_13
  refine lv_aload_n hx hb dX6_worthAt_0 rfl (lv_at hl 0 rfl) ?_
  refine lv_dup hx hb dX6_worthAt_1 rfl ?_
  refine g_getI B fl_RX6_17 hT0 kh0 rfl rfl rfl rfl rfl dX6_worthAt_2 (fun x_15 s_15 a_15 b_15 => ?_)
  refine lv_iconst (v := 1) hx hb dX6_worthAt_5 (by decide) ?_
  refine lv_iadd hx hb dX6_worthAt_6 ?_
  refine lv_topi (fun x_16 e_16 => ?_)
  refine g_putI B fp_RX6_17 hV hG0 kh0 rfl rfl rfl rfl rfl (z_rng _).1 (z_rng _).2 rfl dX6_worthAt_7 (fun H17 lc17 gH17 uH17 => ?_)
  refine lv_aload_n hx hb dX6_worthAt_10 rfl (lv_at hl 0 rfl) ?_
  refine zkPI (zrV (rest := []) B (c_X6_isSpent l E hV H17 gH17.1 h0 kh0) cl_RX6_34 gH17.1 kh0 rfl rfl rfl rfl hl.1 rfl (Nat.le_of_ble_eq_true rfl) dX6_worthAt_11 rfl rfl ⟨rfl, rfl⟩ ⟨Nat.zero_le _, Nat.zero_le _⟩ (zO.of gH17 hh)) (fun x_18 hp_18 => ?_)
  obtain ⟨hp_18_1, hp_18_2⟩ := hp_18
  refine lv_if_eq (tgt := 19) hx hb dX6_worthAt_14 (by decide) (fun c_19 => ?_) (fun c_19 => ?_)
  · have f_19 := z_eq c_19 rfl kl_0
    refine lv_aload_n hx hb dX6_worthAt_19 rfl (lv_at hl 0 rfl) ?_
    refine g_getR B fl_RX6_11 gH17.1 kh0 rfl rfl rfl rfl rfl dX6_worthAt_20 (fun q_20 s_20 k_q_20 => ?_)
    refine lv_iload_n hx hb dX6_worthAt_23 rfl (lv_at hl 1 rfl) ?_
    refine g_aaldI (i := p0) (N := 5) B gH17.1 k_q_20 rfl rfl rfl rfl rfl (by omega) (by omega) rfl dX6_worthAt_24 (fun q_21 s_21 k_q_21 => ?_)
    refine lv_astore_n (lv' := [(3, .ref q_21), (0, .ref h0), (1, .int p0), (2, .int p1)]) hx hb dX6_worthAt_25 rfl hl (by decide) rfl (fun ls hl => ?_)
    refine lv_aload_n hx hb dX6_worthAt_26 rfl (lv_at hl 1 rfl) ?_
    refine g_getR B fl_RX6_21 gH17.1 kh0 rfl rfl rfl rfl rfl dX6_worthAt_27 (fun q_22 s_22 k_q_22 => ?_)
    refine lv_aload_n hx hb dX6_worthAt_30 rfl (lv_at hl 0 rfl) ?_
    refine zkPI (zrV (rest := []) B (c_X2_kingless l E hV H17 gH17.1 q_22 k_q_22 q_21 k_q_21) cl_RX6_38 gH17.1 k_q_22 rfl rfl rfl rfl hl.1 rfl (Nat.le_of_ble_eq_true rfl) dX6_worthAt_31 rfl rfl ⟨rfl, rfl⟩ ⟨Nat.zero_le _, Nat.zero_le _⟩ (zO.of gH17 hh)) (fun x_23 hp_23 => ?_)
    obtain ⟨hp_23_1, hp_23_2⟩ := hp_23
    refine lv_istore (lv' := [(4, .int x_23), (3, .ref q_21), (0, .ref h0), (1, .int p0), (2, .int p1)]) hx hb dX6_worthAt_34 hl (by decide) rfl (fun ls hl => ?_)
    refine lv_iload hx hb dX6_worthAt_36 (lv_at hl 0 rfl) ?_
    refine lv_iconst (v := (-1)) hx hb dX6_worthAt_38 (by decide) ?_
    refine lv_icmp_eq (tgt := 57) hx hb dX6_worthAt_39 (by decide) (fun c_24 => ?_) (fun c_24 => ?_)
    · have f_24 := z_eq c_24 rfl kl_m1
      refine lv_iload_n hx hb dX6_worthAt_57 rfl (lv_at hl 4 rfl) ?_
      refine lv_if_le (tgt := 66) hx hb dX6_worthAt_58 (by decide) (fun c_25 => ?_) (fun c_25 => ?_)
      · have f_25 := z_le c_25 rfl kl_0
        exact b66 H17 lc17 ls q_21 q_22 gH17 (lv_sub hl [2, 1] rfl) k_q_21 k_q_22 s_22
      · have f_25 := z_nle c_25 rfl kl_0
        refine lv_iload_n hx hb dX6_worthAt_61 rfl (lv_at hl 3 rfl) ?_
        refine lv_iconst (v := 4) hx hb dX6_worthAt_62 (by decide) ?_
        refine lv_icmp_lt (tgt := 83) hx hb dX6_worthAt_63 (by decide) (fun c_26 => ?_) (fun c_26 => ?_)
        · have f_26 := z_lt c_26 rfl kl_4
          refine lv_iconst (v := (-1)) hx hb dX6_worthAt_83 (by decide) ?_
          refine lv_istore (lv' := [(5, .int (-1)), (4, .int x_23), (3, .ref q_21), (0, .ref h0), (1, .int p0), (2, .int p1)]) hx hb dX6_worthAt_84 hl (by decide) rfl (fun ls hl => ?_)
          refine lv_iconst (v := 0) hx hb dX6_worthAt_86 (by decide) ?_
          refine lv_istore (lv' := [(6, .int 0), (5, .int (-1)), (4, .int x_23), (3, .ref q_21), (0, .ref h0), (1, .int p0), (2, .int p1)]) hx hb dX6_worthAt_87 hl (by decide) rfl (fun ls hl => ?_)
          have := kl_m1
          have := kl_0
          exact b89 31 H17 lc17 ls q_21 (-1) 0 q_22 (by omega) gH17 (lv_sub hl [4, 5, 6, 3, 1, 0] rfl) k_q_21 k_q_22 (by omega) (by omega) (by omega) (by omega) (by omega) s_22
        · have f_26 := z_nlt c_26 rfl kl_4
          exact False.elim (by omega)
    · have f_24 := z_ne c_24 rfl kl_m1
      refine lv_iload hx hb dX6_worthAt_42 (lv_at hl 0 rfl) ?_
      refine lv_aload_n hx hb dX6_worthAt_44 rfl (lv_at hl 1 rfl) ?_
      refine g_getI B fl_RX6_44 gH17.1 k_q_21 rfl rfl rfl rfl rfl dX6_worthAt_45 (fun x_27 s_27 a_27 b_27 => ?_)
      refine lv_icmp_ne (tgt := 55) hx hb dX6_worthAt_48 (by decide) (fun c_28 => ?_) (fun c_28 => ?_)
      · have f_28 := z_ne c_28 rfl rfl
        refine lv_iconst (v := 1) hx hb dX6_worthAt_55 (by decide) ?_
        have := kl_1
        have := kl_1
        exact rtI (v := 1) B hr hlk hh hQ gH17 rfl ⟨by omega, by omega⟩ dX6_worthAt_56
      · have f_28 := z_eq c_28 rfl rfl
        refine lv_iconst (v := (-1)) hx hb dX6_worthAt_51 (by decide) ?_
        refine lv_goto (tgt := 56) hx hb dX6_worthAt_52 (by decide) ?_
        have := kl_m1
        have := kl_m1
        exact rtI (v := (-1)) B hr hlk hh hQ gH17 rfl ⟨by omega, by omega⟩ dX6_worthAt_56
  · have f_19 := z_ne c_19 rfl kl_0
    refine lv_iconst (v := 0) hx hb dX6_worthAt_17 (by decide) ?_
    have := kl_0
    have := kl_0
    exact rtI (v := 0) B hr hlk hh hQ gH17 rfl ⟨by omega, by omega⟩ dX6_worthAt_18

def rm_X6_bestFrom_d0 : Room := { frames := 10, cells := 0, slots := 0, locals := 267 }
abbrev wS_X6_bestFrom_d0 : List (Nat × Nat) := [(5, 0), (5, 1), (5, 2), (5, 3), (5, 4), (5, 5), (5, 6), (7, 2)]
set_option maxRecDepth 100000 in
set_option maxHeartbeats 4000000 in
theorem c_X6_bestFrom_d0 (l : Launch) (E : zE) (hV : zV E) (H0 : Heap) (hT0 : HT E H0) (h0 : Nat) (kh0 : eK E h0 = 7) (p0 : Int32) (p0_lo : 0 ≤ p0.toInt) (p0_hi : p0.toInt ≤ 0) (p1 : Int32) (p2 : Int32) (p3 : Int32) : Met l yX6_bestFrom (zws yX6_bestFrom cX6_bestFrom 7 (some .int)) rm_X6_bestFrom_d0 (zP E H0 [.ref h0, .int p0, .int p1, .int p2, .int p3]) (zQI E E wS_X6_bestFrom_d0 (fun r H1 => (-1) ≤ r.toInt ∧ r.toInt ≤ 1)) 0 0 (zfr E) := by
  refine zEnt (by decide) (Nat.le_of_ble_eq_true rfl) (fun p e s m args below meth c ls Q B hr hlk hh hQ hl => ?_)
  have hx := B.1
  have hb := B.2.1
  have hG0 : zG E wS_X6_bestFrom_d0 H0 H0 [] := zG.rf hT0
  have hl : lv_has ls 7 [(0, .ref h0), (1, .int p0), (2, .int p1), (3, .int p2), (4, .int p3)] := hl
  have b13 : ∀ (n13 : Nat) (H13 : Heap) (lc13 : List Loc) (ls : Array Slot) (v13_5 : Int32) (v13_6 : Int32), 30 - v13_6.toInt < (n13 : Int) → zG E wS_X6_bestFrom_d0 H0 H13 lc13 → lv_has ls 7 [(0, .ref h0), (1, .int p0), (2, .int p1), (3, .int p2), (4, .int p3), (5, .int v13_5), (6, .int v13_6)] → (-1) ≤ v13_5.toInt → v13_5.toInt ≤ 1 → 0 ≤ v13_6.toInt → v13_6.toInt ≤ 30 → W p l e rm_X6_bestFrom_d0 s m args below meth c H13 lc13 0 0 Q (F0 m 13 ls []) := by
    intro n13
    induction n13 with
    | zero =>
      intro H13 lc13 ls v13_5 v13_6 hm13 gH13 hl f13_1 f13_2 f13_3 f13_4
      exact absurd hm13 (by omega)
    | succ n13 ih13 =>
      intro H13 lc13 ls v13_5 v13_6 hm13 gH13 hl f13_1 f13_2 f13_3 f13_4
      have b97 : ∀ (H97 : Heap) (lc97 : List Loc) (ls : Array Slot) (v97_5 : Int32) (u97_h0_0 : Nat), zG E wS_X6_bestFrom_d0 H0 H97 lc97 → lv_has ls 7 [(0, .ref h0), (1, .int p0), (2, .int p1), (3, .int p2), (4, .int p3), (5, .int v97_5), (6, .int v13_6)] → eK E u97_h0_0 = 3 → (-1) ≤ v97_5.toInt → v97_5.toInt ≤ 1 → v13_6.toInt ≤ 29 → sl H97 h0 (zix E 7 0) = some (.ref u97_h0_0) → W p l e rm_X6_bestFrom_d0 s m args below meth c H97 lc97 0 0 Q (F0 m 97 ls []) := by
        intro H97 lc97 ls v97_5 u97_h0_0 gH97 hl k_u97_h0_0 f97_1 f97_2 f97_3 s97_u97_h0_0
        obtain ⟨x_1, e_1⟩ : ∃ y : Int32, (v13_6 : Int32) + Int32.ofInt 1 = y := ⟨_, rfl⟩
        refine lv_iinc (v := x_1) (lv' := [(6, .int x_1), (0, .ref h0), (1, .int p0), (2, .int p1), (3, .int p2), (4, .int p3), (5, .int v97_5)]) hx hb dX6_bestFrom_97 hl (k := 6) rfl e_1 (by decide) rfl (fun ls hl => ?_)
        have t_1 := z_inc2 e_1 rfl (by decide) (by omega) (by omega)
        refine lv_goto (tgt := 13) hx hb dX6_bestFrom_100 (by decide) ?_
        exact ih13 H97 lc97 ls v97_5 x_1 (by omega) gH97 (lv_sub hl [1, 2, 3, 4, 5, 6, 0] rfl) (by omega) (by omega) (by omega) (by omega)
      refine lv_iload hx hb dX6_bestFrom_13 (lv_at hl 6 rfl) ?_
      refine lv_aload_n hx hb dX6_bestFrom_15 rfl (lv_at hl 0 rfl) ?_
      refine g_getR B fl_RX6_21 gH13.1 kh0 rfl rfl rfl rfl rfl dX6_bestFrom_16 (fun q_2 s_2 k_q_2 => ?_)
      refine g_getI B fl_RX6_51 gH13.1 k_q_2 rfl rfl rfl rfl rfl dX6_bestFrom_19 (fun x_3 s_3 a_3 b_3 => ?_)
      refine lv_icmp_ge (tgt := 103) hx hb dX6_bestFrom_22 (by decide) (fun c_4 => ?_) (fun c_4 => ?_)
      · have f_4 := z_le c_4 rfl rfl
        refine lv_iload hx hb dX6_bestFrom_103 (lv_at hl 5 rfl) ?_
        exact rtI (v := v13_5) B hr hlk hh hQ gH13 rfl ⟨by omega, by omega⟩ dX6_bestFrom_105
      · have f_4 := z_nle c_4 rfl rfl
        refine lv_iload hx hb dX6_bestFrom_25 (lv_at hl 5 rfl) ?_
        refine lv_iconst (v := 1) hx hb dX6_bestFrom_27 (by decide) ?_
        refine lv_icmp_ge (tgt := 103) hx hb dX6_bestFrom_28 (by decide) (fun c_5 => ?_) (fun c_5 => ?_)
        · have f_5 := z_le c_5 kl_1 rfl
          refine lv_iload hx hb dX6_bestFrom_103 (lv_at hl 5 rfl) ?_
          exact rtI (v := v13_5) B hr hlk hh hQ gH13 rfl ⟨by omega, by omega⟩ dX6_bestFrom_105
        · have f_5 := z_nle c_5 kl_1 rfl
          refine lv_aload_n hx hb dX6_bestFrom_31 rfl (lv_at hl 0 rfl) ?_
          refine zkPI (zrV (rest := []) B (c_X6_isSpent l E hV H13 gH13.1 h0 kh0) cl_RX6_34 gH13.1 kh0 rfl rfl rfl rfl hl.1 rfl (Nat.le_of_ble_eq_true rfl) dX6_bestFrom_32 rfl rfl ⟨rfl, rfl⟩ ⟨Nat.zero_le _, Nat.zero_le _⟩ (zO.of gH13 hh)) (fun x_6 hp_6 => ?_)
          obtain ⟨hp_6_1, hp_6_2⟩ := hp_6
          refine lv_if_ne (tgt := 103) hx hb dX6_bestFrom_35 (by decide) (fun c_7 => ?_) (fun c_7 => ?_)
          · have f_7 := z_ne c_7 rfl kl_0
            refine lv_iload hx hb dX6_bestFrom_103 (lv_at hl 5 rfl) ?_
            exact rtI (v := v13_5) B hr hlk hh hQ gH13 rfl ⟨by omega, by omega⟩ dX6_bestFrom_105
          · have f_7 := z_eq c_7 rfl kl_0
            refine lv_iload hx hb dX6_bestFrom_38 (lv_at hl 4 rfl) ?_
            refine lv_iload hx hb dX6_bestFrom_40 (lv_at hl 6 rfl) ?_
            refine lv_iushr hx hb dX6_bestFrom_42 rfl ?_
            refine lv_topi (fun x_8 e_8 => ?_)
            refine lv_iconst (v := 1) hx hb dX6_bestFrom_43 (by decide) ?_
            refine lv_iand hx hb dX6_bestFrom_44 ?_
            refine lv_topi (fun x_9 e_9 => ?_)
            have t_9 := z_andR e_9 kl_1 (by omega)
            refine lv_if_eq (tgt := 97) hx hb dX6_bestFrom_45 (by decide) (fun c_10 => ?_) (fun c_10 => ?_)
            · have f_10 := z_eq c_10 rfl kl_0
              exact b97 H13 lc13 ls v13_5 q_2 gH13 (lv_sub hl [0, 1, 2, 3, 4, 5, 6] rfl) k_q_2 (by omega) (by omega) (by omega) s_2
            · have f_10 := z_ne c_10 rfl kl_0
              refine lv_aload_n hx hb dX6_bestFrom_48 rfl (lv_at hl 0 rfl) ?_
              refine g_getR B fl_RX6_11 gH13.1 kh0 rfl rfl rfl rfl rfl dX6_bestFrom_49 (fun q_11 s_11 k_q_11 => ?_)
              refine lv_iload_n hx hb dX6_bestFrom_52 rfl (lv_at hl 1 rfl) ?_
              refine lv_iconst (v := 1) hx hb dX6_bestFrom_53 (by decide) ?_
              refine lv_iadd hx hb dX6_bestFrom_54 ?_
              refine lv_topi (fun x_12 e_12 => ?_)
              have t_12 := z_add e_12 rfl kl_1 (by omega) (by omega)
              refine g_aaldI (i := x_12) (N := 5) B gH13.1 k_q_11 rfl rfl rfl rfl rfl (by omega) (by omega) rfl dX6_bestFrom_55 (fun q_13 s_13 k_q_13 => ?_)
              refine lv_aload_n hx hb dX6_bestFrom_56 rfl (lv_at hl 0 rfl) ?_
              refine g_get B fl_RX6_11 gH13.1 kh0 rfl rfl rfl dX6_bestFrom_57 s_11 ?_
              refine lv_iload_n hx hb dX6_bestFrom_60 rfl (lv_at hl 1 rfl) ?_
              refine g_aaldI (i := p0) (N := 5) B gH13.1 k_q_11 rfl rfl rfl rfl rfl (by omega) (by omega) rfl dX6_bestFrom_61 (fun q_14 s_14 k_q_14 => ?_)
              refine zkV (zrV (rest := []) B (c_X4_copyOf l E hV H13 gH13.1 q_13 k_q_13 q_14 k_q_14) cl_RX6_26 gH13.1 k_q_13 rfl rfl rfl rfl hl.1 rfl (Nat.le_of_ble_eq_true rfl) dX6_bestFrom_62 rfl rfl ⟨rfl, rfl⟩ ⟨Nat.zero_le _, Nat.zero_le _⟩ (zO.of gH13 hh)) gH13 rfl (fun H15 lc15 hp_15 gH15 rH15 => ?_)
              have s_16 := rH15.keep hV kh0 rfl s_2
              have s_17 := rH15.keep hV k_q_2 rfl s_3
              have s_18 := rH15.keep hV kh0 rfl s_11
              have s_19 := rH15.keepA k_q_11 rfl s_13
              have s_20 := rH15.keepA k_q_11 rfl s_14
              refine lv_aload_n hx hb dX6_bestFrom_65 rfl (lv_at hl 0 rfl) ?_
              refine g_get B fl_RX6_11 gH15.1 kh0 rfl rfl rfl dX6_bestFrom_66 s_18 ?_
              refine lv_iload_n hx hb dX6_bestFrom_69 rfl (lv_at hl 1 rfl) ?_
              refine lv_iconst (v := 1) hx hb dX6_bestFrom_70 (by decide) ?_
              refine lv_iadd hx hb dX6_bestFrom_71 ?_
              refine lv_topi (fun x_21 e_21 => ?_)
              have t_21 := z_add e_21 rfl kl_1 (by omega) (by omega)
              refine g_aaldI (i := x_21) (N := 5) B gH15.1 k_q_11 rfl rfl rfl rfl rfl (by omega) (by omega) rfl dX6_bestFrom_72 (fun q_22 s_22 k_q_22 => ?_)
              refine lv_iload_n hx hb dX6_bestFrom_73 rfl (lv_at hl 3 rfl) ?_
              refine lv_iload hx hb dX6_bestFrom_74 (lv_at hl 6 rfl) ?_
              refine zkV (zrV (rest := []) B (c_X4_carry l E hV H15 gH15.1 q_22 k_q_22 p2 v13_6) cl_RX6_67 gH15.1 k_q_22 rfl rfl rfl rfl hl.1 rfl (Nat.le_of_ble_eq_true rfl) dX6_bestFrom_76 rfl rfl ⟨rfl, rfl⟩ ⟨Nat.zero_le _, Nat.zero_le _⟩ (zO.of gH15 hh)) gH15 rfl (fun H23 lc23 hp_23 gH23 rH23 => ?_)
              have s_24 := rH23.keep hV kh0 rfl s_16
              have s_25 := rH23.keep hV k_q_2 rfl s_17
              have s_26 := rH23.keep hV kh0 rfl s_18
              have s_27 := rH23.keepA k_q_11 rfl s_19
              have s_28 := rH23.keepA k_q_11 rfl s_20
              have s_29 := rH23.keepA k_q_11 rfl s_22
              refine lv_iload hx hb dX6_bestFrom_79 (lv_at hl 5 rfl) ?_
              refine lv_aload_n hx hb dX6_bestFrom_81 rfl (lv_at hl 0 rfl) ?_
              refine lv_iload_n hx hb dX6_bestFrom_82 rfl (lv_at hl 1 rfl) ?_
              refine lv_iconst (v := 1) hx hb dX6_bestFrom_83 (by decide) ?_
              refine lv_iadd hx hb dX6_bestFrom_84 ?_
              refine lv_topi (fun x_30 e_30 => ?_)
              have t_30 := z_add e_30 rfl kl_1 (by omega) (by omega)
              refine lv_iload_n hx hb dX6_bestFrom_85 rfl (lv_at hl 2 rfl) ?_
              refine lv_iconst (v := 1) hx hb dX6_bestFrom_86 (by decide) ?_
              refine lv_isub hx hb dX6_bestFrom_87 ?_
              refine lv_topi (fun x_31 e_31 => ?_)
              refine zkI (zrV (rest := [.int v13_5]) B (c_X6_worthAt_d1 l E hV H23 gH23.1 h0 kh0 x_30 (by omega) (by omega) x_31) cl_RX6_30 gH23.1 kh0 rfl rfl rfl rfl hl.1 rfl (Nat.le_of_ble_eq_true rfl) dX6_bestFrom_88 rfl rfl ⟨rfl, rfl⟩ ⟨Nat.zero_le _, Nat.zero_le _⟩ (zO.of gH23 hh)) gH23 rfl (fun x_32 H32 lc32 hp_32 gH32 rH32 => ?_)
              have s_33 := rH32.keep hV kh0 rfl s_24
              have s_34 := rH32.keep hV k_q_2 rfl s_25
              have s_35 := rH32.keep hV kh0 rfl s_26
              have s_36 := rH32.keepA k_q_11 rfl s_27
              have s_37 := rH32.keepA k_q_11 rfl s_28
              have s_38 := rH32.keepA k_q_11 rfl s_29
              obtain ⟨hp_32_1, hp_32_2⟩ := hp_32
              refine lv_ineg hx hb dX6_bestFrom_91 ?_
              refine lv_topi (fun x_39 e_39 => ?_)
              have t_39 := z_neg e_39 rfl (by omega)
              refine va_mmax hx hb (B.2.2.1.trans hl.1.symm) B.2.2.2.1 (B.2.2.2.2.1 _ (mc_wsL_law_r36 _ (List.mem_of_getElem? (i := 22) rfl))) (B.2.2.2.2.1 _ (mc_wsL_law_r36 _ (List.mem_of_getElem? (i := 23) rfl))) (B.2.2.2.2.1 _ (mc_wsL_law_r17 _ (List.mem_of_getElem? (i := 10) rfl))) (B.2.2.2.2.1 _ (mc_wsL_law_r37 _ (List.mem_of_getElem? (i := 0) rfl))) (Nat.le_of_ble_eq_true rfl) (Nat.le_of_ble_eq_true rfl) (Nat.zero_le _) (Nat.zero_le _) dX6_bestFrom_92 ?_
              refine lv_topi (fun x_40 e_40 => ?_)
              have t_40 := z_max e_40 rfl rfl
              refine lv_istore (lv' := [(5, .int x_40), (0, .ref h0), (1, .int p0), (2, .int p1), (3, .int p2), (4, .int p3), (6, .int v13_6)]) hx hb dX6_bestFrom_95 hl (by decide) rfl (fun ls hl => ?_)
              exact b97 H32 lc32 ls x_40 q_2 gH32 (lv_sub hl [1, 2, 3, 4, 5, 0, 6] rfl) k_q_2 (by omega) (by omega) (by omega) s_33
  refine lv_iload_n hx hb dX6_bestFrom_0 rfl (lv_at hl 1 rfl) ?_
  refine lv_iconst (v := 4) hx hb dX6_bestFrom_1 (by decide) ?_
  refine lv_icmp_lt (tgt := 7) hx hb dX6_bestFrom_2 (by decide) (fun c_41 => ?_) (fun c_41 => ?_)
  · have f_41 := z_lt c_41 rfl kl_4
    refine lv_iconst (v := (-1)) hx hb dX6_bestFrom_7 (by decide) ?_
    refine lv_istore (lv' := [(5, .int (-1)), (0, .ref h0), (1, .int p0), (2, .int p1), (3, .int p2), (4, .int p3)]) hx hb dX6_bestFrom_8 hl (by decide) rfl (fun ls hl => ?_)
    refine lv_iconst (v := 0) hx hb dX6_bestFrom_10 (by decide) ?_
    refine lv_istore (lv' := [(6, .int 0), (5, .int (-1)), (0, .ref h0), (1, .int p0), (2, .int p1), (3, .int p2), (4, .int p3)]) hx hb dX6_bestFrom_11 hl (by decide) rfl (fun ls hl => ?_)
    have := kl_m1
    have := kl_0
    exact b13 31 H0 [] ls (-1) 0 (by omega) hG0 (lv_sub hl [2, 3, 4, 5, 6, 1, 0] rfl) (by omega) (by omega) (by omega) (by omega)
  · have f_41 := z_nlt c_41 rfl kl_4
    exact False.elim (by omega)

def rm_X6_worthAt_d0 : Room := { frames := 11, cells := 0, slots := 0, locals := 293 }
abbrev wS_X6_worthAt_d0 : List (Nat × Nat) := [(5, 0), (5, 1), (5, 2), (5, 3), (5, 4), (5, 5), (5, 6), (7, 2)]
set_option maxRecDepth 100000 in
set_option maxHeartbeats 4000000 in
theorem c_X6_worthAt_d0 (l : Launch) (E : zE) (hV : zV E) (H0 : Heap) (hT0 : HT E H0) (h0 : Nat) (kh0 : eK E h0 = 7) (p0 : Int32) (p0_lo : 0 ≤ p0.toInt) (p0_hi : p0.toInt ≤ 0) (p1 : Int32) : Met l yX6_worthAt (zws yX6_worthAt cX6_worthAt 8 (some .int)) rm_X6_worthAt_d0 (zP E H0 [.ref h0, .int p0, .int p1]) (zQI E E wS_X6_worthAt_d0 (fun r H1 => (-1) ≤ r.toInt ∧ r.toInt ≤ 1)) 0 0 (zfr E) := by
  refine zEnt (by decide) (Nat.le_of_ble_eq_true rfl) (fun p e s m args below meth c ls Q B hr hlk hh hQ hl => ?_)
  have hx := B.1
  have hb := B.2.1
  have hG0 : zG E wS_X6_worthAt_d0 H0 H0 [] := zG.rf hT0
  have hl : lv_has ls 8 [(0, .ref h0), (1, .int p0), (2, .int p1)] := hl
  have b66 : ∀ (H66 : Heap) (lc66 : List Loc) (ls : Array Slot) (v66_3 : Nat) (u66_h0_0 : Nat), zG E wS_X6_worthAt_d0 H0 H66 lc66 → lv_has ls 8 [(0, .ref h0), (3, .ref v66_3)] → eK E v66_3 = 5 → eK E u66_h0_0 = 3 → sl H66 h0 (zix E 7 0) = some (.ref u66_h0_0) → W p l e rm_X6_worthAt_d0 s m args below meth c H66 lc66 0 0 Q (F0 m 66 ls []) := by
    intro H66 lc66 ls v66_3 u66_h0_0 gH66 hl k_v66_3 k_u66_h0_0 s66_u66_h0_0
    refine lv_aload_n hx hb dX6_worthAt_66 rfl (lv_at hl 0 rfl) ?_
    refine g_get B fl_RX6_21 gH66.1 kh0 rfl rfl rfl dX6_worthAt_67 s66_u66_h0_0 ?_
    refine lv_aload_n hx hb dX6_worthAt_70 rfl (lv_at hl 1 rfl) ?_
    refine zkPI (zrV (rest := []) B (c_X2_canMove l E hV H66 gH66.1 u66_h0_0 k_u66_h0_0 v66_3 k_v66_3) cl_RX6_47 gH66.1 k_u66_h0_0 rfl rfl rfl rfl hl.1 rfl (Nat.le_of_ble_eq_true rfl) dX6_worthAt_71 rfl rfl ⟨rfl, rfl⟩ ⟨Nat.zero_le _, Nat.zero_le _⟩ (zO.of gH66 hh)) (fun x_1 hp_1 => ?_)
    obtain ⟨hp_1_1, hp_1_2⟩ := hp_1
    refine lv_if_eq (tgt := 81) hx hb dX6_worthAt_74 (by decide) (fun c_2 => ?_) (fun c_2 => ?_)
    · have f_2 := z_eq c_2 rfl kl_0
      refine lv_iconst (v := (-1)) hx hb dX6_worthAt_81 (by decide) ?_
      have := kl_m1
      have := kl_m1
      exact rtI (v := (-1)) B hr hlk hh hQ gH66 rfl ⟨by omega, by omega⟩ dX6_worthAt_82
    · have f_2 := z_ne c_2 rfl kl_0
      refine lv_iconst (v := 0) hx hb dX6_worthAt_77 (by decide) ?_
      refine lv_goto (tgt := 82) hx hb dX6_worthAt_78 (by decide) ?_
      have := kl_0
      have := kl_0
      exact rtI (v := 0) B hr hlk hh hQ gH66 rfl ⟨by omega, by omega⟩ dX6_worthAt_82
  have b89 : ∀ (n89 : Nat) (H89 : Heap) (lc89 : List Loc) (ls : Array Slot) (v89_3 : Nat) (v89_5 : Int32) (v89_6 : Int32) (u89_h0_0 : Nat), 30 - v89_6.toInt < (n89 : Int) → zG E wS_X6_worthAt_d0 H0 H89 lc89 → lv_has ls 8 [(0, .ref h0), (1, .int p0), (2, .int p1), (3, .ref v89_3), (5, .int v89_5), (6, .int v89_6)] → eK E v89_3 = 5 → eK E u89_h0_0 = 3 → 1 ≤ p1.toInt → (-1) ≤ v89_5.toInt → v89_5.toInt ≤ 1 → 0 ≤ v89_6.toInt → v89_6.toInt ≤ 30 → sl H89 h0 (zix E 7 0) = some (.ref u89_h0_0) → W p l e rm_X6_worthAt_d0 s m args below meth c H89 lc89 0 0 Q (F0 m 89 ls []) := by
    intro n89
    induction n89 with
    | zero =>
      intro H89 lc89 ls v89_3 v89_5 v89_6 u89_h0_0 hm89 gH89 hl k_v89_3 k_u89_h0_0 f89_1 f89_2 f89_3 f89_4 f89_5 s89_u89_h0_0
      exact absurd hm89 (by omega)
    | succ n89 ih89 =>
      intro H89 lc89 ls v89_3 v89_5 v89_6 u89_h0_0 hm89 gH89 hl k_v89_3 k_u89_h0_0 f89_1 f89_2 f89_3 f89_4 f89_5 s89_u89_h0_0
      have b148 : ∀ (H148 : Heap) (lc148 : List Loc) (ls : Array Slot) (v148_5 : Int32) (u148_u89_h0_0_0 : Int32), zG E wS_X6_worthAt_d0 H0 H148 lc148 → lv_has ls 8 [(0, .ref h0), (1, .int p0), (2, .int p1), (3, .ref v89_3), (5, .int v148_5), (6, .int v89_6)] → (-1) ≤ v148_5.toInt → v148_5.toInt ≤ 1 → v89_6.toInt ≤ 29 → 1 ≤ u148_u89_h0_0_0.toInt → u148_u89_h0_0_0.toInt ≤ 30 → sl H148 h0 (zix E 7 0) = some (.ref u89_h0_0) → sl H148 u89_h0_0 (zix E 3 0) = some (.int u148_u89_h0_0_0) → W p l e rm_X6_worthAt_d0 s m args below meth c H148 lc148 0 0 Q (F0 m 148 ls []) := by
        intro H148 lc148 ls v148_5 u148_u89_h0_0_0 gH148 hl f148_1 f148_2 f148_3 f148_4 f148_5 s148_u148_h0_0 s148_u148_u89_h0_0_0
        obtain ⟨x_3, e_3⟩ : ∃ y : Int32, (v89_6 : Int32) + Int32.ofInt 1 = y := ⟨_, rfl⟩
        refine lv_iinc (v := x_3) (lv' := [(6, .int x_3), (0, .ref h0), (1, .int p0), (2, .int p1), (3, .ref v89_3), (5, .int v148_5)]) hx hb dX6_worthAt_148 hl (k := 5) rfl e_3 (by decide) rfl (fun ls hl => ?_)
        have t_3 := z_inc2 e_3 rfl (by decide) (by omega) (by omega)
        refine lv_goto (tgt := 89) hx hb dX6_worthAt_151 (by decide) ?_
        exact ih89 H148 lc148 ls v89_3 v148_5 x_3 u89_h0_0 (by omega) gH148 (lv_sub hl [1, 2, 3, 4, 5, 0] rfl) k_v89_3 k_u89_h0_0 (by omega) (by omega) (by omega) (by omega) (by omega) s148_u148_h0_0
      refine lv_iload hx hb dX6_worthAt_89 (lv_at hl 5 rfl) ?_
      refine lv_aload_n hx hb dX6_worthAt_91 rfl (lv_at hl 0 rfl) ?_
      refine g_get B fl_RX6_21 gH89.1 kh0 rfl rfl rfl dX6_worthAt_92 s89_u89_h0_0 ?_
      refine g_getI B fl_RX6_51 gH89.1 k_u89_h0_0 rfl rfl rfl rfl rfl dX6_worthAt_95 (fun x_4 s_4 a_4 b_4 => ?_)
      refine lv_icmp_ge (tgt := 154) hx hb dX6_worthAt_98 (by decide) (fun c_5 => ?_) (fun c_5 => ?_)
      · have f_5 := z_le c_5 rfl rfl
        refine lv_iload hx hb dX6_worthAt_154 (lv_at hl 4 rfl) ?_
        exact rtI (v := v89_5) B hr hlk hh hQ gH89 rfl ⟨by omega, by omega⟩ dX6_worthAt_156
      · have f_5 := z_nle c_5 rfl rfl
        refine lv_iload hx hb dX6_worthAt_101 (lv_at hl 4 rfl) ?_
        refine lv_iconst (v := 1) hx hb dX6_worthAt_103 (by decide) ?_
        refine lv_icmp_ge (tgt := 154) hx hb dX6_worthAt_104 (by decide) (fun c_6 => ?_) (fun c_6 => ?_)
        · have f_6 := z_le c_6 kl_1 rfl
          refine lv_iload hx hb dX6_worthAt_154 (lv_at hl 4 rfl) ?_
          exact rtI (v := v89_5) B hr hlk hh hQ gH89 rfl ⟨by omega, by omega⟩ dX6_worthAt_156
        · have f_6 := z_nle c_6 kl_1 rfl
          refine lv_aload_n hx hb dX6_worthAt_107 rfl (lv_at hl 0 rfl) ?_
          refine zkPI (zrV (rest := []) B (c_X6_isSpent l E hV H89 gH89.1 h0 kh0) cl_RX6_34 gH89.1 kh0 rfl rfl rfl rfl hl.1 rfl (Nat.le_of_ble_eq_true rfl) dX6_worthAt_108 rfl rfl ⟨rfl, rfl⟩ ⟨Nat.zero_le _, Nat.zero_le _⟩ (zO.of gH89 hh)) (fun x_7 hp_7 => ?_)
          obtain ⟨hp_7_1, hp_7_2⟩ := hp_7
          refine lv_if_ne (tgt := 154) hx hb dX6_worthAt_111 (by decide) (fun c_8 => ?_) (fun c_8 => ?_)
          · have f_8 := z_ne c_8 rfl kl_0
            refine lv_iload hx hb dX6_worthAt_154 (lv_at hl 4 rfl) ?_
            exact rtI (v := v89_5) B hr hlk hh hQ gH89 rfl ⟨by omega, by omega⟩ dX6_worthAt_156
          · have f_8 := z_eq c_8 rfl kl_0
            refine lv_aload_n hx hb dX6_worthAt_114 rfl (lv_at hl 0 rfl) ?_
            refine g_get B fl_RX6_21 gH89.1 kh0 rfl rfl rfl dX6_worthAt_115 s89_u89_h0_0 ?_
            refine lv_aload_n hx hb dX6_worthAt_118 rfl (lv_at hl 3 rfl) ?_
            refine lv_iload hx hb dX6_worthAt_119 (lv_at hl 5 rfl) ?_
            refine zkPI (zrV (rest := []) B (c_X2_reach l E hV H89 gH89.1 u89_h0_0 k_u89_h0_0 v89_3 k_v89_3 v89_6) cl_RX6_54 gH89.1 k_u89_h0_0 rfl rfl rfl rfl hl.1 rfl (Nat.le_of_ble_eq_true rfl) dX6_worthAt_121 rfl rfl ⟨rfl, rfl⟩ ⟨Nat.zero_le _, Nat.zero_le _⟩ (zO.of gH89 hh)) (fun x_9 hp_9 => ?_)
            refine lv_istore (lv' := [(7, .int x_9), (0, .ref h0), (1, .int p0), (2, .int p1), (3, .ref v89_3), (5, .int v89_5), (6, .int v89_6)]) hx hb dX6_worthAt_124 hl (by decide) rfl (fun ls hl => ?_)
            refine lv_iload hx hb dX6_worthAt_126 (lv_at hl 0 rfl) ?_
            refine lv_if_eq (tgt := 148) hx hb dX6_worthAt_128 (by decide) (fun c_10 => ?_) (fun c_10 => ?_)
            · have f_10 := z_eq c_10 rfl kl_0
              exact b148 H89 lc89 ls v89_5 x_4 gH89 (lv_sub hl [1, 2, 3, 4, 5, 6] rfl) (by omega) (by omega) (by omega) (by omega) (by omega) s89_u89_h0_0 s_4
            · have f_10 := z_ne c_10 rfl kl_0
              refine lv_iload hx hb dX6_worthAt_131 (lv_at hl 5 rfl) ?_
              refine lv_aload_n hx hb dX6_worthAt_133 rfl (lv_at hl 1 rfl) ?_
              refine lv_iload_n hx hb dX6_worthAt_134 rfl (lv_at hl 2 rfl) ?_
              refine lv_iload_n hx hb dX6_worthAt_135 rfl (lv_at hl 3 rfl) ?_
              refine lv_iload hx hb dX6_worthAt_136 (lv_at hl 6 rfl) ?_
              refine lv_iload hx hb dX6_worthAt_138 (lv_at hl 0 rfl) ?_
              refine zkI (zrV (rest := [.int v89_5]) B (c_X6_bestFrom_d0 l E hV H89 gH89.1 h0 kh0 p0 (by omega) (by omega) p1 v89_6 x_9) cl_RX6_58 gH89.1 kh0 rfl rfl rfl rfl hl.1 rfl (Nat.le_of_ble_eq_true rfl) dX6_worthAt_140 rfl rfl ⟨rfl, rfl⟩ ⟨Nat.zero_le _, Nat.zero_le _⟩ (zO.of gH89 hh)) gH89 rfl (fun x_11 H11 lc11 hp_11 gH11 rH11 => ?_)
              have s_12 := rH11.keep hV kh0 rfl s89_u89_h0_0
              have s_13 := rH11.keep hV k_u89_h0_0 rfl s_4
              obtain ⟨hp_11_1, hp_11_2⟩ := hp_11
              refine va_mmax hx hb (B.2.2.1.trans hl.1.symm) B.2.2.2.1 (B.2.2.2.2.1 _ (mc_wsL_law_r36 _ (List.mem_of_getElem? (i := 22) rfl))) (B.2.2.2.2.1 _ (mc_wsL_law_r36 _ (List.mem_of_getElem? (i := 23) rfl))) (B.2.2.2.2.1 _ (mc_wsL_law_r17 _ (List.mem_of_getElem? (i := 10) rfl))) (B.2.2.2.2.1 _ (mc_wsL_law_r37 _ (List.mem_of_getElem? (i := 0) rfl))) (Nat.le_of_ble_eq_true rfl) (Nat.le_of_ble_eq_true rfl) (Nat.zero_le _) (Nat.zero_le _) dX6_worthAt_143 ?_
              refine lv_topi (fun x_14 e_14 => ?_)
              have t_14 := z_max e_14 rfl rfl
              refine lv_istore (lv' := [(5, .int x_14), (7, .int x_9), (0, .ref h0), (1, .int p0), (2, .int p1), (3, .ref v89_3), (6, .int v89_6)]) hx hb dX6_worthAt_146 hl (by decide) rfl (fun ls hl => ?_)
              exact b148 H11 lc11 ls x_14 x_4 gH11 (lv_sub hl [2, 3, 4, 5, 0, 6] rfl) (by omega) (by omega) (by omega) (by omega) (by omega) s_12 s_13
  refine lv_aload_n hx hb dX6_worthAt_0 rfl (lv_at hl 0 rfl) ?_
  refine lv_dup hx hb dX6_worthAt_1 rfl ?_
  refine g_getI B fl_RX6_17 hT0 kh0 rfl rfl rfl rfl rfl dX6_worthAt_2 (fun x_15 s_15 a_15 b_15 => ?_)
  refine lv_iconst (v := 1) hx hb dX6_worthAt_5 (by decide) ?_
  refine lv_iadd hx hb dX6_worthAt_6 ?_
  refine lv_topi (fun x_16 e_16 => ?_)
  refine g_putI B fp_RX6_17 hV hG0 kh0 rfl rfl rfl rfl rfl (z_rng _).1 (z_rng _).2 rfl dX6_worthAt_7 (fun H17 lc17 gH17 uH17 => ?_)
  refine lv_aload_n hx hb dX6_worthAt_10 rfl (lv_at hl 0 rfl) ?_
  refine zkPI (zrV (rest := []) B (c_X6_isSpent l E hV H17 gH17.1 h0 kh0) cl_RX6_34 gH17.1 kh0 rfl rfl rfl rfl hl.1 rfl (Nat.le_of_ble_eq_true rfl) dX6_worthAt_11 rfl rfl ⟨rfl, rfl⟩ ⟨Nat.zero_le _, Nat.zero_le _⟩ (zO.of gH17 hh)) (fun x_18 hp_18 => ?_)
  obtain ⟨hp_18_1, hp_18_2⟩ := hp_18
  refine lv_if_eq (tgt := 19) hx hb dX6_worthAt_14 (by decide) (fun c_19 => ?_) (fun c_19 => ?_)
  · have f_19 := z_eq c_19 rfl kl_0
    refine lv_aload_n hx hb dX6_worthAt_19 rfl (lv_at hl 0 rfl) ?_
    refine g_getR B fl_RX6_11 gH17.1 kh0 rfl rfl rfl rfl rfl dX6_worthAt_20 (fun q_20 s_20 k_q_20 => ?_)
    refine lv_iload_n hx hb dX6_worthAt_23 rfl (lv_at hl 1 rfl) ?_
    refine g_aaldI (i := p0) (N := 5) B gH17.1 k_q_20 rfl rfl rfl rfl rfl (by omega) (by omega) rfl dX6_worthAt_24 (fun q_21 s_21 k_q_21 => ?_)
    refine lv_astore_n (lv' := [(3, .ref q_21), (0, .ref h0), (1, .int p0), (2, .int p1)]) hx hb dX6_worthAt_25 rfl hl (by decide) rfl (fun ls hl => ?_)
    refine lv_aload_n hx hb dX6_worthAt_26 rfl (lv_at hl 1 rfl) ?_
    refine g_getR B fl_RX6_21 gH17.1 kh0 rfl rfl rfl rfl rfl dX6_worthAt_27 (fun q_22 s_22 k_q_22 => ?_)
    refine lv_aload_n hx hb dX6_worthAt_30 rfl (lv_at hl 0 rfl) ?_
    refine zkPI (zrV (rest := []) B (c_X2_kingless l E hV H17 gH17.1 q_22 k_q_22 q_21 k_q_21) cl_RX6_38 gH17.1 k_q_22 rfl rfl rfl rfl hl.1 rfl (Nat.le_of_ble_eq_true rfl) dX6_worthAt_31 rfl rfl ⟨rfl, rfl⟩ ⟨Nat.zero_le _, Nat.zero_le _⟩ (zO.of gH17 hh)) (fun x_23 hp_23 => ?_)
    obtain ⟨hp_23_1, hp_23_2⟩ := hp_23
    refine lv_istore (lv' := [(4, .int x_23), (3, .ref q_21), (0, .ref h0), (1, .int p0), (2, .int p1)]) hx hb dX6_worthAt_34 hl (by decide) rfl (fun ls hl => ?_)
    refine lv_iload hx hb dX6_worthAt_36 (lv_at hl 0 rfl) ?_
    refine lv_iconst (v := (-1)) hx hb dX6_worthAt_38 (by decide) ?_
    refine lv_icmp_eq (tgt := 57) hx hb dX6_worthAt_39 (by decide) (fun c_24 => ?_) (fun c_24 => ?_)
    · have f_24 := z_eq c_24 rfl kl_m1
      refine lv_iload_n hx hb dX6_worthAt_57 rfl (lv_at hl 4 rfl) ?_
      refine lv_if_le (tgt := 66) hx hb dX6_worthAt_58 (by decide) (fun c_25 => ?_) (fun c_25 => ?_)
      · have f_25 := z_le c_25 rfl kl_0
        exact b66 H17 lc17 ls q_21 q_22 gH17 (lv_sub hl [2, 1] rfl) k_q_21 k_q_22 s_22
      · have f_25 := z_nle c_25 rfl kl_0
        refine lv_iload_n hx hb dX6_worthAt_61 rfl (lv_at hl 3 rfl) ?_
        refine lv_iconst (v := 4) hx hb dX6_worthAt_62 (by decide) ?_
        refine lv_icmp_lt (tgt := 83) hx hb dX6_worthAt_63 (by decide) (fun c_26 => ?_) (fun c_26 => ?_)
        · have f_26 := z_lt c_26 rfl kl_4
          refine lv_iconst (v := (-1)) hx hb dX6_worthAt_83 (by decide) ?_
          refine lv_istore (lv' := [(5, .int (-1)), (4, .int x_23), (3, .ref q_21), (0, .ref h0), (1, .int p0), (2, .int p1)]) hx hb dX6_worthAt_84 hl (by decide) rfl (fun ls hl => ?_)
          refine lv_iconst (v := 0) hx hb dX6_worthAt_86 (by decide) ?_
          refine lv_istore (lv' := [(6, .int 0), (5, .int (-1)), (4, .int x_23), (3, .ref q_21), (0, .ref h0), (1, .int p0), (2, .int p1)]) hx hb dX6_worthAt_87 hl (by decide) rfl (fun ls hl => ?_)
          have := kl_m1
          have := kl_0
          exact b89 31 H17 lc17 ls q_21 (-1) 0 q_22 (by omega) gH17 (lv_sub hl [4, 5, 6, 3, 1, 0] rfl) k_q_21 k_q_22 (by omega) (by omega) (by omega) (by omega) (by omega) s_22
        · have f_26 := z_nlt c_26 rfl kl_4
          exact False.elim (by omega)
    · have f_24 := z_ne c_24 rfl kl_m1
      refine lv_iload hx hb dX6_worthAt_42 (lv_at hl 0 rfl) ?_
      refine lv_aload_n hx hb dX6_worthAt_44 rfl (lv_at hl 1 rfl) ?_
      refine g_getI B fl_RX6_44 gH17.1 k_q_21 rfl rfl rfl rfl rfl dX6_worthAt_45 (fun x_27 s_27 a_27 b_27 => ?_)
      refine lv_icmp_ne (tgt := 55) hx hb dX6_worthAt_48 (by decide) (fun c_28 => ?_) (fun c_28 => ?_)
      · have f_28 := z_ne c_28 rfl rfl
        refine lv_iconst (v := 1) hx hb dX6_worthAt_55 (by decide) ?_
        have := kl_1
        have := kl_1
        exact rtI (v := 1) B hr hlk hh hQ gH17 rfl ⟨by omega, by omega⟩ dX6_worthAt_56
      · have f_28 := z_eq c_28 rfl rfl
        refine lv_iconst (v := (-1)) hx hb dX6_worthAt_51 (by decide) ?_
        refine lv_goto (tgt := 56) hx hb dX6_worthAt_52 (by decide) ?_
        have := kl_m1
        have := kl_m1
        exact rtI (v := (-1)) B hr hlk hh hQ gH17 rfl ⟨by omega, by omega⟩ dX6_worthAt_56
  · have f_19 := z_ne c_19 rfl kl_0
    refine lv_iconst (v := 0) hx hb dX6_worthAt_17 (by decide) ?_
    have := kl_0
    have := kl_0
    exact rtI (v := 0) B hr hlk hh hQ gH17 rfl ⟨by omega, by omega⟩ dX6_worthAt_18

theorem dX6_valueOf_0 : decode cX6_valueOf 0 = .ok (.aload_n 0, 1) := by decide +kernel
theorem dX6_valueOf_1 : decode cX6_valueOf 1 = .ok (.getfield 11, 3) := by decide +kernel
theorem dX6_valueOf_4 : decode cX6_valueOf 4 = .ok (.iconst 0, 1) := by decide +kernel
theorem dX6_valueOf_5 : decode cX6_valueOf 5 = .ok (.aaload, 1) := by decide +kernel
theorem dX6_valueOf_6 : decode cX6_valueOf 6 = .ok (.aload_n 1, 1) := by decide +kernel
theorem dX6_valueOf_7 : decode cX6_valueOf 7 = .ok (.invokevirtual 26, 3) := by decide +kernel
theorem dX6_valueOf_10 : decode cX6_valueOf 10 = .ok (.aload_n 0, 1) := by decide +kernel
theorem dX6_valueOf_11 : decode cX6_valueOf 11 = .ok (.iconst 0, 1) := by decide +kernel
theorem dX6_valueOf_12 : decode cX6_valueOf 12 = .ok (.putfield 17, 3) := by decide +kernel
theorem dX6_valueOf_15 : decode cX6_valueOf 15 = .ok (.aload_n 0, 1) := by decide +kernel
theorem dX6_valueOf_16 : decode cX6_valueOf 16 = .ok (.iconst 0, 1) := by decide +kernel
theorem dX6_valueOf_17 : decode cX6_valueOf 17 = .ok (.iload_n 2, 1) := by decide +kernel
theorem dX6_valueOf_18 : decode cX6_valueOf 18 = .ok (.invokevirtual 30, 3) := by decide +kernel
theorem dX6_valueOf_21 : decode cX6_valueOf 21 = .ok (.istore_n 3, 1) := by decide +kernel
theorem dX6_valueOf_22 : decode cX6_valueOf 22 = .ok (.aload_n 0, 1) := by decide +kernel
theorem dX6_valueOf_23 : decode cX6_valueOf 23 = .ok (.invokevirtual 34, 3) := by decide +kernel
theorem dX6_valueOf_26 : decode cX6_valueOf 26 = .ok (.ifCond .eq 8, 3) := by decide +kernel
theorem dX6_valueOf_29 : decode cX6_valueOf 29 = .ok (.bipush (-2), 2) := by decide +kernel
theorem dX6_valueOf_31 : decode cX6_valueOf 31 = .ok (.goto 4, 3) := by decide +kernel
theorem dX6_valueOf_34 : decode cX6_valueOf 34 = .ok (.iload_n 3, 1) := by decide +kernel
theorem dX6_valueOf_35 : decode cX6_valueOf 35 = .ok (.ireturn, 1) := by decide +kernel
def rm_X6_valueOf : Room := { frames := 12, cells := 0, slots := 0, locals := 320 }
abbrev wS_X6_valueOf : List (Nat × Nat) := [(5, 0), (5, 1), (5, 2), (5, 3), (5, 4), (5, 5), (5, 6), (7, 2)]
set_option maxRecDepth 100000 in
set_option maxHeartbeats 4000000 in
theorem c_X6_valueOf (l : Launch) (E : zE) (hV : zV E) (H0 : Heap) (hT0 : HT E H0) (h0 : Nat) (kh0 : eK E h0 = 7) (p0 : Nat) (kp0 : eK E p0 = 5) (p1 : Int32) : Met l yX6_valueOf (zws yX6_valueOf cX6_valueOf 4 (some .int)) rm_X6_valueOf (zP E H0 [.ref h0, .ref p0, .int p1]) (zQI E E wS_X6_valueOf (fun r H1 => (-2) ≤ r.toInt ∧ r.toInt ≤ 1)) 0 0 (zfr E) := by
  refine zEnt (by decide) (Nat.le_of_ble_eq_true rfl) (fun p e s m args below meth c ls Q B hr hlk hh hQ hl => ?_)
  have hx := B.1
  have hb := B.2.1
  have hG0 : zG E wS_X6_valueOf H0 H0 [] := zG.rf hT0
  have hl : lv_has ls 4 [(0, .ref h0), (1, .ref p0), (2, .int p1)] := hl
  refine lv_aload_n hx hb dX6_valueOf_0 rfl (lv_at hl 0 rfl) ?_
  refine g_getR B fl_RX6_11 hT0 kh0 rfl rfl rfl rfl rfl dX6_valueOf_1 (fun q_1 s_1 k_q_1 => ?_)
  refine lv_iconst (v := 0) hx hb dX6_valueOf_4 (by decide) ?_
  have := kl_0
  refine g_aaldI (i := 0) (N := 5) B hT0 k_q_1 rfl rfl rfl rfl rfl (by omega) (by omega) rfl dX6_valueOf_5 (fun q_2 s_2 k_q_2 => ?_)
  refine lv_aload_n hx hb dX6_valueOf_6 rfl (lv_at hl 1 rfl) ?_
  refine zkV (zrV (rest := []) B (c_X4_copyOf l E hV H0 hT0 q_2 k_q_2 p0 kp0) cl_RX6_26 hT0 k_q_2 rfl rfl rfl rfl hl.1 rfl (Nat.le_of_ble_eq_true rfl) dX6_valueOf_7 rfl rfl ⟨rfl, rfl⟩ ⟨Nat.zero_le _, Nat.zero_le _⟩ (zO.of hG0 hh)) hG0 rfl (fun H3 lc3 hp_3 gH3 rH3 => ?_)
  refine lv_aload_n hx hb dX6_valueOf_10 rfl (lv_at hl 0 rfl) ?_
  refine lv_iconst (v := 0) hx hb dX6_valueOf_11 (by decide) ?_
  have := kl_0
  refine g_putI B fp_RX6_17 hV gH3 kh0 rfl rfl rfl rfl rfl (z_rng _).1 (z_rng _).2 rfl dX6_valueOf_12 (fun H4 lc4 gH4 uH4 => ?_)
  refine lv_aload_n hx hb dX6_valueOf_15 rfl (lv_at hl 0 rfl) ?_
  refine lv_iconst (v := 0) hx hb dX6_valueOf_16 (by decide) ?_
  refine lv_iload_n hx hb dX6_valueOf_17 rfl (lv_at hl 2 rfl) ?_
  have := kl_0
  refine zkI (zrV (rest := []) B (c_X6_worthAt_d0 l E hV H4 gH4.1 h0 kh0 0 (by omega) (by omega) p1) cl_RX6_30 gH4.1 kh0 rfl rfl rfl rfl hl.1 rfl (Nat.le_of_ble_eq_true rfl) dX6_valueOf_18 rfl rfl ⟨rfl, rfl⟩ ⟨Nat.zero_le _, Nat.zero_le _⟩ (zO.of gH4 hh)) gH4 rfl (fun x_5 H5 lc5 hp_5 gH5 rH5 => ?_)
  obtain ⟨hp_5_1, hp_5_2⟩ := hp_5
  refine lv_istore_n (lv' := [(3, .int x_5), (0, .ref h0), (1, .ref p0), (2, .int p1)]) hx hb dX6_valueOf_21 rfl hl (by decide) rfl (fun ls hl => ?_)
  refine lv_aload_n hx hb dX6_valueOf_22 rfl (lv_at hl 1 rfl) ?_
  refine zkPI (zrV (rest := []) B (c_X6_isSpent l E hV H5 gH5.1 h0 kh0) cl_RX6_34 gH5.1 kh0 rfl rfl rfl rfl hl.1 rfl (Nat.le_of_ble_eq_true rfl) dX6_valueOf_23 rfl rfl ⟨rfl, rfl⟩ ⟨Nat.zero_le _, Nat.zero_le _⟩ (zO.of gH5 hh)) (fun x_6 hp_6 => ?_)
  obtain ⟨hp_6_1, hp_6_2⟩ := hp_6
  refine lv_if_eq (tgt := 34) hx hb dX6_valueOf_26 (by decide) (fun c_7 => ?_) (fun c_7 => ?_)
  · have f_7 := z_eq c_7 rfl kl_0
    refine lv_iload_n hx hb dX6_valueOf_34 rfl (lv_at hl 0 rfl) ?_
    exact rtI (v := x_5) B hr hlk hh hQ gH5 rfl ⟨by omega, by omega⟩ dX6_valueOf_35
  · have f_7 := z_ne c_7 rfl kl_0
    refine lv_bipush (v := (-2)) hx hb dX6_valueOf_29 (by decide) ?_
    refine lv_goto (tgt := 35) hx hb dX6_valueOf_31 (by decide) ?_
    have := kl_m2
    have := kl_m2
    exact rtI (v := (-2)) B hr hlk hh hQ gH5 rfl ⟨by omega, by omega⟩ dX6_valueOf_35
