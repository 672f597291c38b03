theorem dX12_layCode_0 : decode cX12_layCode 0 = .ok (.aload_n 0, 1) := by decide +kernel
theorem dX12_layCode_1 : decode cX12_layCode 1 = .ok (.getfield 36, 3) := by decide +kernel
theorem dX12_layCode_4 : decode cX12_layCode 4 = .ok (.aload_n 0, 1) := by decide +kernel
theorem dX12_layCode_5 : decode cX12_layCode 5 = .ok (.getfield 217, 3) := by decide +kernel
theorem dX12_layCode_8 : decode cX12_layCode 8 = .ok (.iaload, 1) := by decide +kernel
theorem dX12_layCode_9 : decode cX12_layCode 9 = .ok (.istore_n 1, 1) := by decide +kernel
theorem dX12_layCode_10 : decode cX12_layCode 10 = .ok (.iload_n 1, 1) := by decide +kernel
theorem dX12_layCode_11 : decode cX12_layCode 11 = .ok (.ifCond .lt 152, 3) := by decide +kernel
theorem dX12_layCode_14 : decode cX12_layCode 14 = .ok (.iconst 0, 1) := by decide +kernel
theorem dX12_layCode_15 : decode cX12_layCode 15 = .ok (.istore_n 2, 1) := by decide +kernel
theorem dX12_layCode_16 : decode cX12_layCode 16 = .ok (.iload_n 2, 1) := by decide +kernel
theorem dX12_layCode_17 : decode cX12_layCode 17 = .ok (.sipush 2048, 3) := by decide +kernel
theorem dX12_layCode_20 : decode cX12_layCode 20 = .ok (.if_icmp .gt 137, 3) := by decide +kernel
theorem dX12_layCode_23 : decode cX12_layCode 23 = .ok (.iload_n 1, 1) := by decide +kernel
theorem dX12_layCode_24 : decode cX12_layCode 24 = .ok (.aload_n 0, 1) := by decide +kernel
theorem dX12_layCode_25 : decode cX12_layCode 25 = .ok (.getfield 36, 3) := by decide +kernel
theorem dX12_layCode_28 : decode cX12_layCode 28 = .ok (.aload_n 0, 1) := by decide +kernel
theorem dX12_layCode_29 : decode cX12_layCode 29 = .ok (.getfield 217, 3) := by decide +kernel
theorem dX12_layCode_32 : decode cX12_layCode 32 = .ok (.iaload, 1) := by decide +kernel
theorem dX12_layCode_33 : decode cX12_layCode 33 = .ok (.if_icmp .ne 7, 3) := by decide +kernel
theorem dX12_layCode_36 : decode cX12_layCode 36 = .ok (.iconst 0, 1) := by decide +kernel
theorem dX12_layCode_37 : decode cX12_layCode 37 = .ok (.goto 6, 3) := by decide +kernel
theorem dX12_layCode_40 : decode cX12_layCode 40 = .ok (.ldc_w 362, 3) := by decide +kernel
theorem dX12_layCode_43 : decode cX12_layCode 43 = .ok (.istore_n 3, 1) := by decide +kernel
theorem dX12_layCode_44 : decode cX12_layCode 44 = .ok (.iconst 1, 1) := by decide +kernel
theorem dX12_layCode_45 : decode cX12_layCode 45 = .ok (.istore 4, 2) := by decide +kernel
theorem dX12_layCode_47 : decode cX12_layCode 47 = .ok (.iload 4, 2) := by decide +kernel
theorem dX12_layCode_49 : decode cX12_layCode 49 = .ok (.bipush 11, 2) := by decide +kernel
theorem dX12_layCode_51 : decode cX12_layCode 51 = .ok (.if_icmp .gt 87, 3) := by decide +kernel
theorem dX12_layCode_54 : decode cX12_layCode 54 = .ok (.iload_n 1, 1) := by decide +kernel
theorem dX12_layCode_55 : decode cX12_layCode 55 = .ok (.aload_n 0, 1) := by decide +kernel
theorem dX12_layCode_56 : decode cX12_layCode 56 = .ok (.getfield 36, 3) := by decide +kernel
theorem dX12_layCode_59 : decode cX12_layCode 59 = .ok (.aload_n 0, 1) := by decide +kernel
theorem dX12_layCode_60 : decode cX12_layCode 60 = .ok (.getfield 217, 3) := by decide +kernel
theorem dX12_layCode_63 : decode cX12_layCode 63 = .ok (.iaload, 1) := by decide +kernel
theorem dX12_layCode_64 : decode cX12_layCode 64 = .ok (.if_icmp .ge 74, 3) := by decide +kernel
theorem dX12_layCode_67 : decode cX12_layCode 67 = .ok (.iload 4, 2) := by decide +kernel
theorem dX12_layCode_69 : decode cX12_layCode 69 = .ok (.invokestatic 363, 3) := by decide +kernel
theorem dX12_layCode_72 : decode cX12_layCode 72 = .ok (.iload_n 2, 1) := by decide +kernel
theorem dX12_layCode_73 : decode cX12_layCode 73 = .ok (.if_icmp .le 6, 3) := by decide +kernel
theorem dX12_layCode_76 : decode cX12_layCode 76 = .ok (.goto 56, 3) := by decide +kernel
theorem dX12_layCode_79 : decode cX12_layCode 79 = .ok (.iload 4, 2) := by decide +kernel
theorem dX12_layCode_81 : decode cX12_layCode 81 = .ok (.aload_n 0, 1) := by decide +kernel
theorem dX12_layCode_82 : decode cX12_layCode 82 = .ok (.getfield 39, 3) := by decide +kernel
theorem dX12_layCode_85 : decode cX12_layCode 85 = .ok (.bipush 12, 2) := by decide +kernel
theorem dX12_layCode_87 : decode cX12_layCode 87 = .ok (.aload_n 0, 1) := by decide +kernel
theorem dX12_layCode_88 : decode cX12_layCode 88 = .ok (.getfield 217, 3) := by decide +kernel
theorem dX12_layCode_91 : decode cX12_layCode 91 = .ok (.imul, 1) := by decide +kernel
theorem dX12_layCode_92 : decode cX12_layCode 92 = .ok (.iload_n 1, 1) := by decide +kernel
theorem dX12_layCode_93 : decode cX12_layCode 93 = .ok (.iadd, 1) := by decide +kernel
theorem dX12_layCode_94 : decode cX12_layCode 94 = .ok (.iaload, 1) := by decide +kernel
theorem dX12_layCode_95 : decode cX12_layCode 95 = .ok (.imul, 1) := by decide +kernel
theorem dX12_layCode_96 : decode cX12_layCode 96 = .ok (.aload_n 0, 1) := by decide +kernel
theorem dX12_layCode_97 : decode cX12_layCode 97 = .ok (.getfield 86, 3) := by decide +kernel
theorem dX12_layCode_100 : decode cX12_layCode 100 = .ok (.sipush 2049, 3) := by decide +kernel
theorem dX12_layCode_103 : decode cX12_layCode 103 = .ok (.iload_n 1, 1) := by decide +kernel
theorem dX12_layCode_104 : decode cX12_layCode 104 = .ok (.iconst 1, 1) := by decide +kernel
theorem dX12_layCode_105 : decode cX12_layCode 105 = .ok (.iadd, 1) := by decide +kernel
theorem dX12_layCode_106 : decode cX12_layCode 106 = .ok (.imul, 1) := by decide +kernel
theorem dX12_layCode_107 : decode cX12_layCode 107 = .ok (.iload_n 2, 1) := by decide +kernel
theorem dX12_layCode_108 : decode cX12_layCode 108 = .ok (.iadd, 1) := by decide +kernel
theorem dX12_layCode_109 : decode cX12_layCode 109 = .ok (.iload 4, 2) := by decide +kernel
theorem dX12_layCode_111 : decode cX12_layCode 111 = .ok (.invokestatic 363, 3) := by decide +kernel
theorem dX12_layCode_114 : decode cX12_layCode 114 = .ok (.isub, 1) := by decide +kernel
theorem dX12_layCode_115 : decode cX12_layCode 115 = .ok (.iaload, 1) := by decide +kernel
theorem dX12_layCode_116 : decode cX12_layCode 116 = .ok (.iadd, 1) := by decide +kernel
theorem dX12_layCode_117 : decode cX12_layCode 117 = .ok (.istore 5, 2) := by decide +kernel
theorem dX12_layCode_119 : decode cX12_layCode 119 = .ok (.iload 5, 2) := by decide +kernel
theorem dX12_layCode_121 : decode cX12_layCode 121 = .ok (.iload_n 3, 1) := by decide +kernel
theorem dX12_layCode_122 : decode cX12_layCode 122 = .ok (.if_icmp .ge 8, 3) := by decide +kernel
theorem dX12_layCode_125 : decode cX12_layCode 125 = .ok (.iload 5, 2) := by decide +kernel
theorem dX12_layCode_127 : decode cX12_layCode 127 = .ok (.goto 4, 3) := by decide +kernel
theorem dX12_layCode_130 : decode cX12_layCode 130 = .ok (.iload_n 3, 1) := by decide +kernel
theorem dX12_layCode_131 : decode cX12_layCode 131 = .ok (.istore_n 3, 1) := by decide +kernel
theorem dX12_layCode_132 : decode cX12_layCode 132 = .ok (.iinc 4 1, 3) := by decide +kernel
theorem dX12_layCode_135 : decode cX12_layCode 135 = .ok (.goto (-88), 3) := by decide +kernel
theorem dX12_layCode_138 : decode cX12_layCode 138 = .ok (.aload_n 0, 1) := by decide +kernel
theorem dX12_layCode_139 : decode cX12_layCode 139 = .ok (.getfield 86, 3) := by decide +kernel
theorem dX12_layCode_142 : decode cX12_layCode 142 = .ok (.sipush 2049, 3) := by decide +kernel
theorem dX12_layCode_145 : decode cX12_layCode 145 = .ok (.iload_n 1, 1) := by decide +kernel
theorem dX12_layCode_146 : decode cX12_layCode 146 = .ok (.imul, 1) := by decide +kernel
theorem dX12_layCode_147 : decode cX12_layCode 147 = .ok (.iload_n 2, 1) := by decide +kernel
theorem dX12_layCode_148 : decode cX12_layCode 148 = .ok (.iadd, 1) := by decide +kernel
theorem dX12_layCode_149 : decode cX12_layCode 149 = .ok (.iload_n 3, 1) := by decide +kernel
theorem dX12_layCode_150 : decode cX12_layCode 150 = .ok (.iastore, 1) := by decide +kernel
theorem dX12_layCode_151 : decode cX12_layCode 151 = .ok (.iinc 2 1, 3) := by decide +kernel
theorem dX12_layCode_154 : decode cX12_layCode 154 = .ok (.goto (-138), 3) := by decide +kernel
theorem dX12_layCode_157 : decode cX12_layCode 157 = .ok (.iinc 1 (-1), 3) := by decide +kernel
theorem dX12_layCode_160 : decode cX12_layCode 160 = .ok (.goto (-150), 3) := by decide +kernel
theorem dX12_layCode_163 : decode cX12_layCode 163 = .ok (.return_, 1) := by decide +kernel
def rm_X12_layCode : Room := { frames := 1, cells := 0, slots := 0, locals := 20 }
abbrev wS_X12_layCode : List (Nat × Nat) := [(81, 99)]
set_option maxRecDepth 100000 in
set_option maxHeartbeats 4000000 in
theorem c_X12_layCode (l : Launch) (E : zE) (hV : zV E) (H0 : Heap) (hT0 : HT E H0) (h0 : Nat) (kh0 : eK E h0 = 13) (fla : Nat) (kfla : eK E fla = 65) (s_fla : sl H0 h0 (zix E 13 16) = some (.ref fla)) (bk : Int32) (s_bk : sl H0 h0 (zix E 13 26) = some (.int bk)) (fl : Int32) (s_fl : sl H0 fla bk.toNatClampNeg = some (.int fl)) (fo : Nat) (kfo : eK E fo = 66) (s_fo : sl H0 h0 (zix E 13 17) = some (.ref fo)) (lf : Nat) (klf : eK E lf = 81) (s_lf : sl H0 h0 (zix E 13 40) = some (.ref lf)) (g : Nat → Int) (hg : zFo H0 fo bk g) : Met l yX12_layCode (zws yX12_layCode cX12_layCode 6 none) rm_X12_layCode (zP E H0 [.ref h0]) (zQV E E wS_X12_layCode (fun H1 => (zTab H1 lf g fl.toInt.toNat (-1) 0))) 0 0 (zfr E) := by
  refine zEnt (by decide) (Nat.le_of_ble_eq_true rfl) (fun p e s m args below meth c ls Q B hr hlk hh hQ hl => ?_)
  have hx := B.1
  have hb := B.2.1
  have hG0 : zG E wS_X12_layCode H0 H0 [] := zG.rf hT0
  have hl : lv_has ls 6 [(0, .ref h0)] := hl
  have bd_bk := HT.bdI hT0 kh0 rfl (j := 26) (by decide) rfl s_bk
  have bd_fl := HT.bdE (i := bk) (N := 2) hT0 kfla rfl rfl rfl (by omega) (by omega) rfl s_fl
  have b10 : ∀ (n10 : Nat) (H10 : Heap) (lc10 : List Loc) (ls : Array Slot) (v10_1 : Int32), v10_1.toInt - (-1) < (n10 : Int) → zG E wS_X12_layCode H0 H10 lc10 → lv_has ls 6 [(0, .ref h0), (1, .int v10_1)] → (-1) ≤ v10_1.toInt → v10_1.toInt ≤ 12 → sl H10 h0 (zix E 13 16) = some (.ref fla) → sl H10 h0 (zix E 13 26) = some (.int bk) → sl H10 fla bk.toNatClampNeg = some (.int fl) → sl H10 h0 (zix E 13 17) = some (.ref fo) → sl H10 h0 (zix E 13 40) = some (.ref lf) → zTab H10 lf g fl.toInt.toNat v10_1.toInt 0 → v10_1.toInt ≤ fl.toInt → W p l e rm_X12_layCode s m args below meth c H10 lc10 0 0 Q (F0 m 10 ls []) := by
    intro n10
    induction n10 with
    | zero =>
      intro H10 lc10 ls v10_1 hm10 gH10 hl f10_1 f10_2 s10_u10_h0_16 s10_u10_h0_26 s10_u10_fla_ebk s10_u10_h0_17 s10_u10_h0_40 rl10_0 rl10_1
      exact absurd hm10 (by omega)
    | succ n10 ih10 =>
      intro H10 lc10 ls v10_1 hm10 gH10 hl f10_1 f10_2 s10_u10_h0_16 s10_u10_h0_26 s10_u10_fla_ebk s10_u10_h0_17 s10_u10_h0_40 rl10_0 rl10_1
      have b16 : ∀ (n16 : Nat) (H16 : Heap) (lc16 : List Loc) (ls : Array Slot) (v16_2 : Int32), 2049 - v16_2.toInt < (n16 : Int) → zG E wS_X12_layCode H0 H16 lc16 → lv_has ls 6 [(0, .ref h0), (1, .int v10_1), (2, .int v16_2)] → 0 ≤ v10_1.toInt → 0 ≤ v16_2.toInt → v16_2.toInt ≤ 2049 → sl H16 h0 (zix E 13 16) = some (.ref fla) → sl H16 h0 (zix E 13 26) = some (.int bk) → sl H16 fla bk.toNatClampNeg = some (.int fl) → sl H16 h0 (zix E 13 17) = some (.ref fo) → sl H16 h0 (zix E 13 40) = some (.ref lf) → zTab H16 lf g fl.toInt.toNat v10_1.toInt v16_2.toInt → W p l e rm_X12_layCode s m args below meth c H16 lc16 0 0 Q (F0 m 16 ls []) := by
        intro n16
        induction n16 with
        | zero =>
          intro H16 lc16 ls v16_2 hm16 gH16 hl f16_1 f16_2 f16_3 s16_u16_h0_16 s16_u16_h0_26 s16_u16_fla_ebk s16_u16_h0_17 s16_u16_h0_40 rl16_0
          exact absurd hm16 (by omega)
        | succ n16 ih16 =>
          intro H16 lc16 ls v16_2 hm16 gH16 hl f16_1 f16_2 f16_3 s16_u16_h0_16 s16_u16_h0_26 s16_u16_fla_ebk s16_u16_h0_17 s16_u16_h0_40 rl16_0
          have b138 : ∀ (ls : Array Slot) (v138_3 : Int32), lv_has ls 6 [(0, .ref h0), (1, .int v10_1), (2, .int v16_2), (3, .int v138_3)] → v16_2.toInt ≤ 2048 → 0 ≤ v138_3.toInt → v138_3.toInt ≤ 1000000000 → sl H16 h0 (zix E 13 16) = some (.ref fla) → sl H16 h0 (zix E 13 26) = some (.int bk) → sl H16 fla bk.toNatClampNeg = some (.int fl) → sl H16 h0 (zix E 13 17) = some (.ref fo) → sl H16 h0 (zix E 13 40) = some (.ref lf) → v138_3.toInt = zT g fl.toInt.toNat (fl.toInt.toNat - v10_1.toInt.toNat) v16_2.toInt.toNat → W p l e rm_X12_layCode s m args below meth c H16 lc16 0 0 Q (F0 m 138 ls []) := by
            intro ls v138_3 hl f138_1 f138_2 f138_3 s138_u138_h0_16 s138_u138_h0_26 s138_u138_fla_ebk s138_u138_h0_17 s138_u138_h0_40 rl138_0
            refine lv_aload_n hx hb dX12_layCode_138 rfl (lv_at hl 0 rfl) ?_
            refine g_get B fl_RX12_86 gH16.1 kh0 rfl rfl rfl dX12_layCode_139 s138_u138_h0_40 ?_
            refine lv_sipush (v := 2049) hx hb dX12_layCode_142 (by decide) ?_
            refine lv_iload_n hx hb dX12_layCode_145 rfl (lv_at hl 1 rfl) ?_
            refine lv_imul hx hb dX12_layCode_146 ?_
            refine lv_topi (fun x_1 e_1 => ?_)
            have t_1 := z_mul e_1 kl_2049 rfl (by omega) (by omega)
            refine lv_iload_n hx hb dX12_layCode_147 rfl (lv_at hl 2 rfl) ?_
            refine lv_iadd hx hb dX12_layCode_148 ?_
            refine lv_topi (fun x_2 e_2 => ?_)
            have t_2 := z_add e_2 rfl rfl (by omega) (by omega)
            refine lv_iload_n hx hb dX12_layCode_149 rfl (lv_at hl 3 rfl) ?_
            refine g_iastI (i := x_2) (N := 26637) B hV gH16 klf rfl rfl rfl rfl (by omega) (by omega) rfl (z_rng _).1 (z_rng _).2 rfl dX12_layCode_150 (fun H3 lc3 gH3 uH3 => ?_)
            have s_4 := uH3.keep (Or.inl (k_ne kh0 klf rfl)) s138_u138_h0_16
            have s_5 := uH3.keep (Or.inl (k_ne kh0 klf rfl)) s138_u138_h0_26
            have s_6 := uH3.keep (Or.inl (k_ne kfla klf rfl)) s138_u138_fla_ebk
            have s_7 := uH3.keep (Or.inl (k_ne kh0 klf rfl)) s138_u138_h0_17
            have s_8 := uH3.keep (Or.inl (k_ne kh0 klf rfl)) s138_u138_h0_40
            obtain ⟨x_9, e_9⟩ : ∃ y : Int32, (v16_2 : Int32) + Int32.ofInt 1 = y := ⟨_, rfl⟩
            refine lv_iinc (v := x_9) (lv' := [(2, .int x_9), (0, .ref h0), (1, .int v10_1), (3, .int v138_3)]) hx hb dX12_layCode_151 hl (k := 2) rfl e_9 (by decide) rfl (fun ls hl => ?_)
            have t_9 := z_inc2 e_9 rfl (by decide) (by omega) (by omega)
            refine lv_goto (tgt := 16) hx hb dX12_layCode_154 (by decide) ?_
            exact ih16 H3 lc3 ls x_9 (by omega) gH3 (lv_sub hl [1, 2, 0] rfl) (by omega) (by omega) (by omega) s_4 s_5 s_6 s_7 s_8 (by have hz := zTab_put (i := v10_1.toInt.toNat) (b := v16_2.toInt.toNat) (by rw [show ((v10_1.toInt.toNat : Nat) : Int) = v10_1.toInt from by omega, show ((v16_2.toInt.toNat : Nat) : Int) = v16_2.toInt from by omega]; exact rl16_0) uH3 (by omega) (by omega) (by omega) rl138_0; rw [show ((v10_1.toInt.toNat : Nat) : Int) = v10_1.toInt from by omega, show ((v16_2.toInt.toNat : Nat) : Int) + 1 = x_9.toInt from by omega] at hz; exact hz)
          have b47 : ∀ (n47 : Nat) (ls : Array Slot) (v47_3 : Int32) (v47_4 : Int32), 12 - v47_4.toInt < (n47 : Int) → lv_has ls 6 [(0, .ref h0), (1, .int v10_1), (2, .int v16_2), (3, .int v47_3), (4, .int v47_4)] → v16_2.toInt ≤ 2048 → 0 ≤ v47_3.toInt → v47_3.toInt ≤ 1000000000 → 1 ≤ v47_4.toInt → v47_4.toInt ≤ 12 → sl H16 h0 (zix E 13 16) = some (.ref fla) → sl H16 h0 (zix E 13 26) = some (.int bk) → sl H16 fla bk.toNatClampNeg = some (.int fl) → sl H16 h0 (zix E 13 17) = some (.ref fo) → sl H16 h0 (zix E 13 40) = some (.ref lf) → v47_3.toInt = zMi g fl.toInt.toNat v10_1.toInt.toNat v16_2.toInt.toNat (v47_4.toInt - 1).toNat → W p l e rm_X12_layCode s m args below meth c H16 lc16 0 0 Q (F0 m 47 ls []) := by
            intro n47
            induction n47 with
            | zero =>
              intro ls v47_3 v47_4 hm47 hl f47_1 f47_2 f47_3 f47_4 f47_5 s47_u47_h0_16 s47_u47_h0_26 s47_u47_fla_ebk s47_u47_h0_17 s47_u47_h0_40 rl47_0
              exact absurd hm47 (by omega)
            | succ n47 ih47 =>
              intro ls v47_3 v47_4 hm47 hl f47_1 f47_2 f47_3 f47_4 f47_5 s47_u47_h0_16 s47_u47_h0_26 s47_u47_fla_ebk s47_u47_h0_17 s47_u47_h0_40 rl47_0
              have b132 : ∀ (ls : Array Slot) (v132_3 : Int32), lv_has ls 6 [(0, .ref h0), (1, .int v10_1), (2, .int v16_2), (3, .int v132_3), (4, .int v47_4)] → v10_1.toInt ≤ 11 → 0 ≤ v132_3.toInt → v132_3.toInt ≤ 1000000000 → v47_4.toInt ≤ 11 → 1 ≤ fl.toInt → sl H16 h0 (zix E 13 16) = some (.ref fla) → sl H16 h0 (zix E 13 26) = some (.int bk) → sl H16 fla bk.toNatClampNeg = some (.int fl) → sl H16 h0 (zix E 13 17) = some (.ref fo) → sl H16 h0 (zix E 13 40) = some (.ref lf) → v132_3.toInt = zMi g fl.toInt.toNat v10_1.toInt.toNat v16_2.toInt.toNat v47_4.toInt.toNat → W p l e rm_X12_layCode s m args below meth c H16 lc16 0 0 Q (F0 m 132 ls []) := by
                intro ls v132_3 hl f132_1 f132_2 f132_3 f132_4 f132_5 s132_u132_h0_16 s132_u132_h0_26 s132_u132_fla_ebk s132_u132_h0_17 s132_u132_h0_40 rl132_0
                obtain ⟨x_10, e_10⟩ : ∃ y : Int32, (v47_4 : Int32) + Int32.ofInt 1 = y := ⟨_, rfl⟩
                refine lv_iinc (v := x_10) (lv' := [(4, .int x_10), (0, .ref h0), (1, .int v10_1), (2, .int v16_2), (3, .int v132_3)]) hx hb dX12_layCode_132 hl (k := 4) rfl e_10 (by decide) rfl (fun ls hl => ?_)
                have t_10 := z_inc2 e_10 rfl (by decide) (by omega) (by omega)
                refine lv_goto (tgt := 47) hx hb dX12_layCode_135 (by decide) ?_
                exact ih47 ls v132_3 x_10 (by omega) (lv_sub hl [1, 2, 3, 4, 0] rfl) (by omega) (by omega) (by omega) (by omega) (by omega) s132_u132_h0_16 s132_u132_h0_26 s132_u132_fla_ebk s132_u132_h0_17 s132_u132_h0_40 (by rw [show (x_10.toInt - 1).toNat = v47_4.toInt.toNat from by omega]; exact rl132_0)
              have b131 : ∀ (ls : Array Slot) (w131_0 : Int32), lv_has ls 6 [(0, .ref h0), (1, .int v10_1), (2, .int v16_2), (4, .int v47_4)] → v10_1.toInt ≤ 11 → 1 ≤ v16_2.toInt → v47_4.toInt ≤ 11 → 0 ≤ w131_0.toInt → w131_0.toInt ≤ 1000000000 → 1 ≤ fl.toInt → sl H16 h0 (zix E 13 16) = some (.ref fla) → sl H16 h0 (zix E 13 26) = some (.int bk) → sl H16 fla bk.toNatClampNeg = some (.int fl) → sl H16 h0 (zix E 13 17) = some (.ref fo) → sl H16 h0 (zix E 13 40) = some (.ref lf) → w131_0.toInt = zMi g fl.toInt.toNat v10_1.toInt.toNat v16_2.toInt.toNat v47_4.toInt.toNat → W p l e rm_X12_layCode s m args below meth c H16 lc16 0 0 Q (F0 m 131 ls [.int w131_0]) := by
                intro ls w131_0 hl f131_1 f131_2 f131_3 f131_4 f131_5 f131_6 s131_u131_h0_16 s131_u131_h0_26 s131_u131_fla_ebk s131_u131_h0_17 s131_u131_h0_40 rl131_0
                refine lv_istore_n (lv' := [(3, .int w131_0), (0, .ref h0), (1, .int v10_1), (2, .int v16_2), (4, .int v47_4)]) hx hb dX12_layCode_131 rfl hl (by decide) rfl (fun ls hl => ?_)
                exact b132 ls w131_0 (lv_sub hl [1, 2, 3, 0, 4] rfl) (by omega) (by omega) (by omega) (by omega) (by omega) s131_u131_h0_16 s131_u131_h0_26 s131_u131_fla_ebk s131_u131_h0_17 s131_u131_h0_40 (rl131_0)
              refine lv_iload hx hb dX12_layCode_47 (lv_at hl 4 rfl) ?_
              refine lv_bipush (v := 11) hx hb dX12_layCode_49 (by decide) ?_
              refine lv_icmp_gt (tgt := 138) hx hb dX12_layCode_51 (by decide) (fun c_11 => ?_) (fun c_11 => ?_)
              · have f_11 := z_lt c_11 kl_11 rfl
                exact b138 ls v47_3 (lv_sub hl [0, 1, 2, 3] rfl) (by omega) (by omega) (by omega) s47_u47_h0_16 s47_u47_h0_26 s47_u47_fla_ebk s47_u47_h0_17 s47_u47_h0_40 (rl47_0.trans (by rw [show (v47_4.toInt - 1).toNat = 11 from by omega]; exact zMi_end (by omega)))
              · have f_11 := z_nlt c_11 kl_11 rfl
                refine lv_iload_n hx hb dX12_layCode_54 rfl (lv_at hl 1 rfl) ?_
                refine lv_aload_n hx hb dX12_layCode_55 rfl (lv_at hl 0 rfl) ?_
                refine g_get B fl_RX12_36 gH16.1 kh0 rfl rfl rfl dX12_layCode_56 s47_u47_h0_16 ?_
                refine lv_aload_n hx hb dX12_layCode_59 rfl (lv_at hl 0 rfl) ?_
                refine g_get B fl_RX12_217 gH16.1 kh0 rfl rfl rfl dX12_layCode_60 s47_u47_h0_26 ?_
                refine g_iald (i := bk) (N := 2) B gH16.1 kfla rfl rfl rfl rfl (by omega) (by omega) s47_u47_fla_ebk dX12_layCode_63 ?_
                refine lv_icmp_ge (tgt := 138) hx hb dX12_layCode_64 (by decide) (fun c_12 => ?_) (fun c_12 => ?_)
                · have f_12 := z_le c_12 rfl rfl
                  exact b138 ls v47_3 (lv_sub hl [0, 1, 2, 3] rfl) (by omega) (by omega) (by omega) s47_u47_h0_16 s47_u47_h0_26 s47_u47_fla_ebk s47_u47_h0_17 s47_u47_h0_40 (rl47_0.trans (zMi_eqF (by omega)))
                · have f_12 := z_nle c_12 rfl rfl
                  refine lv_iload hx hb dX12_layCode_67 (lv_at hl 4 rfl) ?_
                  refine zkPI (zrS (rest := []) B (c_X12_room_s l E hV H16 gH16.1 v47_4 (by omega) (by omega)) cs_RX12_363 rfl hl.1 rfl (Nat.le_of_ble_eq_true rfl) dX12_layCode_69 rfl rfl ⟨rfl, rfl⟩ ⟨Nat.zero_le _, Nat.zero_le _⟩ (zO.of gH16 hh)) (fun x_13 hp_13 => ?_)
                  obtain ⟨hp_13_1, hp_13_2, hp_13_3⟩ := hp_13
                  refine lv_iload_n hx hb dX12_layCode_72 rfl (lv_at hl 2 rfl) ?_
                  refine lv_icmp_le (tgt := 79) hx hb dX12_layCode_73 (by decide) (fun c_14 => ?_) (fun c_14 => ?_)
                  · have f_14 := z_le c_14 rfl rfl
                    refine lv_iload hx hb dX12_layCode_79 (lv_at hl 4 rfl) ?_
                    refine lv_aload_n hx hb dX12_layCode_81 rfl (lv_at hl 0 rfl) ?_
                    refine g_get B fl_RX12_39 gH16.1 kh0 rfl rfl rfl dX12_layCode_82 s47_u47_h0_17 ?_
                    refine lv_bipush (v := 12) hx hb dX12_layCode_85 (by decide) ?_
                    refine lv_aload_n hx hb dX12_layCode_87 rfl (lv_at hl 0 rfl) ?_
                    refine g_get B fl_RX12_217 gH16.1 kh0 rfl rfl rfl dX12_layCode_88 s47_u47_h0_26 ?_
                    refine lv_imul hx hb dX12_layCode_91 ?_
                    refine lv_topi (fun x_15 e_15 => ?_)
                    have t_15 := z_mul e_15 kl_12 rfl (by omega) (by omega)
                    refine lv_iload_n hx hb dX12_layCode_92 rfl (lv_at hl 1 rfl) ?_
                    refine lv_iadd hx hb dX12_layCode_93 ?_
                    refine lv_topi (fun x_16 e_16 => ?_)
                    have t_16 := z_add e_16 rfl rfl (by omega) (by omega)
                    refine g_ialdI (i := x_16) (N := 24) B gH16.1 kfo rfl rfl rfl rfl (by omega) (by omega) rfl dX12_layCode_94 (fun x_17 s_17 a_17 b_17 => ?_)
                    have hf_17 := zFo_get (i := v10_1.toInt.toNat) hg gH16.2.1 kfo rfl s_17 (by omega) (by omega)
                    refine lv_imul hx hb dX12_layCode_95 ?_
                    refine lv_topi (fun x_18 e_18 => ?_)
                    have m_18 := z_mulB (a := v47_4.toInt) (b := x_17.toInt) (A := 11) (B := 999) (by omega) (by omega) (by omega) (by omega)
                    have t_18 := z_mul e_18 rfl rfl (by omega) (by omega)
                    refine lv_aload_n hx hb dX12_layCode_96 rfl (lv_at hl 0 rfl) ?_
                    refine g_get B fl_RX12_86 gH16.1 kh0 rfl rfl rfl dX12_layCode_97 s47_u47_h0_40 ?_
                    refine lv_sipush (v := 2049) hx hb dX12_layCode_100 (by decide) ?_
                    refine lv_iload_n hx hb dX12_layCode_103 rfl (lv_at hl 1 rfl) ?_
                    refine lv_iconst (v := 1) hx hb dX12_layCode_104 (by decide) ?_
                    refine lv_iadd hx hb dX12_layCode_105 ?_
                    refine lv_topi (fun x_19 e_19 => ?_)
                    have t_19 := z_add e_19 rfl kl_1 (by omega) (by omega)
                    refine lv_imul hx hb dX12_layCode_106 ?_
                    refine lv_topi (fun x_20 e_20 => ?_)
                    have t_20 := z_mul e_20 kl_2049 rfl (by omega) (by omega)
                    refine lv_iload_n hx hb dX12_layCode_107 rfl (lv_at hl 2 rfl) ?_
                    refine lv_iadd hx hb dX12_layCode_108 ?_
                    refine lv_topi (fun x_21 e_21 => ?_)
                    have t_21 := z_add e_21 rfl rfl (by omega) (by omega)
                    refine lv_iload hx hb dX12_layCode_109 (lv_at hl 4 rfl) ?_
                    refine zkPI (zrS (rest := [.int x_21, .ref lf, .int x_18]) B (c_X12_room_s l E hV H16 gH16.1 v47_4 (by omega) (by omega)) cs_RX12_363 rfl hl.1 rfl (Nat.le_of_ble_eq_true rfl) dX12_layCode_111 rfl rfl ⟨rfl, rfl⟩ ⟨Nat.zero_le _, Nat.zero_le _⟩ (zO.of gH16 hh)) (fun x_22 hp_22 => ?_)
                    obtain ⟨hp_22_1, hp_22_2, hp_22_3⟩ := hp_22
                    refine lv_isub hx hb dX12_layCode_114 ?_
                    refine lv_topi (fun x_23 e_23 => ?_)
                    have t_23 := z_sub e_23 rfl rfl (by omega) (by omega)
                    refine g_ialdI (i := x_23) (N := 26637) B gH16.1 klf rfl rfl rfl rfl (by omega) (by omega) rfl dX12_layCode_115 (fun x_24 s_24 a_24 b_24 => ?_)
                    have ht_24 := zTab_get hg.1 rl16_0 s_24 (v10_1.toInt.toNat + 1) (v16_2.toInt.toNat - zrm v47_4.toInt.toNat) (by omega) (by omega) (by omega) (by omega)
                    refine lv_iadd hx hb dX12_layCode_116 ?_
                    refine lv_topi (fun x_25 e_25 => ?_)
                    have t_25 := z_add e_25 rfl rfl (by omega) (by omega)
                    refine lv_istore (lv' := [(5, .int x_25), (0, .ref h0), (1, .int v10_1), (2, .int v16_2), (3, .int v47_3), (4, .int v47_4)]) hx hb dX12_layCode_117 hl (by decide) rfl (fun ls hl => ?_)
                    refine lv_iload hx hb dX12_layCode_119 (lv_at hl 0 rfl) ?_
                    refine lv_iload_n hx hb dX12_layCode_121 rfl (lv_at hl 4 rfl) ?_
                    refine lv_icmp_ge (tgt := 130) hx hb dX12_layCode_122 (by decide) (fun c_26 => ?_) (fun c_26 => ?_)
                    · have f_26 := z_le c_26 rfl rfl
                      refine lv_iload_n hx hb dX12_layCode_130 rfl (lv_at hl 4 rfl) ?_
                      exact b131 ls v47_3 (lv_sub hl [1, 2, 3, 5] rfl) (by omega) (by omega) (by omega) (by omega) (by omega) (by omega) s47_u47_h0_16 s47_u47_h0_26 s47_u47_fla_ebk s47_u47_h0_17 s47_u47_h0_40 (by rw [zMi_A (l := v47_4.toInt) (i := v10_1.toInt.toNat) (q := v16_2.toInt.toNat) (its := x_25.toInt) (least := v47_3.toInt) (by omega) (by omega) (by omega) (by rw [t_25, t_18, hf_17.1, ht_24.1]) rl47_0, if_neg (by omega)])
                    · have f_26 := z_nle c_26 rfl rfl
                      refine lv_iload hx hb dX12_layCode_125 (lv_at hl 0 rfl) ?_
                      refine lv_goto (tgt := 131) hx hb dX12_layCode_127 (by decide) ?_
                      exact b131 ls x_25 (lv_sub hl [1, 2, 3, 5] rfl) (by omega) (by omega) (by omega) (by omega) (by omega) (by omega) s47_u47_h0_16 s47_u47_h0_26 s47_u47_fla_ebk s47_u47_h0_17 s47_u47_h0_40 (by rw [zMi_A (l := v47_4.toInt) (i := v10_1.toInt.toNat) (q := v16_2.toInt.toNat) (its := x_25.toInt) (least := v47_3.toInt) (by omega) (by omega) (by omega) (by rw [t_25, t_18, hf_17.1, ht_24.1]) rl47_0, if_pos (by omega)])
                  · have f_14 := z_nle c_14 rfl rfl
                    refine lv_goto (tgt := 132) hx hb dX12_layCode_76 (by decide) ?_
                    exact b132 ls v47_3 (lv_sub hl [0, 1, 2, 3, 4] rfl) (by omega) (by omega) (by omega) (by omega) (by omega) s47_u47_h0_16 s47_u47_h0_26 s47_u47_fla_ebk s47_u47_h0_17 s47_u47_h0_40 (by rw [zMi_B (by omega) (by omega)]; exact rl47_0)
          have b43 : ∀ (ls : Array Slot) (w43_0 : Int32), lv_has ls 6 [(0, .ref h0), (1, .int v10_1), (2, .int v16_2)] → v16_2.toInt ≤ 2048 → 0 ≤ w43_0.toInt → w43_0.toInt ≤ 1000000000 → sl H16 h0 (zix E 13 16) = some (.ref fla) → sl H16 h0 (zix E 13 26) = some (.int bk) → sl H16 fla bk.toNatClampNeg = some (.int fl) → sl H16 h0 (zix E 13 17) = some (.ref fo) → sl H16 h0 (zix E 13 40) = some (.ref lf) → w43_0.toInt = zMi g fl.toInt.toNat v10_1.toInt.toNat v16_2.toInt.toNat 0 → W p l e rm_X12_layCode s m args below meth c H16 lc16 0 0 Q (F0 m 43 ls [.int w43_0]) := by
            intro ls w43_0 hl f43_1 f43_2 f43_3 s43_u43_h0_16 s43_u43_h0_26 s43_u43_fla_ebk s43_u43_h0_17 s43_u43_h0_40 rl43_0
            refine lv_istore_n (lv' := [(3, .int w43_0), (0, .ref h0), (1, .int v10_1), (2, .int v16_2)]) hx hb dX12_layCode_43 rfl hl (by decide) rfl (fun ls hl => ?_)
            refine lv_iconst (v := 1) hx hb dX12_layCode_44 (by decide) ?_
            refine lv_istore (lv' := [(4, .int 1), (3, .int w43_0), (0, .ref h0), (1, .int v10_1), (2, .int v16_2)]) hx hb dX12_layCode_45 hl (by decide) rfl (fun ls hl => ?_)
            have := kl_1
            exact b47 12 ls w43_0 1 (by omega) (lv_sub hl [2, 3, 4, 1, 0] rfl) (by omega) (by omega) (by omega) (by omega) (by omega) s43_u43_h0_16 s43_u43_h0_26 s43_u43_fla_ebk s43_u43_h0_17 s43_u43_h0_40 (by rw [kl_1]; exact rl43_0)
          refine lv_iload_n hx hb dX12_layCode_16 rfl (lv_at hl 2 rfl) ?_
          refine lv_sipush (v := 2048) hx hb dX12_layCode_17 (by decide) ?_
          refine lv_icmp_gt (tgt := 157) hx hb dX12_layCode_20 (by decide) (fun c_27 => ?_) (fun c_27 => ?_)
          · have f_27 := z_lt c_27 kl_2048 rfl
            obtain ⟨x_28, e_28⟩ : ∃ y : Int32, (v10_1 : Int32) + Int32.ofInt (-1) = y := ⟨_, rfl⟩
            refine lv_iinc (v := x_28) (lv' := [(1, .int x_28), (0, .ref h0), (2, .int v16_2)]) hx hb dX12_layCode_157 hl (k := 1) rfl e_28 (by decide) rfl (fun ls hl => ?_)
            have t_28 := z_inc2 e_28 rfl (by decide) (by omega) (by omega)
            refine lv_goto (tgt := 10) hx hb dX12_layCode_160 (by decide) ?_
            exact ih10 H16 lc16 ls x_28 (by omega) gH16 (lv_sub hl [1, 0] rfl) (by omega) (by omega) s16_u16_h0_16 s16_u16_h0_26 s16_u16_fla_ebk s16_u16_h0_17 s16_u16_h0_40 (zTab_next rl16_0 (by omega) (by omega)) (by omega)
          · have f_27 := z_nlt c_27 kl_2048 rfl
            refine lv_iload_n hx hb dX12_layCode_23 rfl (lv_at hl 1 rfl) ?_
            refine lv_aload_n hx hb dX12_layCode_24 rfl (lv_at hl 0 rfl) ?_
            refine g_get B fl_RX12_36 gH16.1 kh0 rfl rfl rfl dX12_layCode_25 s16_u16_h0_16 ?_
            refine lv_aload_n hx hb dX12_layCode_28 rfl (lv_at hl 0 rfl) ?_
            refine g_get B fl_RX12_217 gH16.1 kh0 rfl rfl rfl dX12_layCode_29 s16_u16_h0_26 ?_
            refine g_iald (i := bk) (N := 2) B gH16.1 kfla rfl rfl rfl rfl (by omega) (by omega) s16_u16_fla_ebk dX12_layCode_32 ?_
            refine lv_icmp_ne (tgt := 40) hx hb dX12_layCode_33 (by decide) (fun c_29 => ?_) (fun c_29 => ?_)
            · have f_29 := z_ne c_29 rfl rfl
              refine lv_ldcw hx hb B.2.2.2.1 (B.2.2.2.2.1 _ (mc_wsL_law_r47 _ (List.mem_of_getElem? (i := 8) rfl))) dX12_layCode_40 ?_
              have := kl_1000000000
              exact b43 ls 1000000000 (lv_sub hl [0, 1, 2] rfl) (by omega) (by omega) (by omega) s16_u16_h0_16 s16_u16_h0_26 s16_u16_fla_ebk s16_u16_h0_17 s16_u16_h0_40 (by unfold zMi; rw [if_neg (by omega)]; exact kl_1000000000)
            · have f_29 := z_eq c_29 rfl rfl
              refine lv_iconst (v := 0) hx hb dX12_layCode_36 (by decide) ?_
              refine lv_goto (tgt := 43) hx hb dX12_layCode_37 (by decide) ?_
              have := kl_0
              exact b43 ls 0 (lv_sub hl [0, 1, 2] rfl) (by omega) (by omega) (by omega) s16_u16_h0_16 s16_u16_h0_26 s16_u16_fla_ebk s16_u16_h0_17 s16_u16_h0_40 (by unfold zMi; rw [if_pos (by omega)]; exact kl_0)
      refine lv_iload_n hx hb dX12_layCode_10 rfl (lv_at hl 1 rfl) ?_
      refine lv_if_lt (tgt := 163) hx hb dX12_layCode_11 (by decide) (fun c_30 => ?_) (fun c_30 => ?_)
      · have f_30 := z_lt c_30 rfl kl_0
        exact rtV B hr hlk hh hQ gH10 (by rw [show (-1 : Int) = v10_1.toInt from by omega]; exact rl10_0) dX12_layCode_163
      · have f_30 := z_nlt c_30 rfl kl_0
        refine lv_iconst (v := 0) hx hb dX12_layCode_14 (by decide) ?_
        refine lv_istore_n (lv' := [(2, .int 0), (0, .ref h0), (1, .int v10_1)]) hx hb dX12_layCode_15 rfl hl (by decide) rfl (fun ls hl => ?_)
        have := kl_0
        exact b16 2050 H10 lc10 ls 0 (by omega) gH10 (lv_sub hl [1, 2, 0] rfl) (by omega) (by omega) (by omega) s10_u10_h0_16 s10_u10_h0_26 s10_u10_fla_ebk s10_u10_h0_17 s10_u10_h0_40 (by rw [kl_0]; exact rl10_0)
  refine lv_aload_n hx hb dX12_layCode_0 rfl (lv_at hl 0 rfl) ?_
  refine g_get B fl_RX12_36 hT0 kh0 rfl rfl rfl dX12_layCode_1 s_fla ?_
  refine lv_aload_n hx hb dX12_layCode_4 rfl (lv_at hl 0 rfl) ?_
  refine g_get B fl_RX12_217 hT0 kh0 rfl rfl rfl dX12_layCode_5 s_bk ?_
  refine g_iald (i := bk) (N := 2) B hT0 kfla rfl rfl rfl rfl (by omega) (by omega) s_fl dX12_layCode_8 ?_
  refine lv_istore_n (lv' := [(1, .int fl), (0, .ref h0)]) hx hb dX12_layCode_9 rfl hl (by decide) rfl (fun ls hl => ?_)
  exact b10 14 H0 [] ls fl (by omega) hG0 (lv_sub hl [1, 0] rfl) (by omega) (by omega) s_fla s_bk s_fl s_fo s_lf (fun j q hj hq hc => absurd hc (by omega)) (by omega)
