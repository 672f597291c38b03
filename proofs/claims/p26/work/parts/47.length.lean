theorem dX12_code_0 : decode cX12_code 0 = .ok (.aload_n 0, 1) := by decide +kernel
theorem dX12_code_1 : decode cX12_code 1 = .ok (.invokevirtual 366, 3) := by decide +kernel
theorem dX12_code_4 : decode cX12_code 4 = .ok (.aload_n 0, 1) := by decide +kernel
theorem dX12_code_5 : decode cX12_code 5 = .ok (.getfield 86, 3) := by decide +kernel
theorem dX12_code_8 : decode cX12_code 8 = .ok (.sipush 2048, 3) := by decide +kernel
theorem dX12_code_11 : decode cX12_code 11 = .ok (.iaload, 1) := by decide +kernel
theorem dX12_code_12 : decode cX12_code 12 = .ok (.ireturn, 1) := by decide +kernel
def rm_X12_code : Room := { frames := 2, cells := 0, slots := 0, locals := 45 }
abbrev wS_X12_code : List (Nat × Nat) := [(81, 99)]
set_option maxRecDepth 100000 in
set_option maxHeartbeats 4000000 in
theorem c_X12_code (l : Launch) (E : zE) (hV : zV E) (H0 : Heap) (hT0 : HT E H0) (h0 : Nat) (kh0 : eK E h0 = 13) (fla : Nat) (kfla : eK E fla = 65) (s_fla : sl H0 h0 (zix E 13 16) = some (.ref fla)) (bk : Int32) (s_bk : sl H0 h0 (zix E 13 26) = some (.int bk)) (fl : Int32) (s_fl : sl H0 fla bk.toNatClampNeg = some (.int fl)) (fo : Nat) (kfo : eK E fo = 66) (s_fo : sl H0 h0 (zix E 13 17) = some (.ref fo)) (lf : Nat) (klf : eK E lf = 81) (s_lf : sl H0 h0 (zix E 13 40) = some (.ref lf)) : Met l yX12_code (zws yX12_code cX12_code 1 (some .int)) rm_X12_code (zP E H0 [.ref h0]) (zQI E E wS_X12_code (fun r H1 => True)) 0 0 (zfr E) := by
  refine zEnt (by decide) (Nat.le_of_ble_eq_true rfl) (fun p e s m args below meth c ls Q B hr hlk hh hQ hl => ?_)
  have hx := B.1
  have hb := B.2.1
  have hG0 : zG E wS_X12_code H0 H0 [] := zG.rf hT0
  have hl : lv_has ls 1 [(0, .ref h0)] := hl
  have bd_bk := HT.bdI hT0 kh0 rfl (j := 26) (by decide) rfl s_bk
  have bd_fl := HT.bdE (i := bk) (N := 2) hT0 kfla rfl rfl rfl (by omega) (by omega) rfl s_fl
  obtain ⟨g, hg⟩ := zFo_of (bk := bk) hT0 kfo rfl rfl rfl (fun _ => rfl) (by omega) (by omega)
  refine lv_aload_n hx hb dX12_code_0 rfl (lv_at hl 0 rfl) ?_
  refine zkV (zrV (rest := []) B (c_X12_layCode l E hV H0 hT0 h0 kh0 fla kfla s_fla bk s_bk fl s_fl fo kfo s_fo lf klf s_lf g hg) cl_RX12_366 hT0 kh0 rfl rfl rfl rfl hl.1 rfl (Nat.le_of_ble_eq_true rfl) dX12_code_1 rfl rfl ⟨rfl, rfl⟩ ⟨Nat.zero_le _, Nat.zero_le _⟩ (zO.of hG0 hh)) hG0 rfl (fun H1 lc1 hp_1 gH1 rH1 => ?_)
  have s_2 := rH1.keep hV kh0 rfl s_fla
  have s_3 := rH1.keep hV kh0 rfl s_bk
  have s_4 := rH1.keepA kfla rfl s_fl
  have s_5 := rH1.keep hV kh0 rfl s_fo
  have s_6 := rH1.keep hV kh0 rfl s_lf
  have hp_1_1 := hp_1
  refine lv_aload_n hx hb dX12_code_4 rfl (lv_at hl 0 rfl) ?_
  refine g_get B fl_RX12_86 gH1.1 kh0 rfl rfl rfl dX12_code_5 s_6 ?_
  refine lv_sipush (v := 2048) hx hb dX12_code_8 (by decide) ?_
  have := kl_2048
  refine g_ialdI (i := 2048) (N := 26637) B gH1.1 klf rfl rfl rfl rfl (by omega) (by omega) rfl dX12_code_11 (fun x_7 s_7 a_7 b_7 => ?_)
  exact rtI (v := x_7) B hr hlk hh hQ gH1 rfl trivial dX12_code_12

theorem dX12_length_0 : decode cX12_length 0 = .ok (.iload_n 1, 1) := by decide +kernel
theorem dX12_length_1 : decode cX12_length 1 = .ok (.iconst 0, 1) := by decide +kernel
theorem dX12_length_2 : decode cX12_length 2 = .ok (.aload_n 0, 1) := by decide +kernel
theorem dX12_length_3 : decode cX12_length 3 = .ok (.getfield 36, 3) := by decide +kernel
theorem dX12_length_6 : decode cX12_length 6 = .ok (.aload_n 0, 1) := by decide +kernel
theorem dX12_length_7 : decode cX12_length 7 = .ok (.getfield 217, 3) := by decide +kernel
theorem dX12_length_10 : decode cX12_length 10 = .ok (.iaload, 1) := by decide +kernel
theorem dX12_length_11 : decode cX12_length 11 = .ok (.iconst 1, 1) := by decide +kernel
theorem dX12_length_12 : decode cX12_length 12 = .ok (.isub, 1) := by decide +kernel
theorem dX12_length_13 : decode cX12_length 13 = .ok (.invokestatic 260, 3) := by decide +kernel
theorem dX12_length_16 : decode cX12_length 16 = .ok (.ifCond .ne 5, 3) := by decide +kernel
theorem dX12_length_19 : decode cX12_length 19 = .ok (.iconst (-1), 1) := by decide +kernel
theorem dX12_length_20 : decode cX12_length 20 = .ok (.ireturn, 1) := by decide +kernel
theorem dX12_length_21 : decode cX12_length 21 = .ok (.aload_n 0, 1) := by decide +kernel
theorem dX12_length_22 : decode cX12_length 22 = .ok (.invokevirtual 366, 3) := by decide +kernel
theorem dX12_length_25 : decode cX12_length 25 = .ok (.sipush 2048, 3) := by decide +kernel
theorem dX12_length_28 : decode cX12_length 28 = .ok (.istore_n 2, 1) := by decide +kernel
theorem dX12_length_29 : decode cX12_length 29 = .ok (.iconst 0, 1) := by decide +kernel
theorem dX12_length_30 : decode cX12_length 30 = .ok (.istore_n 3, 1) := by decide +kernel
theorem dX12_length_31 : decode cX12_length 31 = .ok (.iconst 0, 1) := by decide +kernel
theorem dX12_length_32 : decode cX12_length 32 = .ok (.istore 4, 2) := by decide +kernel
theorem dX12_length_34 : decode cX12_length 34 = .ok (.iload 4, 2) := by decide +kernel
theorem dX12_length_36 : decode cX12_length 36 = .ok (.iload_n 1, 1) := by decide +kernel
theorem dX12_length_37 : decode cX12_length 37 = .ok (.if_icmp .gt 86, 3) := by decide +kernel
theorem dX12_length_40 : decode cX12_length 40 = .ok (.iconst 1, 1) := by decide +kernel
theorem dX12_length_41 : decode cX12_length 41 = .ok (.istore_n 3, 1) := by decide +kernel
theorem dX12_length_42 : decode cX12_length 42 = .ok (.iload_n 3, 1) := by decide +kernel
theorem dX12_length_43 : decode cX12_length 43 = .ok (.invokestatic 363, 3) := by decide +kernel
theorem dX12_length_46 : decode cX12_length 46 = .ok (.iload_n 2, 1) := by decide +kernel
theorem dX12_length_47 : decode cX12_length 47 = .ok (.if_icmp .gt 57, 3) := by decide +kernel
theorem dX12_length_50 : decode cX12_length 50 = .ok (.iload_n 3, 1) := by decide +kernel
theorem dX12_length_51 : decode cX12_length 51 = .ok (.aload_n 0, 1) := by decide +kernel
theorem dX12_length_52 : decode cX12_length 52 = .ok (.getfield 39, 3) := by decide +kernel
theorem dX12_length_55 : decode cX12_length 55 = .ok (.bipush 12, 2) := by decide +kernel
theorem dX12_length_57 : decode cX12_length 57 = .ok (.aload_n 0, 1) := by decide +kernel
theorem dX12_length_58 : decode cX12_length 58 = .ok (.getfield 217, 3) := by decide +kernel
theorem dX12_length_61 : decode cX12_length 61 = .ok (.imul, 1) := by decide +kernel
theorem dX12_length_62 : decode cX12_length 62 = .ok (.iload 4, 2) := by decide +kernel
theorem dX12_length_64 : decode cX12_length 64 = .ok (.iadd, 1) := by decide +kernel
theorem dX12_length_65 : decode cX12_length 65 = .ok (.iaload, 1) := by decide +kernel
theorem dX12_length_66 : decode cX12_length 66 = .ok (.imul, 1) := by decide +kernel
theorem dX12_length_67 : decode cX12_length 67 = .ok (.aload_n 0, 1) := by decide +kernel
theorem dX12_length_68 : decode cX12_length 68 = .ok (.getfield 86, 3) := by decide +kernel
theorem dX12_length_71 : decode cX12_length 71 = .ok (.sipush 2049, 3) := by decide +kernel
theorem dX12_length_74 : decode cX12_length 74 = .ok (.iload 4, 2) := by decide +kernel
theorem dX12_length_76 : decode cX12_length 76 = .ok (.iconst 1, 1) := by decide +kernel
theorem dX12_length_77 : decode cX12_length 77 = .ok (.iadd, 1) := by decide +kernel
theorem dX12_length_78 : decode cX12_length 78 = .ok (.imul, 1) := by decide +kernel
theorem dX12_length_79 : decode cX12_length 79 = .ok (.iload_n 2, 1) := by decide +kernel
theorem dX12_length_80 : decode cX12_length 80 = .ok (.iadd, 1) := by decide +kernel
theorem dX12_length_81 : decode cX12_length 81 = .ok (.iload_n 3, 1) := by decide +kernel
theorem dX12_length_82 : decode cX12_length 82 = .ok (.invokestatic 363, 3) := by decide +kernel
theorem dX12_length_85 : decode cX12_length 85 = .ok (.isub, 1) := by decide +kernel
theorem dX12_length_86 : decode cX12_length 86 = .ok (.iaload, 1) := by decide +kernel
theorem dX12_length_87 : decode cX12_length 87 = .ok (.iadd, 1) := by decide +kernel
theorem dX12_length_88 : decode cX12_length 88 = .ok (.aload_n 0, 1) := by decide +kernel
theorem dX12_length_89 : decode cX12_length 89 = .ok (.getfield 86, 3) := by decide +kernel
theorem dX12_length_92 : decode cX12_length 92 = .ok (.sipush 2049, 3) := by decide +kernel
theorem dX12_length_95 : decode cX12_length 95 = .ok (.iload 4, 2) := by decide +kernel
theorem dX12_length_97 : decode cX12_length 97 = .ok (.imul, 1) := by decide +kernel
theorem dX12_length_98 : decode cX12_length 98 = .ok (.iload_n 2, 1) := by decide +kernel
theorem dX12_length_99 : decode cX12_length 99 = .ok (.iadd, 1) := by decide +kernel
theorem dX12_length_100 : decode cX12_length 100 = .ok (.iaload, 1) := by decide +kernel
theorem dX12_length_101 : decode cX12_length 101 = .ok (.if_icmp .eq 9, 3) := by decide +kernel
theorem dX12_length_104 : decode cX12_length 104 = .ok (.iinc 3 1, 3) := by decide +kernel
theorem dX12_length_107 : decode cX12_length 107 = .ok (.goto (-65), 3) := by decide +kernel
theorem dX12_length_110 : decode cX12_length 110 = .ok (.iload_n 2, 1) := by decide +kernel
theorem dX12_length_111 : decode cX12_length 111 = .ok (.iload_n 3, 1) := by decide +kernel
theorem dX12_length_112 : decode cX12_length 112 = .ok (.invokestatic 363, 3) := by decide +kernel
theorem dX12_length_115 : decode cX12_length 115 = .ok (.isub, 1) := by decide +kernel
theorem dX12_length_116 : decode cX12_length 116 = .ok (.istore_n 2, 1) := by decide +kernel
theorem dX12_length_117 : decode cX12_length 117 = .ok (.iinc 4 1, 3) := by decide +kernel
theorem dX12_length_120 : decode cX12_length 120 = .ok (.goto (-86), 3) := by decide +kernel
theorem dX12_length_123 : decode cX12_length 123 = .ok (.iload_n 3, 1) := by decide +kernel
theorem dX12_length_124 : decode cX12_length 124 = .ok (.ireturn, 1) := by decide +kernel
def rm_X12_length : Room := { frames := 2, cells := 0, slots := 0, locals := 45 }
abbrev wS_X12_length : List (Nat × Nat) := [(81, 99)]
set_option maxRecDepth 100000 in
set_option maxHeartbeats 4000000 in
theorem c_X12_length (l : Launch) (E : zE) (hV : zV E) (H0 : Heap) (hT0 : HT E H0) (h0 : Nat) (kh0 : eK E h0 = 13) (p0 : Int32) (fla : Nat) (kfla : eK E fla = 65) (s_fla : sl H0 h0 (zix E 13 16) = some (.ref fla)) (bk : Int32) (s_bk : sl H0 h0 (zix E 13 26) = some (.int bk)) (fl : Int32) (s_fl : sl H0 fla bk.toNatClampNeg = some (.int fl)) (fo : Nat) (kfo : eK E fo = 66) (s_fo : sl H0 h0 (zix E 13 17) = some (.ref fo)) (lf : Nat) (klf : eK E lf = 81) (s_lf : sl H0 h0 (zix E 13 40) = some (.ref lf)) : Met l yX12_length (zws yX12_length cX12_length 5 (some .int)) rm_X12_length (zP E H0 [.ref h0, .int p0]) (zQI E E wS_X12_length (fun r H1 => (-1) ≤ r.toInt ∧ r.toInt ≤ 11)) 0 0 (zfr E) := by
  refine zEnt (by decide) (Nat.le_of_ble_eq_true rfl) (fun p e s m args below meth c ls Q B hr hlk hh hQ hl => ?_)
  have hx := B.1
  have hb := B.2.1
  have hG0 : zG E wS_X12_length H0 H0 [] := zG.rf hT0
  have hl : lv_has ls 5 [(0, .ref h0), (1, .int p0)] := hl
  have bd_bk := HT.bdI hT0 kh0 rfl (j := 26) (by decide) rfl s_bk
  have bd_fl := HT.bdE (i := bk) (N := 2) hT0 kfla rfl rfl rfl (by omega) (by omega) rfl s_fl
  obtain ⟨g, hg⟩ := zFo_of (bk := bk) hT0 kfo rfl rfl rfl (fun _ => rfl) (by omega) (by omega)
  have b34 : ∀ (n34 : Nat) (H34 : Heap) (lc34 : List Loc) (ls : Array Slot) (v34_2 : Int32) (v34_3 : Int32) (v34_4 : Int32), 12 - v34_4.toInt < (n34 : Int) → zG E wS_X12_length H0 H34 lc34 → lv_has ls 5 [(0, .ref h0), (1, .int p0), (2, .int v34_2), (3, .int v34_3), (4, .int v34_4)] → 0 ≤ p0.toInt → p0.toInt ≤ 11 → 0 ≤ v34_2.toInt → v34_2.toInt ≤ 2048 → 0 ≤ v34_3.toInt → v34_3.toInt ≤ 11 → 0 ≤ v34_4.toInt → v34_4.toInt ≤ 12 → sl H34 h0 (zix E 13 16) = some (.ref fla) → sl H34 h0 (zix E 13 26) = some (.int bk) → sl H34 fla bk.toNatClampNeg = some (.int fl) → sl H34 h0 (zix E 13 17) = some (.ref fo) → sl H34 h0 (zix E 13 40) = some (.ref lf) → zTab H34 lf g fl.toInt.toNat (-1) 0 → zFo H34 fo bk g → zT g fl.toInt.toNat (fl.toInt.toNat - v34_4.toInt.toNat) v34_2.toInt.toNat < 1000000000 → v34_4.toInt ≤ p0.toInt + 1 → p0.toInt < fl.toInt → 0 ≤ p0.toInt → W p l e rm_X12_length s m args below meth c H34 lc34 0 0 Q (F0 m 34 ls []) := by
    intro n34
    induction n34 with
    | zero =>
      intro H34 lc34 ls v34_2 v34_3 v34_4 hm34 gH34 hl f34_1 f34_2 f34_3 f34_4 f34_5 f34_6 f34_7 f34_8 s34_u34_h0_16 s34_u34_h0_26 s34_u34_fla_ebk s34_u34_h0_17 s34_u34_h0_40 rl34_0 rl34_1 rl34_2 rl34_3 rl34_4 rl34_5
      exact absurd hm34 (by omega)
    | succ n34 ih34 =>
      intro H34 lc34 ls v34_2 v34_3 v34_4 hm34 gH34 hl f34_1 f34_2 f34_3 f34_4 f34_5 f34_6 f34_7 f34_8 s34_u34_h0_16 s34_u34_h0_26 s34_u34_fla_ebk s34_u34_h0_17 s34_u34_h0_40 rl34_0 rl34_1 rl34_2 rl34_3 rl34_4 rl34_5
      have b42 : ∀ (n42 : Nat) (ls : Array Slot) (v42_3 : Int32), 11 - v42_3.toInt < (n42 : Int) → lv_has ls 5 [(0, .ref h0), (1, .int p0), (2, .int v34_2), (3, .int v42_3), (4, .int v34_4)] → 1 ≤ v42_3.toInt → v42_3.toInt ≤ 11 → v34_4.toInt ≤ 11 → sl H34 h0 (zix E 13 16) = some (.ref fla) → sl H34 h0 (zix E 13 26) = some (.int bk) → sl H34 fla bk.toNatClampNeg = some (.int fl) → sl H34 h0 (zix E 13 17) = some (.ref fo) → sl H34 h0 (zix E 13 40) = some (.ref lf) → (∃ mz : Nat, v42_3.toInt ≤ (mz : Int) ∧ mz ≤ 11 ∧ zrm mz ≤ v34_2.toInt.toNat ∧ (mz : Int) * g v34_4.toInt.toNat + zT g fl.toInt.toNat (fl.toInt.toNat - (v34_4.toInt.toNat + 1)) (v34_2.toInt.toNat - zrm mz) = zT g fl.toInt.toNat (fl.toInt.toNat - v34_4.toInt.toNat) v34_2.toInt.toNat) → v34_4.toInt < fl.toInt → v34_4.toInt ≤ p0.toInt → W p l e rm_X12_length s m args below meth c H34 lc34 0 0 Q (F0 m 42 ls []) := by
        intro n42
        induction n42 with
        | zero =>
          intro ls v42_3 hm42 hl f42_1 f42_2 f42_3 s42_u42_h0_16 s42_u42_h0_26 s42_u42_fla_ebk s42_u42_h0_17 s42_u42_h0_40 rl42_0 rl42_1 rl42_2
          exact absurd hm42 (by omega)
        | succ n42 ih42 =>
          intro ls v42_3 hm42 hl f42_1 f42_2 f42_3 s42_u42_h0_16 s42_u42_h0_26 s42_u42_fla_ebk s42_u42_h0_17 s42_u42_h0_40 rl42_0 rl42_1 rl42_2
          have b104 : ∀ (ls : Array Slot), lv_has ls 5 [(0, .ref h0), (1, .int p0), (2, .int v34_2), (3, .int v42_3), (4, .int v34_4)] → sl H34 h0 (zix E 13 16) = some (.ref fla) → sl H34 h0 (zix E 13 26) = some (.int bk) → sl H34 fla bk.toNatClampNeg = some (.int fl) → sl H34 h0 (zix E 13 17) = some (.ref fo) → sl H34 h0 (zix E 13 40) = some (.ref lf) → (∃ mz : Nat, v42_3.toInt + 1 ≤ (mz : Int) ∧ mz ≤ 11 ∧ zrm mz ≤ v34_2.toInt.toNat ∧ (mz : Int) * g v34_4.toInt.toNat + zT g fl.toInt.toNat (fl.toInt.toNat - (v34_4.toInt.toNat + 1)) (v34_2.toInt.toNat - zrm mz) = zT g fl.toInt.toNat (fl.toInt.toNat - v34_4.toInt.toNat) v34_2.toInt.toNat) → W p l e rm_X12_length s m args below meth c H34 lc34 0 0 Q (F0 m 104 ls []) := by
            intro ls hl s104_u104_h0_16 s104_u104_h0_26 s104_u104_fla_ebk s104_u104_h0_17 s104_u104_h0_40 rl104_0
            obtain ⟨mz, hm1, hm2, hm3, hm4⟩ := rl104_0
            obtain ⟨x_1, e_1⟩ : ∃ y : Int32, (v42_3 : Int32) + Int32.ofInt 1 = y := ⟨_, rfl⟩
            refine lv_iinc (v := x_1) (lv' := [(3, .int x_1), (0, .ref h0), (1, .int p0), (2, .int v34_2), (4, .int v34_4)]) hx hb dX12_length_104 hl (k := 3) rfl e_1 (by decide) rfl (fun ls hl => ?_)
            have t_1 := z_inc2 e_1 rfl (by decide) (by omega) (by omega)
            refine lv_goto (tgt := 42) hx hb dX12_length_107 (by decide) ?_
            exact ih42 ls x_1 (by omega) (lv_sub hl [1, 2, 3, 0, 4] rfl) (by omega) (by omega) (by omega) s104_u104_h0_16 s104_u104_h0_26 s104_u104_fla_ebk s104_u104_h0_17 s104_u104_h0_40 (⟨mz, by omega, hm2, hm3, hm4⟩) (by omega) (by omega)
          obtain ⟨mz, hm1, hm2, hm3, hm4⟩ := rl42_0
          refine lv_iload_n hx hb dX12_length_42 rfl (lv_at hl 3 rfl) ?_
          refine zkPI (zrS (rest := []) B (c_X12_room_s l E hV H34 gH34.1 v42_3 (by omega) (by omega)) cs_RX12_363 rfl hl.1 rfl (Nat.le_of_ble_eq_true rfl) dX12_length_43 rfl rfl ⟨rfl, rfl⟩ ⟨Nat.zero_le _, Nat.zero_le _⟩ (zO.of gH34 hh)) (fun x_2 hp_2 => ?_)
          obtain ⟨hp_2_1, hp_2_2, hp_2_3⟩ := hp_2
          refine lv_iload_n hx hb dX12_length_46 rfl (lv_at hl 2 rfl) ?_
          refine lv_icmp_gt (tgt := 104) hx hb dX12_length_47 (by decide) (fun c_3 => ?_) (fun c_3 => ?_)
          · have f_3 := z_lt c_3 rfl rfl
            exact b104 ls (lv_sub hl [0, 1, 2, 3, 4] rfl) s42_u42_h0_16 s42_u42_h0_26 s42_u42_fla_ebk s42_u42_h0_17 s42_u42_h0_40 (⟨mz, zL_a hm1 (by omega) (fun h => by rw [h] at hm3; omega), hm2, hm3, hm4⟩)
          · have f_3 := z_nlt c_3 rfl rfl
            refine lv_iload_n hx hb dX12_length_50 rfl (lv_at hl 3 rfl) ?_
            refine lv_aload_n hx hb dX12_length_51 rfl (lv_at hl 0 rfl) ?_
            refine g_get B fl_RX12_39 gH34.1 kh0 rfl rfl rfl dX12_length_52 s42_u42_h0_17 ?_
            refine lv_bipush (v := 12) hx hb dX12_length_55 (by decide) ?_
            refine lv_aload_n hx hb dX12_length_57 rfl (lv_at hl 0 rfl) ?_
            refine g_get B fl_RX12_217 gH34.1 kh0 rfl rfl rfl dX12_length_58 s42_u42_h0_26 ?_
            refine lv_imul hx hb dX12_length_61 ?_
            refine lv_topi (fun x_4 e_4 => ?_)
            have t_4 := z_mul e_4 kl_12 rfl (by omega) (by omega)
            refine lv_iload hx hb dX12_length_62 (lv_at hl 4 rfl) ?_
            refine lv_iadd hx hb dX12_length_64 ?_
            refine lv_topi (fun x_5 e_5 => ?_)
            have t_5 := z_add e_5 rfl rfl (by omega) (by omega)
            refine g_ialdI (i := x_5) (N := 24) B gH34.1 kfo rfl rfl rfl rfl (by omega) (by omega) rfl dX12_length_65 (fun x_6 s_6 a_6 b_6 => ?_)
            have hf_6 := zFo_get (E := E) (WS := []) (i := v34_4.toInt.toNat) rl34_1 zFr.rf kfo rfl s_6 (by omega) (by omega)
            refine lv_imul hx hb dX12_length_66 ?_
            refine lv_topi (fun x_7 e_7 => ?_)
            have m_7 := z_mulB (a := v42_3.toInt) (b := x_6.toInt) (A := 11) (B := 999) (by omega) (by omega) (by omega) (by omega)
            have t_7 := z_mul e_7 rfl rfl (by omega) (by omega)
            refine lv_aload_n hx hb dX12_length_67 rfl (lv_at hl 0 rfl) ?_
            refine g_get B fl_RX12_86 gH34.1 kh0 rfl rfl rfl dX12_length_68 s42_u42_h0_40 ?_
            refine lv_sipush (v := 2049) hx hb dX12_length_71 (by decide) ?_
            refine lv_iload hx hb dX12_length_74 (lv_at hl 4 rfl) ?_
            refine lv_iconst (v := 1) hx hb dX12_length_76 (by decide) ?_
            refine lv_iadd hx hb dX12_length_77 ?_
            refine lv_topi (fun x_8 e_8 => ?_)
            have t_8 := z_add e_8 rfl kl_1 (by omega) (by omega)
            refine lv_imul hx hb dX12_length_78 ?_
            refine lv_topi (fun x_9 e_9 => ?_)
            have t_9 := z_mul e_9 kl_2049 rfl (by omega) (by omega)
            refine lv_iload_n hx hb dX12_length_79 rfl (lv_at hl 2 rfl) ?_
            refine lv_iadd hx hb dX12_length_80 ?_
            refine lv_topi (fun x_10 e_10 => ?_)
            have t_10 := z_add e_10 rfl rfl (by omega) (by omega)
            refine lv_iload_n hx hb dX12_length_81 rfl (lv_at hl 3 rfl) ?_
            refine zkPI (zrS (rest := [.int x_10, .ref lf, .int x_7]) B (c_X12_room_s l E hV H34 gH34.1 v42_3 (by omega) (by omega)) cs_RX12_363 rfl hl.1 rfl (Nat.le_of_ble_eq_true rfl) dX12_length_82 rfl rfl ⟨rfl, rfl⟩ ⟨Nat.zero_le _, Nat.zero_le _⟩ (zO.of gH34 hh)) (fun x_11 hp_11 => ?_)
            obtain ⟨hp_11_1, hp_11_2, hp_11_3⟩ := hp_11
            refine lv_isub hx hb dX12_length_85 ?_
            refine lv_topi (fun x_12 e_12 => ?_)
            have t_12 := z_sub e_12 rfl rfl (by omega) (by omega)
            refine g_ialdI (i := x_12) (N := 26637) B gH34.1 klf rfl rfl rfl rfl (by omega) (by omega) rfl dX12_length_86 (fun x_13 s_13 a_13 b_13 => ?_)
            have ht_13 := zTab_get hg.1 rl34_0 s_13 (v34_4.toInt.toNat + 1) (v34_2.toInt.toNat - zrm v42_3.toInt.toNat) (by omega) (by omega) (by omega) (by omega)
            refine lv_iadd hx hb dX12_length_87 ?_
            refine lv_topi (fun x_14 e_14 => ?_)
            have t_14 := z_add e_14 rfl rfl (by omega) (by omega)
            refine lv_aload_n hx hb dX12_length_88 rfl (lv_at hl 0 rfl) ?_
            refine g_get B fl_RX12_86 gH34.1 kh0 rfl rfl rfl dX12_length_89 s42_u42_h0_40 ?_
            refine lv_sipush (v := 2049) hx hb dX12_length_92 (by decide) ?_
            refine lv_iload hx hb dX12_length_95 (lv_at hl 4 rfl) ?_
            refine lv_imul hx hb dX12_length_97 ?_
            refine lv_topi (fun x_15 e_15 => ?_)
            have t_15 := z_mul e_15 kl_2049 rfl (by omega) (by omega)
            refine lv_iload_n hx hb dX12_length_98 rfl (lv_at hl 2 rfl) ?_
            refine lv_iadd hx hb dX12_length_99 ?_
            refine lv_topi (fun x_16 e_16 => ?_)
            have t_16 := z_add e_16 rfl rfl (by omega) (by omega)
            refine g_ialdI (i := x_16) (N := 26637) B gH34.1 klf rfl rfl rfl rfl (by omega) (by omega) rfl dX12_length_100 (fun x_17 s_17 a_17 b_17 => ?_)
            have hT_17 := zTab_get hg.1 rl34_0 s_17 (v34_4.toInt.toNat) (v34_2.toInt.toNat) (by omega) (by omega) (by omega) (by omega)
            refine lv_icmp_eq (tgt := 110) hx hb dX12_length_101 (by decide) (fun c_18 => ?_) (fun c_18 => ?_)
            · have f_18 := z_eq c_18 rfl rfl
              refine lv_iload_n hx hb dX12_length_110 rfl (lv_at hl 2 rfl) ?_
              refine lv_iload_n hx hb dX12_length_111 rfl (lv_at hl 3 rfl) ?_
              refine zkPI (zrS (rest := [.int v34_2]) B (c_X12_room_s l E hV H34 gH34.1 v42_3 (by omega) (by omega)) cs_RX12_363 rfl hl.1 rfl (Nat.le_of_ble_eq_true rfl) dX12_length_112 rfl rfl ⟨rfl, rfl⟩ ⟨Nat.zero_le _, Nat.zero_le _⟩ (zO.of gH34 hh)) (fun x_19 hp_19 => ?_)
              obtain ⟨hp_19_1, hp_19_2, hp_19_3⟩ := hp_19
              refine lv_isub hx hb dX12_length_115 ?_
              refine lv_topi (fun x_20 e_20 => ?_)
              have t_20 := z_sub e_20 rfl rfl (by omega) (by omega)
              refine lv_istore_n (lv' := [(2, .int x_20), (0, .ref h0), (1, .int p0), (3, .int v42_3), (4, .int v34_4)]) hx hb dX12_length_116 rfl hl (by decide) rfl (fun ls hl => ?_)
              obtain ⟨x_21, e_21⟩ : ∃ y : Int32, (v34_4 : Int32) + Int32.ofInt 1 = y := ⟨_, rfl⟩
              refine lv_iinc (v := x_21) (lv' := [(4, .int x_21), (2, .int x_20), (0, .ref h0), (1, .int p0), (3, .int v42_3)]) hx hb dX12_length_117 hl (k := 4) rfl e_21 (by decide) rfl (fun ls hl => ?_)
              have t_21 := z_inc2 e_21 rfl (by decide) (by omega) (by omega)
              refine lv_goto (tgt := 34) hx hb dX12_length_120 (by decide) ?_
              exact ih34 H34 lc34 ls x_20 v42_3 x_21 (by omega) gH34 (lv_sub hl [2, 3, 1, 4, 0] rfl) (by omega) (by omega) (by omega) (by omega) (by omega) (by omega) (by omega) (by omega) s42_u42_h0_16 s42_u42_h0_26 s42_u42_fla_ebk s42_u42_h0_17 s42_u42_h0_40 (rl34_0) (rl34_1) (by rw [show x_21.toInt.toNat = v34_4.toInt.toNat + 1 from by omega, show x_20.toInt.toNat = v34_2.toInt.toNat - zrm v42_3.toInt.toNat from by omega, ← ht_13.1]; omega) (by omega) (by omega) (by omega)
            · have f_18 := z_ne c_18 rfl rfl
              exact b104 ls (lv_sub hl [0, 1, 2, 3, 4] rfl) s42_u42_h0_16 s42_u42_h0_26 s42_u42_fla_ebk s42_u42_h0_17 s42_u42_h0_40 (⟨mz, zL_a hm1 (by omega) (fun h => by rw [h, show ((v42_3.toInt.toNat : Nat) : Int) = v42_3.toInt from by omega] at hm4; have hq : x_14.toInt = x_17.toInt := (by rw [t_14, t_7, hf_6.1, ht_13.1, hT_17.1]; exact hm4); omega), hm2, hm3, hm4⟩)
      refine lv_iload hx hb dX12_length_34 (lv_at hl 4 rfl) ?_
      refine lv_iload_n hx hb dX12_length_36 rfl (lv_at hl 1 rfl) ?_
      refine lv_icmp_gt (tgt := 123) hx hb dX12_length_37 (by decide) (fun c_22 => ?_) (fun c_22 => ?_)
      · have f_22 := z_lt c_22 rfl rfl
        refine lv_iload_n hx hb dX12_length_123 rfl (lv_at hl 3 rfl) ?_
        exact rtI (v := v34_3) B hr hlk hh hQ gH34 rfl ⟨by omega, by omega⟩ dX12_length_124
      · have f_22 := z_nlt c_22 rfl rfl
        refine lv_iconst (v := 1) hx hb dX12_length_40 (by decide) ?_
        refine lv_istore_n (lv' := [(3, .int 1), (0, .ref h0), (1, .int p0), (2, .int v34_2), (4, .int v34_4)]) hx hb dX12_length_41 rfl hl (by decide) rfl (fun ls hl => ?_)
        have := kl_1
        exact b42 11 ls 1 (by omega) (lv_sub hl [1, 2, 3, 0, 4] rfl) (by omega) (by omega) (by omega) s34_u34_h0_16 s34_u34_h0_26 s34_u34_fla_ebk s34_u34_h0_17 s34_u34_h0_40 (by obtain ⟨mz, a1, a2, a3, a4⟩ := zT_at (by omega) rl34_2; rw [kl_1]; exact ⟨mz, by omega, a2, a3, a4⟩) (by omega) (by omega)
  refine lv_iload_n hx hb dX12_length_0 rfl (lv_at hl 1 rfl) ?_
  refine lv_iconst (v := 0) hx hb dX12_length_1 (by decide) ?_
  refine lv_aload_n hx hb dX12_length_2 rfl (lv_at hl 0 rfl) ?_
  refine g_get B fl_RX12_36 hT0 kh0 rfl rfl rfl dX12_length_3 s_fla ?_
  refine lv_aload_n hx hb dX12_length_6 rfl (lv_at hl 0 rfl) ?_
  refine g_get B fl_RX12_217 hT0 kh0 rfl rfl rfl dX12_length_7 s_bk ?_
  refine g_iald (i := bk) (N := 2) B hT0 kfla rfl rfl rfl rfl (by omega) (by omega) s_fl dX12_length_10 ?_
  refine lv_iconst (v := 1) hx hb dX12_length_11 (by decide) ?_
  refine lv_isub hx hb dX12_length_12 ?_
  refine lv_topi (fun x_23 e_23 => ?_)
  have t_23 := z_sub e_23 rfl kl_1 (by omega) (by omega)
  refine zkPI (zrS (rest := []) B (c_X12_isIn l E hV H0 hT0 p0 0 x_23) cs_RX12_260 rfl hl.1 rfl (Nat.le_of_ble_eq_true rfl) dX12_length_13 rfl rfl ⟨rfl, rfl⟩ ⟨Nat.zero_le _, Nat.zero_le _⟩ (zO.of hG0 hh)) (fun x_24 hp_24 => ?_)
  obtain ⟨hp_24_1, hp_24_2, hp_24_3⟩ := hp_24
  have := kl_0
  refine lv_if_ne (tgt := 21) hx hb dX12_length_16 (by decide) (fun c_25 => ?_) (fun c_25 => ?_)
  · have f_25 := z_ne c_25 rfl kl_0
    refine lv_aload_n hx hb dX12_length_21 rfl (lv_at hl 0 rfl) ?_
    refine zkV (zrV (rest := []) B (c_X12_layCode l E hV H0 hT0 h0 kh0 fla kfla s_fla bk s_bk fl s_fl fo kfo s_fo lf klf s_lf g hg) cl_RX12_366 hT0 kh0 rfl rfl rfl rfl hl.1 rfl (Nat.le_of_ble_eq_true rfl) dX12_length_22 rfl rfl ⟨rfl, rfl⟩ ⟨Nat.zero_le _, Nat.zero_le _⟩ (zO.of hG0 hh)) hG0 rfl (fun H26 lc26 hp_26 gH26 rH26 => ?_)
    have s_27 := rH26.keep hV kh0 rfl s_fla
    have s_28 := rH26.keep hV kh0 rfl s_bk
    have s_29 := rH26.keepA kfla rfl s_fl
    have s_30 := rH26.keep hV kh0 rfl s_fo
    have s_31 := rH26.keep hV kh0 rfl s_lf
    have hp_26_1 := hp_26
    refine lv_sipush (v := 2048) hx hb dX12_length_25 (by decide) ?_
    refine lv_istore_n (lv' := [(2, .int 2048), (0, .ref h0), (1, .int p0)]) hx hb dX12_length_28 rfl hl (by decide) rfl (fun ls hl => ?_)
    refine lv_iconst (v := 0) hx hb dX12_length_29 (by decide) ?_
    refine lv_istore_n (lv' := [(3, .int 0), (2, .int 2048), (0, .ref h0), (1, .int p0)]) hx hb dX12_length_30 rfl hl (by decide) rfl (fun ls hl => ?_)
    refine lv_iconst (v := 0) hx hb dX12_length_31 (by decide) ?_
    refine lv_istore (lv' := [(4, .int 0), (3, .int 0), (2, .int 2048), (0, .ref h0), (1, .int p0)]) hx hb dX12_length_32 hl (by decide) rfl (fun ls hl => ?_)
    have := kl_2048
    have := kl_0
    have := kl_0
    exact b34 13 H26 lc26 ls 2048 0 0 (by omega) gH26 (lv_sub hl [3, 4, 2, 1, 0] rfl) (by omega) (by omega) (by omega) (by omega) (by omega) (by omega) (by omega) (by omega) s_27 s_28 s_29 s_30 s_31 (hp_26_1) (hg.keep gH26.2.1 kfo rfl) (by rw [kl_0, kl_2048]; exact zT_init hg.1 (by omega)) (by omega) (by omega) (by omega)
  · have f_25 := z_eq c_25 rfl kl_0
    refine lv_iconst (v := (-1)) hx hb dX12_length_19 (by decide) ?_
    have := kl_m1
    have := kl_m1
    exact rtI (v := (-1)) B hr hlk hh hQ hG0 rfl ⟨by omega, by omega⟩ dX12_length_20
