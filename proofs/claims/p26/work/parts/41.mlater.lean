theorem dX12_later_0 : decode cX12_later 0 = .ok (.iload_n 1, 1) := by decide +kernel
theorem dX12_later_1 : decode cX12_later 1 = .ok (.iconst 0, 1) := by decide +kernel
theorem dX12_later_2 : decode cX12_later 2 = .ok (.sipush 1000, 3) := by decide +kernel
theorem dX12_later_5 : decode cX12_later 5 = .ok (.invokestatic 260, 3) := by decide +kernel
theorem dX12_later_8 : decode cX12_later 8 = .ok (.ifCond .eq 15, 3) := by decide +kernel
theorem dX12_later_11 : decode cX12_later 11 = .ok (.aload_n 0, 1) := by decide +kernel
theorem dX12_later_12 : decode cX12_later 12 = .ok (.getfield 369, 3) := by decide +kernel
theorem dX12_later_15 : decode cX12_later 15 = .ok (.iload_n 1, 1) := by decide +kernel
theorem dX12_later_16 : decode cX12_later 16 = .ok (.iadd, 1) := by decide +kernel
theorem dX12_later_17 : decode cX12_later 17 = .ok (.ldc_w 372, 3) := by decide +kernel
theorem dX12_later_20 : decode cX12_later 20 = .ok (.if_icmp .le 5, 3) := by decide +kernel
theorem dX12_later_23 : decode cX12_later 23 = .ok (.iconst (-1), 1) := by decide +kernel
theorem dX12_later_24 : decode cX12_later 24 = .ok (.ireturn, 1) := by decide +kernel
theorem dX12_later_25 : decode cX12_later 25 = .ok (.aload_n 0, 1) := by decide +kernel
theorem dX12_later_26 : decode cX12_later 26 = .ok (.dup, 1) := by decide +kernel
theorem dX12_later_27 : decode cX12_later 27 = .ok (.getfield 369, 3) := by decide +kernel
theorem dX12_later_30 : decode cX12_later 30 = .ok (.iload_n 1, 1) := by decide +kernel
theorem dX12_later_31 : decode cX12_later 31 = .ok (.iadd, 1) := by decide +kernel
theorem dX12_later_32 : decode cX12_later 32 = .ok (.putfield 369, 3) := by decide +kernel
theorem dX12_later_35 : decode cX12_later 35 = .ok (.aload_n 0, 1) := by decide +kernel
theorem dX12_later_36 : decode cX12_later 36 = .ok (.getfield 369, 3) := by decide +kernel
theorem dX12_later_39 : decode cX12_later 39 = .ok (.ireturn, 1) := by decide +kernel
def rm_X12_later : Room := { frames := 1, cells := 0, slots := 0, locals := 22 }
set_option maxRecDepth 100000 in
set_option maxHeartbeats 4000000 in
theorem c_X12_later (l : Launch) (E : zE) (hV : zV E) (H0 : Heap) (hT0 : HT E H0) (h0 : Nat) (kh0 : eK E h0 = 13) (p0 : Int32) (hu : ∀ a b : Nat, eK E a = 13 → eK E b = 13 → a = b) (t0 : 0 ≤ eM E) (t1 : eM E ≤ 100000) : Met l yX12_later (zws yX12_later cX12_later 2 (some .int)) rm_X12_later (zP E H0 [.ref h0, .int p0]) (zQL setM E [(13, 48)] (eM E) p0) 0 0 (zfr E) := by
  refine zEnt (by decide) (Nat.le_of_ble_eq_true rfl) (fun p e s m args below meth c ls Q B hr hlk hh hQ hl => ?_)
  have hx := B.1
  have hb := B.2.1
  subst hQ
  have hl : lv_has ls 2 [(0, .ref h0), (1, .int p0)] := hl
  have no : ¬ (0 ≤ p0.toInt ∧ p0.toInt ≤ 1000 ∧ eM E + p0.toInt ≤ 100000) → W p l e rm_X12_later s m args below meth c H0 [] 0 0 (MQ below (zQL setM E [(13, 48)] (eM E) p0) args s 0 0 (zfr E)) (F0 m 23 ls []) := by
    intro hn
    refine lv_iconst (v := (-1)) hx hb dX12_later_23 (by decide) ?_
    exact W.iret hx hb hr (fun t ht hW => ⟨-1, rfl, by unfold zLv; rw [if_neg hn]; decide, by unfold zLt; rw [if_neg hn, ht]; exact hT0, by rw [ht, hh]; exact zFr.rf⟩) (fun _ h => by cases h) dX12_later_24 hlk
  refine lv_iload_n hx hb dX12_later_0 rfl (lv_at hl 1 rfl) ?_
  refine lv_iconst (v := 0) hx hb dX12_later_1 (by decide) ?_
  refine lv_sipush (v := 1000) hx hb dX12_later_2 (by decide) ?_
  refine zkPI (zrS (rest := []) B (c_X12_isIn_s l E hV H0 hT0 p0 0 1000) cs_RX12_260 rfl hl.1 rfl (Nat.le_of_ble_eq_true rfl) dX12_later_5 rfl rfl ⟨rfl, rfl⟩ ⟨Nat.zero_le _, Nat.zero_le _⟩ (zO.rf hh)) (fun x_1 hp_1 => ?_)
  obtain ⟨hp_a, hp_b, hp_c⟩ := hp_1
  have := kl_0
  have := kl_1000
  refine lv_if_eq (tgt := 23) hx hb dX12_later_8 (by decide) (fun c_1 => ?_) (fun c_1 => ?_)
  · have f_1 := z_eq c_1 rfl kl_0
    exact no (by omega)
  · have f_1 := z_ne c_1 rfl kl_0
    refine lv_aload_n hx hb dX12_later_11 rfl (lv_at hl 0 rfl) ?_
    refine g_getI B fl_RX12_369 hT0 kh0 rfl rfl rfl rfl rfl dX12_later_12 (fun x_4 s_4 a_4 b_4 => ?_)
    refine lv_iload_n hx hb dX12_later_15 rfl (lv_at hl 1 rfl) ?_
    refine lv_iadd hx hb dX12_later_16 ?_
    refine lv_topi (fun x_5 e_5 => ?_)
    have t_5 := z_add e_5 rfl rfl (by omega) (by omega)
    refine lv_ldcw hx hb B.2.2.2.1 (B.2.2.2.2.1 _ (mc_wsL_law_r49 _ (List.mem_of_getElem? (i := 10) rfl))) dX12_later_17 ?_
    refine lv_icmp_le (tgt := 25) hx hb dX12_later_20 (by decide) (fun c_6 => ?_) (fun c_6 => ?_)
    · have f_6 := z_le c_6 rfl kl_100000
      have hyes : 0 ≤ p0.toInt ∧ p0.toInt ≤ 1000 ∧ eM E + p0.toInt ≤ 100000 := ⟨by omega, by omega, by omega⟩
      refine lv_aload_n hx hb dX12_later_25 rfl (lv_at hl 0 rfl) ?_
      refine lv_dup hx hb dX12_later_26 rfl ?_
      refine g_get B fl_RX12_369 hT0 kh0 rfl rfl rfl dX12_later_27 s_4 ?_
      refine lv_iload_n hx hb dX12_later_30 rfl (lv_at hl 1 rfl) ?_
      refine lv_iadd hx hb dX12_later_31 ?_
      refine lv_topi (fun x_7 e_7 => ?_)
      have t_7 := z_add e_7 rfl rfl (by omega) (by omega)
      refine g_putC B fp_RX12_369 hT0 kh0 rfl rfl rfl rfl rfl rfl dX12_later_32 (fun H1 cell hc h1 hU => ?_)
      have hF : zFr E [(13, 48)] H0 H1 := zFr.up kh0 rfl hU rfl
      have hlt : zLt (eM E) p0.toInt = x_7.toInt := by unfold zLt; rw [if_pos hyes]; omega
      have hT1 : HT (setM E (zLt (eM E) p0.toInt)) H1 := HT.upT (E := E) (E1 := setM E (zLt (eM E) p0.toInt)) rfl rfl rfl (kk := 13) (jj := 48) (fun k j hkj => by
        by_cases hk8 : k = 13
        · subst hk8
          exact zty_13 _ _ _ j (hkj.resolve_left (fun h => h rfl))
        · exact zty_nM _ _ _ k hk8 j) hT0 hV kh0 rfl (fun b hb8 => hu b h0 hb8 kh0) (by decide) ⟨x_7, rfl, by show zLt (eM E) p0.toInt ≤ _; omega, by show _ ≤ zLt (eM E) p0.toInt; omega⟩ hU hc h1
      have B1 : zB p s m args c (setM E (zLt (eM E) p0.toInt)) cX12_later yX12_later.cls 2 := B
      refine lv_aload_n hx hb dX12_later_35 rfl (lv_at hl 0 rfl) ?_
      refine g_get B1 fl_RX12_369 hT1 kh0 rfl rfl rfl dX12_later_36 hU.2.1 ?_
      exact W.iret hx hb hr (fun t ht hW => ⟨x_7, rfl, by unfold zLv; rw [if_pos hyes]; omega, by rw [ht]; exact hT1, by rw [ht, hh]; exact hF⟩) (fun q hq => by
        rw [List.mem_singleton.mp hq]
        show eK E h0 ≠ 0
        omega) dX12_later_39 hlk
    · have f_6 := z_nle c_6 rfl kl_100000
      exact no (by omega)
