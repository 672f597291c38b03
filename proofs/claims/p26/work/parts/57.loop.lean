theorem dL_law_18 : decode cL_law 18 = .ok (.iload_n 3, 1) := by decide +kernel
theorem dL_law_19 : decode cL_law 19 = .ok (.aload_n 0, 1) := by decide +kernel
theorem dL_law_20 : decode cL_law 20 = .ok (.arraylength, 1) := by decide +kernel
theorem dL_law_21 : decode cL_law 21 = .ok (.bipush 6, 2) := by decide +kernel
theorem dL_law_23 : decode cL_law 23 = .ok (.isub, 1) := by decide +kernel
theorem dL_law_24 : decode cL_law 24 = .ok (.if_icmp .gt 929, 3) := by decide +kernel
theorem dL_law_27 : decode cL_law 27 = .ok (.aload_n 0, 1) := by decide +kernel
theorem dL_law_28 : decode cL_law 28 = .ok (.iload_n 3, 1) := by decide +kernel
theorem dL_law_29 : decode cL_law 29 = .ok (.iaload, 1) := by decide +kernel
theorem dL_law_30 : decode cL_law 30 = .ok (.bipush 31, 2) := by decide +kernel
theorem dL_law_32 : decode cL_law 32 = .ok (.iand, 1) := by decide +kernel
theorem dL_law_33 : decode cL_law 33 = .ok (.tableswitch 914 0 28 #[131, 194, 217, 230, 253, 286, 309, 332, 375, 398, 431, 490, 503, 516, 529, 562, 575, 588, 611, 634, 667, 680, 703, 766, 789, 812, 845, 868, 891], 131) := by decide +kernel
theorem dL_law_947 : decode cL_law 947 = .ok (.iinc 3 6, 3) := by decide +kernel
theorem dL_law_950 : decode cL_law 950 = .ok (.goto (-932), 3) := by decide +kernel
theorem dL_law_953 : decode cL_law 953 = .ok (.iconst 1, 1) := by decide +kernel
theorem dL_law_954 : decode cL_law 954 = .ok (.ireturn, 1) := by decide +kernel
set_option maxRecDepth 100000 in
set_option maxHeartbeats 4000000 in
theorem law_sw (l : Launch) {p : Program} {e : Env} {s : State} {m : MethodId} {below : List Frame} {meth : Method} {c : Code} {b : Nat} {xs : Nat → Int32} {L : Nat} (hL : L ≤ 3072) (C0 : lw_At p s m meth c b L xs) {E : zE} {ox om i : Nat} {H : Heap} {locs : List Loc} {ls : Array Slot} (hE : lwE E ox om s) (hJ : lwJ E s H locs) (hN : lwN E om H) (hTm : lwT E) (hi : i + 6 ≤ L) (hl : lv_has ls 4 [(3, .int (nI i)), (2, .ref om), (1, .ref ox), (0, .ref b)]) {x : Int32} {j : Nat} (hj : j < 32) (hx0 : x = nI j) (kk : ∀ (E1 : zE) (H1 : Heap) (locs1 : List Loc), lwE E1 ox om s → lwJ E1 s H1 locs1 → lwN E1 om H1 → lwT E1 → W p l e room_1 s m #[Value.ref b] below meth c H1 locs1 376 58132 (lw_Z below #[Value.ref b] s) (F0 m 947 ls [])) : W p l e room_1 s m #[Value.ref b] below meth c H locs 376 58132 (lw_Z below #[Value.ref b] s) (F0 m 33 ls [.int x]) := by
  obtain ⟨hx, hb, hr, hml, hown0, hts0, hX, hbl, hlocks, hgv⟩ := id C0
  subst hx0
  rcases (show j = 0 ∨ j = 1 ∨ j = 2 ∨ j = 3 ∨ j = 4 ∨ j = 5 ∨ j = 6 ∨ j = 7 ∨ j = 8 ∨ j = 9 ∨ j = 10 ∨ j = 11 ∨ j = 12 ∨ j = 13 ∨ j = 14 ∨ j = 15 ∨ j = 16 ∨ j = 17 ∨ j = 18 ∨ j = 19 ∨ j = 20 ∨ j = 21 ∨ j = 22 ∨ j = 23 ∨ j = 24 ∨ j = 25 ∨ j = 26 ∨ j = 27 ∨ j = 28 ∨ j = 29 ∨ j = 30 ∨ j = 31 from by omega) with rfl | rfl | rfl | rfl | rfl | rfl | rfl | rfl | rfl | rfl | rfl | rfl | rfl | rfl | rfl | rfl | rfl | rfl | rfl | rfl | rfl | rfl | rfl | rfl | rfl | rfl | rfl | rfl | rfl | rfl | rfl | rfl
  · refine lv_tableIn (off := 131) (tgt := 164) hx hb dL_law_33 (by decide) (by decide) (by decide) (by decide) ?_
    exact law_0 l hL C0 hE hJ hN hTm hi hl kk
  · refine lv_tableIn (off := 194) (tgt := 227) hx hb dL_law_33 (by decide) (by decide) (by decide) (by decide) ?_
    exact law_1 l hL C0 hE hJ hN hTm hi hl kk
  · refine lv_tableIn (off := 217) (tgt := 250) hx hb dL_law_33 (by decide) (by decide) (by decide) (by decide) ?_
    exact law_2 l hL C0 hE hJ hN hTm hi hl kk
  · refine lv_tableIn (off := 230) (tgt := 263) hx hb dL_law_33 (by decide) (by decide) (by decide) (by decide) ?_
    exact law_3 l hL C0 hE hJ hN hTm hi hl kk
  · refine lv_tableIn (off := 253) (tgt := 286) hx hb dL_law_33 (by decide) (by decide) (by decide) (by decide) ?_
    exact law_4 l hL C0 hE hJ hN hTm hi hl kk
  · refine lv_tableIn (off := 286) (tgt := 319) hx hb dL_law_33 (by decide) (by decide) (by decide) (by decide) ?_
    exact law_5 l hL C0 hE hJ hN hTm hi hl kk
  · refine lv_tableIn (off := 309) (tgt := 342) hx hb dL_law_33 (by decide) (by decide) (by decide) (by decide) ?_
    exact law_6 l hL C0 hE hJ hN hTm hi hl kk
  · refine lv_tableIn (off := 332) (tgt := 365) hx hb dL_law_33 (by decide) (by decide) (by decide) (by decide) ?_
    exact law_7 l hL C0 hE hJ hN hTm hi hl kk
  · refine lv_tableIn (off := 375) (tgt := 408) hx hb dL_law_33 (by decide) (by decide) (by decide) (by decide) ?_
    exact law_8 l hL C0 hE hJ hN hTm hi hl kk
  · refine lv_tableIn (off := 398) (tgt := 431) hx hb dL_law_33 (by decide) (by decide) (by decide) (by decide) ?_
    exact law_9 l hL C0 hE hJ hN hTm hi hl kk
  · refine lv_tableIn (off := 431) (tgt := 464) hx hb dL_law_33 (by decide) (by decide) (by decide) (by decide) ?_
    exact law_10 l hL C0 hE hJ hN hTm hi hl kk
  · refine lv_tableIn (off := 490) (tgt := 523) hx hb dL_law_33 (by decide) (by decide) (by decide) (by decide) ?_
    exact law_11 l hL C0 hE hJ hN hTm hi hl kk
  · refine lv_tableIn (off := 503) (tgt := 536) hx hb dL_law_33 (by decide) (by decide) (by decide) (by decide) ?_
    exact law_12 l hL C0 hE hJ hN hTm hi hl kk
  · refine lv_tableIn (off := 516) (tgt := 549) hx hb dL_law_33 (by decide) (by decide) (by decide) (by decide) ?_
    exact law_13 l hL C0 hE hJ hN hTm hi hl kk
  · refine lv_tableIn (off := 529) (tgt := 562) hx hb dL_law_33 (by decide) (by decide) (by decide) (by decide) ?_
    exact law_14 l hL C0 hE hJ hN hTm hi hl kk
  · refine lv_tableIn (off := 562) (tgt := 595) hx hb dL_law_33 (by decide) (by decide) (by decide) (by decide) ?_
    exact law_15 l hL C0 hE hJ hN hTm hi hl kk
  · refine lv_tableIn (off := 575) (tgt := 608) hx hb dL_law_33 (by decide) (by decide) (by decide) (by decide) ?_
    exact law_16 l hL C0 hE hJ hN hTm hi hl kk
  · refine lv_tableIn (off := 588) (tgt := 621) hx hb dL_law_33 (by decide) (by decide) (by decide) (by decide) ?_
    exact law_17 l hL C0 hE hJ hN hTm hi hl kk
  · refine lv_tableIn (off := 611) (tgt := 644) hx hb dL_law_33 (by decide) (by decide) (by decide) (by decide) ?_
    exact law_18 l hL C0 hE hJ hN hTm hi hl kk
  · refine lv_tableIn (off := 634) (tgt := 667) hx hb dL_law_33 (by decide) (by decide) (by decide) (by decide) ?_
    exact law_19 l hL C0 hE hJ hN hTm hi hl kk
  · refine lv_tableIn (off := 667) (tgt := 700) hx hb dL_law_33 (by decide) (by decide) (by decide) (by decide) ?_
    exact law_20 l hL C0 hE hJ hN hTm hi hl kk
  · refine lv_tableIn (off := 680) (tgt := 713) hx hb dL_law_33 (by decide) (by decide) (by decide) (by decide) ?_
    exact law_21 l hL C0 hE hJ hN hTm hi hl kk
  · refine lv_tableIn (off := 703) (tgt := 736) hx hb dL_law_33 (by decide) (by decide) (by decide) (by decide) ?_
    exact law_22 l hL C0 hE hJ hN hTm hi hl kk
  · refine lv_tableIn (off := 766) (tgt := 799) hx hb dL_law_33 (by decide) (by decide) (by decide) (by decide) ?_
    exact law_23 l hL C0 hE hJ hN hTm hi hl kk
  · refine lv_tableIn (off := 789) (tgt := 822) hx hb dL_law_33 (by decide) (by decide) (by decide) (by decide) ?_
    exact law_24 l hL C0 hE hJ hN hTm hi hl kk
  · refine lv_tableIn (off := 812) (tgt := 845) hx hb dL_law_33 (by decide) (by decide) (by decide) (by decide) ?_
    exact law_25 l hL C0 hE hJ hN hTm hi hl kk
  · refine lv_tableIn (off := 845) (tgt := 878) hx hb dL_law_33 (by decide) (by decide) (by decide) (by decide) ?_
    exact law_26 l hL C0 hE hJ hN hTm hi hl kk
  · refine lv_tableIn (off := 868) (tgt := 901) hx hb dL_law_33 (by decide) (by decide) (by decide) (by decide) ?_
    exact law_27 l hL C0 hE hJ hN hTm hi hl kk
  · refine lv_tableIn (off := 891) (tgt := 924) hx hb dL_law_33 (by decide) (by decide) (by decide) (by decide) ?_
    exact law_28 l hL C0 hE hJ hN hTm hi hl kk
  · refine lv_tableOut (tgt := 947) hx hb dL_law_33 (by decide) (by decide) ?_
    exact kk _ _ _ hE hJ hN hTm
  · refine lv_tableOut (tgt := 947) hx hb dL_law_33 (by decide) (by decide) ?_
    exact kk _ _ _ hE hJ hN hTm
  · refine lv_tableOut (tgt := 947) hx hb dL_law_33 (by decide) (by decide) ?_
    exact kk _ _ _ hE hJ hN hTm
set_option maxRecDepth 100000 in
set_option maxHeartbeats 4000000 in
theorem law_loop (l : Launch) {p : Program} {e : Env} {s : State} {m : MethodId} {below : List Frame} {meth : Method} {c : Code} {b : Nat} {xs : Nat → Int32} {L : Nat} (hL : L ≤ 3072) (C0 : lw_At p s m meth c b L xs) {ox om : Nat} : ∀ (d i : Nat), L ≤ i + d → i ≤ 3078 → ∀ (E : zE) (H : Heap) (locs : List Loc) (ls : Array Slot), lwE E ox om s → lwJ E s H locs → lwN E om H → lwT E → lv_has ls 4 [(3, .int (nI i)), (2, .ref om), (1, .ref ox), (0, .ref b)] → W p l e room_1 s m #[Value.ref b] below meth c H locs 376 58132 (lw_Z below #[Value.ref b] s) (F0 m 18 ls []) := by
  obtain ⟨hx, hb, hr, hml, hown0, hts0, hX, hbl, hlocks, hgv⟩ := id C0
  have hbA : ¬ (fun q : Nat => s.heap.size ≤ q) b := Nat.not_le.mpr hbl
  have eL : (Int32.ofNat L).toInt = (L : Int) := nI_toInt (n := L) (by omega)
  intro d
  induction d with
  | zero =>
    intro i hd hi3 E H locs ls hE hJ hN hTm hl
    have ei : (nI i).toInt = (i : Int) := nI_toInt (by omega)
    refine lv_iload_n hx hb dL_law_18 rfl (lv_at hl 0 rfl) ?_
    refine lv_aload_n hx hb dL_law_19 rfl (lv_at hl 3 rfl) ?_
    refine va_slen hx hb hX hbl hbA (hJ.S hE) dL_law_20 ?_
    refine lv_bipush (v := 6) hx hb dL_law_21 (by decide) ?_
    refine lv_isub hx hb dL_law_23 ?_
    refine lv_topi (fun v ev => ?_)
    have tv := z_sub ev eL kl_6 (by omega) (by omega)
    refine lv_icmp_gt (tgt := 953) hx hb dL_law_24 (by decide) (fun c_1 => ?_) (fun c_1 => ?_)
    · refine lv_iconst (v := 1) hx hb dL_law_953 (by decide) ?_
      refine va_forget hJ.2.2.2 ?_
      refine W.widen (k := 600000) (n := 7302250) (Nat.le_of_ble_eq_true rfl) (Nat.le_of_ble_eq_true rfl) ?_
      exact lw_ret hx hb hr hlocks dL_law_954
    · have f_1 := z_nlt c_1 tv ei
      omega
  | succ d ih =>
    intro i hd hi3 E H locs ls hE hJ hN hTm hl
    have ei : (nI i).toInt = (i : Int) := nI_toInt (by omega)
    refine lv_iload_n hx hb dL_law_18 rfl (lv_at hl 0 rfl) ?_
    refine lv_aload_n hx hb dL_law_19 rfl (lv_at hl 3 rfl) ?_
    refine va_slen hx hb hX hbl hbA (hJ.S hE) dL_law_20 ?_
    refine lv_bipush (v := 6) hx hb dL_law_21 (by decide) ?_
    refine lv_isub hx hb dL_law_23 ?_
    refine lv_topi (fun v ev => ?_)
    have tv := z_sub ev eL kl_6 (by omega) (by omega)
    refine lv_icmp_gt (tgt := 953) hx hb dL_law_24 (by decide) (fun c_1 => ?_) (fun c_1 => ?_)
    · refine lv_iconst (v := 1) hx hb dL_law_953 (by decide) ?_
      refine va_forget hJ.2.2.2 ?_
      refine W.widen (k := 600000) (n := 7302250) (Nat.le_of_ble_eq_true rfl) (Nat.le_of_ble_eq_true rfl) ?_
      exact lw_ret hx hb hr hlocks dL_law_954
    · have f_1 := z_nlt c_1 tv ei
      have hi : i + 6 ≤ L := by omega
      refine lv_aload_n hx hb dL_law_27 rfl (lv_at hl 3 rfl) ?_
      refine lv_iload_n hx hb dL_law_28 rfl (lv_at hl 0 rfl) ?_
      refine va_sld hx hb hX hbl hbA (hJ.S hE) (z_vin (by omega) (by omega)) dL_law_29 ?_
      refine lv_bipush (v := 31) hx hb dL_law_30 (by decide) ?_
      refine lv_iand hx hb dL_law_32 ?_
      obtain ⟨j, hj, ej⟩ := pk_andE (xs (nI i).toNatClampNeg) (m := 31) 5 (by decide)
      refine law_sw l hL C0 hE hJ hN hTm hi hl hj ej (fun E1 H1 locs1 hE1 hJ1 hN1 hT1 => ?_)
      refine lv_iinc (v := nI (i + 6)) (lv' := [(3, .int (nI (i + 6))), (2, .ref om), (1, .ref ox), (0, .ref b)]) hx hb dL_law_947 hl (k := 0) rfl (z_inc i 6) (by decide) rfl (fun ls hl => ?_)
      refine lv_goto (tgt := 18) hx hb dL_law_950 (by decide) ?_
      exact ih (i + 6) (by omega) (by omega) E1 H1 locs1 ls hE1 hJ1 hN1 hT1 hl
