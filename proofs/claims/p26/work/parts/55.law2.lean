theorem dL_law_464 : decode cL_law 464 = .ok (.aload_n 1, 1) := by decide +kernel
theorem dL_law_465 : decode cL_law 465 = .ok (.aload_n 0, 1) := by decide +kernel
theorem dL_law_466 : decode cL_law 466 = .ok (.iload_n 3, 1) := by decide +kernel
theorem dL_law_467 : decode cL_law 467 = .ok (.iconst 1, 1) := by decide +kernel
theorem dL_law_468 : decode cL_law 468 = .ok (.iadd, 1) := by decide +kernel
theorem dL_law_469 : decode cL_law 469 = .ok (.iaload, 1) := by decide +kernel
theorem dL_law_470 : decode cL_law 470 = .ok (.aload_n 0, 1) := by decide +kernel
theorem dL_law_471 : decode cL_law 471 = .ok (.iload_n 3, 1) := by decide +kernel
theorem dL_law_472 : decode cL_law 472 = .ok (.iconst 2, 1) := by decide +kernel
theorem dL_law_473 : decode cL_law 473 = .ok (.iadd, 1) := by decide +kernel
theorem dL_law_474 : decode cL_law 474 = .ok (.iaload, 1) := by decide +kernel
theorem dL_law_475 : decode cL_law 475 = .ok (.aload_n 0, 1) := by decide +kernel
theorem dL_law_476 : decode cL_law 476 = .ok (.iload_n 3, 1) := by decide +kernel
theorem dL_law_477 : decode cL_law 477 = .ok (.iconst 3, 1) := by decide +kernel
theorem dL_law_478 : decode cL_law 478 = .ok (.iadd, 1) := by decide +kernel
theorem dL_law_479 : decode cL_law 479 = .ok (.iaload, 1) := by decide +kernel
theorem dL_law_480 : decode cL_law 480 = .ok (.ifCond .eq 7, 3) := by decide +kernel
theorem dL_law_483 : decode cL_law 483 = .ok (.iconst 1, 1) := by decide +kernel
theorem dL_law_484 : decode cL_law 484 = .ok (.goto 4, 3) := by decide +kernel
theorem dL_law_487 : decode cL_law 487 = .ok (.iconst 0, 1) := by decide +kernel
theorem dL_law_488 : decode cL_law 488 = .ok (.invokevirtual 58, 3) := by decide +kernel
theorem dL_law_491 : decode cL_law 491 = .ok (.pop, 1) := by decide +kernel
theorem dL_law_492 : decode cL_law 492 = .ok (.aload_n 2, 1) := by decide +kernel
theorem dL_law_493 : decode cL_law 493 = .ok (.aload_n 0, 1) := by decide +kernel
theorem dL_law_494 : decode cL_law 494 = .ok (.iload_n 3, 1) := by decide +kernel
theorem dL_law_495 : decode cL_law 495 = .ok (.iconst 1, 1) := by decide +kernel
theorem dL_law_496 : decode cL_law 496 = .ok (.iadd, 1) := by decide +kernel
theorem dL_law_497 : decode cL_law 497 = .ok (.iaload, 1) := by decide +kernel
theorem dL_law_498 : decode cL_law 498 = .ok (.aload_n 0, 1) := by decide +kernel
theorem dL_law_499 : decode cL_law 499 = .ok (.iload_n 3, 1) := by decide +kernel
theorem dL_law_500 : decode cL_law 500 = .ok (.iconst 2, 1) := by decide +kernel
theorem dL_law_501 : decode cL_law 501 = .ok (.iadd, 1) := by decide +kernel
theorem dL_law_502 : decode cL_law 502 = .ok (.iaload, 1) := by decide +kernel
theorem dL_law_503 : decode cL_law 503 = .ok (.aload_n 0, 1) := by decide +kernel
theorem dL_law_504 : decode cL_law 504 = .ok (.iload_n 3, 1) := by decide +kernel
theorem dL_law_505 : decode cL_law 505 = .ok (.iconst 3, 1) := by decide +kernel
theorem dL_law_506 : decode cL_law 506 = .ok (.iadd, 1) := by decide +kernel
theorem dL_law_507 : decode cL_law 507 = .ok (.iaload, 1) := by decide +kernel
theorem dL_law_508 : decode cL_law 508 = .ok (.ifCond .eq 7, 3) := by decide +kernel
theorem dL_law_511 : decode cL_law 511 = .ok (.iconst 1, 1) := by decide +kernel
theorem dL_law_512 : decode cL_law 512 = .ok (.goto 4, 3) := by decide +kernel
theorem dL_law_515 : decode cL_law 515 = .ok (.iconst 0, 1) := by decide +kernel
theorem dL_law_516 : decode cL_law 516 = .ok (.invokevirtual 62, 3) := by decide +kernel
theorem dL_law_519 : decode cL_law 519 = .ok (.pop, 1) := by decide +kernel
theorem dL_law_520 : decode cL_law 520 = .ok (.goto 427, 3) := by decide +kernel
set_option maxRecDepth 100000 in
set_option maxHeartbeats 4000000 in
theorem law_10 (l : Launch) {p : Program} {e : Env} {s : State} {m : MethodId} {below : List Frame} {meth : Method} {c : Code} {b : Nat} {xs : Nat → Int32} {L : Nat} (hL : L ≤ 3072) (C0 : lw_At p s m meth c b L xs) {E : zE} {ox om i : Nat} {H : Heap} {locs : List Loc} {ls : Array Slot} (hE : lwE E ox om s) (hJ : lwJ E s H locs) (hN : lwN E om H) (hTm : lwT E) (hi : i + 6 ≤ L) (hl : lv_has ls 4 [(3, .int (nI i)), (2, .ref om), (1, .ref ox), (0, .ref b)]) (kk : ∀ (E1 : zE) (H1 : Heap) (locs1 : List Loc), lwE E1 ox om s → lwJ E1 s H1 locs1 → lwN E1 om H1 → lwT E1 → W p l e room_1 s m #[Value.ref b] below meth c H1 locs1 376 58132 (lw_Z below #[Value.ref b] s) (F0 m 947 ls [])) : W p l e room_1 s m #[Value.ref b] below meth c H locs 376 58132 (lw_Z below #[Value.ref b] s) (F0 m 464 ls []) := by
  obtain ⟨hx, hb, hr, hml, hown0, hts0, hX, hbl, hlocks, hgv⟩ := id C0
  have B : zB p s m #[Value.ref b] c E cL_law RL 4 := ⟨hx, hb, hml, hown0, fun w h => hts0 w (wsL_law_in w h), hE.2.1⟩
  have hbA : ¬ (fun q : Nat => s.heap.size ≤ q) b := Nat.not_le.mpr hbl
  refine lv_aload_n hx hb dL_law_464 rfl (lv_at hl 2 rfl) ?_
  refine lv_aload_n hx hb dL_law_465 rfl (lv_at hl 3 rfl) ?_
  refine lv_iload_n hx hb dL_law_466 rfl (lv_at hl 0 rfl) ?_
  refine lv_iconst (v := 1) hx hb dL_law_467 (by decide) ?_
  refine lv_iadd hx hb dL_law_468 ?_
  refine va_sld hx hb hX hbl hbA (hJ.S hE) (lw_in hi hL (by decide) (by decide)) dL_law_469 ?_
  refine lv_topi (fun y1 ey1 => ?_)
  refine lv_aload_n hx hb dL_law_470 rfl (lv_at hl 3 rfl) ?_
  refine lv_iload_n hx hb dL_law_471 rfl (lv_at hl 0 rfl) ?_
  refine lv_iconst (v := 2) hx hb dL_law_472 (by decide) ?_
  refine lv_iadd hx hb dL_law_473 ?_
  refine va_sld hx hb hX hbl hbA (hJ.S hE) (lw_in hi hL (by decide) (by decide)) dL_law_474 ?_
  refine lv_topi (fun y2 ey2 => ?_)
  refine lv_aload_n hx hb dL_law_475 rfl (lv_at hl 3 rfl) ?_
  refine lv_iload_n hx hb dL_law_476 rfl (lv_at hl 0 rfl) ?_
  refine lv_iconst (v := 3) hx hb dL_law_477 (by decide) ?_
  refine lv_iadd hx hb dL_law_478 ?_
  refine va_sld hx hb hX hbl hbA (hJ.S hE) (lw_in hi hL (by decide) (by decide)) dL_law_479 ?_
  refine lv_topi (fun y3 ey3 => ?_)
  have at488 : ∀ v4 : Int32, 0 ≤ v4.toInt → v4.toInt ≤ 1 → W p l e room_1 s m #[Value.ref b] below meth c H locs 376 58132 (lw_Z below #[Value.ref b] s) (F0 m 488 ls [.int v4, .int y2, .int y1, .ref ox]) := by
    intro v4 hv40 hv41
    refine lk_I (zrV (rest := []) B (c_X11_night l E hE.1 H hJ.1 ox hE.2.2.1 y1 y2 v4 hv40 hv41) cl_RL_58 hJ.1 hE.2.2.1 rfl rfl rfl rfl hl.1 rfl (Nat.le_of_ble_eq_true rfl) dL_law_488 rfl rfl ⟨rfl, rfl⟩ ⟨Nat.le_of_ble_eq_true rfl, Nat.le_of_ble_eq_true rfl⟩ hJ.2.1) hE hJ (fun r5 H5 lc5 hp5 hf5 hJ5 => ?_)
    have hN5 : lwN E om H5 := lwN.keep hN hE hf5 rfl rfl
    refine lv_pop hx hb dL_law_491 rfl ?_
    refine lv_aload_n hx hb dL_law_492 rfl (lv_at hl 1 rfl) ?_
    refine lv_aload_n hx hb dL_law_493 rfl (lv_at hl 3 rfl) ?_
    refine lv_iload_n hx hb dL_law_494 rfl (lv_at hl 0 rfl) ?_
    refine lv_iconst (v := 1) hx hb dL_law_495 (by decide) ?_
    refine lv_iadd hx hb dL_law_496 ?_
    refine va_sld hx hb hX hbl hbA (hJ5.S hE) (lw_in hi hL (by decide) (by decide)) dL_law_497 ?_
    refine lv_topi (fun y6 ey6 => ?_)
    refine lv_aload_n hx hb dL_law_498 rfl (lv_at hl 3 rfl) ?_
    refine lv_iload_n hx hb dL_law_499 rfl (lv_at hl 0 rfl) ?_
    refine lv_iconst (v := 2) hx hb dL_law_500 (by decide) ?_
    refine lv_iadd hx hb dL_law_501 ?_
    refine va_sld hx hb hX hbl hbA (hJ5.S hE) (lw_in hi hL (by decide) (by decide)) dL_law_502 ?_
    refine lv_topi (fun y7 ey7 => ?_)
    refine lv_aload_n hx hb dL_law_503 rfl (lv_at hl 3 rfl) ?_
    refine lv_iload_n hx hb dL_law_504 rfl (lv_at hl 0 rfl) ?_
    refine lv_iconst (v := 3) hx hb dL_law_505 (by decide) ?_
    refine lv_iadd hx hb dL_law_506 ?_
    refine va_sld hx hb hX hbl hbA (hJ5.S hE) (lw_in hi hL (by decide) (by decide)) dL_law_507 ?_
    refine lv_topi (fun y8 ey8 => ?_)
    have at516 : ∀ v9 : Int32, 0 ≤ v9.toInt → v9.toInt ≤ 1 → W p l e room_1 s m #[Value.ref b] below meth c H5 lc5 376 58132 (lw_Z below #[Value.ref b] s) (F0 m 516 ls [.int v9, .int y7, .int y6, .ref om]) := by
      intro v9 hv90 hv91
      obtain ⟨n0, s_n0, u0, s_u0, nu0⟩ := hN5
      refine lk_I (zrV (rest := []) B (c_X12_night l E hE.1 H5 hJ5.1 om hE.2.2.2.1 y6 y7 v9 hv90 hv91 n0 s_n0 u0 s_u0 nu0) cl_RL_62 hJ5.1 hE.2.2.2.1 rfl rfl rfl rfl hl.1 rfl (Nat.le_of_ble_eq_true rfl) dL_law_516 rfl rfl ⟨rfl, rfl⟩ ⟨Nat.le_of_ble_eq_true rfl, Nat.le_of_ble_eq_true rfl⟩ hJ5.2.1) hE hJ5 (fun r10 H10 lc10 hp10 hf10 hJ10 => ?_)
      obtain ⟨-, -, n1, s_n1, -, -, u1, s_u1, -, -, nu1⟩ := hp10
      have hN10 : lwN E om H10 := ⟨n1, s_n1, u1, s_u1, nu1⟩
      refine lv_pop hx hb dL_law_519 rfl ?_
      refine lv_goto (tgt := 947) hx hb dL_law_520 (by decide) ?_
      exact kk _ _ _ hE hJ10 hN10 hTm
    refine lv_if_eq (tgt := 515) hx hb dL_law_508 (by decide) (fun _ => ?_) (fun _ => ?_)
    · refine lv_iconst (v := 0) hx hb dL_law_515 (by decide) ?_
      exact at516 0 (by decide) (by decide)
    · refine lv_iconst (v := 1) hx hb dL_law_511 (by decide) ?_
      refine lv_goto (tgt := 516) hx hb dL_law_512 (by decide) ?_
      exact at516 1 (by decide) (by decide)
  refine lv_if_eq (tgt := 487) hx hb dL_law_480 (by decide) (fun _ => ?_) (fun _ => ?_)
  · refine lv_iconst (v := 0) hx hb dL_law_487 (by decide) ?_
    exact at488 0 (by decide) (by decide)
  · refine lv_iconst (v := 1) hx hb dL_law_483 (by decide) ?_
    refine lv_goto (tgt := 488) hx hb dL_law_484 (by decide) ?_
    exact at488 1 (by decide) (by decide)

theorem dL_law_523 : decode cL_law 523 = .ok (.aload_n 1, 1) := by decide +kernel
theorem dL_law_524 : decode cL_law 524 = .ok (.invokevirtual 63, 3) := by decide +kernel
theorem dL_law_527 : decode cL_law 527 = .ok (.pop, 1) := by decide +kernel
theorem dL_law_528 : decode cL_law 528 = .ok (.aload_n 2, 1) := by decide +kernel
theorem dL_law_529 : decode cL_law 529 = .ok (.invokevirtual 66, 3) := by decide +kernel
theorem dL_law_532 : decode cL_law 532 = .ok (.pop, 1) := by decide +kernel
theorem dL_law_533 : decode cL_law 533 = .ok (.goto 414, 3) := by decide +kernel
set_option maxRecDepth 100000 in
set_option maxHeartbeats 4000000 in
theorem law_11 (l : Launch) {p : Program} {e : Env} {s : State} {m : MethodId} {below : List Frame} {meth : Method} {c : Code} {b : Nat} {xs : Nat → Int32} {L : Nat} (hL : L ≤ 3072) (C0 : lw_At p s m meth c b L xs) {E : zE} {ox om i : Nat} {H : Heap} {locs : List Loc} {ls : Array Slot} (hE : lwE E ox om s) (hJ : lwJ E s H locs) (hN : lwN E om H) (hTm : lwT E) (hi : i + 6 ≤ L) (hl : lv_has ls 4 [(3, .int (nI i)), (2, .ref om), (1, .ref ox), (0, .ref b)]) (kk : ∀ (E1 : zE) (H1 : Heap) (locs1 : List Loc), lwE E1 ox om s → lwJ E1 s H1 locs1 → lwN E1 om H1 → lwT E1 → W p l e room_1 s m #[Value.ref b] below meth c H1 locs1 376 58132 (lw_Z below #[Value.ref b] s) (F0 m 947 ls [])) : W p l e room_1 s m #[Value.ref b] below meth c H locs 376 58132 (lw_Z below #[Value.ref b] s) (F0 m 523 ls []) := by
  obtain ⟨hx, hb, hr, hml, hown0, hts0, hX, hbl, hlocks, hgv⟩ := id C0
  have B : zB p s m #[Value.ref b] c E cL_law RL 4 := ⟨hx, hb, hml, hown0, fun w h => hts0 w (wsL_law_in w h), hE.2.1⟩
  have hbA : ¬ (fun q : Nat => s.heap.size ≤ q) b := Nat.not_le.mpr hbl
  refine lv_aload_n hx hb dL_law_523 rfl (lv_at hl 2 rfl) ?_
  refine lk_I (zrV (rest := []) B (c_X11_blank l E hE.1 H hJ.1 ox hE.2.2.1) cl_RL_63 hJ.1 hE.2.2.1 rfl rfl rfl rfl hl.1 rfl (Nat.le_of_ble_eq_true rfl) dL_law_524 rfl rfl ⟨rfl, rfl⟩ ⟨Nat.le_of_ble_eq_true rfl, Nat.le_of_ble_eq_true rfl⟩ hJ.2.1) hE hJ (fun r1 H1 lc1 hp1 hf1 hJ1 => ?_)
  have hN1 : lwN E om H1 := lwN.keep hN hE hf1 rfl rfl
  refine lv_pop hx hb dL_law_527 rfl ?_
  refine lv_aload_n hx hb dL_law_528 rfl (lv_at hl 1 rfl) ?_
  obtain ⟨n0, s_n0, u0, s_u0, nu0⟩ := hN1
  refine lk_I (zrV (rest := []) B (c_X12_blank l E hE.1 H1 hJ1.1 om hE.2.2.2.1 n0 s_n0 u0 s_u0 nu0) cl_RL_66 hJ1.1 hE.2.2.2.1 rfl rfl rfl rfl hl.1 rfl (Nat.le_of_ble_eq_true rfl) dL_law_529 rfl rfl ⟨rfl, rfl⟩ ⟨Nat.le_of_ble_eq_true rfl, Nat.le_of_ble_eq_true rfl⟩ hJ1.2.1) hE hJ1 (fun r2 H2 lc2 hp2 hf2 hJ2 => ?_)
  obtain ⟨-, -, n1, s_n1, -, -, u1, s_u1, -, -, nu1⟩ := hp2
  have hN2 : lwN E om H2 := ⟨n1, s_n1, u1, s_u1, nu1⟩
  refine lv_pop hx hb dL_law_532 rfl ?_
  refine lv_goto (tgt := 947) hx hb dL_law_533 (by decide) ?_
  exact kk _ _ _ hE hJ2 hN2 hTm

theorem dL_law_536 : decode cL_law 536 = .ok (.aload_n 1, 1) := by decide +kernel
theorem dL_law_537 : decode cL_law 537 = .ok (.invokevirtual 67, 3) := by decide +kernel
theorem dL_law_540 : decode cL_law 540 = .ok (.pop, 1) := by decide +kernel
theorem dL_law_541 : decode cL_law 541 = .ok (.aload_n 2, 1) := by decide +kernel
theorem dL_law_542 : decode cL_law 542 = .ok (.invokevirtual 71, 3) := by decide +kernel
theorem dL_law_545 : decode cL_law 545 = .ok (.pop, 1) := by decide +kernel
theorem dL_law_546 : decode cL_law 546 = .ok (.goto 401, 3) := by decide +kernel
set_option maxRecDepth 100000 in
set_option maxHeartbeats 4000000 in
theorem law_12 (l : Launch) {p : Program} {e : Env} {s : State} {m : MethodId} {below : List Frame} {meth : Method} {c : Code} {b : Nat} {xs : Nat → Int32} {L : Nat} (hL : L ≤ 3072) (C0 : lw_At p s m meth c b L xs) {E : zE} {ox om i : Nat} {H : Heap} {locs : List Loc} {ls : Array Slot} (hE : lwE E ox om s) (hJ : lwJ E s H locs) (hN : lwN E om H) (hTm : lwT E) (hi : i + 6 ≤ L) (hl : lv_has ls 4 [(3, .int (nI i)), (2, .ref om), (1, .ref ox), (0, .ref b)]) (kk : ∀ (E1 : zE) (H1 : Heap) (locs1 : List Loc), lwE E1 ox om s → lwJ E1 s H1 locs1 → lwN E1 om H1 → lwT E1 → W p l e room_1 s m #[Value.ref b] below meth c H1 locs1 376 58132 (lw_Z below #[Value.ref b] s) (F0 m 947 ls [])) : W p l e room_1 s m #[Value.ref b] below meth c H locs 376 58132 (lw_Z below #[Value.ref b] s) (F0 m 536 ls []) := by
  obtain ⟨hx, hb, hr, hml, hown0, hts0, hX, hbl, hlocks, hgv⟩ := id C0
  have B : zB p s m #[Value.ref b] c E cL_law RL 4 := ⟨hx, hb, hml, hown0, fun w h => hts0 w (wsL_law_in w h), hE.2.1⟩
  have hbA : ¬ (fun q : Nat => s.heap.size ≤ q) b := Nat.not_le.mpr hbl
  refine lv_aload_n hx hb dL_law_536 rfl (lv_at hl 2 rfl) ?_
  refine lk_I (zrV (rest := []) B (c_X11_undo l E hE.1 H hJ.1 ox hE.2.2.1) cl_RL_67 hJ.1 hE.2.2.1 rfl rfl rfl rfl hl.1 rfl (Nat.le_of_ble_eq_true rfl) dL_law_537 rfl rfl ⟨rfl, rfl⟩ ⟨Nat.le_of_ble_eq_true rfl, Nat.le_of_ble_eq_true rfl⟩ hJ.2.1) hE hJ (fun r1 H1 lc1 hp1 hf1 hJ1 => ?_)
  have hN1 : lwN E om H1 := lwN.keep hN hE hf1 rfl rfl
  refine lv_pop hx hb dL_law_540 rfl ?_
  refine lv_aload_n hx hb dL_law_541 rfl (lv_at hl 1 rfl) ?_
  obtain ⟨n0, s_n0, u0, s_u0, nu0⟩ := hN1
  refine lk_I (zrV (rest := []) B (c_X12_undo l E hE.1 H1 hJ1.1 om hE.2.2.2.1 n0 s_n0 u0 s_u0 nu0) cl_RL_71 hJ1.1 hE.2.2.2.1 rfl rfl rfl rfl hl.1 rfl (Nat.le_of_ble_eq_true rfl) dL_law_542 rfl rfl ⟨rfl, rfl⟩ ⟨Nat.le_of_ble_eq_true rfl, Nat.le_of_ble_eq_true rfl⟩ hJ1.2.1) hE hJ1 (fun r2 H2 lc2 hp2 hf2 hJ2 => ?_)
  obtain ⟨-, -, n1, s_n1, -, -, u1, s_u1, -, -, nu1⟩ := hp2
  have hN2 : lwN E om H2 := ⟨n1, s_n1, u1, s_u1, nu1⟩
  refine lv_pop hx hb dL_law_545 rfl ?_
  refine lv_goto (tgt := 947) hx hb dL_law_546 (by decide) ?_
  exact kk _ _ _ hE hJ2 hN2 hTm

theorem dL_law_549 : decode cL_law 549 = .ok (.aload_n 1, 1) := by decide +kernel
theorem dL_law_550 : decode cL_law 550 = .ok (.invokevirtual 72, 3) := by decide +kernel
theorem dL_law_553 : decode cL_law 553 = .ok (.pop, 1) := by decide +kernel
theorem dL_law_554 : decode cL_law 554 = .ok (.aload_n 2, 1) := by decide +kernel
theorem dL_law_555 : decode cL_law 555 = .ok (.invokevirtual 75, 3) := by decide +kernel
theorem dL_law_558 : decode cL_law 558 = .ok (.pop, 1) := by decide +kernel
theorem dL_law_559 : decode cL_law 559 = .ok (.goto 388, 3) := by decide +kernel
set_option maxRecDepth 100000 in
set_option maxHeartbeats 4000000 in
theorem law_13 (l : Launch) {p : Program} {e : Env} {s : State} {m : MethodId} {below : List Frame} {meth : Method} {c : Code} {b : Nat} {xs : Nat → Int32} {L : Nat} (hL : L ≤ 3072) (C0 : lw_At p s m meth c b L xs) {E : zE} {ox om i : Nat} {H : Heap} {locs : List Loc} {ls : Array Slot} (hE : lwE E ox om s) (hJ : lwJ E s H locs) (hN : lwN E om H) (hTm : lwT E) (hi : i + 6 ≤ L) (hl : lv_has ls 4 [(3, .int (nI i)), (2, .ref om), (1, .ref ox), (0, .ref b)]) (kk : ∀ (E1 : zE) (H1 : Heap) (locs1 : List Loc), lwE E1 ox om s → lwJ E1 s H1 locs1 → lwN E1 om H1 → lwT E1 → W p l e room_1 s m #[Value.ref b] below meth c H1 locs1 376 58132 (lw_Z below #[Value.ref b] s) (F0 m 947 ls [])) : W p l e room_1 s m #[Value.ref b] below meth c H locs 376 58132 (lw_Z below #[Value.ref b] s) (F0 m 549 ls []) := by
  obtain ⟨hx, hb, hr, hml, hown0, hts0, hX, hbl, hlocks, hgv⟩ := id C0
  have B : zB p s m #[Value.ref b] c E cL_law RL 4 := ⟨hx, hb, hml, hown0, fun w h => hts0 w (wsL_law_in w h), hE.2.1⟩
  have hbA : ¬ (fun q : Nat => s.heap.size ≤ q) b := Nat.not_le.mpr hbl
  refine lv_aload_n hx hb dL_law_549 rfl (lv_at hl 2 rfl) ?_
  refine lk_I (zrV (rest := []) B (c_X11_redo l E hE.1 H hJ.1 ox hE.2.2.1) cl_RL_72 hJ.1 hE.2.2.1 rfl rfl rfl rfl hl.1 rfl (Nat.le_of_ble_eq_true rfl) dL_law_550 rfl rfl ⟨rfl, rfl⟩ ⟨Nat.le_of_ble_eq_true rfl, Nat.le_of_ble_eq_true rfl⟩ hJ.2.1) hE hJ (fun r1 H1 lc1 hp1 hf1 hJ1 => ?_)
  have hN1 : lwN E om H1 := lwN.keep hN hE hf1 rfl rfl
  refine lv_pop hx hb dL_law_553 rfl ?_
  refine lv_aload_n hx hb dL_law_554 rfl (lv_at hl 1 rfl) ?_
  obtain ⟨n0, s_n0, u0, s_u0, nu0⟩ := hN1
  refine lk_I (zrV (rest := []) B (c_X12_redo l E hE.1 H1 hJ1.1 om hE.2.2.2.1 n0 s_n0 u0 s_u0 nu0) cl_RL_75 hJ1.1 hE.2.2.2.1 rfl rfl rfl rfl hl.1 rfl (Nat.le_of_ble_eq_true rfl) dL_law_555 rfl rfl ⟨rfl, rfl⟩ ⟨Nat.le_of_ble_eq_true rfl, Nat.le_of_ble_eq_true rfl⟩ hJ1.2.1) hE hJ1 (fun r2 H2 lc2 hp2 hf2 hJ2 => ?_)
  obtain ⟨-, -, n1, s_n1, -, -, u1, s_u1, -, -, nu1⟩ := hp2
  have hN2 : lwN E om H2 := ⟨n1, s_n1, u1, s_u1, nu1⟩
  refine lv_pop hx hb dL_law_558 rfl ?_
  refine lv_goto (tgt := 947) hx hb dL_law_559 (by decide) ?_
  exact kk _ _ _ hE hJ2 hN2 hTm

theorem dL_law_562 : decode cL_law 562 = .ok (.aload_n 1, 1) := by decide +kernel
theorem dL_law_563 : decode cL_law 563 = .ok (.aload_n 0, 1) := by decide +kernel
theorem dL_law_564 : decode cL_law 564 = .ok (.iload_n 3, 1) := by decide +kernel
theorem dL_law_565 : decode cL_law 565 = .ok (.iconst 1, 1) := by decide +kernel
theorem dL_law_566 : decode cL_law 566 = .ok (.iadd, 1) := by decide +kernel
theorem dL_law_567 : decode cL_law 567 = .ok (.iaload, 1) := by decide +kernel
theorem dL_law_568 : decode cL_law 568 = .ok (.aload_n 0, 1) := by decide +kernel
theorem dL_law_569 : decode cL_law 569 = .ok (.iload_n 3, 1) := by decide +kernel
theorem dL_law_570 : decode cL_law 570 = .ok (.iconst 2, 1) := by decide +kernel
theorem dL_law_571 : decode cL_law 571 = .ok (.iadd, 1) := by decide +kernel
theorem dL_law_572 : decode cL_law 572 = .ok (.iaload, 1) := by decide +kernel
theorem dL_law_573 : decode cL_law 573 = .ok (.invokevirtual 76, 3) := by decide +kernel
theorem dL_law_576 : decode cL_law 576 = .ok (.pop, 1) := by decide +kernel
theorem dL_law_577 : decode cL_law 577 = .ok (.aload_n 2, 1) := by decide +kernel
theorem dL_law_578 : decode cL_law 578 = .ok (.aload_n 0, 1) := by decide +kernel
theorem dL_law_579 : decode cL_law 579 = .ok (.iload_n 3, 1) := by decide +kernel
theorem dL_law_580 : decode cL_law 580 = .ok (.iconst 1, 1) := by decide +kernel
theorem dL_law_581 : decode cL_law 581 = .ok (.iadd, 1) := by decide +kernel
theorem dL_law_582 : decode cL_law 582 = .ok (.iaload, 1) := by decide +kernel
theorem dL_law_583 : decode cL_law 583 = .ok (.aload_n 0, 1) := by decide +kernel
theorem dL_law_584 : decode cL_law 584 = .ok (.iload_n 3, 1) := by decide +kernel
theorem dL_law_585 : decode cL_law 585 = .ok (.iconst 2, 1) := by decide +kernel
theorem dL_law_586 : decode cL_law 586 = .ok (.iadd, 1) := by decide +kernel
theorem dL_law_587 : decode cL_law 587 = .ok (.iaload, 1) := by decide +kernel
theorem dL_law_588 : decode cL_law 588 = .ok (.invokevirtual 79, 3) := by decide +kernel
theorem dL_law_591 : decode cL_law 591 = .ok (.pop, 1) := by decide +kernel
theorem dL_law_592 : decode cL_law 592 = .ok (.goto 355, 3) := by decide +kernel
set_option maxRecDepth 100000 in
set_option maxHeartbeats 4000000 in
theorem law_14 (l : Launch) {p : Program} {e : Env} {s : State} {m : MethodId} {below : List Frame} {meth : Method} {c : Code} {b : Nat} {xs : Nat → Int32} {L : Nat} (hL : L ≤ 3072) (C0 : lw_At p s m meth c b L xs) {E : zE} {ox om i : Nat} {H : Heap} {locs : List Loc} {ls : Array Slot} (hE : lwE E ox om s) (hJ : lwJ E s H locs) (hN : lwN E om H) (hTm : lwT E) (hi : i + 6 ≤ L) (hl : lv_has ls 4 [(3, .int (nI i)), (2, .ref om), (1, .ref ox), (0, .ref b)]) (kk : ∀ (E1 : zE) (H1 : Heap) (locs1 : List Loc), lwE E1 ox om s → lwJ E1 s H1 locs1 → lwN E1 om H1 → lwT E1 → W p l e room_1 s m #[Value.ref b] below meth c H1 locs1 376 58132 (lw_Z below #[Value.ref b] s) (F0 m 947 ls [])) : W p l e room_1 s m #[Value.ref b] below meth c H locs 376 58132 (lw_Z below #[Value.ref b] s) (F0 m 562 ls []) := by
  obtain ⟨hx, hb, hr, hml, hown0, hts0, hX, hbl, hlocks, hgv⟩ := id C0
  have B : zB p s m #[Value.ref b] c E cL_law RL 4 := ⟨hx, hb, hml, hown0, fun w h => hts0 w (wsL_law_in w h), hE.2.1⟩
  have hbA : ¬ (fun q : Nat => s.heap.size ≤ q) b := Nat.not_le.mpr hbl
  refine lv_aload_n hx hb dL_law_562 rfl (lv_at hl 2 rfl) ?_
  refine lv_aload_n hx hb dL_law_563 rfl (lv_at hl 3 rfl) ?_
  refine lv_iload_n hx hb dL_law_564 rfl (lv_at hl 0 rfl) ?_
  refine lv_iconst (v := 1) hx hb dL_law_565 (by decide) ?_
  refine lv_iadd hx hb dL_law_566 ?_
  refine va_sld hx hb hX hbl hbA (hJ.S hE) (lw_in hi hL (by decide) (by decide)) dL_law_567 ?_
  refine lv_topi (fun y1 ey1 => ?_)
  refine lv_aload_n hx hb dL_law_568 rfl (lv_at hl 3 rfl) ?_
  refine lv_iload_n hx hb dL_law_569 rfl (lv_at hl 0 rfl) ?_
  refine lv_iconst (v := 2) hx hb dL_law_570 (by decide) ?_
  refine lv_iadd hx hb dL_law_571 ?_
  refine va_sld hx hb hX hbl hbA (hJ.S hE) (lw_in hi hL (by decide) (by decide)) dL_law_572 ?_
  refine lv_topi (fun y2 ey2 => ?_)
  refine zkPI (zrV (rest := []) B (c_X11_book l E hE.1 H hJ.1 ox hE.2.2.1 y1 y2) cl_RL_76 hJ.1 hE.2.2.1 rfl rfl rfl rfl hl.1 rfl (Nat.le_of_ble_eq_true rfl) dL_law_573 rfl rfl ⟨rfl, rfl⟩ ⟨Nat.le_of_ble_eq_true rfl, Nat.le_of_ble_eq_true rfl⟩ hJ.2.1) (fun r3 _ => ?_)
  refine lv_pop hx hb dL_law_576 rfl ?_
  refine lv_aload_n hx hb dL_law_577 rfl (lv_at hl 1 rfl) ?_
  refine lv_aload_n hx hb dL_law_578 rfl (lv_at hl 3 rfl) ?_
  refine lv_iload_n hx hb dL_law_579 rfl (lv_at hl 0 rfl) ?_
  refine lv_iconst (v := 1) hx hb dL_law_580 (by decide) ?_
  refine lv_iadd hx hb dL_law_581 ?_
  refine va_sld hx hb hX hbl hbA (hJ.S hE) (lw_in hi hL (by decide) (by decide)) dL_law_582 ?_
  refine lv_topi (fun y4 ey4 => ?_)
  refine lv_aload_n hx hb dL_law_583 rfl (lv_at hl 3 rfl) ?_
  refine lv_iload_n hx hb dL_law_584 rfl (lv_at hl 0 rfl) ?_
  refine lv_iconst (v := 2) hx hb dL_law_585 (by decide) ?_
  refine lv_iadd hx hb dL_law_586 ?_
  refine va_sld hx hb hX hbl hbA (hJ.S hE) (lw_in hi hL (by decide) (by decide)) dL_law_587 ?_
  refine lv_topi (fun y5 ey5 => ?_)
  refine zkPI (zrV (rest := []) B (c_X12_book l E hE.1 H hJ.1 om hE.2.2.2.1 y4 y5) cl_RL_79 hJ.1 hE.2.2.2.1 rfl rfl rfl rfl hl.1 rfl (Nat.le_of_ble_eq_true rfl) dL_law_588 rfl rfl ⟨rfl, rfl⟩ ⟨Nat.le_of_ble_eq_true rfl, Nat.le_of_ble_eq_true rfl⟩ hJ.2.1) (fun r6 _ => ?_)
  refine lv_pop hx hb dL_law_591 rfl ?_
  refine lv_goto (tgt := 947) hx hb dL_law_592 (by decide) ?_
  exact kk _ _ _ hE hJ hN hTm

theorem dL_law_595 : decode cL_law 595 = .ok (.aload_n 1, 1) := by decide +kernel
theorem dL_law_596 : decode cL_law 596 = .ok (.invokevirtual 80, 3) := by decide +kernel
theorem dL_law_599 : decode cL_law 599 = .ok (.pop, 1) := by decide +kernel
theorem dL_law_600 : decode cL_law 600 = .ok (.aload_n 2, 1) := by decide +kernel
theorem dL_law_601 : decode cL_law 601 = .ok (.invokevirtual 83, 3) := by decide +kernel
theorem dL_law_604 : decode cL_law 604 = .ok (.pop, 1) := by decide +kernel
theorem dL_law_605 : decode cL_law 605 = .ok (.goto 342, 3) := by decide +kernel
set_option maxRecDepth 100000 in
set_option maxHeartbeats 4000000 in
theorem law_15 (l : Launch) {p : Program} {e : Env} {s : State} {m : MethodId} {below : List Frame} {meth : Method} {c : Code} {b : Nat} {xs : Nat → Int32} {L : Nat} (hL : L ≤ 3072) (C0 : lw_At p s m meth c b L xs) {E : zE} {ox om i : Nat} {H : Heap} {locs : List Loc} {ls : Array Slot} (hE : lwE E ox om s) (hJ : lwJ E s H locs) (hN : lwN E om H) (hTm : lwT E) (hi : i + 6 ≤ L) (hl : lv_has ls 4 [(3, .int (nI i)), (2, .ref om), (1, .ref ox), (0, .ref b)]) (kk : ∀ (E1 : zE) (H1 : Heap) (locs1 : List Loc), lwE E1 ox om s → lwJ E1 s H1 locs1 → lwN E1 om H1 → lwT E1 → W p l e room_1 s m #[Value.ref b] below meth c H1 locs1 376 58132 (lw_Z below #[Value.ref b] s) (F0 m 947 ls [])) : W p l e room_1 s m #[Value.ref b] below meth c H locs 376 58132 (lw_Z below #[Value.ref b] s) (F0 m 595 ls []) := by
  obtain ⟨hx, hb, hr, hml, hown0, hts0, hX, hbl, hlocks, hgv⟩ := id C0
  have B : zB p s m #[Value.ref b] c E cL_law RL 4 := ⟨hx, hb, hml, hown0, fun w h => hts0 w (wsL_law_in w h), hE.2.1⟩
  have hbA : ¬ (fun q : Nat => s.heap.size ≤ q) b := Nat.not_le.mpr hbl
  refine lv_aload_n hx hb dL_law_595 rfl (lv_at hl 2 rfl) ?_
  refine zkPI (zrV (rest := []) B (c_X11_differ l E hE.1 H hJ.1 ox hE.2.2.1) cl_RL_80 hJ.1 hE.2.2.1 rfl rfl rfl rfl hl.1 rfl (Nat.le_of_ble_eq_true rfl) dL_law_596 rfl rfl ⟨rfl, rfl⟩ ⟨Nat.le_of_ble_eq_true rfl, Nat.le_of_ble_eq_true rfl⟩ hJ.2.1) (fun r1 _ => ?_)
  refine lv_pop hx hb dL_law_599 rfl ?_
  refine lv_aload_n hx hb dL_law_600 rfl (lv_at hl 1 rfl) ?_
  refine zkPI (zrV (rest := []) B (c_X12_differ l E hE.1 H hJ.1 om hE.2.2.2.1) cl_RL_83 hJ.1 hE.2.2.2.1 rfl rfl rfl rfl hl.1 rfl (Nat.le_of_ble_eq_true rfl) dL_law_601 rfl rfl ⟨rfl, rfl⟩ ⟨Nat.le_of_ble_eq_true rfl, Nat.le_of_ble_eq_true rfl⟩ hJ.2.1) (fun r2 _ => ?_)
  refine lv_pop hx hb dL_law_604 rfl ?_
  refine lv_goto (tgt := 947) hx hb dL_law_605 (by decide) ?_
  exact kk _ _ _ hE hJ hN hTm

theorem dL_law_608 : decode cL_law 608 = .ok (.aload_n 1, 1) := by decide +kernel
theorem dL_law_609 : decode cL_law 609 = .ok (.invokevirtual 84, 3) := by decide +kernel
theorem dL_law_612 : decode cL_law 612 = .ok (.pop, 1) := by decide +kernel
theorem dL_law_613 : decode cL_law 613 = .ok (.aload_n 2, 1) := by decide +kernel
theorem dL_law_614 : decode cL_law 614 = .ok (.invokevirtual 87, 3) := by decide +kernel
theorem dL_law_617 : decode cL_law 617 = .ok (.pop, 1) := by decide +kernel
theorem dL_law_618 : decode cL_law 618 = .ok (.goto 329, 3) := by decide +kernel
set_option maxRecDepth 100000 in
set_option maxHeartbeats 4000000 in
theorem law_16 (l : Launch) {p : Program} {e : Env} {s : State} {m : MethodId} {below : List Frame} {meth : Method} {c : Code} {b : Nat} {xs : Nat → Int32} {L : Nat} (hL : L ≤ 3072) (C0 : lw_At p s m meth c b L xs) {E : zE} {ox om i : Nat} {H : Heap} {locs : List Loc} {ls : Array Slot} (hE : lwE E ox om s) (hJ : lwJ E s H locs) (hN : lwN E om H) (hTm : lwT E) (hi : i + 6 ≤ L) (hl : lv_has ls 4 [(3, .int (nI i)), (2, .ref om), (1, .ref ox), (0, .ref b)]) (kk : ∀ (E1 : zE) (H1 : Heap) (locs1 : List Loc), lwE E1 ox om s → lwJ E1 s H1 locs1 → lwN E1 om H1 → lwT E1 → W p l e room_1 s m #[Value.ref b] below meth c H1 locs1 376 58132 (lw_Z below #[Value.ref b] s) (F0 m 947 ls [])) : W p l e room_1 s m #[Value.ref b] below meth c H locs 376 58132 (lw_Z below #[Value.ref b] s) (F0 m 608 ls []) := by
  obtain ⟨hx, hb, hr, hml, hown0, hts0, hX, hbl, hlocks, hgv⟩ := id C0
  have B : zB p s m #[Value.ref b] c E cL_law RL 4 := ⟨hx, hb, hml, hown0, fun w h => hts0 w (wsL_law_in w h), hE.2.1⟩
  have hbA : ¬ (fun q : Nat => s.heap.size ≤ q) b := Nat.not_le.mpr hbl
  refine lv_aload_n hx hb dL_law_608 rfl (lv_at hl 2 rfl) ?_
  refine zkPI (zrV (rest := []) B (c_X11_since l E hE.1 H hJ.1 ox hE.2.2.1) cl_RL_84 hJ.1 hE.2.2.1 rfl rfl rfl rfl hl.1 rfl (Nat.le_of_ble_eq_true rfl) dL_law_609 rfl rfl ⟨rfl, rfl⟩ ⟨Nat.le_of_ble_eq_true rfl, Nat.le_of_ble_eq_true rfl⟩ hJ.2.1) (fun r1 _ => ?_)
  refine lv_pop hx hb dL_law_612 rfl ?_
  refine lv_aload_n hx hb dL_law_613 rfl (lv_at hl 1 rfl) ?_
  refine zkPI (zrV (rest := []) B (c_X12_since l E hE.1 H hJ.1 om hE.2.2.2.1) cl_RL_87 hJ.1 hE.2.2.2.1 rfl rfl rfl rfl hl.1 rfl (Nat.le_of_ble_eq_true rfl) dL_law_614 rfl rfl ⟨rfl, rfl⟩ ⟨Nat.le_of_ble_eq_true rfl, Nat.le_of_ble_eq_true rfl⟩ hJ.2.1) (fun r2 _ => ?_)
  refine lv_pop hx hb dL_law_617 rfl ?_
  refine lv_goto (tgt := 947) hx hb dL_law_618 (by decide) ?_
  exact kk _ _ _ hE hJ hN hTm

theorem dL_law_621 : decode cL_law 621 = .ok (.aload_n 1, 1) := by decide +kernel
theorem dL_law_622 : decode cL_law 622 = .ok (.aload_n 0, 1) := by decide +kernel
theorem dL_law_623 : decode cL_law 623 = .ok (.iload_n 3, 1) := by decide +kernel
theorem dL_law_624 : decode cL_law 624 = .ok (.iconst 1, 1) := by decide +kernel
theorem dL_law_625 : decode cL_law 625 = .ok (.iadd, 1) := by decide +kernel
theorem dL_law_626 : decode cL_law 626 = .ok (.iaload, 1) := by decide +kernel
theorem dL_law_627 : decode cL_law 627 = .ok (.invokevirtual 88, 3) := by decide +kernel
theorem dL_law_630 : decode cL_law 630 = .ok (.pop, 1) := by decide +kernel
theorem dL_law_631 : decode cL_law 631 = .ok (.aload_n 2, 1) := by decide +kernel
theorem dL_law_632 : decode cL_law 632 = .ok (.aload_n 0, 1) := by decide +kernel
theorem dL_law_633 : decode cL_law 633 = .ok (.iload_n 3, 1) := by decide +kernel
theorem dL_law_634 : decode cL_law 634 = .ok (.iconst 1, 1) := by decide +kernel
theorem dL_law_635 : decode cL_law 635 = .ok (.iadd, 1) := by decide +kernel
theorem dL_law_636 : decode cL_law 636 = .ok (.iaload, 1) := by decide +kernel
theorem dL_law_637 : decode cL_law 637 = .ok (.invokevirtual 91, 3) := by decide +kernel
theorem dL_law_640 : decode cL_law 640 = .ok (.pop, 1) := by decide +kernel
theorem dL_law_641 : decode cL_law 641 = .ok (.goto 306, 3) := by decide +kernel
set_option maxRecDepth 100000 in
set_option maxHeartbeats 4000000 in
theorem law_17 (l : Launch) {p : Program} {e : Env} {s : State} {m : MethodId} {below : List Frame} {meth : Method} {c : Code} {b : Nat} {xs : Nat → Int32} {L : Nat} (hL : L ≤ 3072) (C0 : lw_At p s m meth c b L xs) {E : zE} {ox om i : Nat} {H : Heap} {locs : List Loc} {ls : Array Slot} (hE : lwE E ox om s) (hJ : lwJ E s H locs) (hN : lwN E om H) (hTm : lwT E) (hi : i + 6 ≤ L) (hl : lv_has ls 4 [(3, .int (nI i)), (2, .ref om), (1, .ref ox), (0, .ref b)]) (kk : ∀ (E1 : zE) (H1 : Heap) (locs1 : List Loc), lwE E1 ox om s → lwJ E1 s H1 locs1 → lwN E1 om H1 → lwT E1 → W p l e room_1 s m #[Value.ref b] below meth c H1 locs1 376 58132 (lw_Z below #[Value.ref b] s) (F0 m 947 ls [])) : W p l e room_1 s m #[Value.ref b] below meth c H locs 376 58132 (lw_Z below #[Value.ref b] s) (F0 m 621 ls []) := by
  obtain ⟨hx, hb, hr, hml, hown0, hts0, hX, hbl, hlocks, hgv⟩ := id C0
  have B : zB p s m #[Value.ref b] c E cL_law RL 4 := ⟨hx, hb, hml, hown0, fun w h => hts0 w (wsL_law_in w h), hE.2.1⟩
  have hbA : ¬ (fun q : Nat => s.heap.size ≤ q) b := Nat.not_le.mpr hbl
  refine lv_aload_n hx hb dL_law_621 rfl (lv_at hl 2 rfl) ?_
  refine lv_aload_n hx hb dL_law_622 rfl (lv_at hl 3 rfl) ?_
  refine lv_iload_n hx hb dL_law_623 rfl (lv_at hl 0 rfl) ?_
  refine lv_iconst (v := 1) hx hb dL_law_624 (by decide) ?_
  refine lv_iadd hx hb dL_law_625 ?_
  refine va_sld hx hb hX hbl hbA (hJ.S hE) (lw_in hi hL (by decide) (by decide)) dL_law_626 ?_
  refine lv_topi (fun y1 ey1 => ?_)
  refine lk_I (zrV (rest := []) B (c_X11_could l E hE.1 H hJ.1 ox hE.2.2.1 y1) cl_RL_88 hJ.1 hE.2.2.1 rfl rfl rfl rfl hl.1 rfl (Nat.le_of_ble_eq_true rfl) dL_law_627 rfl rfl ⟨rfl, rfl⟩ ⟨Nat.le_of_ble_eq_true rfl, Nat.le_of_ble_eq_true rfl⟩ hJ.2.1) hE hJ (fun r2 H2 lc2 hp2 hf2 hJ2 => ?_)
  have hN2 : lwN E om H2 := lwN.keep hN hE hf2 rfl rfl
  refine lv_pop hx hb dL_law_630 rfl ?_
  refine lv_aload_n hx hb dL_law_631 rfl (lv_at hl 1 rfl) ?_
  refine lv_aload_n hx hb dL_law_632 rfl (lv_at hl 3 rfl) ?_
  refine lv_iload_n hx hb dL_law_633 rfl (lv_at hl 0 rfl) ?_
  refine lv_iconst (v := 1) hx hb dL_law_634 (by decide) ?_
  refine lv_iadd hx hb dL_law_635 ?_
  refine va_sld hx hb hX hbl hbA (hJ2.S hE) (lw_in hi hL (by decide) (by decide)) dL_law_636 ?_
  refine lv_topi (fun y3 ey3 => ?_)
  refine lk_I (zrV (rest := []) B (c_X12_could l E hE.1 H2 hJ2.1 om hE.2.2.2.1 y3) cl_RL_91 hJ2.1 hE.2.2.2.1 rfl rfl rfl rfl hl.1 rfl (Nat.le_of_ble_eq_true rfl) dL_law_637 rfl rfl ⟨rfl, rfl⟩ ⟨Nat.le_of_ble_eq_true rfl, Nat.le_of_ble_eq_true rfl⟩ hJ2.2.1) hE hJ2 (fun r4 H4 lc4 hp4 hf4 hJ4 => ?_)
  have hN4 : lwN E om H4 := lwN.keep hN2 hE hf4 rfl rfl
  refine lv_pop hx hb dL_law_640 rfl ?_
  refine lv_goto (tgt := 947) hx hb dL_law_641 (by decide) ?_
  exact kk _ _ _ hE hJ4 hN4 hTm

theorem dL_law_644 : decode cL_law 644 = .ok (.aload_n 1, 1) := by decide +kernel
theorem dL_law_645 : decode cL_law 645 = .ok (.aload_n 0, 1) := by decide +kernel
theorem dL_law_646 : decode cL_law 646 = .ok (.iload_n 3, 1) := by decide +kernel
theorem dL_law_647 : decode cL_law 647 = .ok (.iconst 1, 1) := by decide +kernel
theorem dL_law_648 : decode cL_law 648 = .ok (.iadd, 1) := by decide +kernel
theorem dL_law_649 : decode cL_law 649 = .ok (.iaload, 1) := by decide +kernel
theorem dL_law_650 : decode cL_law 650 = .ok (.invokevirtual 92, 3) := by decide +kernel
theorem dL_law_653 : decode cL_law 653 = .ok (.pop, 1) := by decide +kernel
theorem dL_law_654 : decode cL_law 654 = .ok (.aload_n 2, 1) := by decide +kernel
theorem dL_law_655 : decode cL_law 655 = .ok (.aload_n 0, 1) := by decide +kernel
theorem dL_law_656 : decode cL_law 656 = .ok (.iload_n 3, 1) := by decide +kernel
theorem dL_law_657 : decode cL_law 657 = .ok (.iconst 1, 1) := by decide +kernel
theorem dL_law_658 : decode cL_law 658 = .ok (.iadd, 1) := by decide +kernel
theorem dL_law_659 : decode cL_law 659 = .ok (.iaload, 1) := by decide +kernel
theorem dL_law_660 : decode cL_law 660 = .ok (.invokevirtual 95, 3) := by decide +kernel
theorem dL_law_663 : decode cL_law 663 = .ok (.pop, 1) := by decide +kernel
theorem dL_law_664 : decode cL_law 664 = .ok (.goto 283, 3) := by decide +kernel
set_option maxRecDepth 100000 in
set_option maxHeartbeats 4000000 in
theorem law_18 (l : Launch) {p : Program} {e : Env} {s : State} {m : MethodId} {below : List Frame} {meth : Method} {c : Code} {b : Nat} {xs : Nat → Int32} {L : Nat} (hL : L ≤ 3072) (C0 : lw_At p s m meth c b L xs) {E : zE} {ox om i : Nat} {H : Heap} {locs : List Loc} {ls : Array Slot} (hE : lwE E ox om s) (hJ : lwJ E s H locs) (hN : lwN E om H) (hTm : lwT E) (hi : i + 6 ≤ L) (hl : lv_has ls 4 [(3, .int (nI i)), (2, .ref om), (1, .ref ox), (0, .ref b)]) (kk : ∀ (E1 : zE) (H1 : Heap) (locs1 : List Loc), lwE E1 ox om s → lwJ E1 s H1 locs1 → lwN E1 om H1 → lwT E1 → W p l e room_1 s m #[Value.ref b] below meth c H1 locs1 376 58132 (lw_Z below #[Value.ref b] s) (F0 m 947 ls [])) : W p l e room_1 s m #[Value.ref b] below meth c H locs 376 58132 (lw_Z below #[Value.ref b] s) (F0 m 644 ls []) := by
  obtain ⟨hx, hb, hr, hml, hown0, hts0, hX, hbl, hlocks, hgv⟩ := id C0
  have B : zB p s m #[Value.ref b] c E cL_law RL 4 := ⟨hx, hb, hml, hown0, fun w h => hts0 w (wsL_law_in w h), hE.2.1⟩
  have hbA : ¬ (fun q : Nat => s.heap.size ≤ q) b := Nat.not_le.mpr hbl
  refine lv_aload_n hx hb dL_law_644 rfl (lv_at hl 2 rfl) ?_
  refine lv_aload_n hx hb dL_law_645 rfl (lv_at hl 3 rfl) ?_
  refine lv_iload_n hx hb dL_law_646 rfl (lv_at hl 0 rfl) ?_
  refine lv_iconst (v := 1) hx hb dL_law_647 (by decide) ?_
  refine lv_iadd hx hb dL_law_648 ?_
  refine va_sld hx hb hX hbl hbA (hJ.S hE) (lw_in hi hL (by decide) (by decide)) dL_law_649 ?_
  refine lv_topi (fun y1 ey1 => ?_)
  refine lk_I (zrV (rest := []) B (c_X11_lawful l E hE.1 H hJ.1 ox hE.2.2.1 y1) cl_RL_92 hJ.1 hE.2.2.1 rfl rfl rfl rfl hl.1 rfl (Nat.le_of_ble_eq_true rfl) dL_law_650 rfl rfl ⟨rfl, rfl⟩ ⟨Nat.le_of_ble_eq_true rfl, Nat.le_of_ble_eq_true rfl⟩ hJ.2.1) hE hJ (fun r2 H2 lc2 hp2 hf2 hJ2 => ?_)
  have hN2 : lwN E om H2 := lwN.keep hN hE hf2 rfl rfl
  refine lv_pop hx hb dL_law_653 rfl ?_
  refine lv_aload_n hx hb dL_law_654 rfl (lv_at hl 1 rfl) ?_
  refine lv_aload_n hx hb dL_law_655 rfl (lv_at hl 3 rfl) ?_
  refine lv_iload_n hx hb dL_law_656 rfl (lv_at hl 0 rfl) ?_
  refine lv_iconst (v := 1) hx hb dL_law_657 (by decide) ?_
  refine lv_iadd hx hb dL_law_658 ?_
  refine va_sld hx hb hX hbl hbA (hJ2.S hE) (lw_in hi hL (by decide) (by decide)) dL_law_659 ?_
  refine lv_topi (fun y3 ey3 => ?_)
  refine lk_I (zrV (rest := []) B (c_X12_lawful l E hE.1 H2 hJ2.1 om hE.2.2.2.1 y3) cl_RL_95 hJ2.1 hE.2.2.2.1 rfl rfl rfl rfl hl.1 rfl (Nat.le_of_ble_eq_true rfl) dL_law_660 rfl rfl ⟨rfl, rfl⟩ ⟨Nat.le_of_ble_eq_true rfl, Nat.le_of_ble_eq_true rfl⟩ hJ2.2.1) hE hJ2 (fun r4 H4 lc4 hp4 hf4 hJ4 => ?_)
  have hN4 : lwN E om H4 := lwN.keep hN2 hE hf4 rfl rfl
  refine lv_pop hx hb dL_law_663 rfl ?_
  refine lv_goto (tgt := 947) hx hb dL_law_664 (by decide) ?_
  exact kk _ _ _ hE hJ4 hN4 hTm

theorem dL_law_667 : decode cL_law 667 = .ok (.aload_n 1, 1) := by decide +kernel
theorem dL_law_668 : decode cL_law 668 = .ok (.aload_n 0, 1) := by decide +kernel
theorem dL_law_669 : decode cL_law 669 = .ok (.iload_n 3, 1) := by decide +kernel
theorem dL_law_670 : decode cL_law 670 = .ok (.iconst 1, 1) := by decide +kernel
theorem dL_law_671 : decode cL_law 671 = .ok (.iadd, 1) := by decide +kernel
theorem dL_law_672 : decode cL_law 672 = .ok (.iaload, 1) := by decide +kernel
theorem dL_law_673 : decode cL_law 673 = .ok (.aload_n 0, 1) := by decide +kernel
theorem dL_law_674 : decode cL_law 674 = .ok (.iload_n 3, 1) := by decide +kernel
theorem dL_law_675 : decode cL_law 675 = .ok (.iconst 2, 1) := by decide +kernel
theorem dL_law_676 : decode cL_law 676 = .ok (.iadd, 1) := by decide +kernel
theorem dL_law_677 : decode cL_law 677 = .ok (.iaload, 1) := by decide +kernel
theorem dL_law_678 : decode cL_law 678 = .ok (.invokevirtual 96, 3) := by decide +kernel
theorem dL_law_681 : decode cL_law 681 = .ok (.pop, 1) := by decide +kernel
theorem dL_law_682 : decode cL_law 682 = .ok (.aload_n 2, 1) := by decide +kernel
theorem dL_law_683 : decode cL_law 683 = .ok (.aload_n 0, 1) := by decide +kernel
theorem dL_law_684 : decode cL_law 684 = .ok (.iload_n 3, 1) := by decide +kernel
theorem dL_law_685 : decode cL_law 685 = .ok (.iconst 1, 1) := by decide +kernel
theorem dL_law_686 : decode cL_law 686 = .ok (.iadd, 1) := by decide +kernel
theorem dL_law_687 : decode cL_law 687 = .ok (.iaload, 1) := by decide +kernel
theorem dL_law_688 : decode cL_law 688 = .ok (.aload_n 0, 1) := by decide +kernel
theorem dL_law_689 : decode cL_law 689 = .ok (.iload_n 3, 1) := by decide +kernel
theorem dL_law_690 : decode cL_law 690 = .ok (.iconst 2, 1) := by decide +kernel
theorem dL_law_691 : decode cL_law 691 = .ok (.iadd, 1) := by decide +kernel
theorem dL_law_692 : decode cL_law 692 = .ok (.iaload, 1) := by decide +kernel
theorem dL_law_693 : decode cL_law 693 = .ok (.invokevirtual 99, 3) := by decide +kernel
theorem dL_law_696 : decode cL_law 696 = .ok (.pop, 1) := by decide +kernel
theorem dL_law_697 : decode cL_law 697 = .ok (.goto 250, 3) := by decide +kernel
set_option maxRecDepth 100000 in
set_option maxHeartbeats 4000000 in
theorem law_19 (l : Launch) {p : Program} {e : Env} {s : State} {m : MethodId} {below : List Frame} {meth : Method} {c : Code} {b : Nat} {xs : Nat → Int32} {L : Nat} (hL : L ≤ 3072) (C0 : lw_At p s m meth c b L xs) {E : zE} {ox om i : Nat} {H : Heap} {locs : List Loc} {ls : Array Slot} (hE : lwE E ox om s) (hJ : lwJ E s H locs) (hN : lwN E om H) (hTm : lwT E) (hi : i + 6 ≤ L) (hl : lv_has ls 4 [(3, .int (nI i)), (2, .ref om), (1, .ref ox), (0, .ref b)]) (kk : ∀ (E1 : zE) (H1 : Heap) (locs1 : List Loc), lwE E1 ox om s → lwJ E1 s H1 locs1 → lwN E1 om H1 → lwT E1 → W p l e room_1 s m #[Value.ref b] below meth c H1 locs1 376 58132 (lw_Z below #[Value.ref b] s) (F0 m 947 ls [])) : W p l e room_1 s m #[Value.ref b] below meth c H locs 376 58132 (lw_Z below #[Value.ref b] s) (F0 m 667 ls []) := by
  obtain ⟨hx, hb, hr, hml, hown0, hts0, hX, hbl, hlocks, hgv⟩ := id C0
  have B : zB p s m #[Value.ref b] c E cL_law RL 4 := ⟨hx, hb, hml, hown0, fun w h => hts0 w (wsL_law_in w h), hE.2.1⟩
  have hbA : ¬ (fun q : Nat => s.heap.size ≤ q) b := Nat.not_le.mpr hbl
  refine lv_aload_n hx hb dL_law_667 rfl (lv_at hl 2 rfl) ?_
  refine lv_aload_n hx hb dL_law_668 rfl (lv_at hl 3 rfl) ?_
  refine lv_iload_n hx hb dL_law_669 rfl (lv_at hl 0 rfl) ?_
  refine lv_iconst (v := 1) hx hb dL_law_670 (by decide) ?_
  refine lv_iadd hx hb dL_law_671 ?_
  refine va_sld hx hb hX hbl hbA (hJ.S hE) (lw_in hi hL (by decide) (by decide)) dL_law_672 ?_
  refine lv_topi (fun y1 ey1 => ?_)
  refine lv_aload_n hx hb dL_law_673 rfl (lv_at hl 3 rfl) ?_
  refine lv_iload_n hx hb dL_law_674 rfl (lv_at hl 0 rfl) ?_
  refine lv_iconst (v := 2) hx hb dL_law_675 (by decide) ?_
  refine lv_iadd hx hb dL_law_676 ?_
  refine va_sld hx hb hX hbl hbA (hJ.S hE) (lw_in hi hL (by decide) (by decide)) dL_law_677 ?_
  refine lv_topi (fun y2 ey2 => ?_)
  refine lk_I (zrV (rest := []) B (c_X11_lawfulAt l E hE.1 H hJ.1 ox hE.2.2.1 y1 y2) cl_RL_96 hJ.1 hE.2.2.1 rfl rfl rfl rfl hl.1 rfl (Nat.le_of_ble_eq_true rfl) dL_law_678 rfl rfl ⟨rfl, rfl⟩ ⟨Nat.le_of_ble_eq_true rfl, Nat.le_of_ble_eq_true rfl⟩ hJ.2.1) hE hJ (fun r3 H3 lc3 hp3 hf3 hJ3 => ?_)
  have hN3 : lwN E om H3 := lwN.keep hN hE hf3 rfl rfl
  refine lv_pop hx hb dL_law_681 rfl ?_
  refine lv_aload_n hx hb dL_law_682 rfl (lv_at hl 1 rfl) ?_
  refine lv_aload_n hx hb dL_law_683 rfl (lv_at hl 3 rfl) ?_
  refine lv_iload_n hx hb dL_law_684 rfl (lv_at hl 0 rfl) ?_
  refine lv_iconst (v := 1) hx hb dL_law_685 (by decide) ?_
  refine lv_iadd hx hb dL_law_686 ?_
  refine va_sld hx hb hX hbl hbA (hJ3.S hE) (lw_in hi hL (by decide) (by decide)) dL_law_687 ?_
  refine lv_topi (fun y4 ey4 => ?_)
  refine lv_aload_n hx hb dL_law_688 rfl (lv_at hl 3 rfl) ?_
  refine lv_iload_n hx hb dL_law_689 rfl (lv_at hl 0 rfl) ?_
  refine lv_iconst (v := 2) hx hb dL_law_690 (by decide) ?_
  refine lv_iadd hx hb dL_law_691 ?_
  refine va_sld hx hb hX hbl hbA (hJ3.S hE) (lw_in hi hL (by decide) (by decide)) dL_law_692 ?_
  refine lv_topi (fun y5 ey5 => ?_)
  refine lk_I (zrV (rest := []) B (c_X12_lawfulAt l E hE.1 H3 hJ3.1 om hE.2.2.2.1 y4 y5) cl_RL_99 hJ3.1 hE.2.2.2.1 rfl rfl rfl rfl hl.1 rfl (Nat.le_of_ble_eq_true rfl) dL_law_693 rfl rfl ⟨rfl, rfl⟩ ⟨Nat.le_of_ble_eq_true rfl, Nat.le_of_ble_eq_true rfl⟩ hJ3.2.1) hE hJ3 (fun r6 H6 lc6 hp6 hf6 hJ6 => ?_)
  have hN6 : lwN E om H6 := lwN.keep hN3 hE hf6 rfl rfl
  refine lv_pop hx hb dL_law_696 rfl ?_
  refine lv_goto (tgt := 947) hx hb dL_law_697 (by decide) ?_
  exact kk _ _ _ hE hJ6 hN6 hTm
