theorem dL_law_700 : decode cL_law 700 = .ok (.aload_n 1, 1) := by decide +kernel
theorem dL_law_701 : decode cL_law 701 = .ok (.invokevirtual 100, 3) := by decide +kernel
theorem dL_law_704 : decode cL_law 704 = .ok (.pop, 1) := by decide +kernel
theorem dL_law_705 : decode cL_law 705 = .ok (.aload_n 2, 1) := by decide +kernel
theorem dL_law_706 : decode cL_law 706 = .ok (.invokevirtual 103, 3) := by decide +kernel
theorem dL_law_709 : decode cL_law 709 = .ok (.pop, 1) := by decide +kernel
theorem dL_law_710 : decode cL_law 710 = .ok (.goto 237, 3) := by decide +kernel
set_option maxRecDepth 100000 in
set_option maxHeartbeats 4000000 in
theorem law_20 (l : Launch) {p : Program} {e : Env} {s : State} {m : MethodId} {below : List Frame} {meth : Method} {c : Code} {b : Nat} {xs : Nat → Int32} {L : Nat} (hL : L ≤ 3072) (C0 : lw_At p s m meth c b L xs) {E : zE} {ox om i : Nat} {H : Heap} {locs : List Loc} {ls : Array Slot} (hE : lwE E ox om s) (hJ : lwJ E s H locs) (hN : lwN E om H) (hTm : lwT E) (hi : i + 6 ≤ L) (hl : lv_has ls 4 [(3, .int (nI i)), (2, .ref om), (1, .ref ox), (0, .ref b)]) (kk : ∀ (E1 : zE) (H1 : Heap) (locs1 : List Loc), lwE E1 ox om s → lwJ E1 s H1 locs1 → lwN E1 om H1 → lwT E1 → W p l e room_1 s m #[Value.ref b] below meth c H1 locs1 376 58132 (lw_Z below #[Value.ref b] s) (F0 m 947 ls [])) : W p l e room_1 s m #[Value.ref b] below meth c H locs 376 58132 (lw_Z below #[Value.ref b] s) (F0 m 700 ls []) := by
  obtain ⟨hx, hb, hr, hml, hown0, hts0, hX, hbl, hlocks, hgv⟩ := id C0
  have B : zB p s m #[Value.ref b] c E cL_law RL 4 := ⟨hx, hb, hml, hown0, fun w h => hts0 w (wsL_law_in w h), hE.2.1⟩
  have hbA : ¬ (fun q : Nat => s.heap.size ≤ q) b := Nat.not_le.mpr hbl
  refine lv_aload_n hx hb dL_law_700 rfl (lv_at hl 2 rfl) ?_
  refine zkPI (zrV (rest := []) B (c_X11_code l E hE.1 H hJ.1 ox hE.2.2.1) cl_RL_100 hJ.1 hE.2.2.1 rfl rfl rfl rfl hl.1 rfl (Nat.le_of_ble_eq_true rfl) dL_law_701 rfl rfl ⟨rfl, rfl⟩ ⟨Nat.le_of_ble_eq_true rfl, Nat.le_of_ble_eq_true rfl⟩ hJ.2.1) (fun r1 _ => ?_)
  refine lv_pop hx hb dL_law_704 rfl ?_
  refine lv_aload_n hx hb dL_law_705 rfl (lv_at hl 1 rfl) ?_
  obtain ⟨fla, s_fla, kfla⟩ := hJ.1.atR hE.2.2.2.1 rfl (j := 16) (by decide) rfl
  obtain ⟨bk, s_bk, bk0, bk1⟩ := hJ.1.atI hE.2.2.2.1 rfl (j := 26) (by decide) rfl
  obtain ⟨fl, s_fl, -, -⟩ := hJ.1.elI kfla rfl rfl (N := 2) rfl bk0 (by omega) rfl
  obtain ⟨fo, s_fo, kfo⟩ := hJ.1.atR hE.2.2.2.1 rfl (j := 17) (by decide) rfl
  obtain ⟨lf, s_lf, klf⟩ := hJ.1.atR hE.2.2.2.1 rfl (j := 40) (by decide) rfl
  refine lk_I (zrV (rest := []) B (c_X12_code l E hE.1 H hJ.1 om hE.2.2.2.1 fla kfla s_fla bk s_bk fl s_fl fo kfo s_fo lf klf s_lf) cl_RL_103 hJ.1 hE.2.2.2.1 rfl rfl rfl rfl hl.1 rfl (Nat.le_of_ble_eq_true rfl) dL_law_706 rfl rfl ⟨rfl, rfl⟩ ⟨Nat.le_of_ble_eq_true rfl, Nat.le_of_ble_eq_true rfl⟩ hJ.2.1) hE hJ (fun r2 H2 lc2 hp2 hf2 hJ2 => ?_)
  have hN2 : lwN E om H2 := lwN.keep hN hE hf2 rfl rfl
  refine lv_pop hx hb dL_law_709 rfl ?_
  refine lv_goto (tgt := 947) hx hb dL_law_710 (by decide) ?_
  exact kk _ _ _ hE hJ2 hN2 hTm

theorem dL_law_713 : decode cL_law 713 = .ok (.aload_n 1, 1) := by decide +kernel
theorem dL_law_714 : decode cL_law 714 = .ok (.aload_n 0, 1) := by decide +kernel
theorem dL_law_715 : decode cL_law 715 = .ok (.iload_n 3, 1) := by decide +kernel
theorem dL_law_716 : decode cL_law 716 = .ok (.iconst 1, 1) := by decide +kernel
theorem dL_law_717 : decode cL_law 717 = .ok (.iadd, 1) := by decide +kernel
theorem dL_law_718 : decode cL_law 718 = .ok (.iaload, 1) := by decide +kernel
theorem dL_law_719 : decode cL_law 719 = .ok (.invokevirtual 104, 3) := by decide +kernel
theorem dL_law_722 : decode cL_law 722 = .ok (.pop, 1) := by decide +kernel
theorem dL_law_723 : decode cL_law 723 = .ok (.aload_n 2, 1) := by decide +kernel
theorem dL_law_724 : decode cL_law 724 = .ok (.aload_n 0, 1) := by decide +kernel
theorem dL_law_725 : decode cL_law 725 = .ok (.iload_n 3, 1) := by decide +kernel
theorem dL_law_726 : decode cL_law 726 = .ok (.iconst 1, 1) := by decide +kernel
theorem dL_law_727 : decode cL_law 727 = .ok (.iadd, 1) := by decide +kernel
theorem dL_law_728 : decode cL_law 728 = .ok (.iaload, 1) := by decide +kernel
theorem dL_law_729 : decode cL_law 729 = .ok (.invokevirtual 107, 3) := by decide +kernel
theorem dL_law_732 : decode cL_law 732 = .ok (.pop, 1) := by decide +kernel
theorem dL_law_733 : decode cL_law 733 = .ok (.goto 214, 3) := by decide +kernel
set_option maxRecDepth 100000 in
set_option maxHeartbeats 4000000 in
theorem law_21 (l : Launch) {p : Program} {e : Env} {s : State} {m : MethodId} {below : List Frame} {meth : Method} {c : Code} {b : Nat} {xs : Nat → Int32} {L : Nat} (hL : L ≤ 3072) (C0 : lw_At p s m meth c b L xs) {E : zE} {ox om i : Nat} {H : Heap} {locs : List Loc} {ls : Array Slot} (hE : lwE E ox om s) (hJ : lwJ E s H locs) (hN : lwN E om H) (hTm : lwT E) (hi : i + 6 ≤ L) (hl : lv_has ls 4 [(3, .int (nI i)), (2, .ref om), (1, .ref ox), (0, .ref b)]) (kk : ∀ (E1 : zE) (H1 : Heap) (locs1 : List Loc), lwE E1 ox om s → lwJ E1 s H1 locs1 → lwN E1 om H1 → lwT E1 → W p l e room_1 s m #[Value.ref b] below meth c H1 locs1 376 58132 (lw_Z below #[Value.ref b] s) (F0 m 947 ls [])) : W p l e room_1 s m #[Value.ref b] below meth c H locs 376 58132 (lw_Z below #[Value.ref b] s) (F0 m 713 ls []) := by
  obtain ⟨hx, hb, hr, hml, hown0, hts0, hX, hbl, hlocks, hgv⟩ := id C0
  have B : zB p s m #[Value.ref b] c E cL_law RL 4 := ⟨hx, hb, hml, hown0, fun w h => hts0 w (wsL_law_in w h), hE.2.1⟩
  have hbA : ¬ (fun q : Nat => s.heap.size ≤ q) b := Nat.not_le.mpr hbl
  refine lv_aload_n hx hb dL_law_713 rfl (lv_at hl 2 rfl) ?_
  refine lv_aload_n hx hb dL_law_714 rfl (lv_at hl 3 rfl) ?_
  refine lv_iload_n hx hb dL_law_715 rfl (lv_at hl 0 rfl) ?_
  refine lv_iconst (v := 1) hx hb dL_law_716 (by decide) ?_
  refine lv_iadd hx hb dL_law_717 ?_
  refine va_sld hx hb hX hbl hbA (hJ.S hE) (lw_in hi hL (by decide) (by decide)) dL_law_718 ?_
  refine lv_topi (fun y1 ey1 => ?_)
  refine zkPI (zrV (rest := []) B (c_X11_length l E hE.1 H hJ.1 ox hE.2.2.1 y1) cl_RL_104 hJ.1 hE.2.2.1 rfl rfl rfl rfl hl.1 rfl (Nat.le_of_ble_eq_true rfl) dL_law_719 rfl rfl ⟨rfl, rfl⟩ ⟨Nat.le_of_ble_eq_true rfl, Nat.le_of_ble_eq_true rfl⟩ hJ.2.1) (fun r2 _ => ?_)
  refine lv_pop hx hb dL_law_722 rfl ?_
  refine lv_aload_n hx hb dL_law_723 rfl (lv_at hl 1 rfl) ?_
  refine lv_aload_n hx hb dL_law_724 rfl (lv_at hl 3 rfl) ?_
  refine lv_iload_n hx hb dL_law_725 rfl (lv_at hl 0 rfl) ?_
  refine lv_iconst (v := 1) hx hb dL_law_726 (by decide) ?_
  refine lv_iadd hx hb dL_law_727 ?_
  refine va_sld hx hb hX hbl hbA (hJ.S hE) (lw_in hi hL (by decide) (by decide)) dL_law_728 ?_
  refine lv_topi (fun y3 ey3 => ?_)
  obtain ⟨fla, s_fla, kfla⟩ := hJ.1.atR hE.2.2.2.1 rfl (j := 16) (by decide) rfl
  obtain ⟨bk, s_bk, bk0, bk1⟩ := hJ.1.atI hE.2.2.2.1 rfl (j := 26) (by decide) rfl
  obtain ⟨fl, s_fl, -, -⟩ := hJ.1.elI kfla rfl rfl (N := 2) rfl bk0 (by omega) rfl
  obtain ⟨fo, s_fo, kfo⟩ := hJ.1.atR hE.2.2.2.1 rfl (j := 17) (by decide) rfl
  obtain ⟨lf, s_lf, klf⟩ := hJ.1.atR hE.2.2.2.1 rfl (j := 40) (by decide) rfl
  refine lk_I (zrV (rest := []) B (c_X12_length l E hE.1 H hJ.1 om hE.2.2.2.1 y3 fla kfla s_fla bk s_bk fl s_fl fo kfo s_fo lf klf s_lf) cl_RL_107 hJ.1 hE.2.2.2.1 rfl rfl rfl rfl hl.1 rfl (Nat.le_of_ble_eq_true rfl) dL_law_729 rfl rfl ⟨rfl, rfl⟩ ⟨Nat.le_of_ble_eq_true rfl, Nat.le_of_ble_eq_true rfl⟩ hJ.2.1) hE hJ (fun r4 H4 lc4 hp4 hf4 hJ4 => ?_)
  have hN4 : lwN E om H4 := lwN.keep hN hE hf4 rfl rfl
  refine lv_pop hx hb dL_law_732 rfl ?_
  refine lv_goto (tgt := 947) hx hb dL_law_733 (by decide) ?_
  exact kk _ _ _ hE hJ4 hN4 hTm

theorem dL_law_736 : decode cL_law 736 = .ok (.aload_n 1, 1) := by decide +kernel
theorem dL_law_737 : decode cL_law 737 = .ok (.aload_n 0, 1) := by decide +kernel
theorem dL_law_738 : decode cL_law 738 = .ok (.iload_n 3, 1) := by decide +kernel
theorem dL_law_739 : decode cL_law 739 = .ok (.iconst 1, 1) := by decide +kernel
theorem dL_law_740 : decode cL_law 740 = .ok (.iadd, 1) := by decide +kernel
theorem dL_law_741 : decode cL_law 741 = .ok (.iaload, 1) := by decide +kernel
theorem dL_law_742 : decode cL_law 742 = .ok (.aload_n 0, 1) := by decide +kernel
theorem dL_law_743 : decode cL_law 743 = .ok (.iload_n 3, 1) := by decide +kernel
theorem dL_law_744 : decode cL_law 744 = .ok (.iconst 2, 1) := by decide +kernel
theorem dL_law_745 : decode cL_law 745 = .ok (.iadd, 1) := by decide +kernel
theorem dL_law_746 : decode cL_law 746 = .ok (.iaload, 1) := by decide +kernel
theorem dL_law_747 : decode cL_law 747 = .ok (.aload_n 0, 1) := by decide +kernel
theorem dL_law_748 : decode cL_law 748 = .ok (.iload_n 3, 1) := by decide +kernel
theorem dL_law_749 : decode cL_law 749 = .ok (.iconst 3, 1) := by decide +kernel
theorem dL_law_750 : decode cL_law 750 = .ok (.iadd, 1) := by decide +kernel
theorem dL_law_751 : decode cL_law 751 = .ok (.iaload, 1) := by decide +kernel
theorem dL_law_752 : decode cL_law 752 = .ok (.aload_n 0, 1) := by decide +kernel
theorem dL_law_753 : decode cL_law 753 = .ok (.iload_n 3, 1) := by decide +kernel
theorem dL_law_754 : decode cL_law 754 = .ok (.iconst 4, 1) := by decide +kernel
theorem dL_law_755 : decode cL_law 755 = .ok (.iadd, 1) := by decide +kernel
theorem dL_law_756 : decode cL_law 756 = .ok (.iaload, 1) := by decide +kernel
theorem dL_law_757 : decode cL_law 757 = .ok (.aload_n 0, 1) := by decide +kernel
theorem dL_law_758 : decode cL_law 758 = .ok (.iload_n 3, 1) := by decide +kernel
theorem dL_law_759 : decode cL_law 759 = .ok (.iconst 5, 1) := by decide +kernel
theorem dL_law_760 : decode cL_law 760 = .ok (.iadd, 1) := by decide +kernel
theorem dL_law_761 : decode cL_law 761 = .ok (.iaload, 1) := by decide +kernel
theorem dL_law_762 : decode cL_law 762 = .ok (.invokevirtual 108, 3) := by decide +kernel
theorem dL_law_765 : decode cL_law 765 = .ok (.pop, 1) := by decide +kernel
theorem dL_law_766 : decode cL_law 766 = .ok (.aload_n 2, 1) := by decide +kernel
theorem dL_law_767 : decode cL_law 767 = .ok (.aload_n 0, 1) := by decide +kernel
theorem dL_law_768 : decode cL_law 768 = .ok (.iload_n 3, 1) := by decide +kernel
theorem dL_law_769 : decode cL_law 769 = .ok (.iconst 1, 1) := by decide +kernel
theorem dL_law_770 : decode cL_law 770 = .ok (.iadd, 1) := by decide +kernel
theorem dL_law_771 : decode cL_law 771 = .ok (.iaload, 1) := by decide +kernel
theorem dL_law_772 : decode cL_law 772 = .ok (.aload_n 0, 1) := by decide +kernel
theorem dL_law_773 : decode cL_law 773 = .ok (.iload_n 3, 1) := by decide +kernel
theorem dL_law_774 : decode cL_law 774 = .ok (.iconst 2, 1) := by decide +kernel
theorem dL_law_775 : decode cL_law 775 = .ok (.iadd, 1) := by decide +kernel
theorem dL_law_776 : decode cL_law 776 = .ok (.iaload, 1) := by decide +kernel
theorem dL_law_777 : decode cL_law 777 = .ok (.aload_n 0, 1) := by decide +kernel
theorem dL_law_778 : decode cL_law 778 = .ok (.iload_n 3, 1) := by decide +kernel
theorem dL_law_779 : decode cL_law 779 = .ok (.iconst 3, 1) := by decide +kernel
theorem dL_law_780 : decode cL_law 780 = .ok (.iadd, 1) := by decide +kernel
theorem dL_law_781 : decode cL_law 781 = .ok (.iaload, 1) := by decide +kernel
theorem dL_law_782 : decode cL_law 782 = .ok (.aload_n 0, 1) := by decide +kernel
theorem dL_law_783 : decode cL_law 783 = .ok (.iload_n 3, 1) := by decide +kernel
theorem dL_law_784 : decode cL_law 784 = .ok (.iconst 4, 1) := by decide +kernel
theorem dL_law_785 : decode cL_law 785 = .ok (.iadd, 1) := by decide +kernel
theorem dL_law_786 : decode cL_law 786 = .ok (.iaload, 1) := by decide +kernel
theorem dL_law_787 : decode cL_law 787 = .ok (.aload_n 0, 1) := by decide +kernel
theorem dL_law_788 : decode cL_law 788 = .ok (.iload_n 3, 1) := by decide +kernel
theorem dL_law_789 : decode cL_law 789 = .ok (.iconst 5, 1) := by decide +kernel
theorem dL_law_790 : decode cL_law 790 = .ok (.iadd, 1) := by decide +kernel
theorem dL_law_791 : decode cL_law 791 = .ok (.iaload, 1) := by decide +kernel
theorem dL_law_792 : decode cL_law 792 = .ok (.invokevirtual 111, 3) := by decide +kernel
theorem dL_law_795 : decode cL_law 795 = .ok (.pop, 1) := by decide +kernel
theorem dL_law_796 : decode cL_law 796 = .ok (.goto 151, 3) := by decide +kernel
set_option maxRecDepth 100000 in
set_option maxHeartbeats 4000000 in
theorem law_22 (l : Launch) {p : Program} {e : Env} {s : State} {m : MethodId} {below : List Frame} {meth : Method} {c : Code} {b : Nat} {xs : Nat → Int32} {L : Nat} (hL : L ≤ 3072) (C0 : lw_At p s m meth c b L xs) {E : zE} {ox om i : Nat} {H : Heap} {locs : List Loc} {ls : Array Slot} (hE : lwE E ox om s) (hJ : lwJ E s H locs) (hN : lwN E om H) (hTm : lwT E) (hi : i + 6 ≤ L) (hl : lv_has ls 4 [(3, .int (nI i)), (2, .ref om), (1, .ref ox), (0, .ref b)]) (kk : ∀ (E1 : zE) (H1 : Heap) (locs1 : List Loc), lwE E1 ox om s → lwJ E1 s H1 locs1 → lwN E1 om H1 → lwT E1 → W p l e room_1 s m #[Value.ref b] below meth c H1 locs1 376 58132 (lw_Z below #[Value.ref b] s) (F0 m 947 ls [])) : W p l e room_1 s m #[Value.ref b] below meth c H locs 376 58132 (lw_Z below #[Value.ref b] s) (F0 m 736 ls []) := by
  obtain ⟨hx, hb, hr, hml, hown0, hts0, hX, hbl, hlocks, hgv⟩ := id C0
  have B : zB p s m #[Value.ref b] c E cL_law RL 4 := ⟨hx, hb, hml, hown0, fun w h => hts0 w (wsL_law_in w h), hE.2.1⟩
  have hbA : ¬ (fun q : Nat => s.heap.size ≤ q) b := Nat.not_le.mpr hbl
  refine lv_aload_n hx hb dL_law_736 rfl (lv_at hl 2 rfl) ?_
  refine lv_aload_n hx hb dL_law_737 rfl (lv_at hl 3 rfl) ?_
  refine lv_iload_n hx hb dL_law_738 rfl (lv_at hl 0 rfl) ?_
  refine lv_iconst (v := 1) hx hb dL_law_739 (by decide) ?_
  refine lv_iadd hx hb dL_law_740 ?_
  refine va_sld hx hb hX hbl hbA (hJ.S hE) (lw_in hi hL (by decide) (by decide)) dL_law_741 ?_
  refine lv_topi (fun y1 ey1 => ?_)
  refine lv_aload_n hx hb dL_law_742 rfl (lv_at hl 3 rfl) ?_
  refine lv_iload_n hx hb dL_law_743 rfl (lv_at hl 0 rfl) ?_
  refine lv_iconst (v := 2) hx hb dL_law_744 (by decide) ?_
  refine lv_iadd hx hb dL_law_745 ?_
  refine va_sld hx hb hX hbl hbA (hJ.S hE) (lw_in hi hL (by decide) (by decide)) dL_law_746 ?_
  refine lv_topi (fun y2 ey2 => ?_)
  refine lv_aload_n hx hb dL_law_747 rfl (lv_at hl 3 rfl) ?_
  refine lv_iload_n hx hb dL_law_748 rfl (lv_at hl 0 rfl) ?_
  refine lv_iconst (v := 3) hx hb dL_law_749 (by decide) ?_
  refine lv_iadd hx hb dL_law_750 ?_
  refine va_sld hx hb hX hbl hbA (hJ.S hE) (lw_in hi hL (by decide) (by decide)) dL_law_751 ?_
  refine lv_topi (fun y3 ey3 => ?_)
  refine lv_aload_n hx hb dL_law_752 rfl (lv_at hl 3 rfl) ?_
  refine lv_iload_n hx hb dL_law_753 rfl (lv_at hl 0 rfl) ?_
  refine lv_iconst (v := 4) hx hb dL_law_754 (by decide) ?_
  refine lv_iadd hx hb dL_law_755 ?_
  refine va_sld hx hb hX hbl hbA (hJ.S hE) (lw_in hi hL (by decide) (by decide)) dL_law_756 ?_
  refine lv_topi (fun y4 ey4 => ?_)
  refine lv_aload_n hx hb dL_law_757 rfl (lv_at hl 3 rfl) ?_
  refine lv_iload_n hx hb dL_law_758 rfl (lv_at hl 0 rfl) ?_
  refine lv_iconst (v := 5) hx hb dL_law_759 (by decide) ?_
  refine lv_iadd hx hb dL_law_760 ?_
  refine va_sld hx hb hX hbl hbA (hJ.S hE) (lw_in hi hL (by decide) (by decide)) dL_law_761 ?_
  refine lv_topi (fun y5 ey5 => ?_)
  refine lk_I (zrV (rest := []) B (c_X11_sight l E hE.1 H hJ.1 ox hE.2.2.1 y1 y2 y3 y4 y5) cl_RL_108 hJ.1 hE.2.2.1 rfl rfl rfl rfl hl.1 rfl (Nat.le_of_ble_eq_true rfl) dL_law_762 rfl rfl ⟨rfl, rfl⟩ ⟨Nat.le_of_ble_eq_true rfl, Nat.le_of_ble_eq_true rfl⟩ hJ.2.1) hE hJ (fun r6 H6 lc6 hp6 hf6 hJ6 => ?_)
  have hN6 : lwN E om H6 := lwN.keep hN hE hf6 rfl rfl
  refine lv_pop hx hb dL_law_765 rfl ?_
  refine lv_aload_n hx hb dL_law_766 rfl (lv_at hl 1 rfl) ?_
  refine lv_aload_n hx hb dL_law_767 rfl (lv_at hl 3 rfl) ?_
  refine lv_iload_n hx hb dL_law_768 rfl (lv_at hl 0 rfl) ?_
  refine lv_iconst (v := 1) hx hb dL_law_769 (by decide) ?_
  refine lv_iadd hx hb dL_law_770 ?_
  refine va_sld hx hb hX hbl hbA (hJ6.S hE) (lw_in hi hL (by decide) (by decide)) dL_law_771 ?_
  refine lv_topi (fun y7 ey7 => ?_)
  refine lv_aload_n hx hb dL_law_772 rfl (lv_at hl 3 rfl) ?_
  refine lv_iload_n hx hb dL_law_773 rfl (lv_at hl 0 rfl) ?_
  refine lv_iconst (v := 2) hx hb dL_law_774 (by decide) ?_
  refine lv_iadd hx hb dL_law_775 ?_
  refine va_sld hx hb hX hbl hbA (hJ6.S hE) (lw_in hi hL (by decide) (by decide)) dL_law_776 ?_
  refine lv_topi (fun y8 ey8 => ?_)
  refine lv_aload_n hx hb dL_law_777 rfl (lv_at hl 3 rfl) ?_
  refine lv_iload_n hx hb dL_law_778 rfl (lv_at hl 0 rfl) ?_
  refine lv_iconst (v := 3) hx hb dL_law_779 (by decide) ?_
  refine lv_iadd hx hb dL_law_780 ?_
  refine va_sld hx hb hX hbl hbA (hJ6.S hE) (lw_in hi hL (by decide) (by decide)) dL_law_781 ?_
  refine lv_topi (fun y9 ey9 => ?_)
  refine lv_aload_n hx hb dL_law_782 rfl (lv_at hl 3 rfl) ?_
  refine lv_iload_n hx hb dL_law_783 rfl (lv_at hl 0 rfl) ?_
  refine lv_iconst (v := 4) hx hb dL_law_784 (by decide) ?_
  refine lv_iadd hx hb dL_law_785 ?_
  refine va_sld hx hb hX hbl hbA (hJ6.S hE) (lw_in hi hL (by decide) (by decide)) dL_law_786 ?_
  refine lv_topi (fun y10 ey10 => ?_)
  refine lv_aload_n hx hb dL_law_787 rfl (lv_at hl 3 rfl) ?_
  refine lv_iload_n hx hb dL_law_788 rfl (lv_at hl 0 rfl) ?_
  refine lv_iconst (v := 5) hx hb dL_law_789 (by decide) ?_
  refine lv_iadd hx hb dL_law_790 ?_
  refine va_sld hx hb hX hbl hbA (hJ6.S hE) (lw_in hi hL (by decide) (by decide)) dL_law_791 ?_
  refine lv_topi (fun y11 ey11 => ?_)
  refine lk_I (zrV (rest := []) B (c_X12_sight l E hE.1 H6 hJ6.1 om hE.2.2.2.1 y7 y8 y9 y10 y11) cl_RL_111 hJ6.1 hE.2.2.2.1 rfl rfl rfl rfl hl.1 rfl (Nat.le_of_ble_eq_true rfl) dL_law_792 rfl rfl ⟨rfl, rfl⟩ ⟨Nat.le_of_ble_eq_true rfl, Nat.le_of_ble_eq_true rfl⟩ hJ6.2.1) hE hJ6 (fun r12 H12 lc12 hp12 hf12 hJ12 => ?_)
  have hN12 : lwN E om H12 := lwN.keep hN6 hE hf12 rfl rfl
  refine lv_pop hx hb dL_law_795 rfl ?_
  refine lv_goto (tgt := 947) hx hb dL_law_796 (by decide) ?_
  exact kk _ _ _ hE hJ12 hN12 hTm

theorem dL_law_799 : decode cL_law 799 = .ok (.aload_n 1, 1) := by decide +kernel
theorem dL_law_800 : decode cL_law 800 = .ok (.aload_n 0, 1) := by decide +kernel
theorem dL_law_801 : decode cL_law 801 = .ok (.iload_n 3, 1) := by decide +kernel
theorem dL_law_802 : decode cL_law 802 = .ok (.iconst 1, 1) := by decide +kernel
theorem dL_law_803 : decode cL_law 803 = .ok (.iadd, 1) := by decide +kernel
theorem dL_law_804 : decode cL_law 804 = .ok (.iaload, 1) := by decide +kernel
theorem dL_law_805 : decode cL_law 805 = .ok (.invokevirtual 112, 3) := by decide +kernel
theorem dL_law_808 : decode cL_law 808 = .ok (.pop, 1) := by decide +kernel
theorem dL_law_809 : decode cL_law 809 = .ok (.aload_n 2, 1) := by decide +kernel
theorem dL_law_810 : decode cL_law 810 = .ok (.aload_n 0, 1) := by decide +kernel
theorem dL_law_811 : decode cL_law 811 = .ok (.iload_n 3, 1) := by decide +kernel
theorem dL_law_812 : decode cL_law 812 = .ok (.iconst 1, 1) := by decide +kernel
theorem dL_law_813 : decode cL_law 813 = .ok (.iadd, 1) := by decide +kernel
theorem dL_law_814 : decode cL_law 814 = .ok (.iaload, 1) := by decide +kernel
theorem dL_law_815 : decode cL_law 815 = .ok (.invokevirtual 116, 3) := by decide +kernel
theorem dL_law_818 : decode cL_law 818 = .ok (.pop, 1) := by decide +kernel
theorem dL_law_819 : decode cL_law 819 = .ok (.goto 128, 3) := by decide +kernel
set_option maxRecDepth 100000 in
set_option maxHeartbeats 4000000 in
theorem law_23 (l : Launch) {p : Program} {e : Env} {s : State} {m : MethodId} {below : List Frame} {meth : Method} {c : Code} {b : Nat} {xs : Nat → Int32} {L : Nat} (hL : L ≤ 3072) (C0 : lw_At p s m meth c b L xs) {E : zE} {ox om i : Nat} {H : Heap} {locs : List Loc} {ls : Array Slot} (hE : lwE E ox om s) (hJ : lwJ E s H locs) (hN : lwN E om H) (hTm : lwT E) (hi : i + 6 ≤ L) (hl : lv_has ls 4 [(3, .int (nI i)), (2, .ref om), (1, .ref ox), (0, .ref b)]) (kk : ∀ (E1 : zE) (H1 : Heap) (locs1 : List Loc), lwE E1 ox om s → lwJ E1 s H1 locs1 → lwN E1 om H1 → lwT E1 → W p l e room_1 s m #[Value.ref b] below meth c H1 locs1 376 58132 (lw_Z below #[Value.ref b] s) (F0 m 947 ls [])) : W p l e room_1 s m #[Value.ref b] below meth c H locs 376 58132 (lw_Z below #[Value.ref b] s) (F0 m 799 ls []) := by
  obtain ⟨hx, hb, hr, hml, hown0, hts0, hX, hbl, hlocks, hgv⟩ := id C0
  have B : zB p s m #[Value.ref b] c E cL_law RL 4 := ⟨hx, hb, hml, hown0, fun w h => hts0 w (wsL_law_in w h), hE.2.1⟩
  have hbA : ¬ (fun q : Nat => s.heap.size ≤ q) b := Nat.not_le.mpr hbl
  refine lv_aload_n hx hb dL_law_799 rfl (lv_at hl 2 rfl) ?_
  refine lv_aload_n hx hb dL_law_800 rfl (lv_at hl 3 rfl) ?_
  refine lv_iload_n hx hb dL_law_801 rfl (lv_at hl 0 rfl) ?_
  refine lv_iconst (v := 1) hx hb dL_law_802 (by decide) ?_
  refine lv_iadd hx hb dL_law_803 ?_
  refine va_sld hx hb hX hbl hbA (hJ.S hE) (lw_in hi hL (by decide) (by decide)) dL_law_804 ?_
  refine lv_topi (fun y1 ey1 => ?_)
  refine lk_I (zrV (rest := []) B (c_X11_untell l E hE.1 H hJ.1 ox hE.2.2.1 y1) cl_RL_112 hJ.1 hE.2.2.1 rfl rfl rfl rfl hl.1 rfl (Nat.le_of_ble_eq_true rfl) dL_law_805 rfl rfl ⟨rfl, rfl⟩ ⟨Nat.le_of_ble_eq_true rfl, Nat.le_of_ble_eq_true rfl⟩ hJ.2.1) hE hJ (fun r2 H2 lc2 hp2 hf2 hJ2 => ?_)
  have hN2 : lwN E om H2 := lwN.keep hN hE hf2 rfl rfl
  refine lv_pop hx hb dL_law_808 rfl ?_
  refine lv_aload_n hx hb dL_law_809 rfl (lv_at hl 1 rfl) ?_
  refine lv_aload_n hx hb dL_law_810 rfl (lv_at hl 3 rfl) ?_
  refine lv_iload_n hx hb dL_law_811 rfl (lv_at hl 0 rfl) ?_
  refine lv_iconst (v := 1) hx hb dL_law_812 (by decide) ?_
  refine lv_iadd hx hb dL_law_813 ?_
  refine va_sld hx hb hX hbl hbA (hJ2.S hE) (lw_in hi hL (by decide) (by decide)) dL_law_814 ?_
  refine lv_topi (fun y3 ey3 => ?_)
  refine lk_I (zrV (rest := []) B (c_X12_untell l E hE.1 H2 hJ2.1 om hE.2.2.2.1 y3) cl_RL_116 hJ2.1 hE.2.2.2.1 rfl rfl rfl rfl hl.1 rfl (Nat.le_of_ble_eq_true rfl) dL_law_815 rfl rfl ⟨rfl, rfl⟩ ⟨Nat.le_of_ble_eq_true rfl, Nat.le_of_ble_eq_true rfl⟩ hJ2.2.1) hE hJ2 (fun r4 H4 lc4 hp4 hf4 hJ4 => ?_)
  have hN4 : lwN E om H4 := lwN.keep hN2 hE hf4 rfl rfl
  refine lv_pop hx hb dL_law_818 rfl ?_
  refine lv_goto (tgt := 947) hx hb dL_law_819 (by decide) ?_
  exact kk _ _ _ hE hJ4 hN4 hTm

theorem dL_law_822 : decode cL_law 822 = .ok (.aload_n 1, 1) := by decide +kernel
theorem dL_law_823 : decode cL_law 823 = .ok (.aload_n 0, 1) := by decide +kernel
theorem dL_law_824 : decode cL_law 824 = .ok (.iload_n 3, 1) := by decide +kernel
theorem dL_law_825 : decode cL_law 825 = .ok (.iconst 1, 1) := by decide +kernel
theorem dL_law_826 : decode cL_law 826 = .ok (.iadd, 1) := by decide +kernel
theorem dL_law_827 : decode cL_law 827 = .ok (.iaload, 1) := by decide +kernel
theorem dL_law_828 : decode cL_law 828 = .ok (.invokevirtual 117, 3) := by decide +kernel
theorem dL_law_831 : decode cL_law 831 = .ok (.aload_n 2, 1) := by decide +kernel
theorem dL_law_832 : decode cL_law 832 = .ok (.aload_n 0, 1) := by decide +kernel
theorem dL_law_833 : decode cL_law 833 = .ok (.iload_n 3, 1) := by decide +kernel
theorem dL_law_834 : decode cL_law 834 = .ok (.iconst 1, 1) := by decide +kernel
theorem dL_law_835 : decode cL_law 835 = .ok (.iadd, 1) := by decide +kernel
theorem dL_law_836 : decode cL_law 836 = .ok (.iaload, 1) := by decide +kernel
theorem dL_law_837 : decode cL_law 837 = .ok (.invokevirtual 120, 3) := by decide +kernel
theorem dL_law_840 : decode cL_law 840 = .ok (.if_icmp .eq 107, 3) := by decide +kernel
set_option maxRecDepth 100000 in
set_option maxHeartbeats 4000000 in
theorem law_24 (l : Launch) {p : Program} {e : Env} {s : State} {m : MethodId} {below : List Frame} {meth : Method} {c : Code} {b : Nat} {xs : Nat → Int32} {L : Nat} (hL : L ≤ 3072) (C0 : lw_At p s m meth c b L xs) {E : zE} {ox om i : Nat} {H : Heap} {locs : List Loc} {ls : Array Slot} (hE : lwE E ox om s) (hJ : lwJ E s H locs) (hN : lwN E om H) (hTm : lwT E) (hi : i + 6 ≤ L) (hl : lv_has ls 4 [(3, .int (nI i)), (2, .ref om), (1, .ref ox), (0, .ref b)]) (kk : ∀ (E1 : zE) (H1 : Heap) (locs1 : List Loc), lwE E1 ox om s → lwJ E1 s H1 locs1 → lwN E1 om H1 → lwT E1 → W p l e room_1 s m #[Value.ref b] below meth c H1 locs1 376 58132 (lw_Z below #[Value.ref b] s) (F0 m 947 ls [])) : W p l e room_1 s m #[Value.ref b] below meth c H locs 376 58132 (lw_Z below #[Value.ref b] s) (F0 m 822 ls []) := by
  obtain ⟨hx, hb, hr, hml, hown0, hts0, hX, hbl, hlocks, hgv⟩ := id C0
  have B : zB p s m #[Value.ref b] c E cL_law RL 4 := ⟨hx, hb, hml, hown0, fun w h => hts0 w (wsL_law_in w h), hE.2.1⟩
  have hbA : ¬ (fun q : Nat => s.heap.size ≤ q) b := Nat.not_le.mpr hbl
  refine lv_aload_n hx hb dL_law_822 rfl (lv_at hl 2 rfl) ?_
  refine lv_aload_n hx hb dL_law_823 rfl (lv_at hl 3 rfl) ?_
  refine lv_iload_n hx hb dL_law_824 rfl (lv_at hl 0 rfl) ?_
  refine lv_iconst (v := 1) hx hb dL_law_825 (by decide) ?_
  refine lv_iadd hx hb dL_law_826 ?_
  refine va_sld hx hb hX hbl hbA (hJ.S hE) (lw_in hi hL (by decide) (by decide)) dL_law_827 ?_
  refine lv_topi (fun y1 ey1 => ?_)
  refine lk_L (zrV (rest := []) B (c_X11_later l E hE.1 H hJ.1 ox hE.2.2.1 y1 hE.2.2.2.2.2.1 hTm.2.1 hTm.2.2) cl_RL_117 hJ.1 hE.2.2.1 rfl rfl rfl rfl hl.1 rfl (Nat.le_of_ble_eq_true rfl) dL_law_828 rfl rfl ⟨rfl, rfl⟩ ⟨Nat.le_of_ble_eq_true rfl, Nat.le_of_ble_eq_true rfl⟩ hJ.2.1) (fun _ => rfl) hE hJ (fun r2 H2 lc2 hp1 hf2 hJ2 => ?_)
  have hN2 : lwN (setX E (zLt (eX E) y1.toInt)) om H2 := hN.keep hE hf2 rfl rfl
  have hE2 : lwE (setX E (zLt (eX E) y1.toInt)) ox om s := hE
  have B2 : zB p s m #[Value.ref b] c (setX E (zLt (eX E) y1.toInt)) cL_law RL 4 := B
  refine lv_aload_n hx hb dL_law_831 rfl (lv_at hl 1 rfl) ?_
  refine lv_aload_n hx hb dL_law_832 rfl (lv_at hl 3 rfl) ?_
  refine lv_iload_n hx hb dL_law_833 rfl (lv_at hl 0 rfl) ?_
  refine lv_iconst (v := 1) hx hb dL_law_834 (by decide) ?_
  refine lv_iadd hx hb dL_law_835 ?_
  refine va_sld hx hb hX hbl hbA (hJ2.S hE2) (lw_in hi hL (by decide) (by decide)) dL_law_836 ?_
  refine lv_topi (fun y3 ey3 => ?_)
  refine lk_L (zrV (rest := [.int r2]) B2 (c_X12_later l (setX E (zLt (eX E) y1.toInt)) hE2.1 H2 hJ2.1 om hE2.2.2.2.1 y3 hE2.2.2.2.2.2.2 (by show 0 ≤ eM E; rw [← hTm.1]; exact hTm.2.1) (by show eM E ≤ 100000; rw [← hTm.1]; exact hTm.2.2)) cl_RL_120 hJ2.1 hE2.2.2.2.1 rfl rfl rfl rfl hl.1 rfl (Nat.le_of_ble_eq_true rfl) dL_law_837 rfl rfl ⟨rfl, rfl⟩ ⟨Nat.le_of_ble_eq_true rfl, Nat.le_of_ble_eq_true rfl⟩ hJ2.2.1) (fun _ => rfl) hE2 hJ2 (fun r4 H4 lc4 hp2 hf4 hJ4 => ?_)
  have hN4 : lwN (setM (setX E (zLt (eX E) y1.toInt)) (zLt (eM (setX E (zLt (eX E) y1.toInt))) y3.toInt)) om H4 := hN2.keep hE2 hf4 rfl rfl
  have hE4 : lwE (setM (setX E (zLt (eX E) y1.toInt)) (zLt (eM (setX E (zLt (eX E) y1.toInt))) y3.toInt)) ox om s := hE2
  have B4 : zB p s m #[Value.ref b] c (setM (setX E (zLt (eX E) y1.toInt)) (zLt (eM (setX E (zLt (eX E) y1.toInt))) y3.toInt)) cL_law RL 4 := B
  have hyy : y1 = y3 := ey1.trans ey3.symm
  refine lv_icmp_eq (tgt := 947) hx hb dL_law_840 (by decide) (fun _ => ?_) (fun c_ => ?_)
  · exact kk _ _ _ hE4 hJ4 hN4 ⟨by show zLt (eX E) _ = zLt (eM E) _; rw [hTm.1, hyy], (zLt_b hTm.2.1 hTm.2.2).1, (zLt_b hTm.2.1 hTm.2.2).2⟩
  · exact absurd (Int32.toInt_inj.mp (by rw [hp1, hp2]; show zLv (eX E) _ = zLv (eM E) _; rw [hTm.1, hyy])) c_

theorem dL_law_845 : decode cL_law 845 = .ok (.aload_n 1, 1) := by decide +kernel
theorem dL_law_846 : decode cL_law 846 = .ok (.aload_n 0, 1) := by decide +kernel
theorem dL_law_847 : decode cL_law 847 = .ok (.iload_n 3, 1) := by decide +kernel
theorem dL_law_848 : decode cL_law 848 = .ok (.iconst 1, 1) := by decide +kernel
theorem dL_law_849 : decode cL_law 849 = .ok (.iadd, 1) := by decide +kernel
theorem dL_law_850 : decode cL_law 850 = .ok (.iaload, 1) := by decide +kernel
theorem dL_law_851 : decode cL_law 851 = .ok (.aload_n 0, 1) := by decide +kernel
theorem dL_law_852 : decode cL_law 852 = .ok (.iload_n 3, 1) := by decide +kernel
theorem dL_law_853 : decode cL_law 853 = .ok (.iconst 2, 1) := by decide +kernel
theorem dL_law_854 : decode cL_law 854 = .ok (.iadd, 1) := by decide +kernel
theorem dL_law_855 : decode cL_law 855 = .ok (.iaload, 1) := by decide +kernel
theorem dL_law_856 : decode cL_law 856 = .ok (.invokevirtual 121, 3) := by decide +kernel
theorem dL_law_859 : decode cL_law 859 = .ok (.pop, 1) := by decide +kernel
theorem dL_law_860 : decode cL_law 860 = .ok (.aload_n 2, 1) := by decide +kernel
theorem dL_law_861 : decode cL_law 861 = .ok (.aload_n 0, 1) := by decide +kernel
theorem dL_law_862 : decode cL_law 862 = .ok (.iload_n 3, 1) := by decide +kernel
theorem dL_law_863 : decode cL_law 863 = .ok (.iconst 1, 1) := by decide +kernel
theorem dL_law_864 : decode cL_law 864 = .ok (.iadd, 1) := by decide +kernel
theorem dL_law_865 : decode cL_law 865 = .ok (.iaload, 1) := by decide +kernel
theorem dL_law_866 : decode cL_law 866 = .ok (.aload_n 0, 1) := by decide +kernel
theorem dL_law_867 : decode cL_law 867 = .ok (.iload_n 3, 1) := by decide +kernel
theorem dL_law_868 : decode cL_law 868 = .ok (.iconst 2, 1) := by decide +kernel
theorem dL_law_869 : decode cL_law 869 = .ok (.iadd, 1) := by decide +kernel
theorem dL_law_870 : decode cL_law 870 = .ok (.iaload, 1) := by decide +kernel
theorem dL_law_871 : decode cL_law 871 = .ok (.invokevirtual 124, 3) := by decide +kernel
theorem dL_law_874 : decode cL_law 874 = .ok (.pop, 1) := by decide +kernel
theorem dL_law_875 : decode cL_law 875 = .ok (.goto 72, 3) := by decide +kernel
set_option maxRecDepth 100000 in
set_option maxHeartbeats 4000000 in
theorem law_25 (l : Launch) {p : Program} {e : Env} {s : State} {m : MethodId} {below : List Frame} {meth : Method} {c : Code} {b : Nat} {xs : Nat → Int32} {L : Nat} (hL : L ≤ 3072) (C0 : lw_At p s m meth c b L xs) {E : zE} {ox om i : Nat} {H : Heap} {locs : List Loc} {ls : Array Slot} (hE : lwE E ox om s) (hJ : lwJ E s H locs) (hN : lwN E om H) (hTm : lwT E) (hi : i + 6 ≤ L) (hl : lv_has ls 4 [(3, .int (nI i)), (2, .ref om), (1, .ref ox), (0, .ref b)]) (kk : ∀ (E1 : zE) (H1 : Heap) (locs1 : List Loc), lwE E1 ox om s → lwJ E1 s H1 locs1 → lwN E1 om H1 → lwT E1 → W p l e room_1 s m #[Value.ref b] below meth c H1 locs1 376 58132 (lw_Z below #[Value.ref b] s) (F0 m 947 ls [])) : W p l e room_1 s m #[Value.ref b] below meth c H locs 376 58132 (lw_Z below #[Value.ref b] s) (F0 m 845 ls []) := by
  obtain ⟨hx, hb, hr, hml, hown0, hts0, hX, hbl, hlocks, hgv⟩ := id C0
  have B : zB p s m #[Value.ref b] c E cL_law RL 4 := ⟨hx, hb, hml, hown0, fun w h => hts0 w (wsL_law_in w h), hE.2.1⟩
  have hbA : ¬ (fun q : Nat => s.heap.size ≤ q) b := Nat.not_le.mpr hbl
  refine lv_aload_n hx hb dL_law_845 rfl (lv_at hl 2 rfl) ?_
  refine lv_aload_n hx hb dL_law_846 rfl (lv_at hl 3 rfl) ?_
  refine lv_iload_n hx hb dL_law_847 rfl (lv_at hl 0 rfl) ?_
  refine lv_iconst (v := 1) hx hb dL_law_848 (by decide) ?_
  refine lv_iadd hx hb dL_law_849 ?_
  refine va_sld hx hb hX hbl hbA (hJ.S hE) (lw_in hi hL (by decide) (by decide)) dL_law_850 ?_
  refine lv_topi (fun y1 ey1 => ?_)
  refine lv_aload_n hx hb dL_law_851 rfl (lv_at hl 3 rfl) ?_
  refine lv_iload_n hx hb dL_law_852 rfl (lv_at hl 0 rfl) ?_
  refine lv_iconst (v := 2) hx hb dL_law_853 (by decide) ?_
  refine lv_iadd hx hb dL_law_854 ?_
  refine va_sld hx hb hX hbl hbA (hJ.S hE) (lw_in hi hL (by decide) (by decide)) dL_law_855 ?_
  refine lv_topi (fun y2 ey2 => ?_)
  refine lk_I (zrV (rest := []) B (c_X11_storms l E hE.1 H hJ.1 ox hE.2.2.1 y1 y2) cl_RL_121 hJ.1 hE.2.2.1 rfl rfl rfl rfl hl.1 rfl (Nat.le_of_ble_eq_true rfl) dL_law_856 rfl rfl ⟨rfl, rfl⟩ ⟨Nat.le_of_ble_eq_true rfl, Nat.le_of_ble_eq_true rfl⟩ hJ.2.1) hE hJ (fun r3 H3 lc3 hp3 hf3 hJ3 => ?_)
  have hN3 : lwN E om H3 := lwN.keep hN hE hf3 rfl rfl
  refine lv_pop hx hb dL_law_859 rfl ?_
  refine lv_aload_n hx hb dL_law_860 rfl (lv_at hl 1 rfl) ?_
  refine lv_aload_n hx hb dL_law_861 rfl (lv_at hl 3 rfl) ?_
  refine lv_iload_n hx hb dL_law_862 rfl (lv_at hl 0 rfl) ?_
  refine lv_iconst (v := 1) hx hb dL_law_863 (by decide) ?_
  refine lv_iadd hx hb dL_law_864 ?_
  refine va_sld hx hb hX hbl hbA (hJ3.S hE) (lw_in hi hL (by decide) (by decide)) dL_law_865 ?_
  refine lv_topi (fun y4 ey4 => ?_)
  refine lv_aload_n hx hb dL_law_866 rfl (lv_at hl 3 rfl) ?_
  refine lv_iload_n hx hb dL_law_867 rfl (lv_at hl 0 rfl) ?_
  refine lv_iconst (v := 2) hx hb dL_law_868 (by decide) ?_
  refine lv_iadd hx hb dL_law_869 ?_
  refine va_sld hx hb hX hbl hbA (hJ3.S hE) (lw_in hi hL (by decide) (by decide)) dL_law_870 ?_
  refine lv_topi (fun y5 ey5 => ?_)
  refine lk_I (zrV (rest := []) B (c_X12_storms l E hE.1 H3 hJ3.1 om hE.2.2.2.1 y4 y5) cl_RL_124 hJ3.1 hE.2.2.2.1 rfl rfl rfl rfl hl.1 rfl (Nat.le_of_ble_eq_true rfl) dL_law_871 rfl rfl ⟨rfl, rfl⟩ ⟨Nat.le_of_ble_eq_true rfl, Nat.le_of_ble_eq_true rfl⟩ hJ3.2.1) hE hJ3 (fun r6 H6 lc6 hp6 hf6 hJ6 => ?_)
  have hN6 : lwN E om H6 := lwN.keep hN3 hE hf6 rfl rfl
  refine lv_pop hx hb dL_law_874 rfl ?_
  refine lv_goto (tgt := 947) hx hb dL_law_875 (by decide) ?_
  exact kk _ _ _ hE hJ6 hN6 hTm

theorem dL_law_878 : decode cL_law 878 = .ok (.aload_n 1, 1) := by decide +kernel
theorem dL_law_879 : decode cL_law 879 = .ok (.aload_n 0, 1) := by decide +kernel
theorem dL_law_880 : decode cL_law 880 = .ok (.iload_n 3, 1) := by decide +kernel
theorem dL_law_881 : decode cL_law 881 = .ok (.iconst 1, 1) := by decide +kernel
theorem dL_law_882 : decode cL_law 882 = .ok (.iadd, 1) := by decide +kernel
theorem dL_law_883 : decode cL_law 883 = .ok (.iaload, 1) := by decide +kernel
theorem dL_law_884 : decode cL_law 884 = .ok (.invokevirtual 125, 3) := by decide +kernel
theorem dL_law_887 : decode cL_law 887 = .ok (.pop, 1) := by decide +kernel
theorem dL_law_888 : decode cL_law 888 = .ok (.aload_n 2, 1) := by decide +kernel
theorem dL_law_889 : decode cL_law 889 = .ok (.aload_n 0, 1) := by decide +kernel
theorem dL_law_890 : decode cL_law 890 = .ok (.iload_n 3, 1) := by decide +kernel
theorem dL_law_891 : decode cL_law 891 = .ok (.iconst 1, 1) := by decide +kernel
theorem dL_law_892 : decode cL_law 892 = .ok (.iadd, 1) := by decide +kernel
theorem dL_law_893 : decode cL_law 893 = .ok (.iaload, 1) := by decide +kernel
theorem dL_law_894 : decode cL_law 894 = .ok (.invokevirtual 128, 3) := by decide +kernel
theorem dL_law_897 : decode cL_law 897 = .ok (.pop, 1) := by decide +kernel
theorem dL_law_898 : decode cL_law 898 = .ok (.goto 49, 3) := by decide +kernel
set_option maxRecDepth 100000 in
set_option maxHeartbeats 4000000 in
theorem law_26 (l : Launch) {p : Program} {e : Env} {s : State} {m : MethodId} {below : List Frame} {meth : Method} {c : Code} {b : Nat} {xs : Nat → Int32} {L : Nat} (hL : L ≤ 3072) (C0 : lw_At p s m meth c b L xs) {E : zE} {ox om i : Nat} {H : Heap} {locs : List Loc} {ls : Array Slot} (hE : lwE E ox om s) (hJ : lwJ E s H locs) (hN : lwN E om H) (hTm : lwT E) (hi : i + 6 ≤ L) (hl : lv_has ls 4 [(3, .int (nI i)), (2, .ref om), (1, .ref ox), (0, .ref b)]) (kk : ∀ (E1 : zE) (H1 : Heap) (locs1 : List Loc), lwE E1 ox om s → lwJ E1 s H1 locs1 → lwN E1 om H1 → lwT E1 → W p l e room_1 s m #[Value.ref b] below meth c H1 locs1 376 58132 (lw_Z below #[Value.ref b] s) (F0 m 947 ls [])) : W p l e room_1 s m #[Value.ref b] below meth c H locs 376 58132 (lw_Z below #[Value.ref b] s) (F0 m 878 ls []) := by
  obtain ⟨hx, hb, hr, hml, hown0, hts0, hX, hbl, hlocks, hgv⟩ := id C0
  have B : zB p s m #[Value.ref b] c E cL_law RL 4 := ⟨hx, hb, hml, hown0, fun w h => hts0 w (wsL_law_in w h), hE.2.1⟩
  have hbA : ¬ (fun q : Nat => s.heap.size ≤ q) b := Nat.not_le.mpr hbl
  refine lv_aload_n hx hb dL_law_878 rfl (lv_at hl 2 rfl) ?_
  refine lv_aload_n hx hb dL_law_879 rfl (lv_at hl 3 rfl) ?_
  refine lv_iload_n hx hb dL_law_880 rfl (lv_at hl 0 rfl) ?_
  refine lv_iconst (v := 1) hx hb dL_law_881 (by decide) ?_
  refine lv_iadd hx hb dL_law_882 ?_
  refine va_sld hx hb hX hbl hbA (hJ.S hE) (lw_in hi hL (by decide) (by decide)) dL_law_883 ?_
  refine lv_topi (fun y1 ey1 => ?_)
  refine lk_I (zrV (rest := []) B (c_X11_image l E hE.1 H hJ.1 ox hE.2.2.1 y1) cl_RL_125 hJ.1 hE.2.2.1 rfl rfl rfl rfl hl.1 rfl (Nat.le_of_ble_eq_true rfl) dL_law_884 rfl rfl ⟨rfl, rfl⟩ ⟨Nat.le_of_ble_eq_true rfl, Nat.le_of_ble_eq_true rfl⟩ hJ.2.1) hE hJ (fun r2 H2 lc2 hp2 hf2 hJ2 => ?_)
  have hN2 : lwN E om H2 := lwN.keep hN hE hf2 rfl rfl
  refine lv_pop hx hb dL_law_887 rfl ?_
  refine lv_aload_n hx hb dL_law_888 rfl (lv_at hl 1 rfl) ?_
  refine lv_aload_n hx hb dL_law_889 rfl (lv_at hl 3 rfl) ?_
  refine lv_iload_n hx hb dL_law_890 rfl (lv_at hl 0 rfl) ?_
  refine lv_iconst (v := 1) hx hb dL_law_891 (by decide) ?_
  refine lv_iadd hx hb dL_law_892 ?_
  refine va_sld hx hb hX hbl hbA (hJ2.S hE) (lw_in hi hL (by decide) (by decide)) dL_law_893 ?_
  refine lv_topi (fun y3 ey3 => ?_)
  refine lk_I (zrV (rest := []) B (c_X12_image l E hE.1 H2 hJ2.1 om hE.2.2.2.1 y3) cl_RL_128 hJ2.1 hE.2.2.2.1 rfl rfl rfl rfl hl.1 rfl (Nat.le_of_ble_eq_true rfl) dL_law_894 rfl rfl ⟨rfl, rfl⟩ ⟨Nat.le_of_ble_eq_true rfl, Nat.le_of_ble_eq_true rfl⟩ hJ2.2.1) hE hJ2 (fun r4 H4 lc4 hp4 hf4 hJ4 => ?_)
  have hN4 : lwN E om H4 := lwN.keep hN2 hE hf4 rfl rfl
  refine lv_pop hx hb dL_law_897 rfl ?_
  refine lv_goto (tgt := 947) hx hb dL_law_898 (by decide) ?_
  exact kk _ _ _ hE hJ4 hN4 hTm

theorem dL_law_901 : decode cL_law 901 = .ok (.aload_n 1, 1) := by decide +kernel
theorem dL_law_902 : decode cL_law 902 = .ok (.aload_n 0, 1) := by decide +kernel
theorem dL_law_903 : decode cL_law 903 = .ok (.iload_n 3, 1) := by decide +kernel
theorem dL_law_904 : decode cL_law 904 = .ok (.iconst 1, 1) := by decide +kernel
theorem dL_law_905 : decode cL_law 905 = .ok (.iadd, 1) := by decide +kernel
theorem dL_law_906 : decode cL_law 906 = .ok (.iaload, 1) := by decide +kernel
theorem dL_law_907 : decode cL_law 907 = .ok (.invokevirtual 129, 3) := by decide +kernel
theorem dL_law_910 : decode cL_law 910 = .ok (.pop, 1) := by decide +kernel
theorem dL_law_911 : decode cL_law 911 = .ok (.aload_n 2, 1) := by decide +kernel
theorem dL_law_912 : decode cL_law 912 = .ok (.aload_n 0, 1) := by decide +kernel
theorem dL_law_913 : decode cL_law 913 = .ok (.iload_n 3, 1) := by decide +kernel
theorem dL_law_914 : decode cL_law 914 = .ok (.iconst 1, 1) := by decide +kernel
theorem dL_law_915 : decode cL_law 915 = .ok (.iadd, 1) := by decide +kernel
theorem dL_law_916 : decode cL_law 916 = .ok (.iaload, 1) := by decide +kernel
theorem dL_law_917 : decode cL_law 917 = .ok (.invokevirtual 132, 3) := by decide +kernel
theorem dL_law_920 : decode cL_law 920 = .ok (.pop, 1) := by decide +kernel
theorem dL_law_921 : decode cL_law 921 = .ok (.goto 26, 3) := by decide +kernel
set_option maxRecDepth 100000 in
set_option maxHeartbeats 4000000 in
theorem law_27 (l : Launch) {p : Program} {e : Env} {s : State} {m : MethodId} {below : List Frame} {meth : Method} {c : Code} {b : Nat} {xs : Nat → Int32} {L : Nat} (hL : L ≤ 3072) (C0 : lw_At p s m meth c b L xs) {E : zE} {ox om i : Nat} {H : Heap} {locs : List Loc} {ls : Array Slot} (hE : lwE E ox om s) (hJ : lwJ E s H locs) (hN : lwN E om H) (hTm : lwT E) (hi : i + 6 ≤ L) (hl : lv_has ls 4 [(3, .int (nI i)), (2, .ref om), (1, .ref ox), (0, .ref b)]) (kk : ∀ (E1 : zE) (H1 : Heap) (locs1 : List Loc), lwE E1 ox om s → lwJ E1 s H1 locs1 → lwN E1 om H1 → lwT E1 → W p l e room_1 s m #[Value.ref b] below meth c H1 locs1 376 58132 (lw_Z below #[Value.ref b] s) (F0 m 947 ls [])) : W p l e room_1 s m #[Value.ref b] below meth c H locs 376 58132 (lw_Z below #[Value.ref b] s) (F0 m 901 ls []) := by
  obtain ⟨hx, hb, hr, hml, hown0, hts0, hX, hbl, hlocks, hgv⟩ := id C0
  have B : zB p s m #[Value.ref b] c E cL_law RL 4 := ⟨hx, hb, hml, hown0, fun w h => hts0 w (wsL_law_in w h), hE.2.1⟩
  have hbA : ¬ (fun q : Nat => s.heap.size ≤ q) b := Nat.not_le.mpr hbl
  refine lv_aload_n hx hb dL_law_901 rfl (lv_at hl 2 rfl) ?_
  refine lv_aload_n hx hb dL_law_902 rfl (lv_at hl 3 rfl) ?_
  refine lv_iload_n hx hb dL_law_903 rfl (lv_at hl 0 rfl) ?_
  refine lv_iconst (v := 1) hx hb dL_law_904 (by decide) ?_
  refine lv_iadd hx hb dL_law_905 ?_
  refine va_sld hx hb hX hbl hbA (hJ.S hE) (lw_in hi hL (by decide) (by decide)) dL_law_906 ?_
  refine lv_topi (fun y1 ey1 => ?_)
  refine lk_I (zrV (rest := []) B (c_X11_back l E hE.1 H hJ.1 ox hE.2.2.1 y1) cl_RL_129 hJ.1 hE.2.2.1 rfl rfl rfl rfl hl.1 rfl (Nat.le_of_ble_eq_true rfl) dL_law_907 rfl rfl ⟨rfl, rfl⟩ ⟨Nat.le_of_ble_eq_true rfl, Nat.le_of_ble_eq_true rfl⟩ hJ.2.1) hE hJ (fun r2 H2 lc2 hp2 hf2 hJ2 => ?_)
  have hN2 : lwN E om H2 := lwN.keep hN hE hf2 rfl rfl
  refine lv_pop hx hb dL_law_910 rfl ?_
  refine lv_aload_n hx hb dL_law_911 rfl (lv_at hl 1 rfl) ?_
  refine lv_aload_n hx hb dL_law_912 rfl (lv_at hl 3 rfl) ?_
  refine lv_iload_n hx hb dL_law_913 rfl (lv_at hl 0 rfl) ?_
  refine lv_iconst (v := 1) hx hb dL_law_914 (by decide) ?_
  refine lv_iadd hx hb dL_law_915 ?_
  refine va_sld hx hb hX hbl hbA (hJ2.S hE) (lw_in hi hL (by decide) (by decide)) dL_law_916 ?_
  refine lv_topi (fun y3 ey3 => ?_)
  obtain ⟨n0, s_n0, u0, s_u0, nu0⟩ := hN2
  refine lk_I (zrV (rest := []) B (c_X12_back l E hE.1 H2 hJ2.1 om hE.2.2.2.1 y3 n0 s_n0 u0 s_u0 nu0) cl_RL_132 hJ2.1 hE.2.2.2.1 rfl rfl rfl rfl hl.1 rfl (Nat.le_of_ble_eq_true rfl) dL_law_917 rfl rfl ⟨rfl, rfl⟩ ⟨Nat.le_of_ble_eq_true rfl, Nat.le_of_ble_eq_true rfl⟩ hJ2.2.1) hE hJ2 (fun r4 H4 lc4 hp4 hf4 hJ4 => ?_)
  obtain ⟨-, -, n1, s_n1, -, -, u1, s_u1, -, -, nu1⟩ := hp4
  have hN4 : lwN E om H4 := ⟨n1, s_n1, u1, s_u1, nu1⟩
  refine lv_pop hx hb dL_law_920 rfl ?_
  refine lv_goto (tgt := 947) hx hb dL_law_921 (by decide) ?_
  exact kk _ _ _ hE hJ4 hN4 hTm

theorem dL_law_924 : decode cL_law 924 = .ok (.aload_n 1, 1) := by decide +kernel
theorem dL_law_925 : decode cL_law 925 = .ok (.aload_n 0, 1) := by decide +kernel
theorem dL_law_926 : decode cL_law 926 = .ok (.iload_n 3, 1) := by decide +kernel
theorem dL_law_927 : decode cL_law 927 = .ok (.iconst 1, 1) := by decide +kernel
theorem dL_law_928 : decode cL_law 928 = .ok (.iadd, 1) := by decide +kernel
theorem dL_law_929 : decode cL_law 929 = .ok (.iaload, 1) := by decide +kernel
theorem dL_law_930 : decode cL_law 930 = .ok (.invokevirtual 133, 3) := by decide +kernel
theorem dL_law_933 : decode cL_law 933 = .ok (.pop, 1) := by decide +kernel
theorem dL_law_934 : decode cL_law 934 = .ok (.aload_n 2, 1) := by decide +kernel
theorem dL_law_935 : decode cL_law 935 = .ok (.aload_n 0, 1) := by decide +kernel
theorem dL_law_936 : decode cL_law 936 = .ok (.iload_n 3, 1) := by decide +kernel
theorem dL_law_937 : decode cL_law 937 = .ok (.iconst 1, 1) := by decide +kernel
theorem dL_law_938 : decode cL_law 938 = .ok (.iadd, 1) := by decide +kernel
theorem dL_law_939 : decode cL_law 939 = .ok (.iaload, 1) := by decide +kernel
theorem dL_law_940 : decode cL_law 940 = .ok (.invokevirtual 136, 3) := by decide +kernel
theorem dL_law_943 : decode cL_law 943 = .ok (.pop, 1) := by decide +kernel
theorem dL_law_944 : decode cL_law 944 = .ok (.goto 3, 3) := by decide +kernel
set_option maxRecDepth 100000 in
set_option maxHeartbeats 4000000 in
theorem law_28 (l : Launch) {p : Program} {e : Env} {s : State} {m : MethodId} {below : List Frame} {meth : Method} {c : Code} {b : Nat} {xs : Nat → Int32} {L : Nat} (hL : L ≤ 3072) (C0 : lw_At p s m meth c b L xs) {E : zE} {ox om i : Nat} {H : Heap} {locs : List Loc} {ls : Array Slot} (hE : lwE E ox om s) (hJ : lwJ E s H locs) (hN : lwN E om H) (hTm : lwT E) (hi : i + 6 ≤ L) (hl : lv_has ls 4 [(3, .int (nI i)), (2, .ref om), (1, .ref ox), (0, .ref b)]) (kk : ∀ (E1 : zE) (H1 : Heap) (locs1 : List Loc), lwE E1 ox om s → lwJ E1 s H1 locs1 → lwN E1 om H1 → lwT E1 → W p l e room_1 s m #[Value.ref b] below meth c H1 locs1 376 58132 (lw_Z below #[Value.ref b] s) (F0 m 947 ls [])) : W p l e room_1 s m #[Value.ref b] below meth c H locs 376 58132 (lw_Z below #[Value.ref b] s) (F0 m 924 ls []) := by
  obtain ⟨hx, hb, hr, hml, hown0, hts0, hX, hbl, hlocks, hgv⟩ := id C0
  have B : zB p s m #[Value.ref b] c E cL_law RL 4 := ⟨hx, hb, hml, hown0, fun w h => hts0 w (wsL_law_in w h), hE.2.1⟩
  have hbA : ¬ (fun q : Nat => s.heap.size ≤ q) b := Nat.not_le.mpr hbl
  refine lv_aload_n hx hb dL_law_924 rfl (lv_at hl 2 rfl) ?_
  refine lv_aload_n hx hb dL_law_925 rfl (lv_at hl 3 rfl) ?_
  refine lv_iload_n hx hb dL_law_926 rfl (lv_at hl 0 rfl) ?_
  refine lv_iconst (v := 1) hx hb dL_law_927 (by decide) ?_
  refine lv_iadd hx hb dL_law_928 ?_
  refine va_sld hx hb hX hbl hbA (hJ.S hE) (lw_in hi hL (by decide) (by decide)) dL_law_929 ?_
  refine lv_topi (fun y1 ey1 => ?_)
  refine zkPI (zrV (rest := []) B (c_X11_about l E hE.1 H hJ.1 ox hE.2.2.1 y1) cl_RL_133 hJ.1 hE.2.2.1 rfl rfl rfl rfl hl.1 rfl (Nat.le_of_ble_eq_true rfl) dL_law_930 rfl rfl ⟨rfl, rfl⟩ ⟨Nat.le_of_ble_eq_true rfl, Nat.le_of_ble_eq_true rfl⟩ hJ.2.1) (fun r2 _ => ?_)
  refine lv_pop hx hb dL_law_933 rfl ?_
  refine lv_aload_n hx hb dL_law_934 rfl (lv_at hl 1 rfl) ?_
  refine lv_aload_n hx hb dL_law_935 rfl (lv_at hl 3 rfl) ?_
  refine lv_iload_n hx hb dL_law_936 rfl (lv_at hl 0 rfl) ?_
  refine lv_iconst (v := 1) hx hb dL_law_937 (by decide) ?_
  refine lv_iadd hx hb dL_law_938 ?_
  refine va_sld hx hb hX hbl hbA (hJ.S hE) (lw_in hi hL (by decide) (by decide)) dL_law_939 ?_
  refine lv_topi (fun y3 ey3 => ?_)
  refine zkPI (zrV (rest := []) B (c_X12_about l E hE.1 H hJ.1 om hE.2.2.2.1 y3) cl_RL_136 hJ.1 hE.2.2.2.1 rfl rfl rfl rfl hl.1 rfl (Nat.le_of_ble_eq_true rfl) dL_law_940 rfl rfl ⟨rfl, rfl⟩ ⟨Nat.le_of_ble_eq_true rfl, Nat.le_of_ble_eq_true rfl⟩ hJ.2.1) (fun r4 _ => ?_)
  refine lv_pop hx hb dL_law_943 rfl ?_
  refine lv_goto (tgt := 947) hx hb dL_law_944 (by decide) ?_
  exact kk _ _ _ hE hJ hN hTm
