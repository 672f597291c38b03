set_option maxRecDepth 20000 in
theorem zN_ao : Cond.arrayOver (.object RX4) ∈ lw_tbl := (List.mem_append_right (k2_sels lw_privs) (show _ ∈ tables_1 from List.mem_append_right _ (List.mem_append_left _ (List.mem_of_getElem? (i := 16) rfl : _ ∈ tables_1_2))))
set_option maxRecDepth 20000 in
theorem zN_0 : Cond.methodLinkNest RX11 19 yX10_init RX11 ∈ lw_tbl := (List.mem_append_right (k2_sels lw_privs) (show _ ∈ tables_1 from List.mem_append_left _ (List.mem_of_getElem? (i := 32) rfl : _ ∈ tables_1_1)))
set_option maxRecDepth 20000 in
theorem zN_1 : Cond.methodLinkNest RX11 38 yX2_init RX11 ∈ lw_tbl := (List.mem_append_right (k2_sels lw_privs) (show _ ∈ tables_1 from List.mem_append_left _ (List.mem_of_getElem? (i := 205) rfl : _ ∈ tables_1_1)))
set_option maxRecDepth 20000 in
theorem zN_2 : Cond.methodLinkNest RX11 70 yX0_init RX11 ∈ lw_tbl := (List.mem_append_right (k2_sels lw_privs) (show _ ∈ tables_1 from List.mem_append_right _ (List.mem_append_left _ (List.mem_of_getElem? (i := 110) rfl : _ ∈ tables_1_2))))
set_option maxRecDepth 20000 in
theorem zN_3 : Cond.methodLinkNest RX11 77 yX7_init RX11 ∈ lw_tbl := (List.mem_append_right (k2_sels lw_privs) (show _ ∈ tables_1 from List.mem_append_right _ (List.mem_append_left _ (List.mem_of_getElem? (i := 141) rfl : _ ∈ tables_1_2))))
set_option maxRecDepth 20000 in
theorem zN_4 : Cond.methodLinkNest RX11 232 yX8_goOn RX11 ∈ lw_tbl := (List.mem_append_right (k2_sels lw_privs) (show _ ∈ tables_1 from List.mem_append_right _ (List.mem_append_right _ (List.mem_append_right _ (List.mem_append_right _ (List.mem_append_left _ (List.mem_of_getElem? (i := 89) rfl : _ ∈ tables_1_5)))))))
set_option maxRecDepth 20000 in
theorem zN_5 : Cond.methodLinkNest RX1 27 yX4_init RX11 ∈ lw_tbl := (List.mem_append_right (k2_sels lw_privs) (show _ ∈ tables_1 from List.mem_append_right _ (List.mem_append_left _ (List.mem_of_getElem? (i := 85) rfl : _ ∈ tables_1_2))))
set_option maxRecDepth 20000 in
theorem zN_6 : Cond.methodLinkNest RX3 45 yX4_init RX11 ∈ lw_tbl := (List.mem_append_right (k2_sels lw_privs) (show _ ∈ tables_1 from List.mem_append_right _ (List.mem_append_left _ (List.mem_of_getElem? (i := 35) rfl : _ ∈ tables_1_2))))
set_option maxRecDepth 20000 in
theorem zN_7 : Cond.methodLinkNest RX6 25 yX4_init RX11 ∈ lw_tbl := (List.mem_append_right (k2_sels lw_privs) (show _ ∈ tables_1 from List.mem_append_right _ (List.mem_append_left _ (List.mem_of_getElem? (i := 17) rfl : _ ∈ tables_1_2))))
set_option maxRecDepth 20000 in
theorem zN_8 : Cond.methodLinkNest RX8 48 yX4_init RX11 ∈ lw_tbl := (List.mem_append_right (k2_sels lw_privs) (show _ ∈ tables_1 from List.mem_append_right _ (List.mem_append_left _ (List.mem_of_getElem? (i := 179) rfl : _ ∈ tables_1_2))))
set_option maxRecDepth 20000 in
theorem zN_9 : Cond.methodLinkNest RX10 52 yX4_init RX11 ∈ lw_tbl := (List.mem_append_right (k2_sels lw_privs) (show _ ∈ tables_1 from List.mem_append_left _ (List.mem_of_getElem? (i := 38) rfl : _ ∈ tables_1_1)))
theorem zN_of {b : Nat} {s : State} (h : ∀ w ∈ lw_tbl, w.before #[Value.ref b] s = true) : zN s := by
  refine ⟨va_AO.of (h _ zN_ao), fun w hw => ?_⟩
  simp only [zNest, List.mem_cons, List.not_mem_nil, or_false] at hw
  rcases hw with rfl | rfl | rfl | rfl | rfl | rfl | rfl | rfl | rfl | rfl
  · exact va_Nw.of rfl (h _ zN_0)
  · exact va_Nw.of rfl (h _ zN_1)
  · exact va_Nw.of rfl (h _ zN_2)
  · exact va_Nw.of rfl (h _ zN_3)
  · exact va_Nw.of rfl (h _ zN_4)
  · exact va_Nw.of rfl (h _ zN_5)
  · exact va_Nw.of rfl (h _ zN_6)
  · exact va_Nw.of rfl (h _ zN_7)
  · exact va_Nw.of rfl (h _ zN_8)
  · exact va_Nw.of rfl (h _ zN_9)
set_option maxRecDepth 20000 in
theorem zS_0 : Cond.stringRef RX9 55 "by" ∈ lw_tbl := (List.mem_append_right (k2_sels lw_privs) (show _ ∈ tables_1 from List.mem_append_right _ (List.mem_append_right _ (List.mem_append_left _ (List.mem_of_getElem? (i := 139) rfl : _ ∈ tables_1_3)))))
set_option maxRecDepth 20000 in
theorem zS_1 : Cond.stringRef RX9 61 "at" ∈ lw_tbl := (List.mem_append_right (k2_sels lw_privs) (show _ ∈ tables_1 from List.mem_append_right _ (List.mem_append_right _ (List.mem_append_left _ (List.mem_of_getElem? (i := 192) rfl : _ ∈ tables_1_3)))))
set_option maxRecDepth 20000 in
theorem zS_2 : Cond.stringRef RX9 69 "forward" ∈ lw_tbl := (List.mem_append_right (k2_sels lw_privs) (show _ ∈ tables_1 from List.mem_append_right _ (List.mem_append_right _ (List.mem_append_left _ (List.mem_of_getElem? (i := 209) rfl : _ ∈ tables_1_3)))))
set_option maxRecDepth 20000 in
theorem zS_3 : Cond.stringRef RX9 71 "king" ∈ lw_tbl := (List.mem_append_right (k2_sels lw_privs) (show _ ∈ tables_1 from List.mem_append_right _ (List.mem_append_right _ (List.mem_append_left _ (List.mem_of_getElem? (i := 197) rfl : _ ∈ tables_1_3)))))
set_option maxRecDepth 20000 in
theorem zS_4 : Cond.stringRef RX9 73 "leap" ∈ lw_tbl := (List.mem_append_right (k2_sels lw_privs) (show _ ∈ tables_1 from List.mem_append_right _ (List.mem_append_right _ (List.mem_append_left _ (List.mem_of_getElem? (i := 198) rfl : _ ∈ tables_1_3)))))
set_option maxRecDepth 20000 in
theorem zS_5 : Cond.stringRef RX9 75 "ride" ∈ lw_tbl := (List.mem_append_right (k2_sels lw_privs) (show _ ∈ tables_1 from List.mem_append_right _ (List.mem_append_right _ (List.mem_append_left _ (List.mem_of_getElem? (i := 199) rfl : _ ∈ tables_1_3)))))
set_option maxRecDepth 20000 in
theorem zS_6 : Cond.stringRef RX9 77 "board" ∈ lw_tbl := (List.mem_append_right (k2_sels lw_privs) (show _ ∈ tables_1 from List.mem_append_right _ (List.mem_append_right _ (List.mem_append_left _ (List.mem_of_getElem? (i := 204) rfl : _ ∈ tables_1_3)))))
set_option maxRecDepth 20000 in
theorem zS_7 : Cond.stringRef RX9 79 "piece" ∈ lw_tbl := (List.mem_append_right (k2_sels lw_privs) (show _ ∈ tables_1 from List.mem_append_right _ (List.mem_append_right _ (List.mem_append_left _ (List.mem_of_getElem? (i := 205) rfl : _ ∈ tables_1_3)))))
set_option maxRecDepth 20000 in
theorem zS_8 : Cond.stringRef RX9 81 "white" ∈ lw_tbl := (List.mem_append_right (k2_sels lw_privs) (show _ ∈ tables_1 from List.mem_append_right _ (List.mem_append_right _ (List.mem_append_left _ (List.mem_of_getElem? (i := 206) rfl : _ ∈ tables_1_3)))))
set_option maxRecDepth 20000 in
theorem zS_9 : Cond.stringRef RX9 83 "black" ∈ lw_tbl := (List.mem_append_right (k2_sels lw_privs) (show _ ∈ tables_1 from List.mem_append_right _ (List.mem_append_right _ (List.mem_append_left _ (List.mem_of_getElem? (i := 207) rfl : _ ∈ tables_1_3)))))
set_option maxRecDepth 20000 in
theorem zS_10 : Cond.stringRef RX9 85 "flash" ∈ lw_tbl := (List.mem_append_right (k2_sels lw_privs) (show _ ∈ tables_1 from List.mem_append_right _ (List.mem_append_right _ (List.mem_append_left _ (List.mem_of_getElem? (i := 208) rfl : _ ∈ tables_1_3)))))
set_option maxRecDepth 20000 in
theorem zS_l1 : Cond.laysStatic "java/lang/String" "COMPACT_STRINGS" "Z" ∈ lw_tbl := (List.mem_append_right (k2_sels lw_privs) (show _ ∈ tables_1 from List.mem_append_right _ (List.mem_append_right _ (List.mem_append_left _ (List.mem_of_getElem? (i := 153) rfl : _ ∈ tables_1_3)))))
set_option maxRecDepth 20000 in
theorem zS_l2 : Cond.laysStatic "jdk/internal/util/Preconditions" "SIOOBE_FORMATTER" "Ljava/util/function/BiFunction;" ∈ lw_tbl := (List.mem_append_right (k2_sels lw_privs) (show _ ∈ tables_1 from List.mem_append_right _ (List.mem_append_right _ (List.mem_append_left _ (List.mem_of_getElem? (i := 169) rfl : _ ∈ tables_1_3)))))
set_option maxRecDepth 20000 in
theorem zS_i1 : Cond.initialized "java/lang/String" ∈ lw_tbl := (List.mem_append_right (k2_sels lw_privs) (show _ ∈ tables_1 from List.mem_append_left _ (List.mem_of_getElem? (i := 17) rfl : _ ∈ tables_1_1)))
set_option maxRecDepth 20000 in
theorem zS_i2 : Cond.initialized "jdk/internal/util/Preconditions" ∈ lw_tbl := (List.mem_append_right (k2_sels lw_privs) (show _ ∈ tables_1 from List.mem_append_left _ (List.mem_of_getElem? (i := 19) rfl : _ ∈ tables_1_1)))
def zSm (i : Nat) : Term := .string RX9 (zsi i).1
abbrev zPre : Cond := Jvm.Cond.and given_1 narrow_1
set_option maxRecDepth 100000 in
theorem zP_ex : ∀ i, i < 11 → Cond.exactly (zSm i) "java/lang/String" ∈ flatC zPre := by decide +kernel
set_option maxRecDepth 100000 in
theorem zP_co : ∀ i, i < 11 → Cond.eq (.field (zSm i) "java/lang/String" "coder" "B") (.int 0) ∈ flatC zPre := by decide +kernel
set_option maxRecDepth 100000 in
theorem zP_ar : ∀ i, i < 11 → Cond.arrayOf (.field (zSm i) "java/lang/String" "value" "[B") .byte ∈ flatC zPre := by decide +kernel
set_option maxRecDepth 100000 in
theorem zP_le : ∀ i, i < 11 → Cond.eq (.length (.field (zSm i) "java/lang/String" "value" "[B")) (.int (Int32.ofNat (zln.getD i 0))) ∈ flatC zPre := by decide +kernel
set_option maxRecDepth 100000 in
theorem zP_el : ∀ i, i < 11 → ∀ j, j < zln.getD i 0 → Cond.eq (.elem (.field (zSm i) "java/lang/String" "value" "[B") (.int (Int32.ofNat j))) (.int ((zby.getD i []).getD j 0)) ∈ flatC zPre := by decide +kernel
set_option maxRecDepth 100000 in
theorem zP_ne : ∀ i, i < 11 → ∀ j, j < 11 → i ≠ j → (Cond.not (Cond.eq (zSm i) (zSm j)) ∈ flatC zPre ∨ Cond.not (Cond.eq (zSm j) (zSm i)) ∈ flatC zPre) := by decide +kernel
set_option maxRecDepth 100000 in
theorem zP_c1 : Cond.eq (.static "java/lang/String" "COMPACT_STRINGS" "Z") (.int 1) ∈ flatC zPre := by decide +kernel
set_option maxRecDepth 100000 in
theorem zP_c2 : Cond.isRef (.static "jdk/internal/util/Preconditions" "SIOOBE_FORMATTER" "Ljava/util/function/BiFunction;") ∈ flatC zPre := by decide +kernel
theorem zS_ref {b : Nat} {s : State} (h : ∀ w ∈ lw_tbl, w.before #[Value.ref b] s = true) : ∀ i : Nat, i < 11 → (Cond.stringRef RX9 (zsi i).1 (zsi i).2).before #[Value.ref b] s = true := fun i hi => match i, hi with
  | 0, _ => h _ zS_0
  | 1, _ => h _ zS_1
  | 2, _ => h _ zS_2
  | 3, _ => h _ zS_3
  | 4, _ => h _ zS_4
  | 5, _ => h _ zS_5
  | 6, _ => h _ zS_6
  | 7, _ => h _ zS_7
  | 8, _ => h _ zS_8
  | 9, _ => h _ zS_9
  | 10, _ => h _ zS_10
  | i + 11, hi => absurd hi (by omega)
theorem zSt_of {b : Nat} {s : State} (h : ∀ w ∈ lw_tbl, w.before #[Value.ref b] s = true) (hg : zPre.before #[Value.ref b] s = true) : ∃ S T : Nat → Nat, ∀ E : zE, eS E = S → eT E = T → (∀ a : Nat, a < s.heap.size → eK E a = 0) → zSt E s := by
  have hs := flat_of_before _ hg
  have hN : ∀ i : Nat, i < 11 → zln.getD i 0 < 2 ^ 31 := by decide
  obtain ⟨S, T, hS, hev⟩ := vk_Sof (args := #[Value.ref b]) (s := s) (N := 11) (tm := zSm) (len := zln) (byt := zby) (A := fun a => s.heap.size ≤ a) hN (fun i hi => hs _ (zP_ex i hi)) (fun i hi => hs _ (zP_co i hi)) (fun i hi => hs _ (zP_ar i hi)) (fun i hi => hs _ (zP_le i hi)) (fun i hi j hj => hs _ (zP_el i hi j hj)) (fun i j hi hj hne => (zP_ne i hi j hj hne).elim (fun q => Or.inl (hs _ q)) (fun q => Or.inr (hs _ q))) (fun a ha => Nat.not_le.mpr ha)
  refine ⟨S, T, fun E e1 e2 hA => ?_⟩
  have hB : ∀ q, zfr E q → s.heap.size ≤ q := fun q hq => Classical.byContradiction (fun hn => hq (hA q (Nat.not_le.mp hn)))
  refine ⟨fun i hi => ?_, ?_, ?_, ?_⟩
  · rw [e1]; exact vk_R.of (zS_ref h i hi) (hev i hi)
  · rw [e1, e2]; exact hS.narrow hB
  · exact va_Zof (h _ zS_l1) (h _ zS_i1) (va_eqi (hs _ zP_c1)) (fun a ha hq => absurd (hB a hq) (Nat.not_le.mpr ha))
  · exact va_Zqof (h _ zS_l2) (h _ zS_i2) (hs _ zP_c2) (fun a ha hq => absurd (hB a hq) (Nat.not_le.mpr ha))
