set_option maxRecDepth 20000 in
theorem zN_ao : Cond.arrayOver (.object RX4) ∈ lw_tbl := (List.mem_append_right (k2_sels lw_privs) (show _ ∈ tables_1 from List.mem_append_right _ (List.mem_append_left _ (List.mem_of_getElem? (i := 16) rfl : _ ∈ tables_1_2))))
set_option maxRecDepth 20000 in
theorem zN_0 : Cond.methodLinkNest RX11 19 yX10_init RX11 ∈ lw_tbl := (List.mem_append_right (k2_sels lw_privs) (show _ ∈ tables_1 from List.mem_append_left _ (List.mem_of_getElem? (i := 32) rfl : _ ∈ tables_1_1)))
set_option maxRecDepth 20000 in
theorem zN_1 : Cond.methodLinkNest RX11 38 yX2_init RX11 ∈ lw_tbl := (List.mem_append_right (k2_sels lw_privs) (show _ ∈ tables_1 from List.mem_append_left _ (List.mem_of_getElem? (i := 205) rfl : _ ∈ tables_1_1)))
set_option maxRecDepth 20000 in
theorem zN_2 : Cond.methodLinkNest RX11 70 yX0_init RX11 ∈ lw_tbl := (List.mem_append_right (k2_sels lw_privs) (show _ ∈ tables_1 from List.mem_append_right _ (List.mem_append_left _ (List.mem_of_getElem? (i := 110) rfl : _ ∈ tables_1_2))))
set_option maxRecDepth 20000 in
theorem zN_3 : Cond.methodLinkNest RX11 77 yX7_init RX11 ∈ lw_tbl := (List.mem_append_right (k2_sels lw_privs) (show _ ∈ tables_1 from List.mem_append_right _ (List.mem_append_left _ (List.mem_of_getElem? (i := 141) rfl : _ ∈ tables_1_2))))
set_option maxRecDepth 20000 in
theorem zN_4 : Cond.methodLinkNest RX11 232 yX8_goOn RX11 ∈ lw_tbl := (List.mem_append_right (k2_sels lw_privs) (show _ ∈ tables_1 from List.mem_append_right _ (List.mem_append_right _ (List.mem_append_right _ (List.mem_append_right _ (List.mem_append_left _ (List.mem_of_getElem? (i := 89) rfl : _ ∈ tables_1_5)))))))
set_option maxRecDepth 20000 in
theorem zN_5 : Cond.methodLinkNest RX1 27 yX4_init RX11 ∈ lw_tbl := (List.mem_append_right (k2_sels lw_privs) (show _ ∈ tables_1 from List.mem_append_right _ (List.mem_append_left _ (List.mem_of_getElem? (i := 85) rfl : _ ∈ tables_1_2))))
set_option maxRecDepth 20000 in
theorem zN_6 : Cond.methodLinkNest RX3 45 yX4_init RX11 ∈ lw_tbl := (List.mem_append_right (k2_sels lw_privs) (show _ ∈ tables_1 from List.mem_append_right _ (List.mem_append_left _ (List.mem_of_getElem? (i := 35) rfl : _ ∈ tables_1_2))))
set_option maxRecDepth 20000 in
theorem zN_7 : Cond.methodLinkNest RX6 25 yX4_init RX11 ∈ lw_tbl := (List.mem_append_right (k2_sels lw_privs) (show _ ∈ tables_1 from List.mem_append_right _ (List.mem_append_left _ (List.mem_of_getElem? (i := 17) rfl : _ ∈ tables_1_2))))
set_option maxRecDepth 20000 in
theorem zN_8 : Cond.methodLinkNest RX8 48 yX4_init RX11 ∈ lw_tbl := (List.mem_append_right (k2_sels lw_privs) (show _ ∈ tables_1 from List.mem_append_right _ (List.mem_append_left _ (List.mem_of_getElem? (i := 179) rfl : _ ∈ tables_1_2))))
set_option maxRecDepth 20000 in
theorem zN_9 : Cond.methodLinkNest RX10 52 yX4_init RX11 ∈ lw_tbl := (List.mem_append_right (k2_sels lw_privs) (show _ ∈ tables_1 from List.mem_append_left _ (List.mem_of_getElem? (i := 38) rfl : _ ∈ tables_1_1)))
theorem zN_of {b : Nat} {s : State} (h : ∀ w ∈ lw_tbl, w.before #[Value.ref b] s = true) : zN s := by
  refine ⟨va_AO.of (h _ zN_ao), fun w hw => ?_⟩
  simp only [zNest, List.mem_cons, List.not_mem_nil, or_false] at hw
  rcases hw with rfl | rfl | rfl | rfl | rfl | rfl | rfl | rfl | rfl | rfl
  · exact va_Nw.of rfl (h _ zN_0)
  · exact va_Nw.of rfl (h _ zN_1)
  · exact va_Nw.of rfl (h _ zN_2)
  · exact va_Nw.of rfl (h _ zN_3)
  · exact va_Nw.of rfl (h _ zN_4)
  · exact va_Nw.of rfl (h _ zN_5)
  · exact va_Nw.of rfl (h _ zN_6)
  · exact va_Nw.of rfl (h _ zN_7)
  · exact va_Nw.of rfl (h _ zN_8)
  · exact va_Nw.of rfl (h _ zN_9)
