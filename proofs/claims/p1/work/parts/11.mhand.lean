theorem dX12_areAlike_0 : decode cX12_areAlike 0 = .ok (.iconst 0, 1) := by decide +kernel
theorem dX12_areAlike_1 : decode cX12_areAlike 1 = .ok (.istore_n 3, 1) := by decide +kernel
theorem dX12_areAlike_10 : decode cX12_areAlike 10 = .ok (.iload_n 3, 1) := by decide +kernel
theorem dX12_areAlike_11 : decode cX12_areAlike 11 = .ok (.invokevirtual 257, 3) := by decide +kernel
theorem dX12_areAlike_14 : decode cX12_areAlike 14 = .ok (.aload_n 0, 1) := by decide +kernel
theorem dX12_areAlike_15 : decode cX12_areAlike 15 = .ok (.iload_n 2, 1) := by decide +kernel
theorem dX12_areAlike_16 : decode cX12_areAlike 16 = .ok (.iload_n 3, 1) := by decide +kernel
theorem dX12_areAlike_17 : decode cX12_areAlike 17 = .ok (.invokevirtual 257, 3) := by decide +kernel
theorem dX12_areAlike_2 : decode cX12_areAlike 2 = .ok (.iload_n 3, 1) := by decide +kernel
theorem dX12_areAlike_20 : decode cX12_areAlike 20 = .ok (.if_icmp .eq 5, 3) := by decide +kernel
theorem dX12_areAlike_25 : decode cX12_areAlike 25 = .ok (.iinc 3 1, 3) := by decide +kernel
theorem dX12_areAlike_28 : decode cX12_areAlike 28 = .ok (.goto (-26), 3) := by decide +kernel
theorem dX12_areAlike_3 : decode cX12_areAlike 3 = .ok (.bipush 31, 2) := by decide +kernel
theorem dX12_areAlike_31 : decode cX12_areAlike 31 = .ok (.iconst 1, 1) := by decide +kernel
theorem dX12_areAlike_32 : decode cX12_areAlike 32 = .ok (.ireturn, 1) := by decide +kernel
theorem dX12_areAlike_5 : decode cX12_areAlike 5 = .ok (.if_icmp .ge 26, 3) := by decide +kernel
theorem dX12_areAlike_8 : decode cX12_areAlike 8 = .ok (.aload_n 0, 1) := by decide +kernel
theorem dX12_areAlike_9 : decode cX12_areAlike 9 = .ok (.iload_n 1, 1) := by decide +kernel
theorem dX12_bitsOf_0 : decode cX12_bitsOf 0 = .ok (.iconst 0, 1) := by decide +kernel
theorem dX12_bitsOf_1 : decode cX12_bitsOf 1 = .ok (.istore_n 1, 1) := by decide +kernel
theorem dX12_bitsOf_10 : decode cX12_bitsOf 10 = .ok (.iload_n 1, 1) := by decide +kernel
theorem dX12_bitsOf_11 : decode cX12_bitsOf 11 = .ok (.iload_n 0, 1) := by decide +kernel
theorem dX12_bitsOf_12 : decode cX12_bitsOf 12 = .ok (.iload_n 2, 1) := by decide +kernel
theorem dX12_bitsOf_13 : decode cX12_bitsOf 13 = .ok (.ishr, 1) := by decide +kernel
theorem dX12_bitsOf_14 : decode cX12_bitsOf 14 = .ok (.iconst 1, 1) := by decide +kernel
theorem dX12_bitsOf_15 : decode cX12_bitsOf 15 = .ok (.iand, 1) := by decide +kernel
theorem dX12_bitsOf_16 : decode cX12_bitsOf 16 = .ok (.iadd, 1) := by decide +kernel
theorem dX12_bitsOf_17 : decode cX12_bitsOf 17 = .ok (.istore_n 1, 1) := by decide +kernel
theorem dX12_bitsOf_18 : decode cX12_bitsOf 18 = .ok (.iinc 2 1, 3) := by decide +kernel
theorem dX12_bitsOf_2 : decode cX12_bitsOf 2 = .ok (.iconst 0, 1) := by decide +kernel
theorem dX12_bitsOf_21 : decode cX12_bitsOf 21 = .ok (.goto (-17), 3) := by decide +kernel
theorem dX12_bitsOf_24 : decode cX12_bitsOf 24 = .ok (.iload_n 1, 1) := by decide +kernel
theorem dX12_bitsOf_25 : decode cX12_bitsOf 25 = .ok (.ireturn, 1) := by decide +kernel
theorem dX12_bitsOf_3 : decode cX12_bitsOf 3 = .ok (.istore_n 2, 1) := by decide +kernel
theorem dX12_bitsOf_4 : decode cX12_bitsOf 4 = .ok (.iload_n 2, 1) := by decide +kernel
theorem dX12_bitsOf_5 : decode cX12_bitsOf 5 = .ok (.bipush 31, 2) := by decide +kernel
theorem dX12_bitsOf_7 : decode cX12_bitsOf 7 = .ok (.if_icmp .ge 17, 3) := by decide +kernel
theorem dX12_copy_0 : decode cX12_copy 0 = .ok (.iconst 0, 1) := by decide +kernel
theorem dX12_copy_1 : decode cX12_copy 1 = .ok (.istore_n 3, 1) := by decide +kernel
theorem dX12_copy_10 : decode cX12_copy 10 = .ok (.iload_n 3, 1) := by decide +kernel
theorem dX12_copy_11 : decode cX12_copy 11 = .ok (.aload_n 0, 1) := by decide +kernel
theorem dX12_copy_12 : decode cX12_copy 12 = .ok (.iload_n 1, 1) := by decide +kernel
theorem dX12_copy_13 : decode cX12_copy 13 = .ok (.iload_n 3, 1) := by decide +kernel
theorem dX12_copy_14 : decode cX12_copy 14 = .ok (.invokevirtual 257, 3) := by decide +kernel
theorem dX12_copy_17 : decode cX12_copy 17 = .ok (.invokevirtual 210, 3) := by decide +kernel
theorem dX12_copy_2 : decode cX12_copy 2 = .ok (.iload_n 3, 1) := by decide +kernel
theorem dX12_copy_20 : decode cX12_copy 20 = .ok (.iinc 3 1, 3) := by decide +kernel
theorem dX12_copy_23 : decode cX12_copy 23 = .ok (.goto (-21), 3) := by decide +kernel
theorem dX12_copy_26 : decode cX12_copy 26 = .ok (.return_, 1) := by decide +kernel
theorem dX12_copy_3 : decode cX12_copy 3 = .ok (.bipush 31, 2) := by decide +kernel
theorem dX12_copy_5 : decode cX12_copy 5 = .ok (.if_icmp .ge 21, 3) := by decide +kernel
theorem dX12_copy_8 : decode cX12_copy 8 = .ok (.aload_n 0, 1) := by decide +kernel
theorem dX12_copy_9 : decode cX12_copy 9 = .ok (.iload_n 2, 1) := by decide +kernel
theorem dX12_of_0 : decode cX12_of 0 = .ok (.aload_n 0, 1) := by decide +kernel
theorem dX12_of_1 : decode cX12_of 1 = .ok (.getfield 16, 3) := by decide +kernel
theorem dX12_of_10 : decode cX12_of 10 = .ok (.iaload, 1) := by decide +kernel
theorem dX12_of_11 : decode cX12_of 11 = .ok (.ireturn, 1) := by decide +kernel
theorem dX12_of_4 : decode cX12_of 4 = .ok (.bipush 31, 2) := by decide +kernel
theorem dX12_of_6 : decode cX12_of 6 = .ok (.iload_n 1, 1) := by decide +kernel
theorem dX12_of_7 : decode cX12_of 7 = .ok (.imul, 1) := by decide +kernel
theorem dX12_of_8 : decode cX12_of 8 = .ok (.iload_n 2, 1) := by decide +kernel
theorem dX12_of_9 : decode cX12_of 9 = .ok (.iadd, 1) := by decide +kernel
theorem dX12_put_0 : decode cX12_put 0 = .ok (.aload_n 0, 1) := by decide +kernel
theorem dX12_put_1 : decode cX12_put 1 = .ok (.getfield 16, 3) := by decide +kernel
theorem dX12_put_10 : decode cX12_put 10 = .ok (.iload_n 3, 1) := by decide +kernel
theorem dX12_put_11 : decode cX12_put 11 = .ok (.iastore, 1) := by decide +kernel
theorem dX12_put_12 : decode cX12_put 12 = .ok (.return_, 1) := by decide +kernel
theorem dX12_put_4 : decode cX12_put 4 = .ok (.bipush 31, 2) := by decide +kernel
theorem dX12_put_6 : decode cX12_put 6 = .ok (.iload_n 1, 1) := by decide +kernel
theorem dX12_put_7 : decode cX12_put 7 = .ok (.imul, 1) := by decide +kernel
theorem dX12_put_8 : decode cX12_put 8 = .ok (.iload_n 2, 1) := by decide +kernel
theorem dX12_put_9 : decode cX12_put 9 = .ok (.iadd, 1) := by decide +kernel
set_option maxRecDepth 20000 in
theorem ggX12_areAlike_X12_of : GoodIn wsX12_areAlike wsX12_of := goodIn_r _ [5, 6, 7, 8, 9, 10, 11, 12, 13, 14, 15, 16, 17, 18, 19, 20, 21, 22, 23, 24, 25, 26, 27, 28, 29, 30, 31, 32, 33, 34, 35, 36, 37, 38, 39, 40, 41, 42, 43, 44, 45, 46, 47, 48, 49, 50, 51, 52, 53, 54, 55, 56, 57, 58, 59, 60, 61] (by decide +kernel) (by decide +kernel)
set_option maxRecDepth 20000 in
theorem gX12_areAlike_X12_of : GoodIn wsX12_areAlike (wsV RX12 257 RX12 yX12_of wsX12_of) := goodIn_app (goodIn_of _ (by decide +kernel)) ggX12_areAlike_X12_of
set_option maxRecDepth 20000 in
theorem ggX12_copy_X12_of : GoodIn wsX12_copy wsX12_of := goodIn_r _ [5, 6, 11, 12, 13, 14, 15, 16, 17, 18, 19, 20, 21, 22, 23, 24, 25, 26, 27, 28, 29, 30, 31, 32, 33, 34, 35, 36, 37, 38, 39, 40, 41, 42, 43, 44, 45, 46, 47, 48, 49, 50, 51, 52, 53, 54, 55, 56, 57, 58, 59, 60, 61, 62, 63, 64, 65] (by decide +kernel) (by decide +kernel)
set_option maxRecDepth 20000 in
theorem gX12_copy_X12_of : GoodIn wsX12_copy (wsV RX12 257 RX12 yX12_of wsX12_of) := goodIn_app (goodIn_of _ (by decide +kernel)) ggX12_copy_X12_of
set_option maxRecDepth 20000 in
theorem ggX12_copy_X12_put : GoodIn wsX12_copy wsX12_put := goodIn_r _ [10, 6, 11, 12, 13, 14, 15, 16, 17, 18, 19, 20, 21, 22, 23, 24, 25, 26, 27, 28, 29, 30, 31, 32, 33, 34, 35, 36, 37, 38, 39, 40, 41, 42, 43, 44, 45, 46, 47, 48, 49, 50, 51, 52, 53, 54, 55, 56, 57, 58, 59, 60, 61, 62, 63, 64, 65] (by decide +kernel) (by decide +kernel)
set_option maxRecDepth 20000 in
theorem gX12_copy_X12_put : GoodIn wsX12_copy (wsV RX12 210 RX12 yX12_put wsX12_put) := goodIn_app (goodIn_of _ (by decide +kernel)) ggX12_copy_X12_put

theorem iuX12_of_X12 : ∀ w ∈ u_ws RX12 TX12 55, w ∈ wsX12_of := fun _ h => List.mem_cons_of_mem _ (List.mem_append_right _ h)
theorem iuX12_put_X12 : ∀ w ∈ u_ws RX12 TX12 55, w ∈ wsX12_put := fun _ h => List.mem_cons_of_mem _ (List.mem_append_right _ h)
set_option maxHeartbeats 4000000 in
set_option maxRecDepth 100000 in
theorem zof (l : Launch) (D : va_G) (h0 q0 : Nat) (k0 : ClassId) (f : Nat → Int32) (fs : List Value) (a b : Nat) (sz : Nat) (hfs : fs[2]? = some (.ref q0)) (hab : 31 * a + b < 6076) : Met l yX12_of wsX12_of ({ frames := 0, cells := 0, slots := 0, locals := 0 }) (zPre D [.ref h0, .int (nI a), .int (nI b)] [(h0, .inr (12, fs)), (q0, .inl (k0, 6076, .inl f))] [(k0, .int)] sz) ((fun A => va_Qi (fun (r : Int32) (u : Unit) => r = f (31 * a + b)) (zB D A (fun (u : Unit) => [(h0, .inr (12, fs)), (q0, .inl (k0, 6076, .inl f))]) (fun _ => [])) A) (va_A [(h0, .inr (12, fs)), (q0, .inl (k0, 6076, .inl f))] sz)) 0 0 (va_A [(h0, .inr (12, fs)), (q0, .inl (k0, 6076, .inl f))] sz) := by
  refine zOfW (QF := fun A => va_Qi (fun (r : Int32) (u : Unit) => r = f (31 * a + b)) (zB D A (fun (u : Unit) => [(h0, .inr (12, fs)), (q0, .inl (k0, 6076, .inl f))]) (fun _ => [])) A) (cc := cX12_of) (maxL := 3) (ret := (some .int)) (by decide) rfl (Nat.le_of_ble_eq_true rfl) ?_
  intro p e s m below meth c A ls hx hb hr hml hts hown hlocks hin hA hS hP hD hK hN hl
  have hl : lv_has ls 3 [(0, .ref h0), (1, .int (nI a)), (2, .int (nI b))] := hl
  refine lv_aload_n hx hb dX12_of_0 rfl (lv_at hl 0 rfl) ?_
  refine va_get (D := D) (ci := 12) (v := .ref q0) (C := RX12) (T := TX12) (N := 55) hx hb hts iuX12_of_X12 hown hK hP 0 rfl rfl 2 (by decide) (hts (.fieldLink RX12 16 "StraitGameModel" "pool" "[I") (List.mem_of_getElem? (i := 1) rfl)) (fun _ h9 => h9) hfs dX12_of_1 ?_
  refine lv_bipush (v := 31) hx hb dX12_of_4 (by decide) ?_
  refine lv_iload_n hx hb dX12_of_6 rfl (lv_at hl 1 rfl) ?_
  refine lv_imul hx hb dX12_of_7 ?_
  refine z_top (y := nI (31 * a)) (pk_mul 31 a) ?_
  refine lv_iload_n hx hb dX12_of_8 rfl (lv_at hl 2 rfl) ?_
  refine lv_iadd hx hb dX12_of_9 ?_
  refine z_top (y := nI (31 * a + b)) (nI_add (31 * a) b) ?_
  refine va_iald hx hb hK hP 1 0 rfl rfl (vp_in_nI hab (by decide)) dX12_of_10 ?_
  refine z_top (y := f (31 * a + b)) (congrArg f (nI_clamp (by omega))) ?_
  exact zret_i hx hb hr hlocks hP hD hK hS () rfl [0, 1] [] (by decide) rfl rfl (Nat.le_refl _) (Nat.le_refl _) dX12_of_11
set_option maxHeartbeats 4000000 in
set_option maxRecDepth 100000 in
theorem zput (l : Launch) (D : va_G) (h0 q0 : Nat) (k0 : ClassId) (f : Nat → Int32) (fs : List Value) (a b : Nat) (v : Int32) (sz : Nat) (hfs : fs[2]? = some (.ref q0)) (hab : 31 * a + b < 6076) : Met l yX12_put wsX12_put ({ frames := 0, cells := 0, slots := 0, locals := 0 }) (zPre D [.ref h0, .int (nI a), .int (nI b), .int v] [(h0, .inr (12, fs)), (q0, .inl (k0, 6076, .inl f))] [(k0, .int)] sz) ((fun A => va_Qv (fun (u : Unit) => True) (zB D A (fun (u : Unit) => [(h0, .inr (12, fs)), (q0, .inl (k0, 6076, .inl (upd f (31 * a + b) v)))]) (fun _ => [])) A) (va_A [(h0, .inr (12, fs)), (q0, .inl (k0, 6076, .inl f))] sz)) 0 0 (va_A [(h0, .inr (12, fs)), (q0, .inl (k0, 6076, .inl f))] sz) := by
  refine zOfW (QF := fun A => va_Qv (fun (u : Unit) => True) (zB D A (fun (u : Unit) => [(h0, .inr (12, fs)), (q0, .inl (k0, 6076, .inl (upd f (31 * a + b) v)))]) (fun _ => [])) A) (cc := cX12_put) (maxL := 4) (ret := none) (by decide) rfl (Nat.le_of_ble_eq_true rfl) ?_
  intro p e s m below meth c A ls hx hb hr hml hts hown hlocks hin hA hS hP hD hK hN hl
  have hl : lv_has ls 4 [(0, .ref h0), (1, .int (nI a)), (2, .int (nI b)), (3, .int v)] := hl
  refine lv_aload_n hx hb dX12_put_0 rfl (lv_at hl 0 rfl) ?_
  refine va_get (D := D) (ci := 12) (v := .ref q0) (C := RX12) (T := TX12) (N := 55) hx hb hts iuX12_put_X12 hown hK hP 0 rfl rfl 2 (by decide) (hts (.fieldLink RX12 16 "StraitGameModel" "pool" "[I") (List.mem_of_getElem? (i := 1) rfl)) (fun _ h9 => h9) hfs dX12_put_1 ?_
  refine lv_bipush (v := 31) hx hb dX12_put_4 (by decide) ?_
  refine lv_iload_n hx hb dX12_put_6 rfl (lv_at hl 1 rfl) ?_
  refine lv_imul hx hb dX12_put_7 ?_
  refine z_top (y := nI (31 * a)) (pk_mul 31 a) ?_
  refine lv_iload_n hx hb dX12_put_8 rfl (lv_at hl 2 rfl) ?_
  refine lv_iadd hx hb dX12_put_9 ?_
  refine z_top (y := nI (31 * a + b)) (nI_add (31 * a) b) ?_
  refine lv_iload_n hx hb dX12_put_10 rfl (lv_at hl 3 rfl) ?_
  refine va_iast hx hb hK hP hD hS 1 0 rfl rfl (vp_in_nI hab (by decide)) dX12_put_11 (fun H locs hP hD hS => ?_)
  rw [nI_clamp (by omega : 31 * a + b < 2 ^ 31)] at hP hD
  have hP : va_P D vwCl [(h0, .inr (12, fs)), (q0, .inl (k0, 6076, .inl (upd f (31 * a + b) v)))] H := hP
  have hD : va_D A [(h0, .inr (12, fs)), (q0, .inl (k0, 6076, .inl (upd f (31 * a + b) v)))] := hD
  exact zret_v hx hb hr hlocks hP hD hK hS () trivial [0, 1] [] (by decide) rfl rfl (Nat.le_refl _) (Nat.le_refl _) dX12_put_12
set_option maxHeartbeats 4000000 in
set_option maxRecDepth 100000 in
theorem zcopy (l : Launch) (D : va_G) (h0 q0 : Nat) (k0 : ClassId) (f : Nat → Int32) (fs : List Value) (a b : Nat) (sz : Nat) (hfs : fs[2]? = some (.ref q0)) (ha : 31 * a + 31 ≤ 6076) (hbb : 31 * b + 31 ≤ 6076) (hab : a ≠ b) : Met l yX12_copy wsX12_copy ({ frames := 1, cells := 0, slots := 0, locals := 23 }) (zPre D [.ref h0, .int (nI a), .int (nI b)] [(h0, .inr (12, fs)), (q0, .inl (k0, 6076, .inl f))] [(k0, .int)] sz) ((fun A => va_Qv (fun (u : Nat → Int32) => (∀ j, j < 31 → u (31 * b + j) = f (31 * a + j)) ∧ (∀ j, (j < 31 * b ∨ 31 * b + 31 ≤ j) → u j = f j)) (zB D A (fun (u : Nat → Int32) => [(h0, .inr (12, fs)), (q0, .inl (k0, 6076, .inl u))]) (fun _ => [])) A) (va_A [(h0, .inr (12, fs)), (q0, .inl (k0, 6076, .inl f))] sz)) 0 0 (va_A [(h0, .inr (12, fs)), (q0, .inl (k0, 6076, .inl f))] sz) := by
  refine zOfW (QF := fun A => va_Qv (fun (u : Nat → Int32) => (∀ j, j < 31 → u (31 * b + j) = f (31 * a + j)) ∧ (∀ j, (j < 31 * b ∨ 31 * b + 31 ≤ j) → u j = f j)) (zB D A (fun (u : Nat → Int32) => [(h0, .inr (12, fs)), (q0, .inl (k0, 6076, .inl u))]) (fun _ => [])) A) (cc := cX12_copy) (maxL := 4) (ret := none) (by decide) rfl (Nat.le_of_ble_eq_true rfl) ?_
  intro p e s m below meth c A ls hx hb hr hml hts hown hlocks hin hA hS hP hD hK hN hl
  have hl : lv_has ls 4 [(0, .ref h0), (1, .int (nI a)), (2, .int (nI b))] := hl
  refine lv_iconst (v := 0) hx hb dX12_copy_0 (by decide) ?_
  refine lv_istore_n (lv' := [(3, .int 0), (0, .ref h0), (1, .int (nI a)), (2, .int (nI b))]) hx hb dX12_copy_1 rfl hl (by decide) rfl (fun ls hl => ?_)
  have hloop : ∀ (n k : Nat) (g : Nat → Int32) (H : Heap) (locs : List Loc) (ls : Array Slot), k + n = 31 → (∀ j, j < k → g (31 * b + j) = f (31 * a + j)) → (∀ j, (j < 31 * b ∨ 31 * b + k ≤ j) → g j = f j) → va_P D vwCl [(h0, .inr (12, fs)), (q0, .inl (k0, 6076, .inl g))] H → va_D A [(h0, .inr (12, fs)), (q0, .inl (k0, 6076, .inl g))] → va_S A s.heap H locs → lv_has ls 4 [(3, .int (nI k)), (0, .ref h0), (1, .int (nI a)), (2, .int (nI b))] → W p l e ({ frames := 1, cells := 0, slots := 0, locals := 23 }) s m ([.ref h0, .int (nI a), .int (nI b)] : List Value).toArray below meth c H locs 0 0 (MQ below ((fun A => va_Qv (fun (u : Nat → Int32) => (∀ j, j < 31 → u (31 * b + j) = f (31 * a + j)) ∧ (∀ j, (j < 31 * b ∨ 31 * b + 31 ≤ j) → u j = f j)) (zB D A (fun (u : Nat → Int32) => [(h0, .inr (12, fs)), (q0, .inl (k0, 6076, .inl u))]) (fun _ => [])) A) A) ([.ref h0, .int (nI a), .int (nI b)] : List Value).toArray s 0 0 A) (F0 m 2 ls []) := by
    intro n
    induction n with
    | zero =>
      intro k g H locs ls hk h1 h2 hP hD hS hl
      obtain rfl : k = 31 := by omega
      refine lv_iload_n hx hb dX12_copy_2 rfl (lv_at hl 0 rfl) ?_
      refine lv_bipush (v := 31) hx hb dX12_copy_3 (by decide) ?_
      refine lv_icmp_ge (tgt := 26) hx hb dX12_copy_5 (by decide) (fun _ => ?_) (fun h9 => absurd (by decide) h9)
      exact zret_v hx hb hr hlocks hP hD hK hS g ⟨h1, h2⟩ [0, 1] [] (by decide) rfl rfl (Nat.le_refl _) (Nat.le_refl _) dX12_copy_26
    | succ n ih =>
      intro k g H locs ls hk h1 h2 hP hD hS hl
      refine lv_iload_n hx hb dX12_copy_2 rfl (lv_at hl 0 rfl) ?_
      refine lv_bipush (v := 31) hx hb dX12_copy_3 (by decide) ?_
      refine lv_icmp_ge (tgt := 26) hx hb dX12_copy_5 (by decide) (fun h9 => absurd h9 (nI_ge (by omega : k < 31) (by decide))) (fun _ => ?_)
      refine lv_aload_n hx hb dX12_copy_8 rfl (lv_at hl 1 rfl) ?_
      refine lv_iload_n hx hb dX12_copy_9 rfl (lv_at hl 3 rfl) ?_
      refine lv_iload_n hx hb dX12_copy_10 rfl (lv_at hl 0 rfl) ?_
      refine lv_aload_n hx hb dX12_copy_11 rfl (lv_at hl 1 rfl) ?_
      refine lv_iload_n hx hb dX12_copy_12 rfl (lv_at hl 2 rfl) ?_
      refine lv_iload_n hx hb dX12_copy_13 rfl (lv_at hl 0 rfl) ?_
      refine zA_i (zR_V (As := [.int (nI a), .int (nI k)]) (rest := [.int (nI k), .int (nI b), .ref h0]) ⟨hx, hb, hml, hown, hts⟩ (zof l D h0 q0 k0 g fs a k _ hfs (by omega)) (cwV 2 hts gX12_copy_X12_of rfl rfl rfl (by decide +kernel) ⟨(Nat.le_of_ble_eq_true rfl), (Nat.le_of_ble_eq_true rfl)⟩) hP hD hK hN [0, 1] [0] rfl (by decide) rfl 0 12 rfl rfl rfl hl.1 rfl (Nat.le_of_ble_eq_true rfl) dX12_copy_14 ⟨(Nat.le_of_ble_eq_true rfl), (Nat.le_of_ble_eq_true rfl)⟩) hP hD hK hS hA [0, 1] [] rfl rfl (by decide) (by decide) (fun r u H locs hw hP hD hK hS => ?_)
      have hK : va_K D vwCl [(k0, .int)] s := hK
      have hP : va_P D vwCl [(h0, .inr (12, fs)), (q0, .inl (k0, 6076, .inl g))] H := hP
      have hD : va_D A [(h0, .inr (12, fs)), (q0, .inl (k0, 6076, .inl g))] := hD
      have er : r = g (31 * a + k) := hw
      refine zA_v (zR_V (As := [.int (nI b), .int (nI k), .int r]) (rest := []) ⟨hx, hb, hml, hown, hts⟩ (zput l D h0 q0 k0 g fs b k r _ hfs (by omega)) (cwV 3 hts gX12_copy_X12_put rfl rfl rfl (by decide +kernel) ⟨(Nat.le_of_ble_eq_true rfl), (Nat.le_of_ble_eq_true rfl)⟩) hP hD hK hN [0, 1] [0] rfl (by decide) rfl 0 12 rfl rfl rfl hl.1 rfl (Nat.le_of_ble_eq_true rfl) dX12_copy_17 ⟨(Nat.le_of_ble_eq_true rfl), (Nat.le_of_ble_eq_true rfl)⟩) hP hD hK hS hA [0, 1] [] rfl rfl (by decide) (by decide) (fun u H locs hw hP hD hK hS => ?_)
      have hK : va_K D vwCl [(k0, .int)] s := hK
      have hP : va_P D vwCl [(h0, .inr (12, fs)), (q0, .inl (k0, 6076, .inl (upd g (31 * b + k) r)))] H := hP
      have hD : va_D A [(h0, .inr (12, fs)), (q0, .inl (k0, 6076, .inl (upd g (31 * b + k) r)))] := hD
      refine lv_iinc (v := nI (k + 1)) (lv' := [(3, .int (nI (k + 1))), (0, .ref h0), (1, .int (nI a)), (2, .int (nI b))]) hx hb dX12_copy_20 hl (k := 0) rfl (z_inc k 1) (by decide) rfl (fun ls hl => ?_)
      refine lv_goto (tgt := 2) hx hb dX12_copy_23 (by decide) ?_
      refine ih (k + 1) _ H locs ls (by omega) ?_ ?_ hP hD hS hl
      · intro j hj
        by_cases hjk : j = k
        · subst hjk; rw [pk_us, er]; exact h2 _ (by omega)
        · rw [pk_un (by omega)]; exact h1 j (by omega)
      · intro j hj
        rw [pk_un (by omega)]; exact h2 j (by omega)
  exact hloop 31 0 f _ _ ls (by decide) (fun j hj => absurd hj (Nat.not_lt_zero j)) (fun j _ => rfl) hP hD hS hl
set_option maxHeartbeats 4000000 in
set_option maxRecDepth 100000 in
theorem zalike (l : Launch) (D : va_G) (h0 q0 : Nat) (k0 : ClassId) (f : Nat → Int32) (fs : List Value) (sz : Nat) (hfs : fs[2]? = some (.ref q0)) (hal : ∀ j, j < 31 → f j = f (31 + j)) : Met l yX12_areAlike wsX12_areAlike ({ frames := 1, cells := 0, slots := 0, locals := 23 }) (zPre D [.ref h0, .int 0, .int 1] [(h0, .inr (12, fs)), (q0, .inl (k0, 6076, .inl f))] [(k0, .int)] sz) ((fun A => va_Qi (fun (r : Int32) (u : Unit) => r = 1) (zB D A (fun (u : Unit) => [(h0, .inr (12, fs)), (q0, .inl (k0, 6076, .inl f))]) (fun _ => [])) A) (va_A [(h0, .inr (12, fs)), (q0, .inl (k0, 6076, .inl f))] sz)) 0 0 (va_A [(h0, .inr (12, fs)), (q0, .inl (k0, 6076, .inl f))] sz) := by
  refine zOfW (QF := fun A => va_Qi (fun (r : Int32) (u : Unit) => r = 1) (zB D A (fun (u : Unit) => [(h0, .inr (12, fs)), (q0, .inl (k0, 6076, .inl f))]) (fun _ => [])) A) (cc := cX12_areAlike) (maxL := 4) (ret := (some .boolean)) (by decide) rfl (Nat.le_of_ble_eq_true rfl) ?_
  intro p e s m below meth c A ls hx hb hr hml hts hown hlocks hin hA hS hP hD hK hN hl
  have hl : lv_has ls 4 [(0, .ref h0), (1, .int 0), (2, .int 1)] := hl
  refine lv_iconst (v := 0) hx hb dX12_areAlike_0 (by decide) ?_
  refine lv_istore_n (lv' := [(3, .int 0), (0, .ref h0), (1, .int 0), (2, .int 1)]) hx hb dX12_areAlike_1 rfl hl (by decide) rfl (fun ls hl => ?_)
  have hloop : ∀ (n k : Nat) (H : Heap) (locs : List Loc) (ls : Array Slot), k + n = 31 → va_P D vwCl [(h0, .inr (12, fs)), (q0, .inl (k0, 6076, .inl f))] H → va_D A [(h0, .inr (12, fs)), (q0, .inl (k0, 6076, .inl f))] → va_S A s.heap H locs → lv_has ls 4 [(3, .int (nI k)), (0, .ref h0), (1, .int 0), (2, .int 1)] → W p l e ({ frames := 1, cells := 0, slots := 0, locals := 23 }) s m ([.ref h0, .int 0, .int 1] : List Value).toArray below meth c H locs 0 0 (MQ below ((fun A => va_Qi (fun (r : Int32) (u : Unit) => r = 1) (zB D A (fun (u : Unit) => [(h0, .inr (12, fs)), (q0, .inl (k0, 6076, .inl f))]) (fun _ => [])) A) A) ([.ref h0, .int 0, .int 1] : List Value).toArray s 0 0 A) (F0 m 2 ls []) := by
    intro n
    induction n with
    | zero =>
      intro k H locs ls hk hP hD hS hl
      obtain rfl : k = 31 := by omega
      refine lv_iload_n hx hb dX12_areAlike_2 rfl (lv_at hl 0 rfl) ?_
      refine lv_bipush (v := 31) hx hb dX12_areAlike_3 (by decide) ?_
      refine lv_icmp_ge (tgt := 31) hx hb dX12_areAlike_5 (by decide) (fun _ => ?_) (fun h9 => absurd (by decide) h9)
      refine lv_iconst (v := 1) hx hb dX12_areAlike_31 (by decide) ?_
      exact zret_z hx hb hr (by decide) hlocks hP hD hK hS () rfl [0, 1] [] (by decide) rfl rfl (Nat.le_refl _) (Nat.le_refl _) dX12_areAlike_32
    | succ n ih =>
      intro k H locs ls hk hP hD hS hl
      refine lv_iload_n hx hb dX12_areAlike_2 rfl (lv_at hl 0 rfl) ?_
      refine lv_bipush (v := 31) hx hb dX12_areAlike_3 (by decide) ?_
      refine lv_icmp_ge (tgt := 31) hx hb dX12_areAlike_5 (by decide) (fun h9 => absurd h9 (nI_ge (by omega : k < 31) (by decide))) (fun _ => ?_)
      refine lv_aload_n hx hb dX12_areAlike_8 rfl (lv_at hl 1 rfl) ?_
      refine lv_iload_n hx hb dX12_areAlike_9 rfl (lv_at hl 2 rfl) ?_
      refine lv_iload_n hx hb dX12_areAlike_10 rfl (lv_at hl 0 rfl) ?_
      refine zA_i (zR_V (As := [.int 0, .int (nI k)]) (rest := []) ⟨hx, hb, hml, hown, hts⟩ (zof l D h0 q0 k0 f fs 0 k _ hfs (by omega)) (cwV 2 hts gX12_areAlike_X12_of rfl rfl rfl (by decide +kernel) ⟨(Nat.le_of_ble_eq_true rfl), (Nat.le_of_ble_eq_true rfl)⟩) hP hD hK hN [0, 1] [0] rfl (by decide) rfl 0 12 rfl rfl rfl hl.1 rfl (Nat.le_of_ble_eq_true rfl) dX12_areAlike_11 ⟨(Nat.le_of_ble_eq_true rfl), (Nat.le_of_ble_eq_true rfl)⟩) hP hD hK hS hA [0, 1] [] rfl rfl (by decide) (by decide) (fun r u H locs hw hP hD hK hS => ?_)
      have hK : va_K D vwCl [(k0, .int)] s := hK
      have hP : va_P D vwCl [(h0, .inr (12, fs)), (q0, .inl (k0, 6076, .inl f))] H := hP
      have hD : va_D A [(h0, .inr (12, fs)), (q0, .inl (k0, 6076, .inl f))] := hD
      have er : r = f (31 * 0 + k) := hw
      refine lv_aload_n hx hb dX12_areAlike_14 rfl (lv_at hl 1 rfl) ?_
      refine lv_iload_n hx hb dX12_areAlike_15 rfl (lv_at hl 3 rfl) ?_
      refine lv_iload_n hx hb dX12_areAlike_16 rfl (lv_at hl 0 rfl) ?_
      refine zA_i (zR_V (As := [.int 1, .int (nI k)]) (rest := [.int r]) ⟨hx, hb, hml, hown, hts⟩ (zof l D h0 q0 k0 f fs 1 k _ hfs (by omega)) (cwV 2 hts gX12_areAlike_X12_of rfl rfl rfl (by decide +kernel) ⟨(Nat.le_of_ble_eq_true rfl), (Nat.le_of_ble_eq_true rfl)⟩) hP hD hK hN [0, 1] [0] rfl (by decide) rfl 0 12 rfl rfl rfl hl.1 rfl (Nat.le_of_ble_eq_true rfl) dX12_areAlike_17 ⟨(Nat.le_of_ble_eq_true rfl), (Nat.le_of_ble_eq_true rfl)⟩) hP hD hK hS hA [0, 1] [] rfl rfl (by decide) (by decide) (fun r2 u H locs hw hP hD hK hS => ?_)
      have hK : va_K D vwCl [(k0, .int)] s := hK
      have hP : va_P D vwCl [(h0, .inr (12, fs)), (q0, .inl (k0, 6076, .inl f))] H := hP
      have hD : va_D A [(h0, .inr (12, fs)), (q0, .inl (k0, 6076, .inl f))] := hD
      have er2 : r2 = f (31 * 1 + k) := hw
      have e3 : r = r2 := by
        rw [er, er2, show 31 * 0 + k = k by omega, show 31 * 1 + k = 31 + k by omega]
        exact hal k (by omega)
      refine lv_icmp_eq (tgt := 25) hx hb dX12_areAlike_20 (by decide) (fun _ => ?_) (fun h9 => absurd e3 h9)
      refine lv_iinc (v := nI (k + 1)) (lv' := [(3, .int (nI (k + 1))), (0, .ref h0), (1, .int 0), (2, .int 1)]) hx hb dX12_areAlike_25 hl (k := 0) rfl (z_inc k 1) (by decide) rfl (fun ls hl => ?_)
      refine lv_goto (tgt := 2) hx hb dX12_areAlike_28 (by decide) ?_
      exact ih (k + 1) H locs ls (by omega) hP hD hS hl
  exact hloop 31 0 _ _ ls (by decide) hP hD hS hl
theorem z_shr0 : ∀ k, k < 31 → ((0 : Int32) >>> (nI k &&& 31)) = 0 := by decide
set_option maxHeartbeats 4000000 in
set_option maxRecDepth 100000 in
theorem zbits0 (l : Launch) (D : va_G) (sz : Nat) : Met l yX12_bitsOf wsX12_bitsOf ({ frames := 0, cells := 0, slots := 0, locals := 0 }) (zPre D [.int 0] [] [] sz) ((fun A => va_Qi (fun (r : Int32) (u : Unit) => r = 0) (zB D A (fun (u : Unit) => []) (fun _ => [])) A) (va_A [] sz)) 0 0 (va_A [] sz) := by
  refine zOfW (QF := fun A => va_Qi (fun (r : Int32) (u : Unit) => r = 0) (zB D A (fun (u : Unit) => []) (fun _ => [])) A) (cc := cX12_bitsOf) (maxL := 3) (ret := (some .int)) (by decide) rfl (Nat.le_of_ble_eq_true rfl) ?_
  intro p e s m below meth c A ls hx hb hr hml hts hown hlocks hin hA hS hP hD hK hN hl
  have hl : lv_has ls 3 [(0, .int 0)] := hl
  refine lv_iconst (v := 0) hx hb dX12_bitsOf_0 (by decide) ?_
  refine lv_istore_n (lv' := [(1, .int 0), (0, .int 0)]) hx hb dX12_bitsOf_1 rfl hl (by decide) rfl (fun ls hl => ?_)
  refine lv_iconst (v := 0) hx hb dX12_bitsOf_2 (by decide) ?_
  refine lv_istore_n (lv' := [(2, .int 0), (1, .int 0), (0, .int 0)]) hx hb dX12_bitsOf_3 rfl hl (by decide) rfl (fun ls hl => ?_)
  have hloop : ∀ (n k : Nat) (H : Heap) (locs : List Loc) (ls : Array Slot), k + n = 31 → va_P D vwCl [] H → va_D A [] → va_S A s.heap H locs → lv_has ls 3 [(2, .int (nI k)), (1, .int 0), (0, .int 0)] → W p l e ({ frames := 0, cells := 0, slots := 0, locals := 0 }) s m ([.int 0] : List Value).toArray below meth c H locs 0 0 (MQ below ((fun A => va_Qi (fun (r : Int32) (u : Unit) => r = 0) (zB D A (fun (u : Unit) => []) (fun _ => [])) A) A) ([.int 0] : List Value).toArray s 0 0 A) (F0 m 4 ls []) := by
    intro n
    induction n with
    | zero =>
      intro k H locs ls hk hP hD hS hl
      obtain rfl : k = 31 := by omega
      refine lv_iload_n hx hb dX12_bitsOf_4 rfl (lv_at hl 0 rfl) ?_
      refine lv_bipush (v := 31) hx hb dX12_bitsOf_5 (by decide) ?_
      refine lv_icmp_ge (tgt := 24) hx hb dX12_bitsOf_7 (by decide) (fun _ => ?_) (fun h9 => absurd (by decide) h9)
      refine lv_iload_n hx hb dX12_bitsOf_24 rfl (lv_at hl 1 rfl) ?_
      exact zret_i hx hb hr hlocks hP hD hK hS () rfl [] [] (by decide) rfl rfl (Nat.le_refl _) (Nat.le_refl _) dX12_bitsOf_25
    | succ n ih =>
      intro k H locs ls hk hP hD hS hl
      refine lv_iload_n hx hb dX12_bitsOf_4 rfl (lv_at hl 0 rfl) ?_
      refine lv_bipush (v := 31) hx hb dX12_bitsOf_5 (by decide) ?_
      refine lv_icmp_ge (tgt := 24) hx hb dX12_bitsOf_7 (by decide) (fun h9 => absurd h9 (nI_ge (by omega : k < 31) (by decide))) (fun _ => ?_)
      refine lv_iload_n hx hb dX12_bitsOf_10 rfl (lv_at hl 1 rfl) ?_
      refine lv_iload_n hx hb dX12_bitsOf_11 rfl (lv_at hl 2 rfl) ?_
      refine lv_iload_n hx hb dX12_bitsOf_12 rfl (lv_at hl 0 rfl) ?_
      refine lv_ishr hx hb dX12_bitsOf_13 ?_
      refine z_top (y := 0) (z_shr0 k (by omega)) ?_
      refine lv_iconst (v := 1) hx hb dX12_bitsOf_14 (by decide) ?_
      refine lv_iand hx hb dX12_bitsOf_15 ?_
      refine z_top (y := 0) (by decide) ?_
      refine lv_iadd hx hb dX12_bitsOf_16 ?_
      refine z_top (y := 0) (by decide) ?_
      refine lv_istore_n (lv' := [(1, .int 0), (2, .int (nI k)), (0, .int 0)]) hx hb dX12_bitsOf_17 rfl hl (by decide) rfl (fun ls hl => ?_)
      refine lv_iinc (v := nI (k + 1)) (lv' := [(2, .int (nI (k + 1))), (1, .int 0), (0, .int 0)]) hx hb dX12_bitsOf_18 hl (k := 1) rfl (z_inc k 1) (by decide) rfl (fun ls hl => ?_)
      refine lv_goto (tgt := 4) hx hb dX12_bitsOf_21 (by decide) ?_
      exact ih (k + 1) H locs ls (by omega) hP hD hS hl
  exact hloop 31 0 _ _ ls (by decide) hP hD hS hl
