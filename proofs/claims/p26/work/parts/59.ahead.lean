/-! the kinds of the cells that the law will make, told ahead -/
def zKf (n : Nat) (L : List Nat) : Nat → Nat := fun q => if n ≤ q then (L[q - n]?).getD 0 else 0
theorem zKf_at {n : Nat} {L : List Nat} {i k : Nat} (h : L[i]? = some k) : zKf n L (n + i) = k := by
  unfold zKf
  rw [if_pos (Nat.le_add_right _ _), Nat.add_sub_cancel_left, h]
  rfl
theorem zKf_lo {n : Nat} {L : List Nat} {q : Nat} (h : zKf n L q ≠ 0) : n ≤ q ∧ q < n + L.length := by
  unfold zKf at h
  by_cases h1 : n ≤ q
  · rw [if_pos h1] at h
    by_cases h2 : q - n < L.length
    · exact ⟨h1, by omega⟩
    · rw [List.getElem?_eq_none (by omega)] at h
      exact absurd rfl h
  · rw [if_neg h1] at h
    exact absurd rfl h
theorem zKf_app {n : Nat} {L M : List Nat} {q : Nat} (h : q < n + L.length) : zKf n (L ++ M) q = zKf n L q := by
  unfold zKf
  by_cases h1 : n ≤ q
  · rw [if_pos h1, if_pos h1, List.getElem?_append_left (by omega)]
  · rw [if_neg h1, if_neg h1]
theorem zKf_one {n : Nat} {L : List Nat} {k p : Nat} (hk : k ≠ 0) (h : ∀ i, i < L.length → L[i]? = some k → i = p) : ∀ a b : Nat, zKf n L a = k → zKf n L b = k → a = b := by
  have key : ∀ a : Nat, zKf n L a = k → a = n + p := by
    intro a ha
    obtain ⟨h1, h2⟩ := zKf_lo (n := n) (L := L) (q := a) (by rw [ha]; exact hk)
    unfold zKf at ha
    rw [if_pos h1, List.getElem?_eq_getElem (by omega : a - n < L.length)] at ha
    have := h (a - n) (by omega) (by rw [List.getElem?_eq_getElem (by omega : a - n < L.length)]; exact congrArg some ha)
    omega
  intro a b ha hb
  rw [key a ha, key b hb]
theorem zKi_of {E : zE} {n : Nat} {L : List Nat} (hE : eK E = zKf n L) (o : Nat) (L2 : List Nat) (h2 : (L.drop o).take L2.length = L2) : zKi E (n + o) L2 :=
  zKi.sub (n := n) (L := L) (fun i k hi => by rw [hE]; exact zKf_at hi) o L2 h2
def zLA : List Nat := 12 :: zLX11
def zLM : List Nat := 13 :: zLX12
def zLL : List Nat := zLA ++ zLM
set_option maxRecDepth 100000 in
theorem zLA_len : zLA.length = 339 := by decide +kernel
set_option maxRecDepth 100000 in
theorem zLL_len : zLL.length = 376 := by decide +kernel
set_option maxRecDepth 100000 in
theorem zLL_8 : ∀ i, i < 376 → zLL[i]? = some 8 → i = 307 := by decide +kernel
set_option maxRecDepth 100000 in
theorem zLL_13 : ∀ i, i < 376 → zLL[i]? = some 13 → i = 339 := by decide +kernel
set_option maxRecDepth 100000 in
theorem zLL_m : zLL[339]? = some 13 := by decide +kernel
set_option maxRecDepth 100000 in
theorem zLL_d : (zLL.drop 340).take zLX12.length = zLX12 := by decide +kernel
set_option maxRecDepth 100000 in
theorem zLA_d : (zLA.drop 1).take zLX11.length = zLX11 := by decide +kernel
theorem zo_lt {k : Nat} (h : zo k = true) : k < 120 := by
  unfold zo at h
  rw [Bool.or_eq_true, Bool.and_eq_true] at h
  rcases h with h | h
  · have := Nat.le_of_ble_eq_true h; omega
  · have := Nat.le_of_ble_eq_true h.2; omega
set_option maxRecDepth 100000 in
theorem zo_ci : ∀ k, k < 120 → zo k = true → 0 < zn k → zci k < 13 ∧ zn k = zn (zci k + 1) := by decide +kernel
theorem zat_ty {k : Nat} {ty : FieldType} (h : zat k = some ty) : ty = .int ∨ ty = .byte ∨ ty = .boolean ∨ ty = .long ∨ ty = .object RX4 := by
  unfold zat at h
  split at h <;> first | (cases h; done) | (cases h; first | exact Or.inl rfl | exact Or.inr (Or.inl rfl) | exact Or.inr (Or.inr (Or.inl rfl)) | exact Or.inr (Or.inr (Or.inr (Or.inl rfl))) | exact Or.inr (Or.inr (Or.inr (Or.inr rfl))))
theorem zty1_r0 (tx tm : Int) (j : Nat) : zty1 tx tm j ≠ .inr (.inl 0) := by
  unfold zty1
  split <;> (intro h; simp at h)
theorem zty2_r0 (tx tm : Int) (j : Nat) : zty2 tx tm j ≠ .inr (.inl 0) := by
  unfold zty2
  split <;> (intro h; simp at h)
theorem zty3_r0 (tx tm : Int) (j : Nat) : zty3 tx tm j ≠ .inr (.inl 0) := by
  unfold zty3
  split <;> (intro h; simp at h)
theorem zty4_r0 (tx tm : Int) (j : Nat) : zty4 tx tm j ≠ .inr (.inl 0) := by
  unfold zty4
  split <;> (intro h; simp at h)
theorem zty5_r0 (tx tm : Int) (j : Nat) : zty5 tx tm j ≠ .inr (.inl 0) := by
  unfold zty5
  split <;> (intro h; simp at h)
theorem zty6_r0 (tx tm : Int) (j : Nat) : zty6 tx tm j ≠ .inr (.inl 0) := by
  unfold zty6
  split <;> (intro h; simp at h)
theorem zty7_r0 (tx tm : Int) (j : Nat) : zty7 tx tm j ≠ .inr (.inl 0) := by
  unfold zty7
  split <;> (intro h; simp at h)
theorem zty8_r0 (tx tm : Int) (j : Nat) : zty8 tx tm j ≠ .inr (.inl 0) := by
  unfold zty8
  split <;> (intro h; simp at h)
theorem zty9_r0 (tx tm : Int) (j : Nat) : zty9 tx tm j ≠ .inr (.inl 0) := by
  unfold zty9
  split <;> (intro h; simp at h)
theorem zty10_r0 (tx tm : Int) (j : Nat) : zty10 tx tm j ≠ .inr (.inl 0) := by
  unfold zty10
  split <;> (intro h; simp at h)
theorem zty11_r0 (tx tm : Int) (j : Nat) : zty11 tx tm j ≠ .inr (.inl 0) := by
  unfold zty11
  split <;> (intro h; simp at h)
theorem zty12_r0 (tx tm : Int) (j : Nat) : zty12 tx tm j ≠ .inr (.inl 0) := by
  unfold zty12
  split <;> (intro h; simp at h)
theorem zty13_r0 (tx tm : Int) (j : Nat) : zty13 tx tm j ≠ .inr (.inl 0) := by
  unfold zty13
  split <;> (intro h; simp at h)
set_option maxRecDepth 100000 in
set_option maxHeartbeats 4000000 in
theorem zty_r0 (tx tm : Int) (k j : Nat) : zty tx tm k j ≠ .inr (.inl 0) := by
  unfold zty
  split <;> first | exact zty1_r0 tx tm j | exact zty2_r0 tx tm j | exact zty3_r0 tx tm j | exact zty4_r0 tx tm j | exact zty5_r0 tx tm j | exact zty6_r0 tx tm j | exact zty7_r0 tx tm j | exact zty8_r0 tx tm j | exact zty9_r0 tx tm j | exact zty10_r0 tx tm j | exact zty11_r0 tx tm j | exact zty12_r0 tx tm j | exact zty13_r0 tx tm j | (intro h; simp at h; done) | (intro h; split at h <;> simp at h)
theorem dn_mono {K K2 : Nat → Nat} (hk : ∀ a : Nat, K a ≠ 0 → K2 a = K a) {t : zVT} (ht : t ≠ .inr (.inl 0)) {v : Value} (h : dn K t v) : dn K2 t v := by
  unfold dn at h ⊢
  split at h
  · exact h
  · rename_i k
    obtain ⟨b, e, hb⟩ := h
    have hk0 : k ≠ 0 := fun q => ht (by rw [q])
    exact ⟨b, e, by rw [hk b (by rw [hb]; exact hk0)]; exact hb⟩
  · exact h
  · rcases h with h | ⟨b, e, hb⟩
    · exact Or.inl h
    · exact Or.inr ⟨b, e, by rw [hk b (by rw [hb]; decide)]; exact hb⟩
  · trivial
theorem HTq.mono {E E2 : zE} {H : Heap} {q : Nat} (e1 : eD E2 = eD E) (e3 : eA E2 = eA E) (eX2 : eX E2 = eX E) (eM2 : eM E2 = eM E) (hk : ∀ a : Nat, eK E a ≠ 0 → eK E2 a = eK E a) (h0 : eK E q ≠ 0) (h : HTq E H q) : HTq E2 H q := by
  have z1 : ∀ k j, zix E2 k j = zix E k j := fun k j => by unfold zix; rw [e1]
  have z2 : ∀ k x, zcl E2 k x = zcl E k x := fun k x => by unfold zcl; rw [e1, e3]
  unfold HTq at h ⊢
  rw [hk q h0, eX2, eM2]
  obtain ⟨⟨cl, q1, q2, q3, q4⟩, hf⟩ := h
  refine ⟨⟨cl, q1, by rw [z2]; exact q2, q3, q4⟩, fun j hj => ?_⟩
  obtain ⟨v, h1, h2⟩ := hf j hj
  exact ⟨v, by rw [z1]; exact h1, dn_mono hk (zty_r0 _ _ _ _) h2⟩
/-- the array classes -/
theorem zArr_of {b : Nat} {s : State} (hts : ∀ w ∈ wsL_law, w.before #[Value.ref b] s = true) (hN : zN s) : ∃ f : FieldType → ClassId, ∀ ty : FieldType, (ty = .int ∨ ty = .byte ∨ ty = .boolean ∨ ty = .long ∨ ty = .object RX4) → s.vm.findClass ("[" ++ ty.toString) = some (f ty) ∧ zTA s (f ty) ty := by
  obtain ⟨cI, kI, pI, aI, bI, dI⟩ := Cond.arrayClass_spec (hts _ (mc_wsL_law_r3 _ (List.mem_of_getElem? (i := 15) rfl)))
  obtain ⟨cB, kB, pB, aB, bB, dB⟩ := Cond.arrayClass_spec (hts _ (mc_wsL_law_r1 _ (List.mem_of_getElem? (i := 12) rfl)))
  obtain ⟨cZ, kZ, pZ, aZ, bZ, dZ⟩ := Cond.arrayClass_spec (hts _ (mc_wsL_law_r3 _ (List.mem_of_getElem? (i := 12) rfl)))
  obtain ⟨cJ, kJ, pJ, aJ, bJ, dJ⟩ := Cond.arrayClass_spec (hts _ (mc_wsL_law_r13 _ (List.mem_of_getElem? (i := 13) rfl)))
  obtain ⟨pP, cP, kP, -, -, bP, dP, aP⟩ := Cond.arrayOver_spec (va_AO.use (A := #[]) hN.1)
  refine ⟨fun ty => match ty with | .int => cI | .byte => cB | .boolean => cZ | .long => cJ | _ => cP, fun ty h => ?_⟩
  rcases h with rfl | rfl | rfl | rfl | rfl
  · exact ⟨aI, kI, pI, bI, dI⟩
  · exact ⟨aB, kB, pB, bB, dB⟩
  · exact ⟨aZ, kZ, pZ, bZ, dZ⟩
  · exact ⟨aJ, kJ, pJ, bJ, dJ⟩
  · exact ⟨aP, kP, pP, bP, dP⟩
/-- the classes -/
theorem zD_of {b : Nat} {s : State} (hts : ∀ w ∈ wsL_law, w.before #[Value.ref b] s = true) : ∃ D : va_G, va_K D vwCl [] s := by
  obtain ⟨c0, i0, hKn0⟩ := u_known (C := RX0) (T := TX0) (N := 7) (n := 7) hts mt_wsX00 (hts (.instantiable RX0 7) (mc_wsL_law_r2 _ (List.mem_of_getElem? (i := 17) rfl)))
  obtain ⟨c1, i1, hKn1⟩ := u_known (C := RX1) (T := TX1) (N := 7) (n := 7) hts mt_wsX10 (hts (.instantiable RX1 7) (mc_wsL_law_r2 _ (List.mem_of_getElem? (i := 13) rfl)))
  obtain ⟨c2, i2, hKn2⟩ := u_known (C := RX2) (T := TX2) (N := 12) (n := 12) hts mt_wsX20 (hts (.instantiable RX2 12) (mc_wsL_law_r2 _ (List.mem_of_getElem? (i := 1) rfl)))
  obtain ⟨c3, i3, hKn3⟩ := u_known (C := RX3) (T := TX3) (N := 9) (n := 9) hts mt_wsX30 (hts (.instantiable RX3 9) (mc_wsL_law_r2 _ (List.mem_of_getElem? (i := 9) rfl)))
  obtain ⟨c4, i4, hKn4⟩ := u_known (C := RX4) (T := TX4) (N := 7) (n := 7) hts mt_wsX40 (hts (.instantiable RX4 7) (mc_wsL_law_r3 _ (List.mem_of_getElem? (i := 22) rfl)))
  obtain ⟨c5, i5, hKn5⟩ := u_known (C := RX5) (T := TX5) (N := 10) (n := 10) hts mt_wsX50 (hts (.instantiable RX5 10) (mc_wsL_law_r1 _ (List.mem_of_getElem? (i := 21) rfl)))
  obtain ⟨c6, i6, hKn6⟩ := u_known (C := RX6) (T := TX6) (N := 3) (n := 3) hts mt_wsX60 (hts (.instantiable RX6 3) (mc_wsL_law_r2 _ (List.mem_of_getElem? (i := 5) rfl)))
  obtain ⟨c7, i7, hKn7⟩ := u_known (C := RX7) (T := TX7) (N := 8) (n := 8) hts mt_wsX70 (hts (.instantiable RX7 8) (mc_wsL_law_r2 _ (List.mem_of_getElem? (i := 21) rfl)))
  obtain ⟨c8, i8, hKn8⟩ := u_known (C := RX8) (T := TX8) (N := 10) (n := 10) hts mt_wsX80 (hts (.instantiable RX8 10) (mc_wsL_law_r3 _ (List.mem_of_getElem? (i := 1) rfl)))
  obtain ⟨c9, i9, hKn9⟩ := u_known (C := RX9) (T := TX9) (N := 5) (n := 5) hts mt_wsX90 (hts (.instantiable RX9 5) (mc_wsL_law_r5 _ (List.mem_of_getElem? (i := 0) rfl)))
  obtain ⟨c10, i10, hKn10⟩ := u_known (C := RX10) (T := TX10) (N := 13) (n := 13) hts mt_wsX100 (hts (.instantiable RX10 13) (mc_wsL_law_r1 _ (List.mem_of_getElem? (i := 16) rfl)))
  obtain ⟨c11, i11, hKn11⟩ := u_known (C := RX11) (T := TX11) (N := 12) (n := 12) hts mt_wsX110 (hts (.instantiable RX11 12) (mc_wsL_law_r1 _ (List.mem_of_getElem? (i := 1) rfl)))
  obtain ⟨c12, i12, hKn12⟩ := u_known (C := RX12) (T := TX12) (N := 55) (n := 55) hts mt_wsX120 (hts (.instantiable RX12 55) (mc_wsL_law_r1 _ (List.mem_of_getElem? (i := 4) rfl)))
  refine ⟨((fun k => match k with | 0 => c0 | 1 => c1 | 2 => c2 | 3 => c3 | 4 => c4 | 5 => c5 | 6 => c6 | 7 => c7 | 8 => c8 | 9 => c9 | 10 => c10 | 11 => c11 | _ => c12), (fun k => match k with | 0 => i0 | 1 => i1 | 2 => i2 | 3 => i3 | 4 => i4 | 5 => i5 | 6 => i6 | 7 => i7 | 8 => i8 | 9 => i9 | 10 => i10 | 11 => i11 | _ => i12)), ?_, fun k q h => by simp at h⟩
  intro k q hq
  match k, hq with
  | 0, hq => cases hq; exact hKn0
  | 1, hq => cases hq; exact hKn1
  | 2, hq => cases hq; exact hKn2
  | 3, hq => cases hq; exact hKn3
  | 4, hq => cases hq; exact hKn4
  | 5, hq => cases hq; exact hKn5
  | 6, hq => cases hq; exact hKn6
  | 7, hq => cases hq; exact hKn7
  | 8, hq => cases hq; exact hKn8
  | 9, hq => cases hq; exact hKn9
  | 10, hq => cases hq; exact hKn10
  | 11, hq => cases hq; exact hKn11
  | 12, hq => cases hq; exact hKn12
  | k + 13, hq => simp [vwCl] at hq
theorem zV_of {b : Nat} {s : State} {E : zE} (hts : ∀ w ∈ wsL_law, w.before #[Value.ref b] s = true) (hK : va_K (eD E) vwCl [] s) : zV E := by
  have hA : ∀ ci : Nat, ci < 13 → ∀ x y : Nat, x < zn (ci + 1) → y < zn (ci + 1) → x ≠ y → (eD E).2 ci x ≠ (eD E).2 ci y := fun ci hci => match ci, hci with
    | 0, _ => va_apart (own := RL) hts mt_wsX00 tyX0 tyX0_ok nmX0 hK (rfl : vwCl[0]? = some (RX0, TX0, 7))
    | 1, _ => va_apart (own := RL) hts mt_wsX10 tyX1 tyX1_ok nmX1 hK (rfl : vwCl[1]? = some (RX1, TX1, 7))
    | 2, _ => va_apart (own := RL) hts mt_wsX20 tyX2 tyX2_ok nmX2 hK (rfl : vwCl[2]? = some (RX2, TX2, 12))
    | 3, _ => va_apart (own := RL) hts mt_wsX30 tyX3 tyX3_ok nmX3 hK (rfl : vwCl[3]? = some (RX3, TX3, 9))
    | 4, _ => va_apart (own := RL) hts mt_wsX40 tyX4 tyX4_ok nmX4 hK (rfl : vwCl[4]? = some (RX4, TX4, 7))
    | 5, _ => va_apart (own := RL) hts mt_wsX50 tyX5 tyX5_ok nmX5 hK (rfl : vwCl[5]? = some (RX5, TX5, 10))
    | 6, _ => va_apart (own := RL) hts mt_wsX60 tyX6 tyX6_ok nmX6 hK (rfl : vwCl[6]? = some (RX6, TX6, 3))
    | 7, _ => va_apart (own := RL) hts mt_wsX70 tyX7 tyX7_ok nmX7 hK (rfl : vwCl[7]? = some (RX7, TX7, 8))
    | 8, _ => va_apart (own := RL) hts mt_wsX80 tyX8 tyX8_ok nmX8 hK (rfl : vwCl[8]? = some (RX8, TX8, 10))
    | 9, _ => va_apart (own := RL) hts mt_wsX90 tyX9 tyX9_ok nmX9 hK (rfl : vwCl[9]? = some (RX9, TX9, 5))
    | 10, _ => va_apart (own := RL) hts mt_wsX100 tyX10 tyX10_ok nmX10 hK (rfl : vwCl[10]? = some (RX10, TX10, 13))
    | 11, _ => va_apart (own := RL) hts mt_wsX110 tyX11 tyX11_ok nmX11 hK (rfl : vwCl[11]? = some (RX11, TX11, 12))
    | 12, _ => va_apart (own := RL) hts mt_wsX120 tyX12 tyX12_ok nmX12 hK (rfl : vwCl[12]? = some (RX12, TX12, 55))
    | ci + 13, h => absurd h (by omega)
  intro k j i ho hj hi hne
  obtain ⟨h1, h2⟩ := zo_ci k (zo_lt ho) ho (by omega)
  rw [zix_obj ho, zix_obj ho]
  rw [h2] at hj hi
  exact hA _ h1 j i hj hi hne
