/-! small facts -/
theorem fa_lt (a b : Int32) : a < b ↔ a.toInt < b.toInt := Int32.lt_iff_toInt_lt
theorem fa_le (a b : Int32) : a ≤ b ↔ a.toInt ≤ b.toInt := Int32.le_iff_toInt_le
theorem fa_eq (a b : Int32) : a = b ↔ a.toInt = b.toInt := Int32.toInt_inj.symm
theorem z_in {i : Int32} {n : Nat} (h : ¬ (i < 0 ∨ n ≤ i.toNatClampNeg)) : vp_in i n := h
theorem z_cmp {P : Prop} (h : P) : P := h
theorem z_inc (k n : Nat) : nI k + Int32.ofInt n = nI (k + n) := by
  have e : Int32.ofInt (n : Int) = nI n := rfl
  rw [e, nI_add]
theorem z_rng (x : Int32) : -2147483648 ≤ x.toInt ∧ x.toInt ≤ 2147483647 := by
  have h1 := Int32.le_toInt x
  have h2 := Int32.toInt_lt x
  omega
theorem z_add0 (x : Int32) : 0 + x = x := Int32.zero_add x
theorem z_nI {n : Nat} {a b : Int} (h1 : a ≤ (n : Int)) (h2 : (n : Int) ≤ b) (h3 : b < 2147483648) : a ≤ (nI n).toInt ∧ (nI n).toInt ≤ b := by
  rw [nI_toInt (by omega)]
  exact ⟨h1, h2⟩
theorem z_upd0 (k : Nat) : (upd (fun _ => 0) k 0 : Nat → Int32) = (fun _ => 0) := by
  funext j
  simp [upd]
theorem z_narb (b : Int32) (h : b = 0 ∨ b = 1) : narrow .boolean (.int b) = .int b := by
  rcases h with rfl | rfl <;> rfl
theorem zarr_int (n : Nat) (cA : ClassId) : vp_cell cA (n, .inl (fun _ => 0)) = arrV cA n (fun _ => defaultValue .int) := rfl
theorem zarr_byte (n : Nat) (cA : ClassId) : vp_cell cA (n, .inl (fun _ => 0)) = arrV cA n (fun _ => defaultValue .byte) := rfl
theorem zarr_boolean (n : Nat) (cA : ClassId) : vp_cell cA (n, .inl (fun _ => 0)) = arrV cA n (fun _ => defaultValue .boolean) := rfl
theorem zarr_long (n : Nat) (cA : ClassId) : vp_cell cA (n, .inr (.inl (fun _ => 0))) = arrV cA n (fun _ => defaultValue .long) := rfl
theorem zby_int {n : Nat} (h : n ≤ 100000) : n * componentBytes .int ≤ 536870912 := by show n * 4 ≤ 536870912; omega
theorem zby_byte {n : Nat} (h : n ≤ 100000) : n * componentBytes .byte ≤ 536870912 := by show n * 1 ≤ 536870912; omega
theorem zby_boolean {n : Nat} (h : n ≤ 100000) : n * componentBytes .boolean ≤ 536870912 := by show n * 1 ≤ 536870912; omega
theorem zby_long {n : Nat} (h : n ≤ 100000) : n * componentBytes .long ≤ 536870912 := by show n * 8 ≤ 536870912; omega
theorem zby_ref {n : Nat} (h : n ≤ 100000) : n * 4 ≤ 536870912 := by omega
