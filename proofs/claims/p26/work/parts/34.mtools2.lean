theorem z_own {H : Heap} {pl : Nat} {p q sq its : Int32} (h : zOw H pl p q) (h1 : sl H pl (31 * p.toInt + sq.toInt).toNat = some (.int its)) {A B : Prop} (hc : A ∨ B ∨ sq.toInt = q.toInt) : A ∨ B ∨ 0 ≤ its.toInt := by
  rcases hc with h2 | h2 | h2
  · exact Or.inl h2
  · exact Or.inr (Or.inl h2)
  · obtain ⟨v, h3, h4⟩ := h
    rw [h2, h3] at h1
    cases h1
    exact Or.inr (Or.inr h4)
theorem z_divs {v x y : Int32} {a b : Int} (e : v = x / y) (hx : x.toInt = a) (hy : y.toInt = b) (h1 : -b < a) (h2 : 0 < b) : 0 ≤ v.toInt ∧ (v.toInt = 0 ∨ b * v.toInt ≤ a) := by
  by_cases h : 0 ≤ a
  · obtain ⟨q1, q2, q3⟩ := z_div e hx hy h h2
    exact ⟨q2, Or.inr (by rw [q1]; exact Int.mul_ediv_self_le (by omega))⟩
  · have r := z_rng x
    rw [hx] at r
    have q : (x / y).toInt = 0 := by
      rw [Int32.toInt_div, hx, hy]
      have : a.tdiv b = 0 := by
        rw [← Int.neg_neg a, Int.neg_tdiv, Int.tdiv_eq_ediv_of_nonneg (by omega), Int.ediv_eq_zero_of_lt (by omega) (by omega)]; rfl
      rw [this]; decide
    rw [e, q]
    exact ⟨by omega, Or.inl rfl⟩
