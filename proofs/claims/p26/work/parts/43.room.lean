theorem z_room1 : ∀ j : Nat, j < 12 → 1 ≤ j → ((1 : Int32) <<< (((11 : Int32) - nI j) &&& 31)).toInt = ((zrm (nI j).toInt.toNat : Nat) : Int) := by decide +kernel
theorem z_room {v y p : Int32} (e : v = 1 <<< (y &&& 31)) (hy : y = 11 - p) (h1 : 1 ≤ p.toInt) (h2 : p.toInt ≤ 11) : v.toInt = ((zrm p.toInt.toNat : Nat) : Int) := by
  obtain ⟨j, hj, rfl⟩ := nI_of (x := p) (fun q => by have := z_lt q rfl (show (0 : Int32).toInt = 0 from rfl); omega)
  have h3 : (nI j).toInt = (j : Int) := nI_toInt hj
  rw [e, hy]
  exact z_room1 j (by omega) (by omega)
