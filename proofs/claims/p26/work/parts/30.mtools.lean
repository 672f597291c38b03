theorem HT.bdI {E : zE} {H : Heap} (hT : HT E H) {a k : Nat} (hk : eK E a = k) (h0 : Nat.ble 1 k = true) {j : Nat} (hj : j < zn k) {lo hi : Int} (hty : zty (eX E) (eM E) k j = .inl (lo, hi)) {x : Int32} (hs : sl H a (zix E k j) = some (.int x)) : lo ≤ x.toInt ∧ x.toInt ≤ hi := by
  obtain ⟨y, h1, h2⟩ := hT.atI hk h0 hj hty
  rw [hs] at h1
  cases h1
  exact h2
theorem HT.bdE {E : zE} {H : Heap} (hT : HT E H) {a k : Nat} (hk : eK E a = k) (h0 : Nat.ble 1 k = true) (ho : zo k = false) {i : Int32} {N : Nat} (hN : zn k = N) (hi0 : 0 ≤ i.toInt) (hi1 : i.toInt < (N : Int)) {lo hi : Int} (hty : zty (eX E) (eM E) k i.toNatClampNeg = .inl (lo, hi)) {x : Int32} (hs : sl H a i.toNatClampNeg = some (.int x)) : lo ≤ x.toInt ∧ x.toInt ≤ hi := by
  obtain ⟨y, h1, h2⟩ := hT.elI hk h0 ho hN hi0 hi1 hty
  rw [hs] at h1
  cases h1
  exact h2
