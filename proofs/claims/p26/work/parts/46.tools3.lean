theorem zFo.keep {E : zE} {WS : List (Nat × Nat)} {H0 H : Heap} {fo kf : Nat} {bk : Int32} {g : Nat → Int} (hg : zFo H0 fo bk g) (hF : zFr E WS H0 H) (hk : eK E fo = kf) (hn : WS.all (fun q => !(Nat.beq q.1 kf)) = true) : zFo H fo bk g :=
  ⟨hg.1, fun i hi => by
    obtain ⟨y, h1, h2⟩ := hg.2 i hi
    exact ⟨y, hF.keepA hk hn h1, h2⟩⟩
theorem zT_init {g : Nat → Int} {F : Nat} (hg : ∀ i, 0 ≤ g i ∧ g i ≤ 999) (hF : F ≤ 12) : zT g F (F - (0 : Int).toNat) (2048 : Int).toNat < 1000000000 := by
  have h := zT_small (F := F) hg F 2048 (by omega)
  show zT g F (F - 0) 2048 < _
  rw [Nat.sub_zero]
  omega
theorem zT_at {g : Nat → Int} {F k q : Nat} (hk : k < F) (h : zT g F (F - k) q < 1000000000) : ∃ m : Nat, 1 ≤ m ∧ m ≤ 11 ∧ zrm m ≤ q ∧ (m : Int) * g k + zT g F (F - (k + 1)) (q - zrm m) = zT g F (F - k) q := by
  have e : zT g F (F - k) q = zM (g k) (zT g F (F - (k + 1))) q 11 := by
    obtain ⟨r, hr⟩ : ∃ r, F - k = r + 1 := ⟨F - k - 1, by omega⟩
    have e1 : F - (k + 1) = r := by omega
    have e2 : F - (r + 1) = k := by omega
    rw [hr, e1]
    show zM (g (F - (r + 1))) (zT g F r) q 11 = _
    rw [e2]
  rw [e] at h ⊢
  exact zM_at 11 h
theorem zL_a {m : Nat} {l : Int} (h : l ≤ (m : Int)) (h0 : 0 ≤ l) (hne : m ≠ l.toNat) : l + 1 ≤ (m : Int) := by omega
