/-! what the reference's table of codes holds -/
def zrm (l : Nat) : Nat := 2 ^ (11 - l)
def zM (f : Int) (T : Nat → Int) (q : Nat) : Nat → Int
  | 0 => 1000000000
  | l + 1 => if zrm (l + 1) ≤ q then (if ((l + 1 : Nat) : Int) * f + T (q - zrm (l + 1)) < zM f T q l then ((l + 1 : Nat) : Int) * f + T (q - zrm (l + 1)) else zM f T q l) else zM f T q l
def zT (g : Nat → Int) (F : Nat) : Nat → Nat → Int
  | 0, _ => 0
  | r + 1, q => zM (g (F - (r + 1))) (zT g F r) q 11
theorem zM_nn {f : Int} {T : Nat → Int} {q : Nat} (hf : 0 ≤ f) (hT : ∀ q, 0 ≤ T q) : ∀ l, 0 ≤ zM f T q l ∧ zM f T q l ≤ 1000000000
  | 0 => ⟨by show (0 : Int) ≤ 1000000000; decide, Int.le_refl _⟩
  | l + 1 => by
    have ih := zM_nn hf hT (q := q) l
    have h1 : 0 ≤ ((l + 1 : Nat) : Int) * f := Int.mul_nonneg (by omega) hf
    have h2 := hT (q - zrm (l + 1))
    unfold zM
    split
    · split
      · omega
      · exact ih
    · exact ih
theorem zT_b {g : Nat → Int} {F : Nat} (hg : ∀ i, 0 ≤ g i) : ∀ (r q : Nat), 0 ≤ zT g F r q ∧ zT g F r q ≤ 1000000000
  | 0, _ => ⟨Int.le_refl _, by show (0 : Int) ≤ 1000000000; decide⟩
  | r + 1, q => zM_nn (hg _) (fun q => (zT_b hg r q).1) 11
theorem zM_at {f : Int} {T : Nat → Int} {q : Nat} : ∀ l, zM f T q l < 1000000000 → ∃ m : Nat, 1 ≤ m ∧ m ≤ l ∧ zrm m ≤ q ∧ (m : Int) * f + T (q - zrm m) = zM f T q l
  | 0, h => absurd h (by show ¬ (1000000000 : Int) < 1000000000; decide)
  | l + 1, h => by
    unfold zM at h ⊢
    by_cases h1 : zrm (l + 1) ≤ q
    · rw [if_pos h1] at h ⊢
      by_cases h2 : ((l + 1 : Nat) : Int) * f + T (q - zrm (l + 1)) < zM f T q l
      · rw [if_pos h2]
        exact ⟨l + 1, by omega, Nat.le_refl _, h1, rfl⟩
      · rw [if_neg h2] at h ⊢
        obtain ⟨m, a, b, c, d⟩ := zM_at l h
        exact ⟨m, a, by omega, c, d⟩
    · rw [if_neg h1] at h ⊢
      obtain ⟨m, a, b, c, d⟩ := zM_at l h
      exact ⟨m, a, by omega, c, d⟩
theorem zM_le {f : Int} {T : Nat → Int} {q m : Nat} (hm : 1 ≤ m) (hq : zrm m ≤ q) : ∀ l, m ≤ l → zM f T q l ≤ (m : Int) * f + T (q - zrm m)
  | 0, h => by omega
  | l + 1, h => by
    unfold zM
    by_cases he : m = l + 1
    · subst he
      rw [if_pos hq]
      split
      · exact Int.le_refl _
      · rename_i h2; exact Int.not_lt.mp h2
    · have ih := zM_le (f := f) (T := T) hm hq l (by omega)
      split
      · split
        · rename_i h2; omega
        · exact ih
      · exact ih
theorem zT_small {g : Nat → Int} {F : Nat} (hg : ∀ i, 0 ≤ g i ∧ g i ≤ 999) : ∀ (r q : Nat), 128 * r ≤ q → zT g F r q ≤ 3996 * (r : Int)
  | 0, _, _ => Int.le_refl _
  | r + 1, q, h => by
    have ih := zT_small (F := F) hg r (q - 128) (by omega)
    have h4 : zrm 4 = 128 := by decide
    have h1 := zM_le (f := g (F - (r + 1))) (T := zT g F r) (q := q) (m := 4) (by omega) (by rw [h4]; omega) 11 (by omega)
    rw [h4] at h1
    have h2 := hg (F - (r + 1))
    show zM _ _ _ _ ≤ _
    omega
def zFo (H : Heap) (fo : Nat) (bk : Int32) (g : Nat → Int) : Prop := (∀ i, 0 ≤ g i ∧ g i ≤ 999) ∧ ∀ i : Nat, i < 12 → ∃ x : Int32, sl H fo (12 * bk.toInt + (i : Int)).toNat = some (.int x) ∧ x.toInt = g i
def zTab (H : Heap) (lf : Nat) (g : Nat → Int) (F : Nat) (i b : Int) : Prop := ∀ j q : Nat, j ≤ F → q ≤ 2048 → (i < (j : Int) ∨ (i = (j : Int) ∧ (q : Int) < b)) → ∃ x : Int32, sl H lf (2049 * j + q) = some (.int x) ∧ x.toInt = zT g F (F - j) q
def zMi (g : Nat → Int) (F i q l : Nat) : Int := if i = F then 0 else zM (g i) (zT g F (F - i - 1)) q l
theorem zMi_end {g : Nat → Int} {F i q : Nat} (hi : i ≤ F) : zMi g F i q 11 = zT g F (F - i) q := by
  unfold zMi
  by_cases h : i = F
  · rw [if_pos h, h, Nat.sub_self]; rfl
  · rw [if_neg h]
    obtain ⟨r, hr⟩ : ∃ r, F - i = r + 1 := ⟨F - i - 1, by omega⟩
    rw [hr]
    have e1 : F - i - 1 = r := by omega
    have e2 : F - (r + 1) = i := by omega
    show _ = zM (g (F - (r + 1))) (zT g F r) q 11
    rw [e2]; rfl
theorem zMi_eqF {g : Nat → Int} {F i q l : Nat} (h : i = F) : zMi g F i q l = zT g F (F - i) q := by
  unfold zMi
  rw [if_pos h, h, Nat.sub_self]; rfl
theorem zMi_skip {g : Nat → Int} {F i q l : Nat} (h : ¬ zrm (l + 1) ≤ q) : zMi g F i q (l + 1) = zMi g F i q l := by
  unfold zMi
  split
  · rfl
  · rw [zM, if_neg h]
theorem zMi_step {g : Nat → Int} {F i q l : Nat} (hi : i ≠ F) (h : zrm (l + 1) ≤ q) : zMi g F i q (l + 1) = if ((l + 1 : Nat) : Int) * g i + zT g F (F - i - 1) (q - zrm (l + 1)) < zMi g F i q l then ((l + 1 : Nat) : Int) * g i + zT g F (F - i - 1) (q - zrm (l + 1)) else zMi g F i q l := by
  unfold zMi
  rw [if_neg hi, if_neg hi, zM, if_pos h]
theorem zFo_of {E : zE} {H : Heap} (hT : HT E H) {fo k : Nat} (hk : eK E fo = k) (h0 : Nat.ble 1 k = true) (ho : zo k = false) (hN : zn k = 24) (hty : ∀ j, zty (eX E) (eM E) k j = .inl (0, 999)) {bk : Int32} (hb0 : 0 ≤ bk.toInt) (hb1 : bk.toInt ≤ 1) : ∃ g : Nat → Int, zFo H fo bk g := by
  have h : ∀ i : Nat, ∃ v : Int, (0 ≤ v ∧ v ≤ 999) ∧ (i < 12 → ∃ x : Int32, sl H fo (12 * bk.toInt + (i : Int)).toNat = some (.int x) ∧ x.toInt = v) := by
    intro i
    by_cases hi : i < 12
    · obtain ⟨x, h1, h2, h3⟩ := hT.atI hk h0 (j := (12 * bk.toInt + (i : Int)).toNat) (by rw [hN]; omega) (hty _)
      rw [zix_arr ho] at h1
      exact ⟨x.toInt, ⟨h2, h3⟩, fun _ => ⟨x, h1, rfl⟩⟩
    · exact ⟨0, ⟨by omega, by omega⟩, fun h => absurd h hi⟩
  obtain ⟨g, hg⟩ := Classical.axiomOfChoice h
  exact ⟨g, fun i => (hg i).1, fun i => (hg i).2⟩
theorem zMi_A {g : Nat → Int} {F i q : Nat} {l least its : Int} (h1 : 1 ≤ l) (hi : i < F) (hq : zrm l.toNat ≤ q) (hits : its = l * g i + zT g F (F - (i + 1)) (q - zrm l.toNat)) (hl : least = zMi g F i q (l - 1).toNat) : zMi g F i q l.toNat = if its < least then its else least := by
  obtain ⟨n, rfl⟩ : ∃ n : Nat, l = ((n + 1 : Nat) : Int) := ⟨(l - 1).toNat, by omega⟩
  have e1 : (((n + 1 : Nat) : Int)).toNat = n + 1 := by omega
  have e2 : (((n + 1 : Nat) : Int) - 1).toNat = n := by omega
  have e3 : F - (i + 1) = F - i - 1 := by omega
  rw [e1] at hq hits ⊢
  rw [e2] at hl
  rw [e3] at hits
  rw [zMi_step (by omega) hq, ← hl, ← hits]
theorem zMi_B {g : Nat → Int} {F i q : Nat} {l : Int} (h1 : 1 ≤ l) (hq : ¬ zrm l.toNat ≤ q) : zMi g F i q l.toNat = zMi g F i q (l - 1).toNat := by
  obtain ⟨n, rfl⟩ : ∃ n : Nat, l = ((n + 1 : Nat) : Int) := ⟨(l - 1).toNat, by omega⟩
  have e1 : (((n + 1 : Nat) : Int)).toNat = n + 1 := by omega
  have e2 : (((n + 1 : Nat) : Int) - 1).toNat = n := by omega
  rw [e1] at hq ⊢
  rw [e2]
  exact zMi_skip hq
theorem zFo_get {E : zE} {WS : List (Nat × Nat)} {H0 H : Heap} {fo kf : Nat} {bk idx x : Int32} {g : Nat → Int} (hg : zFo H0 fo bk g) (hF : zFr E WS H0 H) (hk : eK E fo = kf) (hn : WS.all (fun q => !(Nat.beq q.1 kf)) = true) (hs : sl H fo idx.toNatClampNeg = some (.int x)) {i : Nat} (hi : i < 12) (e : idx.toInt = 12 * bk.toInt + (i : Int)) : x.toInt = g i ∧ 0 ≤ g i ∧ g i ≤ 999 := by
  obtain ⟨y, h1, h2⟩ := hg.2 i hi
  have h3 := hF.keepA hk hn h1
  rw [← e] at h3
  have h4 : sl H fo idx.toNatClampNeg = some (.int y) := h3
  rw [hs] at h4
  cases h4
  exact ⟨h2, hg.1 i⟩
theorem zTab_get {H : Heap} {lf F : Nat} {g : Nat → Int} {i b : Int} {idx x : Int32} (hg : ∀ i, 0 ≤ g i ∧ g i ≤ 999) (hA : zTab H lf g F i b) (hs : sl H lf idx.toNatClampNeg = some (.int x)) (j q : Nat) (hj : j ≤ F) (hq : q ≤ 2048) (hc : i < (j : Int) ∨ (i = (j : Int) ∧ (q : Int) < b)) (e : idx.toInt = 2049 * (j : Int) + (q : Int)) : x.toInt = zT g F (F - j) q ∧ 0 ≤ x.toInt ∧ x.toInt ≤ 1000000000 := by
  obtain ⟨y, h1, h2⟩ := hA j q hj hq hc
  have e2 : idx.toNatClampNeg = 2049 * j + q := by
    have := z_cl (x := idx) (by omega)
    omega
  rw [e2, h1] at hs
  cases hs
  have h3 := zT_b (F := F) (fun i => (hg i).1) (F - j) q
  exact ⟨h2, by omega, by omega⟩
theorem zTab_put {H H1 : Heap} {lf F i b : Nat} {g : Nat → Int} {idx x : Int32} (hA : zTab H lf g F i b) (hU : Up H H1 lf idx.toNatClampNeg (.int x)) (hi : i ≤ F) (hb : b ≤ 2048) (e : idx.toInt = 2049 * (i : Int) + (b : Int)) (hx : x.toInt = zT g F (F - i) b) : zTab H1 lf g F i ((b : Int) + 1) := by
  intro j q hj hq hc
  have e2 : idx.toNatClampNeg = 2049 * i + b := by
    have := z_cl (x := idx) (by omega)
    omega
  rw [e2] at hU
  by_cases h : j = i ∧ q = b
  · obtain ⟨rfl, rfl⟩ := h
    exact ⟨x, hU.2.1, hx⟩
  · obtain ⟨y, h1, h2⟩ := hA j q hj hq (by omega)
    exact ⟨y, hU.keep (Or.inr (by omega)) h1, h2⟩
theorem zTab_next {H : Heap} {lf F : Nat} {g : Nat → Int} {i i2 b : Int} (hA : zTab H lf g F i b) (hb : 2048 < b) (e : i2 = i - 1) : zTab H lf g F i2 0 := fun j q hj hq hc => hA j q hj hq (by omega)
