/-! what stands at every entry: nest links -/
def zNest : List Cond := [.methodLinkNest RX11 19 yX10_init RX11, .methodLinkNest RX11 38 yX2_init RX11, .methodLinkNest RX11 70 yX0_init RX11, .methodLinkNest RX11 77 yX7_init RX11, .methodLinkNest RX11 232 yX8_goOn RX11, .methodLinkNest RX1 27 yX4_init RX11, .methodLinkNest RX3 45 yX4_init RX11, .methodLinkNest RX6 25 yX4_init RX11, .methodLinkNest RX8 48 yX4_init RX11, .methodLinkNest RX10 52 yX4_init RX11]
def zN (U : State) : Prop := va_AO RX4 U ∧ ∀ w ∈ zNest, va_Nw w U
theorem zNest_is {w : Cond} (h : w ∈ zNest) : ∃ a i x k, w = .methodLinkNest a i x k := by
  simp only [zNest, List.mem_cons, List.not_mem_nil, or_false] at h
  rcases h with h | h | h | h | h | h | h | h | h | h <;> exact ⟨_, _, _, _, h⟩
theorem zN.warm {s U : State} (hW : s.WarmedH U.vm) (h : zN s) : zN U := by
  refine ⟨va_AO.moved hW.alike h.1, fun w hw => ?_⟩
  have h2 := h.2 w hw
  obtain ⟨a, i, x, k, rfl⟩ := zNest_is hw
  exact va_Nw.warmM hW h2
theorem zN.same {s U : State} (hv : s.vm = U.vm) (h : zN s) : zN U := by
  refine ⟨va_AO.moved (by rw [hv]; exact Vm.Alike.refl U.vm) h.1, fun w hw => ?_⟩
  have h2 := h.2 w hw
  obtain ⟨a, i, x, k, rfl⟩ := zNest_is hw
  exact va_Nw.same rfl hv h2
/-! a heap whose cells are of kinds: what a cell of each kind holds -/
abbrev zE : Type := va_G × (Nat → Nat) × (Nat → ClassId) × (Nat → Nat) × (Nat → Nat) × Int × Int
def eD (E : zE) : va_G := E.1
def eK (E : zE) : Nat → Nat := E.2.1
def eA (E : zE) : Nat → ClassId := E.2.2.1
def eS (E : zE) : Nat → Nat := E.2.2.2.1
def eT (E : zE) : Nat → Nat := E.2.2.2.2.1
def eX (E : zE) : Int := E.2.2.2.2.2.1
def eM (E : zE) : Int := E.2.2.2.2.2.2
abbrev zVT : Type := (Int × Int) ⊕ (Nat ⊕ Nat)
def dn (K : Nat → Nat) (t : zVT) (v : Value) : Prop := match t with
  | .inl q => ∃ x : Int32, v = .int x ∧ q.1 ≤ x.toInt ∧ x.toInt ≤ q.2
  | .inr (.inl k) => ∃ b : Nat, v = .ref b ∧ K b = k
  | .inr (.inr 0) => ∃ y : Int64, v = .long y
  | .inr (.inr 1) => v = .null ∨ ∃ b : Nat, v = .ref b ∧ K b = 5
  | .inr (.inr _) => True
def sl (H : Heap) (a i : Nat) : Option Value := H[a]?.bind (fun c => c.slots[i]?)
def zo (k : Nat) : Bool := Nat.blt k 20 || (Nat.blt 100 k && Nat.blt k 120)
def zci (k : Nat) : Nat := if Nat.blt k 20 = true then k - 1 else k - 101
def zix (E : zE) (k j : Nat) : Nat := if zo k = true then (eD E).2 (zci k) j else j
def zcl (E : zE) (k a : Nat) : ClassId := if zo k = true then (eD E).1 (zci k) else eA E a
theorem sl_of {H : Heap} {a i : Nat} {cell : Cell} (h : H[a]? = some cell) : sl H a i = cell.slots[i]? := by
  unfold sl; rw [h]; rfl
theorem sl_kept {H H1 : Heap} {a i : Nat} (h : H1[a]? = H[a]?) : sl H1 a i = sl H a i := by
  unfold sl; rw [h]
theorem zix_arr {E : zE} {k j : Nat} (h : zo k = false) : zix E k j = j := by
  unfold zix; rw [h]; rfl
theorem zix_obj {E : zE} {k j : Nat} (h : zo k = true) : zix E k j = (eD E).2 (zci k) j := by
  unfold zix; rw [if_pos h]
theorem zcl_arr {E : zE} {k a : Nat} (h : zo k = false) : zcl E k a = eA E a := by
  unfold zcl; rw [h]; rfl
theorem zcl_obj {E : zE} {k a : Nat} (h : zo k = true) : zcl E k a = (eD E).1 (zci k) := by
  unfold zcl; rw [if_pos h]
def zhd (E : zE) (k a : Nat) (H : Heap) : Prop := ∃ cell : Cell, H[a]? = some cell ∧ cell.cls = zcl E k a ∧ cell.vm = .none ∧ (zo k = false → cell.slots.size = zn k)
def HT (E : zE) (H : Heap) : Prop := ∀ a : Nat, eK E a ≠ 0 → zhd E (eK E a) a H ∧ ∀ j : Nat, j < zn (eK E a) → ∃ v, sl H a (zix E (eK E a) j) = some v ∧ dn (eK E) (zty (eX E) (eM E) (eK E a) j) v
theorem HT.at {E : zE} {H : Heap} (hT : HT E H) {a k : Nat} (hk : eK E a = k) (h0 : Nat.ble 1 k = true) {j : Nat} (hj : j < zn k) : ∃ v, sl H a (zix E k j) = some v ∧ dn (eK E) (zty (eX E) (eM E) k j) v := by
  subst hk
  exact (hT a (by have := Nat.le_of_ble_eq_true h0; omega)).2 j hj
theorem HT.hd {E : zE} {H : Heap} (hT : HT E H) {a k : Nat} (hk : eK E a = k) (h0 : Nat.ble 1 k = true) : zhd E k a H := by
  subst hk
  exact (hT a (by have := Nat.le_of_ble_eq_true h0; omega)).1
/-- a number that stands in a place -/
theorem HT.atI {E : zE} {H : Heap} (hT : HT E H) {a k : Nat} (hk : eK E a = k) (h0 : Nat.ble 1 k = true) {j : Nat} (hj : j < zn k) {lo hi : Int} (hty : zty (eX E) (eM E) k j = .inl (lo, hi)) : ∃ x : Int32, sl H a (zix E k j) = some (.int x) ∧ lo ≤ x.toInt ∧ x.toInt ≤ hi := by
  obtain ⟨v, h1, h2⟩ := hT.at hk h0 hj
  rw [hty] at h2
  obtain ⟨x, rfl, h3, h4⟩ := h2
  exact ⟨x, h1, h3, h4⟩
theorem HT.atR {E : zE} {H : Heap} (hT : HT E H) {a k : Nat} (hk : eK E a = k) (h0 : Nat.ble 1 k = true) {j : Nat} (hj : j < zn k) {k2 : Nat} (hty : zty (eX E) (eM E) k j = .inr (.inl k2)) : ∃ b : Nat, sl H a (zix E k j) = some (.ref b) ∧ eK E b = k2 := by
  obtain ⟨v, h1, h2⟩ := hT.at hk h0 hj
  rw [hty] at h2
  obtain ⟨b, rfl, h3⟩ := h2
  exact ⟨b, h1, h3⟩
theorem HT.atL {E : zE} {H : Heap} (hT : HT E H) {a k : Nat} (hk : eK E a = k) (h0 : Nat.ble 1 k = true) {j : Nat} (hj : j < zn k) (hty : zty (eX E) (eM E) k j = .inr (.inr 0)) : ∃ y : Int64, sl H a (zix E k j) = some (.long y) := by
  obtain ⟨v, h1, h2⟩ := hT.at hk h0 hj
  rw [hty] at h2
  obtain ⟨y, rfl⟩ := h2
  exact ⟨y, h1⟩
/-- places of one cell are apart -/
def zV (E : zE) : Prop := ∀ k j i : Nat, zo k = true → j < zn k → i < zn k → j ≠ i → zix E k j ≠ zix E k i
/-- one place was written -/
def Up (H H1 : Heap) (a i : Nat) (v : Value) : Prop := H1.size = H.size ∧ sl H1 a i = some v ∧ (∀ b j : Nat, (b ≠ a ∨ j ≠ i) → sl H1 b j = sl H b j) ∧ ∀ b : Nat, b ≠ a → H1[b]? = H[b]?
theorem up_of {H H1 : Heap} {a i : Nat} {v : Value} {cell : Cell} (hc : H[a]? = some cell) (h1 : H1[a]? = some (cell.setSlot i v)) (hz : H1.size = H.size) (ho : ∀ q : Nat, q ≠ a → H1[q]? = H[q]?) (hi : i < cell.slots.size) : Up H H1 a i v := by
  refine ⟨hz, ?_, ?_, ho⟩
  · rw [sl_of h1]
    simp [Cell.setSlot, hi]
  · intro b j hne
    by_cases hb : b = a
    · subst hb
      have hj : j ≠ i := by
        rcases hne with h | h
        · exact absurd rfl h
        · exact h
      rw [sl_of h1, sl_of hc]
      simp [Cell.setSlot, Array.getElem?_setIfInBounds, Ne.symm hj]
    · exact sl_kept (ho b hb)
theorem HT.up {E : zE} {H H1 : Heap} (hT : HT E H) (hV : zV E) {a k j : Nat} (hk : eK E a = k) {v : Value} (hj : j < zn k) (hd : dn (eK E) (zty (eX E) (eM E) k j) v) (hU : Up H H1 a (zix E k j) v) {cell : Cell} (hc : H[a]? = some cell) (h1 : H1[a]? = some (cell.setSlot (zix E k j) v)) : HT E H1 := by
  subst hk
  intro b hb
  obtain ⟨hh, hf⟩ := hT b hb
  by_cases hba : b = a
  · subst hba
    refine ⟨?_, ?_⟩
    · obtain ⟨cl, q1, q2, q3, q4⟩ := hh
      cases hc.symm.trans q1
      exact ⟨_, h1, q2, q3, fun h => by simpa [Cell.setSlot] using q4 h⟩
    · intro i hi
      by_cases hij : i = j
      · subst hij
        exact ⟨v, hU.2.1, hd⟩
      · obtain ⟨w, w1, w2⟩ := hf i hi
        refine ⟨w, ?_, w2⟩
        rw [hU.2.2.1 b _ (Or.inr ?_)]
        · exact w1
        · cases ho : zo (eK E b) with
          | true => exact hV _ _ _ ho hi hj hij
          | false => rw [zix_arr ho, zix_arr ho]; exact hij
  · refine ⟨?_, ?_⟩
    · obtain ⟨cl, q1, q2⟩ := hh
      exact ⟨cl, by rw [hU.2.2.2 b hba]; exact q1, q2⟩
    · intro i hi
      obtain ⟨w, w1, w2⟩ := hf i hi
      exact ⟨w, by rw [hU.2.2.1 b _ (Or.inl hba)]; exact w1, w2⟩
/-- what may have been written: kinds and places (99: every place) -/
def zF (E : zE) (WS : List (Nat × Nat)) (a i : Nat) : Prop := ∃ q ∈ WS, eK E a = q.1 ∧ (q.2 = 99 ∨ i = zix E q.1 q.2)
def zok (k j : Nat) (q : Nat × Nat) : Bool := !(Nat.beq q.1 k) || (!(Nat.beq q.2 99) && !(Nat.beq q.2 j) && zo k && Nat.blt q.2 (zn k) && Nat.blt j (zn k))
theorem zF_not {E : zE} (hV : zV E) {WS : List (Nat × Nat)} {a k j : Nat} (hk : eK E a = k) (h : WS.all (zok k j) = true) : ¬ zF E WS a (zix E k j) := by
  rintro ⟨q, hq, h1, h2⟩
  have h3 := List.all_eq_true.mp h q hq
  have h4 : q.1 = k := h1.symm.trans hk
  unfold zok at h3
  have h5 : Nat.beq q.1 k = true := by rw [h4]; exact Nat.beq_refl k
  rw [h5] at h3
  simp only [Bool.not_true, Bool.false_or, Bool.and_eq_true, Bool.not_eq_true'] at h3
  obtain ⟨⟨⟨⟨h6, h7⟩, h8⟩, h9⟩, h10⟩ := h3
  rcases h2 with h2 | h2
  · rw [h2] at h6; exact absurd h6 (by decide)
  · rw [h4] at h2
    have hne : j ≠ q.2 := fun e => by rw [← e, Nat.beq_refl] at h7; cases h7
    exact hV k j q.2 h8 (Nat.le_of_ble_eq_true h10) (Nat.le_of_ble_eq_true h9) hne h2
def zFr (E : zE) (WS : List (Nat × Nat)) (H H1 : Heap) : Prop := H1.size = H.size ∧ (∀ a : Nat, eK E a = 0 → H1[a]? = H[a]?) ∧ ∀ a i : Nat, ¬ zF E WS a i → sl H1 a i = sl H a i
theorem zFr.rf {E : zE} {WS : List (Nat × Nat)} {H : Heap} : zFr E WS H H := ⟨rfl, fun _ _ => rfl, fun _ _ _ => rfl⟩
theorem zF.mono {E : zE} {W1 W2 : List (Nat × Nat)} {a i : Nat} (h : zF E W1 a i) (hs : W1.all (fun q => W2.any (fun r => Nat.beq q.1 r.1 && (Nat.beq q.2 r.2 || Nat.beq r.2 99))) = true) : zF E W2 a i := by
  obtain ⟨q, hq, h1, h2⟩ := h
  obtain ⟨r, hr, h3⟩ := List.any_eq_true.mp (List.all_eq_true.mp hs q hq)
  rw [Bool.and_eq_true, Bool.or_eq_true] at h3
  have e1 := Nat.eq_of_beq_eq_true h3.1
  refine ⟨r, hr, h1.trans e1, ?_⟩
  rcases h3.2 with h4 | h4
  · have e2 := Nat.eq_of_beq_eq_true h4
    rw [← e1, ← e2]; exact h2
  · exact Or.inl (Nat.eq_of_beq_eq_true h4)
def zsub (W1 W2 : List (Nat × Nat)) : Bool := W1.all (fun q => W2.any (fun r => Nat.beq q.1 r.1 && (Nat.beq q.2 r.2 || Nat.beq r.2 99)))
theorem zFr.trans {E : zE} {W1 WS : List (Nat × Nat)} {H H1 H2 : Heap} (h : zFr E WS H H1) (h2 : zFr E W1 H1 H2) (hs : zsub W1 WS = true) : zFr E WS H H2 :=
  ⟨h2.1.trans h.1, fun a ha => (h2.2.1 a ha).trans (h.2.1 a ha), fun a i hn => (h2.2.2 a i (fun hz => hn (hz.mono hs))).trans (h.2.2 a i hn)⟩
theorem zFr.up {E : zE} {WS : List (Nat × Nat)} {H H1 : Heap} {a k j : Nat} {v : Value} (hk : eK E a = k) (h0 : Nat.ble 1 k = true) (hU : Up H H1 a (zix E k j) v) (hs : WS.any (fun r => Nat.beq r.1 k && (Nat.beq r.2 j || Nat.beq r.2 99)) = true) : zFr E WS H H1 := by
  refine ⟨hU.1, fun b hb => hU.2.2.2 b (fun e => ?_), fun b i hn => hU.2.2.1 b i ?_⟩
  · subst e
    have := Nat.le_of_ble_eq_true h0
    omega
  · by_cases hb : b = a
    · refine Or.inr (fun hi => hn ?_)
      subst hb; subst hi
      obtain ⟨r, hr, h3⟩ := List.any_eq_true.mp hs
      rw [Bool.and_eq_true, Bool.or_eq_true] at h3
      have e1 := Nat.eq_of_beq_eq_true h3.1
      refine ⟨r, hr, hk.trans e1.symm, ?_⟩
      rcases h3.2 with h4 | h4
      · exact Or.inr (by rw [e1, Nat.eq_of_beq_eq_true h4])
      · exact Or.inl (Nat.eq_of_beq_eq_true h4)
    · exact Or.inl hb
/-- a place that was not written -/
theorem zFr.keep {E : zE} {WS : List (Nat × Nat)} {H H1 : Heap} (hF : zFr E WS H H1) (hV : zV E) {a k j : Nat} {x : Option Value} (hk : eK E a = k) (h : WS.all (zok k j) = true) (hs : sl H a (zix E k j) = x) : sl H1 a (zix E k j) = x := by
  rw [hF.2.2 a _ (zF_not hV hk h)]; exact hs
theorem zFr.keepA {E : zE} {WS : List (Nat × Nat)} {H H1 : Heap} (hF : zFr E WS H H1) {a k i : Nat} {x : Option Value} (hk : eK E a = k) (h : WS.all (fun q => !(Nat.beq q.1 k)) = true) (hs : sl H a i = x) : sl H1 a i = x := by
  rw [hF.2.2 a i ?_]; · exact hs
  rintro ⟨q, hq, h1, -⟩
  have h3 := List.all_eq_true.mp h q hq
  rw [show Nat.beq q.1 k = true by rw [← h1, hk]; exact Nat.beq_refl k] at h3
  cases h3
theorem Up.keep {H H1 : Heap} {a i : Nat} {v : Value} (hU : Up H H1 a i v) {b j : Nat} {x : Option Value} (hne : b ≠ a ∨ j ≠ i) (hs : sl H b j = x) : sl H1 b j = x := by
  rw [hU.2.2.1 b j hne]; exact hs
theorem k_ne {E : zE} {a b k k2 : Nat} (ha : eK E a = k) (hb : eK E b = k2) (h : Nat.beq k k2 = false) : a ≠ b := by
  intro e
  subst e
  rw [← ha, ← hb, Nat.beq_refl] at h
  cases h
theorem j_ne {E : zE} (hV : zV E) {k j i : Nat} (ho : zo k = true) (hj : Nat.blt j (zn k) = true) (hi : Nat.blt i (zn k) = true) (h : Nat.beq j i = false) : zix E k j ≠ zix E k i :=
  hV k j i ho (Nat.le_of_ble_eq_true hj) (Nat.le_of_ble_eq_true hi) (fun e => by rw [e, Nat.beq_refl] at h; cases h)
def zG (E : zE) (WS : List (Nat × Nat)) (H0 H : Heap) (locs : List Loc) : Prop := HT E H ∧ zFr E WS H0 H ∧ ∀ q ∈ locs, eK E q.base ≠ 0
theorem zG.rf {E : zE} {WS : List (Nat × Nat)} {H : Heap} (hT : HT E H) : zG E WS H H [] := ⟨hT, zFr.rf, fun _ h => by cases h⟩
/-- what the tables say of the kinds -/
def zTA (U : State) (cA : ClassId) (ty : FieldType) : Prop := ∃ (k : Class) (comp : ClassId), U.vm.classes[cA]? = some k ∧ k.kind = .array comp ty
def zfr (E : zE) : Nat → Prop := fun q => eK E q ≠ 0
theorem zfr_n {E : zE} {a : Nat} (h : ¬ zfr E a) : eK E a = 0 := Classical.byContradiction h
/-- the texts -/
def zsi (i : Nat) : Nat × String := match i with
  | 0 => (55, "by")
  | 1 => (61, "at")
  | 2 => (69, "forward")
  | 3 => (71, "king")
  | 4 => (73, "leap")
  | 5 => (75, "ride")
  | 6 => (77, "board")
  | 7 => (79, "piece")
  | 8 => (81, "white")
  | 9 => (83, "black")
  | _ => (85, "flash")
def zln : List Nat := [2, 2, 7, 4, 4, 4, 5, 5, 5, 5, 5]
def zby : List (List Int32) := [[98, 121], [97, 116], [102, 111, 114, 119, 97, 114, 100], [107, 105, 110, 103], [108, 101, 97, 112], [114, 105, 100, 101], [98, 111, 97, 114, 100], [112, 105, 101, 99, 101], [119, 104, 105, 116, 101], [98, 108, 97, 99, 107], [102, 108, 97, 115, 104]]
def zSt (E : zE) (U : State) : Prop := (∀ i : Nat, i < 11 → vk_R RX9 (zsi i).1 (zsi i).2 (eS E i) U) ∧ vk_S 11 zln zby (eS E) (eT E) (zfr E) U U.heap ∧ va_Z "java/lang/String" "COMPACT_STRINGS" "Z" (.int 1) (zfr E) U U.heap ∧ va_Zq "jdk/internal/util/Preconditions" "SIOOBE_FORMATTER" "Ljava/util/function/BiFunction;" (zfr E) U U.heap
def zO (E : zE) (s : State) (H : Heap) : Prop := ∀ a : Nat, eK E a = 0 → H[a]? = s.heap[a]?
theorem zO.rf {E : zE} {s : State} {H : Heap} (hh : s.heap = H) : zO E s H := fun _ _ => by rw [hh]
theorem zO.of {E : zE} {WS : List (Nat × Nat)} {s : State} {H0 H : Heap} {locs : List Loc} (hG : zG E WS H0 H locs) (hh : s.heap = H0) : zO E s H := fun a ha => by rw [hh]; exact hG.2.1.2.1 a ha
theorem zSt.warm {E : zE} {s U : State} {H : Heap} (hW : s.WarmedH U.vm) (hU : U.heap = H) (hO : zO E s H) (h : zSt E s) : zSt E U := by
  have hq : ∀ a : Nat, a < s.heap.size → ¬ zfr E a → U.heap[a]? = s.heap[a]? := fun a _ ha => by rw [hU]; exact hO a (zfr_n ha)
  exact ⟨fun i hi => (h.1 i hi).warm hW, (h.2.1.moved hW.alike).kept hq, (va_Z.moved hW.alike h.2.2.1).kept hq, (va_Zq.moved hW.alike h.2.2.2).kept hq⟩
theorem zSt.same {E : zE} {s U : State} (hv : U.vm = s.vm) (hU : U.heap = s.heap) (h : zSt E s) : zSt E U := by
  have hq : ∀ a : Nat, a < s.heap.size → ¬ zfr E a → U.heap[a]? = s.heap[a]? := fun a _ _ => by rw [hU]
  have hA : s.vm.Alike U.vm := by rw [hv]; exact Vm.Alike.refl _
  exact ⟨fun i hi => (h.1 i hi).same hv, (h.2.1.moved hA).kept hq, (va_Z.moved hA h.2.2.1).kept hq, (va_Zq.moved hA h.2.2.2).kept hq⟩
def zK (E : zE) (U : State) : Prop := va_K (eD E) vwCl [] U ∧ (∀ (a : Nat) (ty : FieldType), zat (eK E a) = some ty → zTA U (eA E a) ty) ∧ zN U ∧ zSt E U
theorem zTA.moved {u U : State} (hvm : u.vm.Alike U.vm) {cA : ClassId} {ty : FieldType} (h : zTA u cA ty) : zTA U cA ty := by
  obtain ⟨k, comp, h1, h2⟩ := h
  obtain ⟨k', hk', he⟩ := hvm.2.2 _ _ h1
  exact ⟨k', comp, hk', by rw [he]; exact h2⟩
theorem zK.warm {E : zE} {s U : State} {H : Heap} (hW : s.WarmedH U.vm) (hU : U.heap = H) (hO : zO E s H) (h : zK E s) : zK E U := ⟨va_K.moved hW.alike h.1, fun a ty ha => (h.2.1 a ty ha).moved hW.alike, zN.warm hW h.2.2.1, h.2.2.2.warm hW hU hO⟩
theorem zK.same {E : zE} {s U : State} (hv : U.vm = s.vm) (hU : U.heap = s.heap) (h : zK E s) : zK E U :=
  ⟨va_K.moved (by rw [hv]; exact Vm.Alike.refl _) h.1, fun a ty ha => (h.2.1 a ty ha).moved (by rw [hv]; exact Vm.Alike.refl _), zN.same hv.symm h.2.2.1, h.2.2.2.same hv hU⟩
theorem zarr {E : zE} {s : State} {H : Heap} {a k : Nat} {ty : FieldType} {cell : Cell} (hK : zK E s) (hk : eK E a = k) (ho : zo k = false) (hty : zat k = some ty) (hcl : cell.cls = zcl E k a) (hvm : cell.vm = .none) : s.isArrayOf cell ty := by
  obtain ⟨kk, comp, h1, h2⟩ := hK.2.1 a ty (by rw [hk]; exact hty)
  refine ⟨fun z => by (rw [hvm]; intro h; cases h), kk, ?_, comp, h2⟩
  rw [hcl, zcl_arr ho]
  exact h1
def zP (E : zE) (H0 : Heap) (av : List Value) : Array Value → State → Prop := va_Pc av (fun U => U.heap = H0 ∧ zK E U)
theorem zP_blind {E : zE} {H0 : Heap} {av : List Value} : FrameBlind (zP E H0 av) := by
  intro a U g mk q
  exact ⟨q.1, q.2.1, zK.same (s := U) (U := U.calling g mk a) rfl rfl q.2.2⟩
def zQI (E E' : zE) (WS : List (Nat × Nat)) (P : Int32 → Heap → Prop) : Array Value → State → Outcome → State → Prop := fun _ st oc t => (∃ r : Int32, oc = .returned (some (.int r)) ∧ P r t.heap) ∧ HT E' t.heap ∧ zFr E WS st.heap t.heap
def zQV (E E' : zE) (WS : List (Nat × Nat)) (P : Heap → Prop) : Array Value → State → Outcome → State → Prop := fun _ st oc t => (oc = .returned none ∧ P t.heap) ∧ HT E' t.heap ∧ zFr E WS st.heap t.heap
def zPI (P : Int32 → Prop) : Array Value → State → Outcome → State → Prop := fun _ st oc t => (∃ r : Int32, oc = .returned (some (.int r)) ∧ P r) ∧ t.heap = st.heap
def zPR (P : Nat → Prop) : Array Value → State → Outcome → State → Prop := fun _ st oc t => (∃ r : Nat, oc = .returned (some (.ref r)) ∧ P r) ∧ t.heap = st.heap
abbrev zws (y : MethodName) (cc : ByteArray) (maxL : Nat) (ret : Option FieldType) : List Cond := .code y cc maxL ret :: wsL_law
