theorem z_nat {x : Int32} (h : 0 ≤ x.toInt) : x.toInt = (x.toBitVec.toNat : Int) := by
  have h5 : 0 ≤ x.toBitVec.toInt := h
  have h6 := x.toBitVec.isLt
  show x.toBitVec.toInt = _
  rw [BitVec.toInt_eq_toNat_cond] at h5 ⊢
  split at h5 <;> split <;> omega
theorem z_ofnat {x : Int32} {n : Nat} (h : x.toBitVec.toNat = n) (hn : n < 2147483648) : x.toInt = (n : Int) := by
  show x.toBitVec.toInt = _
  rw [BitVec.toInt_eq_toNat_cond]
  split <;> omega
theorem z_or {v x y : Int32} {a b : Int} (n : Nat) (e : v = x ||| y) (hx : x.toInt = a) (hy : y.toInt = b) (hn : Nat.ble n 31 = true) (h1 : 0 ≤ a) (h2 : a < 2 ^ n) (h3 : 0 ≤ b) (h4 : b < 2 ^ n) : 0 ≤ v.toInt ∧ v.toInt < 2 ^ n := by
  subst e
  have e1 := z_nat (x := x) (by omega)
  have e2 := z_nat (x := y) (by omega)
  have k1 : x.toBitVec.toNat < 2 ^ n := by
    have : ((x.toBitVec.toNat : Nat) : Int) < ((2 ^ n : Nat) : Int) := by rw [← e1, hx]; exact_mod_cast h2
    exact_mod_cast this
  have k2 : y.toBitVec.toNat < 2 ^ n := by
    have : ((y.toBitVec.toNat : Nat) : Int) < ((2 ^ n : Nat) : Int) := by rw [← e2, hy]; exact_mod_cast h4
    exact_mod_cast this
  have k3 : (x ||| y).toBitVec.toNat < 2 ^ n := by
    show (x.toBitVec ||| y.toBitVec).toNat < _
    rw [BitVec.toNat_or]
    exact Nat.or_lt_two_pow k1 k2
  have k4 : 2 ^ n ≤ 2 ^ 31 := Nat.pow_le_pow_right (by omega) (Nat.le_of_ble_eq_true hn)
  have k5 := z_ofnat (x := x ||| y) rfl (by omega)
  rw [k5]
  refine ⟨by omega, ?_⟩
  exact_mod_cast k3
theorem z_shl {v x y : Int32} {a : Int} (k : Nat) (e : v = x <<< (y &&& 31)) (hx : x.toInt = a) (hs : ((y &&& 31).toBitVec.smod 32).toNat = k) (h1 : 0 ≤ a) (h2 : a * 2 ^ k ≤ 2147483647) : v.toInt = a * 2 ^ k := by
  subst e
  have e1 := z_nat (x := x) (by omega)
  have q := pk_shl x (y &&& 31) k hs
  have e2 : ((x.toBitVec.toNat * 2 ^ k : Nat) : Int) = a * 2 ^ k := by rw [Int.natCast_mul, ← e1, hx]; norm_cast
  have e3 : x.toBitVec.toNat * 2 ^ k < 2147483648 := by
    have : ((x.toBitVec.toNat * 2 ^ k : Nat) : Int) ≤ 2147483647 := by rw [e2]; exact h2
    omega
  rw [Nat.mod_eq_of_lt (by omega)] at q
  rw [z_ofnat q e3, e2]
theorem z_sm : ∀ n, n < 32 → ((nI n &&& 31).toBitVec.smod 32).toNat = n := by decide +kernel
theorem z_shlV {v x y : Int32} {a b : Int} {A : Int} (n : Nat) (e : v = x <<< (y &&& 31)) (hx : x.toInt = a) (hy : y.toInt = b) (h0 : 0 ≤ b) (h3 : b ≤ n) (hn : Nat.ble n 30 = true) (h1 : 0 ≤ a) (hA : a ≤ A) (h2 : A * 2 ^ n ≤ 2147483647) : 0 ≤ v.toInt ∧ v.toInt ≤ A * 2 ^ n ∧ a ≤ v.toInt := by
  have hn := Nat.le_of_ble_eq_true hn
  obtain ⟨k, hk, rfl⟩ := nI_of (x := y) (fun q => by have := z_lt q hy (show (0 : Int32).toInt = 0 from rfl); omega)
  have hb : b = (k : Int) := by rw [← hy]; exact nI_toInt hk
  have hkn : k ≤ n := by omega
  have p1 : (2 : Int) ^ k ≤ 2 ^ n := by exact_mod_cast Nat.pow_le_pow_right (by omega) hkn
  have p0 : (1 : Int) ≤ 2 ^ k := by exact_mod_cast Nat.one_le_two_pow
  have p2 : a * 2 ^ k ≤ A * 2 ^ n := Int.mul_le_mul hA p1 (by omega) (by omega)
  have p3 : a * 1 ≤ a * 2 ^ k := Int.mul_le_mul_of_nonneg_left p0 h1
  have q := z_shl k e hx (z_sm k (by omega)) h1 (by omega)
  refine ⟨by omega, by omega, by omega⟩
theorem z_max {v x y : Int32} {a b : Int} (e : v = if x < y then y else x) (hx : x.toInt = a) (hy : y.toInt = b) : a ≤ v.toInt ∧ b ≤ v.toInt ∧ (v.toInt = a ∨ v.toInt = b) := by
  subst e
  split
  · rename_i h; have := z_lt h hx hy; omega
  · rename_i h; have := z_nlt h hx hy; omega
theorem z_min {v x y : Int32} {a b : Int} (e : v = if y < x then y else x) (hx : x.toInt = a) (hy : y.toInt = b) : v.toInt ≤ a ∧ v.toInt ≤ b ∧ (v.toInt = a ∨ v.toInt = b) := by
  subst e
  split
  · rename_i h; have := z_lt h hy hx; omega
  · rename_i h; have := z_nlt h hy hx; omega
theorem HT.arr {E : zE} {H H1 : Heap} (hT : HT E H) {a k : Nat} (hk : eK E a = k) (ho : zo k = false) {cell cell1 : Cell} (hc : H[a]? = some cell) (h1 : H1[a]? = some cell1) (hcls : cell1.cls = cell.cls) (hvm : cell1.vm = cell.vm) (hsz : cell1.slots.size = cell.slots.size) (hall : ∀ (i : Nat) (v : Value), cell1.slots[i]? = some v → dn (eK E) (zty (eX E) (eM E) k i) v) (hoq : ∀ q : Nat, q ≠ a → H1[q]? = H[q]?) : HT E H1 := by
  subst hk
  intro b hb
  obtain ⟨⟨cl, q1, q2, q3, q4⟩, hf⟩ := hT b hb
  by_cases hba : b = a
  · subst hba
    cases hc.symm.trans q1
    refine ⟨⟨_, h1, hcls.trans q2, hvm.trans q3, fun h => hsz.trans (q4 h)⟩, fun i hi => ?_⟩
    rw [zix_arr ho, sl_of h1]
    have hlt : i < cell1.slots.size := by rw [hsz, q4 ho]; exact hi
    exact ⟨cell1.slots[i], Array.getElem?_eq_getElem hlt, hall i _ (Array.getElem?_eq_getElem hlt)⟩
  · refine ⟨⟨cl, by rw [hoq b hba]; exact q1, q2, q3, q4⟩, fun i hi => ?_⟩
    obtain ⟨w, w1, w2⟩ := hf i hi
    exact ⟨w, by rw [sl_kept (hoq b hba)]; exact w1, w2⟩
theorem z_sp (P : Value → Prop) (at_ : Nat) : ∀ (ps : List (Value × Nat)) (c : Cell), (∀ q ∈ ps, P q.1) → (∀ (i : Nat) (v : Value), c.slots[i]? = some v → P v) → (c.storePairs at_ ps).cls = c.cls ∧ (c.storePairs at_ ps).vm = c.vm ∧ (c.storePairs at_ ps).slots.size = c.slots.size ∧ ∀ (i : Nat) (v : Value), (c.storePairs at_ ps).slots[i]? = some v → P v
  | [], c, _, h => ⟨rfl, rfl, rfl, h⟩
  | q :: r, c, hp, h => by
    have ih := z_sp P at_ r (c.setSlot (at_ + q.2) q.1) (fun z hz => hp z (List.mem_cons_of_mem _ hz)) (fun i v hv => by
      simp only [Cell.setSlot, Array.getElem?_setIfInBounds] at hv
      split at hv
      · split at hv
        · cases hv; exact hp q List.mem_cons_self
        · cases hv
      · exact h i v hv)
    exact ⟨ih.1, ih.2.1, ih.2.2.1.trans (by simp [Cell.setSlot]), ih.2.2.2⟩
section ZCP
variable {p : Program} {l : Launch} {e : Env} {R : Room} {s : State} {m : MethodId} {args : Array Value} {below : List Frame} {meth : Method} {c : Code} {H H0 : Heap} {locs : List Loc} {cells slots : Nat} {Q : State → Prop} {cc : ByteArray} {pc nL : Nat} {ls : Array Slot} {rest : List Value} {E : zE} {WS : List (Nat × Nat)} {own : String} {index : Nat}
theorem g_copyI (B : zB p s m args c E cc own nL) (hsize : ls.size = nL) (hG : zG E WS H0 H locs) {a0 a k0 k1 : Nat} (hkS : eK E a0 = k0) (hkD : eK E a = k1) (ho0 : zo k0 = false) (ho1 : zo k1 = false) (b0 : Nat.ble 1 k0 = true) (b1 : Nat.ble 1 k1 = true) (hat0 : zat k0 = some .int) (hat1 : zat k1 = some .int) {lo0 hi0 lo1 hi1 : Int} (hty0 : ∀ j, zty (eX E) (eM E) k0 j = .inl (lo0, hi0)) (hty1 : ∀ j, zty (eX E) (eM E) k1 j = .inl (lo1, hi1)) (hin : lo1 ≤ lo0 ∧ hi0 ≤ hi1) {n : Int32} {n0 n1 : Nat} (hz0 : zn k0 = n0) (hz1 : zn k1 = n1) (hn0 : 0 ≤ n.toInt) (hn1 : n.toInt ≤ (n0 : Int)) (hn2 : n.toInt ≤ (n1 : Int)) (hs : WS.any (fun r => Nat.beq r.1 k1 && Nat.beq r.2 99) = true)
    (hlink : Cond.methodLink own index arraycopyName ∈ wsL_law) (hnat : Cond.native arraycopyName ∈ wsL_law) (hstat : Cond.static arraycopyName ∈ wsL_law) (hini : Cond.initialized "java/lang/System" ∈ wsL_law) (hframes : 1 ≤ R.frames) (hlocals : (rest.map fun v => v.category).sum + (nativeFrameWords "java/lang/System" "arraycopy" 5 + 11) ≤ R.locals) (hdg : decode cc pc = .ok (.invokestatic index, 3))
    (kk : ∀ (H1 : Heap) (locs1 : List Loc), zG E WS H0 H1 locs1 → zFr E [(k1, 99)] H H1 → W p l e R s m args below meth c H1 locs1 cells slots Q (F0 m (pc + 3) ls rest)) : W p l e R s m args below meth c H locs cells slots Q (F0 m pc ls (.int n :: .int 0 :: .ref a :: .int 0 :: .ref a0 :: rest)) := by
  obtain ⟨hx, hb, hml, hown, hts, hK⟩ := B
  obtain ⟨c0, q1, q2, q3, q4⟩ := hG.1.hd hkS b0
  obtain ⟨c1, r1, r2, r3, r4⟩ := hG.1.hd hkD b1
  have A0 := zarr (H := H) hK hkS ho0 hat0 q2 q3
  have A1 := zarr (H := H) hK hkD ho1 hat1 r2 r3
  obtain ⟨v0, ks, hks, sc, hsk⟩ := A0
  obtain ⟨v1, kd, hkd, dc, hdk⟩ := A1
  have S0 : c0.slots.size = n0 := (q4 ho0).trans hz0
  have S1 : c1.slots.size = n1 := (r4 ho1).trans hz1
  have P0 : ∀ (i : Nat) (v : Value), c0.slots[i]? = some v → ∃ x : Int32, v = .int x ∧ lo0 ≤ x.toInt ∧ x.toInt ≤ hi0 := by
    intro i v hv
    have hi : i < zn k0 := by rw [hz0, ← S0]; exact (Array.getElem?_eq_some_iff.mp hv).1
    obtain ⟨w, w1, w2⟩ := hG.1.at hkS b0 hi
    rw [zix_arr ho0, sl_of q1, hv] at w1
    cases w1
    rw [hty0 i] at w2
    exact w2
  have P1 : ∀ (i : Nat) (v : Value), c1.slots[i]? = some v → ∃ x : Int32, v = .int x ∧ lo1 ≤ x.toInt ∧ x.toInt ≤ hi1 := by
    intro i v hv
    have hi : i < zn k1 := by rw [hz1, ← S1]; exact (Array.getElem?_eq_some_iff.mp hv).1
    obtain ⟨w, w1, w2⟩ := hG.1.at hkD b1 hi
    rw [zix_arr ho1, sl_of r1, hv] at w1
    cases w1
    rw [hty1 i] at w2
    exact w2
  have hnc := z_cl hn0
  have G0 : ∀ i, i < n.toNatClampNeg → ∃ x : Int32, c0.slots.getD ((0 : Int32).toNatClampNeg + i) .null = .int x ∧ lo0 ≤ x.toInt ∧ x.toInt ≤ hi0 := by
    intro i hi
    have hlt : (0 : Int32).toNatClampNeg + i < c0.slots.size := by
      have : (0 : Int32).toNatClampNeg = 0 := rfl
      rw [S0]; omega
    obtain ⟨x, hx2, hb2⟩ := P0 _ _ (Array.getElem?_eq_getElem hlt)
    exact ⟨x, by rw [Array.getD_eq_getD_getElem?, Array.getElem?_eq_getElem hlt]; exact hx2, hb2⟩
  intro T hT X
  obtain ⟨vm1, X1, step⟩ := X.arraycopy hx hown (hts _ hlink) (hts _ hnat) (hts _ hstat) (hts _ hini) (src := a0) (dst := a) (cs := c0) (cd := c1) (srcPos := 0) (destPos := 0) (n := n) (by rw [hT]; exact q1) (by rw [hT]; exact r1) v0 v1 (by rw [q3]; exact fun h => by cases h) (by rw [r3]; exact fun h => by cases h) hks hkd hsk hdk (by decide) (by decide) (by decide) (fun q => by have := z_lt q rfl (show (0 : Int32).toInt = 0 from rfl); omega)
    (by rw [S0, show (0 : Int32).toInt = 0 from rfl]; omega) (by rw [S1, show (0 : Int32).toInt = 0 from rfl]; omega)
    (fun vm' _ i hi => by
      obtain ⟨x, hx2, -⟩ := G0 i hi
      rw [hx2]
      exact ⟨rfl, trivial⟩)
    (g := F0 m pc ls (.int n :: .int 0 :: .ref a :: .int 0 :: .ref a0 :: rest)) rfl (hsize.trans hml.symm) (rest := rest) rfl (by rw [hb]; exact hdg) hframes (by show 2 * 0 + _ + _ ≤ _; omega)
  have hl : a < H.size := (Array.getElem?_eq_some_iff.mp r1).1
  have hq : ∀ q ∈ ((c0.stretch (0 : Int32).toNatClampNeg n.toNatClampNeg).zipIdx), ∃ x : Int32, q.1 = .int x ∧ lo1 ≤ x.toInt ∧ x.toInt ≤ hi1 := by
    intro q hq
    have h5 : q.1 ∈ c0.stretch (0 : Int32).toNatClampNeg n.toNatClampNeg := by
      have := List.mem_zipIdx' hq
      rw [this.2]
      exact List.getElem_mem _
    unfold Cell.stretch at h5
    obtain ⟨i, hi, he⟩ := List.mem_map.mp h5
    obtain ⟨x, hx2, hx3, hx4⟩ := G0 i (List.mem_range.mp hi)
    exact ⟨x, by rw [← he]; exact hx2, by omega, by omega⟩
  obtain ⟨e1, e2, e3, e4⟩ := z_sp (fun v => ∃ x : Int32, v = .int x ∧ lo1 ≤ x.toInt ∧ x.toInt ≤ hi1) (0 : Int32).toNatClampNeg _ c1 hq P1
  have hheap : ((T.setVm vm1).setCell a (copied c0 c1 0 0 n)).heap = H.setIfInBounds a (copied c0 c1 0 0 n) := by rw [← hT]; rfl
  have h1 : (H.setIfInBounds a (copied c0 c1 0 0 n))[a]? = some (copied c0 c1 0 0 n) := by simp [Array.getElem?_setIfInBounds, hl]
  have oq : ∀ q : Nat, q ≠ a → (H.setIfInBounds a (copied c0 c1 0 0 n))[q]? = H[q]? := fun q hq => by simp [Array.getElem?_setIfInBounds, Ne.symm hq]
  have hT1 : HT E (H.setIfInBounds a (copied c0 c1 0 0 n)) := hG.1.arr hkD ho1 r1 h1 e1 e2 e3 (fun i v hv => by rw [hty1 i]; exact e4 i v hv) oq
  have hk1 : k1 ≠ 0 := by have := Nat.le_of_ble_eq_true b1; omega
  have hF : zFr E [(k1, 99)] H (H.setIfInBounds a (copied c0 c1 0 0 n)) := by
    refine ⟨by simp, fun b hb2 => oq b (fun e => by subst e; omega), fun b i hn3 => ?_⟩
    by_cases hba : b = a
    · subst hba
      exact absurd ⟨(k1, 99), List.mem_cons_self, hkD, Or.inl rfl⟩ hn3
    · exact sl_kept (oq b hba)
  obtain ⟨t, a1, b2⟩ := kk _ _ ⟨hT1, hG.2.1.trans hF (by
      show ([(k1, 99)] : List (Nat × Nat)).all _ = true
      rw [List.all_cons, List.all_nil, Bool.and_true]
      obtain ⟨r, hr, h3⟩ := List.any_eq_true.mp hs
      rw [Bool.and_eq_true] at h3
      exact List.any_eq_true.mpr ⟨r, hr, by rw [Bool.and_eq_true, Bool.or_eq_true, Nat.eq_of_beq_eq_true h3.1]; exact ⟨Nat.beq_refl _, Or.inr h3.2⟩⟩), fun q hq2 => (List.mem_append.mp hq2).elim (hG.2.2 q) (fun h => by
      obtain ⟨z, -, hz⟩ := List.mem_map.mp h
      rw [← hz]
      show eK E a ≠ 0
      rw [hkD]; exact hk1)⟩ hF _ hheap X1
  exact ⟨t, step t a1, b2⟩
end ZCP
def zlen (i : Nat) : Int := ((zln.getD i 0 : Nat) : Int)
theorem z_zl {x : Int32} {i : Nat} (hi : i < 11) (e : x = Int32.ofNat (zln.getD i 0)) : x.toInt = zlen i ∧ 2 ≤ x.toInt ∧ x.toInt ≤ 7 := by
  subst e
  have h : ∀ i, i < 11 → (2 ≤ zln.getD i 0 ∧ zln.getD i 0 ≤ 7) := by decide
  have h1 := h i hi
  have h2 : (Int32.ofNat (zln.getD i 0)).toInt = ((zln.getD i 0 : Nat) : Int) := nI_toInt (by omega)
  unfold zlen
  omega
theorem z_shr0 {v x y : Int32} (e : v = x >>> (y &&& 31)) (hy : y.toInt = 0) : v.toInt = x.toInt := by
  have h0 : y = 0 := Int32.toInt_inj.mp (by rw [hy]; rfl)
  subst h0
  rw [e, sb_shr0]
theorem zS0 {A : Nat → Prop} {s : State} {H : Heap} (hh : s.heap = H) : va_S A s.heap H [] := by rw [← hh]; exact va_S.rf
section ZST
variable {p : Program} {l : Launch} {e : Env} {R : Room} {s : State} {m : MethodId} {args : Array Value} {below : List Frame} {meth : Method} {c : Code} {H H0 : Heap} {locs : List Loc} {cells slots : Nat} {cc : ByteArray} {pc nL : Nat} {ls : Array Slot} {rest st0 : List Value} {E : zE} {own : String} {index i : Nat} {y : MethodName} {bytes : ByteArray} {maxL n : Nat} {ret : Option FieldType} {rm : Room} {Qc : Array Value → State → Outcome → State → Prop} {free : Nat → Prop} {As : List Value}
theorem zrStr (B : zB p s m args c E cc own nL) (hM : Met l y (zws y bytes maxL ret) rm (zP E H (.ref (eS E i) :: As)) Qc 0 0 free) (cl : zCl own index RJ0 y bytes maxL ret n) (hi : i < 11) (hn : As.length = n) (hsize : ls.size = nL) (hst : st0 = As.reverse ++ .ref (eS E i) :: rest) (hW : (rest.map fun v => v.category).sum ≤ 8) (hdg : decode cc pc = .ok (.invokevirtual index, 3)) (hrc : rm.cells = 0) (hrs : rm.slots = 0) (hR : Nat.ble (rm.frames + 1) R.frames = true ∧ Nat.ble (8 + (maxL + 11) + rm.locals) R.locals = true) (hcs : cells ≤ R.cells ∧ slots ≤ R.slots) (hO : zO E s H) :
    va_Run p l e R s m args below meth c H locs cells slots 0 0 (F0 m pc ls st0) rest (Qc (Value.ref (eS E i) :: As).toArray) free := by
  obtain ⟨hx, hb, hml, hown, hts, hK⟩ := B
  obtain ⟨c1, c2, c3, c4, c5, c6⟩ := cl
  obtain ⟨cell, h1, h2, h3, h4⟩ := (hK.2.2.2.2.1.1 i hi).1
  refine va_runV (As := As) (rest := rest) (C := RJ0) ⟨hx, hb, hml, hown, hts⟩ hM ⟨callB_of n hts (z_good c1) rfl hrc hrs (hts _ c2) (hts _ c3) c6 ⟨Nat.le_of_ble_eq_true hR.1, Nat.le_of_ble_eq_true hR.2⟩, hts _ c4, hts _ c5⟩ ⟨zP_blind, ⟨cell, by rw [hO _ (zfr_n h4)]; exact h1, h2, h3⟩, fun U hU hW => ⟨rfl, hU, hK.warm hW hU hO⟩⟩ rfl hn hsize hst (lv_room hW) hdg hcs
end ZST
def zPV : Array Value → State → Outcome → State → Prop := fun _ st oc t => oc = .returned none ∧ t.heap = st.heap
section ZPV
variable {p : Program} {l : Launch} {e : Env} {R : Room} {s : State} {m : MethodId} {args : Array Value} {below : List Frame} {meth : Method} {c : Code} {H H0 : Heap} {locs : List Loc} {cells slots : Nat} {Q : State → Prop} {cc : ByteArray} {pc nL : Nat} {ls : Array Slot} {rest st0 : List Value} {E : zE} {own : String}
theorem zkPV {av : Array Value} (hr : va_Run p l e R s m args below meth c H locs cells slots 0 0 (F0 m pc ls st0) rest (zPV av) (fun _ => False)) (kk : W p l e R s m args below meth c H locs cells slots Q (F0 m (pc + 3) ls rest)) : W p l e R s m args below meth c H locs cells slots Q (F0 m pc ls st0) := by
  intro T hT X
  obtain ⟨v, st₀, t, T', L, h0, X', hL, e1, e2, ⟨hv, hh⟩, st⟩ := hr T hT X
  cases hv
  have hL0 : L = [] := by
    cases L with
    | nil => rfl
    | cons q L => exact (hL q List.mem_cons_self).elim
  subst hL0
  rw [List.append_nil] at X'
  obtain ⟨t2, a1, b1⟩ := kk T' (by rw [e1, hh, h0]) X'
  exact ⟨t2, st t2 a1, b1⟩
theorem rtPV (B : zB p s m args c E cc own nL) (hr : meth.sig.returnType = none) (hlocks : meth.locks = false) (hh : s.heap = H) (hQ : Q = MQ below zPV args s 0 0 (fun _ => False)) (hdg : decode cc pc = .ok (.return_, 1)) : W p l e R s m args below meth c H [] 0 0 Q (F0 m pc ls []) := by
  subst hQ
  exact W.vret B.1 B.2.1 hr (fun t ht hW => ⟨rfl, ht.trans hh.symm⟩) (fun _ h => by cases h) hdg hlocks
end ZPV
theorem z_lcmpI {v : Int32} {x y : Int64} (e : v = lg_cmp x y) : (-1 ≤ v.toInt ∧ v.toInt ≤ 1) ∧ (v.toInt = 0 ↔ x.toInt = y.toInt) := by
  obtain ⟨h1, h2⟩ := z_lcmp e
  exact ⟨h1, h2.trans Int64.toInt_inj.symm⟩
theorem HT.elI {E : zE} {H : Heap} (hT : HT E H) {a k : Nat} (hk : eK E a = k) (h0 : Nat.ble 1 k = true) (ho : zo k = false) {i : Int32} {N : Nat} (hN : zn k = N) (hi0 : 0 ≤ i.toInt) (hi1 : i.toInt < (N : Int)) {lo hi : Int} (hty : zty (eX E) (eM E) k i.toNatClampNeg = .inl (lo, hi)) : ∃ x : Int32, sl H a i.toNatClampNeg = some (.int x) ∧ lo ≤ x.toInt ∧ x.toInt ≤ hi := by
  obtain ⟨x, h1, h2⟩ := hT.atI hk h0 (j := i.toNatClampNeg) (by rw [hN]; exact z_clN hi0 hi1) hty
  rw [zix_arr ho] at h1
  exact ⟨x, h1, h2⟩
def zpl (j : Nat) : (Int × Int) ⊕ (Nat ⊕ Nat) := if j % 31 = 30 then .inl (-2147483648, 2147483647) else .inl (-1, 11)
theorem zpl_dn {K : Nat → Nat} {j : Nat} {v : Value} : dn K (zpl j) v ↔ ∃ x : Int32, v = .int x ∧ (j % 31 = 30 ∨ (-1 ≤ x.toInt ∧ x.toInt ≤ 11)) := by
  unfold zpl
  by_cases h : j % 31 = 30
  · rw [if_pos h]
    exact ⟨fun ⟨x, h1, _⟩ => ⟨x, h1, Or.inl h⟩, fun ⟨x, h1, _⟩ => ⟨x, h1, (z_rng x).1, (z_rng x).2⟩⟩
  · rw [if_neg h]
    exact ⟨fun ⟨x, h1, h2⟩ => ⟨x, h1, Or.inr h2⟩, fun ⟨x, h1, h2⟩ => ⟨x, h1, h2.resolve_left h⟩⟩
theorem z_idx {H : Heap} {a : Nat} {x : Option Value} {i : Int32} {n : Int} (h : sl H a i.toNatClampNeg = x) (e : i.toInt = n) : sl H a n.toNat = x := by subst e; exact h
def zOw (H : Heap) (pl : Nat) (p q : Int32) : Prop := ∃ v : Int32, sl H pl (31 * p.toInt + q.toInt).toNat = some (.int v) ∧ 0 ≤ v.toInt
theorem z_sq {a b : Int} (h : 0 ≤ a) : a * b = 0 ∨ 1 ≤ a := by
  by_cases h1 : a = 0
  · subst h1; left; exact Int.zero_mul b
  · right; omega
section ZPO
variable {p : Program} {l : Launch} {e : Env} {R : Room} {s : State} {m : MethodId} {args : Array Value} {below : List Frame} {meth : Method} {c : Code} {H H0 : Heap} {locs : List Loc} {cells slots : Nat} {Q : State → Prop} {cc : ByteArray} {pc nL : Nat} {ls : Array Slot} {rest : List Value} {E : zE} {WS : List (Nat × Nat)} {own : String} {a k : Nat}
theorem g_ialdP (B : zB p s m args c E cc own nL) (hT : HT E H) (hk : eK E a = k) (ho : zo k = false) (h0 : Nat.ble 1 k = true) (hat : zat k = some .int) {i : Int32} {N : Nat} (hN : zn k = N) (hty : ∀ j, zty (eX E) (eM E) k j = zpl j) (hi0 : 0 ≤ i.toInt) (hi1 : i.toInt < (N : Int)) (hdg : decode cc pc = .ok (.iaload, 1))
    (kk : ∀ x : Int32, sl H a i.toNatClampNeg = some (.int x) → (i.toNatClampNeg % 31 = 30 ∨ (-1 ≤ x.toInt ∧ x.toInt ≤ 11)) → W p l e R s m args below meth c H locs cells slots Q (F0 m (pc + 1) ls (.int x :: rest))) : W p l e R s m args below meth c H locs cells slots Q (F0 m pc ls (.int i :: .ref a :: rest)) := by
  obtain ⟨v, h1, h2⟩ := hT.at hk h0 (j := i.toNatClampNeg) (by rw [hN]; exact z_clN hi0 hi1)
  rw [zix_arr ho] at h1
  rw [hty] at h2
  obtain ⟨x, rfl, h3⟩ := zpl_dn.mp h2
  exact g_iald B hT hk ho h0 hat hN hi0 hi1 h1 hdg (kk x h1 h3)
theorem g_iastP (B : zB p s m args c E cc own nL) (hV : zV E) (hG : zG E WS H0 H locs) (hk : eK E a = k) (ho : zo k = false) (h0 : Nat.ble 1 k = true) (hat : zat k = some .int) {i : Int32} {N : Nat} (hN : zn k = N) (hty : ∀ j, zty (eX E) (eM E) k j = zpl j) (hi0 : 0 ≤ i.toInt) (hi1 : i.toInt < (N : Int)) {x : Int32} (hv : i.toNatClampNeg % 31 = 30 ∨ (-1 ≤ x.toInt ∧ x.toInt ≤ 11)) (hs : WS.any (fun r => Nat.beq r.1 k && Nat.beq r.2 99) = true) (hdg : decode cc pc = .ok (.iastore, 1))
    (kk : ∀ (H1 : Heap) (locs1 : List Loc), zG E WS H0 H1 locs1 → Up H H1 a i.toNatClampNeg (.int x) → W p l e R s m args below meth c H1 locs1 cells slots Q (F0 m (pc + 1) ls rest)) : W p l e R s m args below meth c H locs cells slots Q (F0 m pc ls (.int x :: .int i :: .ref a :: rest)) :=
  g_iast B hV hG hk ho h0 hat hN hi0 hi1 (by rw [hty]; exact zpl_dn.mpr ⟨x, rfl, hv⟩) hs hdg kk
end ZPO
theorem kL_422775452260 : (422775452260 : Int64).toInt = 422775452260 := by decide
theorem kL_25209 : (25209 : Int64).toInt = 25209 := by decide
theorem kL_482804589413 : (482804589413 : Int64).toInt = 482804589413 := by decide
theorem kL_1802071655 : (1802071655 : Int64).toInt = 1802071655 := by decide
theorem kL_1818583408 : (1818583408 : Int64).toInt = 1818583408 := by decide
theorem kL_1919509605 : (1919509605 : Int64).toInt = 1919509605 := by decide
theorem kL_28832985044316772 : (28832985044316772 : Int64).toInt = 28832985044316772 := by decide
theorem kL_512852849765 : (512852849765 : Int64).toInt = 512852849765 := by decide
theorem kL_422725116779 : (422725116779 : Int64).toInt = 422725116779 := by decide
theorem kL_24948 : (24948 : Int64).toInt = 24948 := by decide
theorem kL_439904990056 : (439904990056 : Int64).toInt = 439904990056 := by decide
theorem kL_0 : (0 : Int64).toInt = 0 := by decide
