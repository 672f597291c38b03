/-! rows over a heap of kinds -/
theorem z_lt {x y : Int32} {a b : Int} (h : x < y) (hx : x.toInt = a) (hy : y.toInt = b) : a < b := by rw [← hx, ← hy]; exact Int32.lt_iff_toInt_lt.mp h
theorem z_nlt {x y : Int32} {a b : Int} (h : ¬ x < y) (hx : x.toInt = a) (hy : y.toInt = b) : b ≤ a := by
  rw [← hx, ← hy]; exact Int.not_lt.mp (fun q => h (Int32.lt_iff_toInt_lt.mpr q))
theorem z_le {x y : Int32} {a b : Int} (h : x ≤ y) (hx : x.toInt = a) (hy : y.toInt = b) : a ≤ b := by rw [← hx, ← hy]; exact Int32.le_iff_toInt_le.mp h
theorem z_nle {x y : Int32} {a b : Int} (h : ¬ x ≤ y) (hx : x.toInt = a) (hy : y.toInt = b) : b < a := by
  rw [← hx, ← hy]; exact Int.not_le.mp (fun q => h (Int32.le_iff_toInt_le.mpr q))
theorem z_eq {x y : Int32} {a b : Int} (h : x = y) (hx : x.toInt = a) (hy : y.toInt = b) : a = b := by rw [← hx, ← hy, h]
theorem z_ne {x y : Int32} {a b : Int} (h : ¬ x = y) (hx : x.toInt = a) (hy : y.toInt = b) : a ≠ b := by
  rw [← hx, ← hy]; exact fun q => h (Int32.toInt_inj.mp q)
theorem z_bm {n : Int} (h1 : -2147483648 ≤ n) (h2 : n ≤ 2147483647) : n.bmod (2 ^ 32) = n := by
  have e : (2 ^ 32 : Nat) = 4294967296 := by decide
  rw [e]
  unfold Int.bmod
  dsimp only
  split <;> omega
theorem z_add {v x y : Int32} {a b : Int} (e : v = x + y) (hx : x.toInt = a) (hy : y.toInt = b) (h1 : -2147483648 ≤ a + b) (h2 : a + b ≤ 2147483647) : v.toInt = a + b := by
  rw [e, Int32.toInt_add, hx, hy]; exact z_bm h1 h2
theorem z_sub {v x y : Int32} {a b : Int} (e : v = x - y) (hx : x.toInt = a) (hy : y.toInt = b) (h1 : -2147483648 ≤ a - b) (h2 : a - b ≤ 2147483647) : v.toInt = a - b := by
  rw [e, Int32.toInt_sub, hx, hy]; exact z_bm h1 h2
theorem z_mul {v x y : Int32} {a b : Int} (e : v = x * y) (hx : x.toInt = a) (hy : y.toInt = b) (h1 : -2147483648 ≤ a * b) (h2 : a * b ≤ 2147483647) : v.toInt = a * b := by
  rw [e, Int32.toInt_mul, hx, hy]; exact z_bm h1 h2
theorem z_neg {v x : Int32} {a : Int} (e : v = -x) (hx : x.toInt = a) (h1 : -2147483647 ≤ a) : v.toInt = -a := by
  have h3 := Int32.toInt_lt x
  rw [hx] at h3
  rw [e, Int32.toInt_neg, hx]; exact z_bm (by omega) (by omega)
theorem z_mulB {a b A B : Int} (h1 : 0 ≤ a) (h2 : a ≤ A) (h3 : 0 ≤ b) (h4 : b ≤ B) : 0 ≤ a * b ∧ a * b ≤ A * B :=
  ⟨Int.mul_nonneg h1 h3, Int.mul_le_mul h2 h4 h3 (Int.le_trans h1 h2)⟩
theorem z_inc2 {v x : Int32} {a : Int} {n : Int} (e : x + Int32.ofInt n = v) (hx : x.toInt = a) (hn : (Int32.ofInt n).toInt = n) (h1 : -2147483648 ≤ a + n) (h2 : a + n ≤ 2147483647) : v.toInt = a + n := z_add e.symm hx hn h1 h2
theorem z_andR {v x y : Int32} {b : Int} (e : v = x &&& y) (hy : y.toInt = b) (h : 0 ≤ b) : 0 ≤ v.toInt ∧ v.toInt ≤ b := by
  subst e
  have hb : 0 ≤ y.toInt := by rw [hy]; exact h
  have hn : y.toBitVec.toNat < 2 ^ 31 := by
    have h5 : 0 ≤ y.toBitVec.toInt := hb
    have h6 := y.toBitVec.isLt
    rw [BitVec.toInt_eq_toNat_cond] at h5
    split at h5 <;> omega
  have h7 : (x &&& y).toBitVec.toNat ≤ y.toBitVec.toNat := by
    show (x.toBitVec &&& y.toBitVec).toNat ≤ _
    rw [BitVec.toNat_and]; exact Nat.and_le_right
  have h8 : (x &&& y).toInt = ((x &&& y).toBitVec.toNat : Int) := by
    show (x &&& y).toBitVec.toInt = _
    rw [BitVec.toInt_eq_toNat_cond]; split <;> omega
  have h9 : y.toInt = (y.toBitVec.toNat : Int) := by
    show y.toBitVec.toInt = _
    rw [BitVec.toInt_eq_toNat_cond]; split <;> omega
  rw [h8, ← hy, h9]
  omega
theorem z_andL {v x y : Int32} {b : Int} (e : v = x &&& y) (hx : x.toInt = b) (h : 0 ≤ b) : 0 ≤ v.toInt ∧ v.toInt ≤ b := z_andR (e.trans (Int32.and_comm x y)) hx h
theorem z_rng2 (x : Int32) : -2147483648 ≤ x.toInt ∧ x.toInt ≤ 2147483647 := z_rng x
theorem z_01 {x : Int32} (h1 : 0 ≤ x.toInt) (h2 : x.toInt ≤ 1) : x = 0 ∨ x = 1 := by
  have h : x.toInt = 0 ∨ x.toInt = 1 := by omega
  rcases h with h | h
  · exact Or.inl (Int32.toInt_inj.mp (by rw [h]; rfl))
  · exact Or.inr (Int32.toInt_inj.mp (by rw [h]; rfl))
theorem z_nz {x : Int32} (h1 : 0 ≤ x.toInt) (h2 : x.toInt ≤ 1) : narrow .boolean (.int x) = .int x := by
  rcases z_01 h1 h2 with rfl | rfl <;> rfl
theorem z_cl {x : Int32} (h : 0 ≤ x.toInt) : ((x.toNatClampNeg : Nat) : Int) = x.toInt := by
  show ((x.toInt.toNat : Nat) : Int) = _
  omega
theorem z_vin {x : Int32} {N : Nat} (h0 : 0 ≤ x.toInt) (h1 : x.toInt < (N : Int)) : vp_in x N := vp_in_iff.mpr ⟨h0, h1⟩
theorem z_clN {x : Int32} {N : Nat} (h0 : 0 ≤ x.toInt) (h1 : x.toInt < (N : Int)) : x.toNatClampNeg < N := by
  have := z_cl h0
  omega
theorem z_good {y : MethodName} {cc : ByteArray} {maxL : Nat} {ret : Option FieldType} (h : Cond.code y cc maxL ret ∈ wsL_law) : GoodIn wsL_law (zws y cc maxL ret) := fun w hw => by
  rcases List.mem_cons.mp hw with e | hw
  · subst e; exact ⟨h, (wsL_good _ h).2⟩
  · exact ⟨hw, (wsL_good w hw).2⟩
def zFld (own : String) (index ci j : Nat) : Prop := ∃ (C : String) (T : u_T) (N : Nat), vwCl[ci]? = some (C, T, N) ∧ j < N ∧ (∀ w ∈ u_ws C T N, w ∈ wsL_law) ∧ Cond.fieldLink own index (T j).1 (T j).2.1 (T j).2.2.1 ∈ wsL_law
def zFlp (own : String) (index ci j : Nat) (ty : FieldType) : Prop := ∃ (C : String) (T : u_T) (N : Nat), vwCl[ci]? = some (C, T, N) ∧ j < N ∧ (∀ w ∈ u_ws C T N, w ∈ wsL_law) ∧ Cond.fieldLink own index (T j).1 (T j).2.1 (T j).2.2.1 ∈ wsL_law ∧ (T j).2.2.2 = false ∧ parseFieldDescriptor (T j).2.2.1 = some ty
theorem zFlp.fld {own : String} {index ci j : Nat} {ty : FieldType} (h : zFlp own index ci j ty) : zFld own index ci j := by
  obtain ⟨C, T, N, h1, h2, h3, h4, -⟩ := h
  exact ⟨C, T, N, h1, h2, h3, h4⟩
def zCl (own : String) (index : Nat) (C : String) (y : MethodName) (bytes : ByteArray) (maxL : Nat) (ret : Option FieldType) (n : Nat) : Prop := Cond.code y bytes maxL ret ∈ wsL_law ∧ Cond.initialized y.cls ∈ wsL_law ∧ Cond.methodLink own index y ∈ wsL_law ∧ Cond.instanceMethod y ∈ wsL_law ∧ Cond.selects C y y ∈ wsL_law ∧ (y.cls ≠ "java/lang/invoke/MethodHandle" ∧ y.cls ≠ "java/lang/invoke/VarHandle" ∧ (parseMethodDescriptor y.desc).map (fun d => d.parameters.length) = some n)
def zCs (own : String) (index : Nat) (y : MethodName) (bytes : ByteArray) (maxL : Nat) (ret : Option FieldType) (n : Nat) : Prop := Cond.code y bytes maxL ret ∈ wsL_law ∧ Cond.initialized y.cls ∈ wsL_law ∧ Cond.methodLink own index y ∈ wsL_law ∧ Cond.static y ∈ wsL_law ∧ (y.cls ≠ "java/lang/invoke/MethodHandle" ∧ y.cls ≠ "java/lang/invoke/VarHandle" ∧ (parseMethodDescriptor y.desc).map (fun d => d.parameters.length) = some n)
section ZR
variable {p : Program} {l : Launch} {e : Env} {R : Room} {s : State} {m : MethodId} {args : Array Value} {below : List Frame} {meth : Method} {c : Code} {H H0 : Heap} {locs : List Loc} {cells slots : Nat} {Q : State → Prop} {cc : ByteArray} {pc nL : Nat} {ls : Array Slot} {rest st0 : List Value} {E : zE} {WS W1 : List (Nat × Nat)} {own : String} {index ci j k a : Nat}
def zB (p : Program) (s : State) (m : MethodId) (args : Array Value) (c : Code) (E : zE) (cc : ByteArray) (own : String) (nL : Nat) : Prop := p.tables.exec = Jvm.exec ∧ c.code = cc ∧ c.maxLocals = nL ∧ s.vm.findClass own = some m.cls ∧ (∀ w ∈ wsL_law, w.before args s = true) ∧ zK E s
theorem zEnt {y : MethodName} {ret : Option FieldType} {av : List Value} {Qc : Array Value → State → Outcome → State → Prop} {free : Nat → Prop} {rm : Room} {mc ms : Nat} (hy : plainName y.cls = true) (hlen : (lg_sl av).length ≤ nL)
    (body : ∀ (p : Program) (e : Env) (s : State) (m : MethodId) (args : Array Value) (below : List Frame) (meth : Method) (c : Code) (ls : Array Slot) (Q : State → Prop), zB p s m args c E cc y.cls nL → meth.sig.returnType = ret → meth.locks = false → s.heap = H0 → Q = MQ below Qc args s mc ms free → lv_has ls nL (lv_args 0 av) →
      W p l e rm s m args below meth c H0 [] 0 0 Q (F0 m 0 ls [])) : Met l y (zws y cc nL ret) rm (zP E H0 av) Qc mc ms free := by
  refine Met.ofW (cc := cc) (maxL := nL) (ret := ret) hy rfl ?_
  intro p e s m args below meth c s₁ B hml hv
  obtain ⟨rfl, hh, hK⟩ := hv
  have hl := lv_entry av (n := nL) hlen
  rw [lg_entry_eq]
  generalize (lg_sl av ++ List.replicate (nL - (lg_sl av).length) Slot.unset).toArray = ls at hl ⊢
  rw [hh]
  have hts := atoms_spec (ws := zws y cc nL ret) B.pre
  exact body p e s m av.toArray below meth c ls _ ⟨B.exec, B.bytes, hml, findClass_of_methodNamed B.named, fun w hw => hts w (List.mem_cons_of_mem _ hw), hK⟩ B.returns B.notSynchronized hh rfl hl
theorem g_get (B : zB p s m args c E cc own nL) (hf : zFld own index ci j) (hT : HT E H) (hk : eK E a = k) (ho : zo k = true) (hci : zci k = ci) (h0 : Nat.ble 1 k = true) (hdg : decode cc pc = .ok (.getfield index, 3)) {v : Value} (hv : sl H a (zix E k j) = some v)
    (kk : W p l e R s m args below meth c H locs cells slots Q (F0 m (pc + 3) ls (v :: rest))) : W p l e R s m args below meth c H locs cells slots Q (F0 m pc ls (.ref a :: rest)) := by
  obtain ⟨hx, hb, -, hown, hts, hK⟩ := B
  obtain ⟨C, T, N, hc, hj, hin, hl⟩ := hf
  obtain ⟨hS, hfc, kC, hkC, hkind⟩ := hK.1.1 ci _ hc
  obtain ⟨cf, kf, fi, f, hi, hsl⟩ := hS j hj
  obtain ⟨cell, q1, q2, q3, q4⟩ := hT.hd hk h0
  rw [sl_of q1, zix_obj ho, hci] at hv
  exact W.getf hx hb hown (hts _ hl) hi (u_facts hfc hkC (u_lays hts hin hj) hi).1 q1 (by rw [q3]; exact fun h => by cases h) (by rw [hsl]; exact hv) rfl rfl hdg kk
theorem g_getI (B : zB p s m args c E cc own nL) (hf : zFld own index ci j) (hT : HT E H) (hk : eK E a = k) (ho : zo k = true) (hci : zci k = ci) (h0 : Nat.ble 1 k = true) (hj : Nat.blt j (zn k) = true) {lo hi : Int} (hty : zty (eX E) (eM E) k j = .inl (lo, hi)) (hdg : decode cc pc = .ok (.getfield index, 3))
    (kk : ∀ x : Int32, sl H a (zix E k j) = some (.int x) → lo ≤ x.toInt → x.toInt ≤ hi → W p l e R s m args below meth c H locs cells slots Q (F0 m (pc + 3) ls (.int x :: rest))) : W p l e R s m args below meth c H locs cells slots Q (F0 m pc ls (.ref a :: rest)) := by
  obtain ⟨x, h1, h2, h3⟩ := hT.atI hk h0 (Nat.le_of_ble_eq_true hj) hty
  exact g_get B hf hT hk ho hci h0 hdg h1 (kk x h1 h2 h3)
theorem g_getR (B : zB p s m args c E cc own nL) (hf : zFld own index ci j) (hT : HT E H) (hk : eK E a = k) (ho : zo k = true) (hci : zci k = ci) (h0 : Nat.ble 1 k = true) (hj : Nat.blt j (zn k) = true) {k2 : Nat} (hty : zty (eX E) (eM E) k j = .inr (.inl k2)) (hdg : decode cc pc = .ok (.getfield index, 3))
    (kk : ∀ b : Nat, sl H a (zix E k j) = some (.ref b) → eK E b = k2 → W p l e R s m args below meth c H locs cells slots Q (F0 m (pc + 3) ls (.ref b :: rest))) : W p l e R s m args below meth c H locs cells slots Q (F0 m pc ls (.ref a :: rest)) := by
  obtain ⟨b, h1, h2⟩ := hT.atR hk h0 (Nat.le_of_ble_eq_true hj) hty
  exact g_get B hf hT hk ho hci h0 hdg h1 (kk b h1 h2)
theorem g_getL (B : zB p s m args c E cc own nL) (hf : zFld own index ci j) (hT : HT E H) (hk : eK E a = k) (ho : zo k = true) (hci : zci k = ci) (h0 : Nat.ble 1 k = true) (hj : Nat.blt j (zn k) = true) (hty : zty (eX E) (eM E) k j = .inr (.inr 0)) (hdg : decode cc pc = .ok (.getfield index, 3))
    (kk : ∀ y : Int64, sl H a (zix E k j) = some (.long y) → W p l e R s m args below meth c H locs cells slots Q (F0 m (pc + 3) ls (.long y :: rest))) : W p l e R s m args below meth c H locs cells slots Q (F0 m pc ls (.ref a :: rest)) := by
  obtain ⟨y, h1⟩ := hT.atL hk h0 (Nat.le_of_ble_eq_true hj) hty
  exact g_get B hf hT hk ho hci h0 hdg h1 (kk y h1)
theorem g_putC (B : zB p s m args c E cc own nL) {ty : FieldType} (hf : zFlp own index ci j ty) (hT : HT E H) (hk : eK E a = k) (ho : zo k = true) (hci : zci k = ci) (h0 : Nat.ble 1 k = true) (hj : Nat.blt j (zn k) = true) {v : Value} (hn : narrow ty v = v) (hfit : fits ty v = true) (hdg : decode cc pc = .ok (.putfield index, 3))
    (kk : ∀ (H1 : Heap) (cell : Cell), H[a]? = some cell → H1[a]? = some (cell.setSlot (zix E k j) v) → Up H H1 a (zix E k j) v → W p l e R s m args below meth c H1 (locs ++ [⟨a, zix E k j⟩]) cells slots Q (F0 m (pc + 3) ls rest)) : W p l e R s m args below meth c H locs cells slots Q (F0 m pc ls (v :: .ref a :: rest)) := by
  obtain ⟨hx, hb, -, hown, hts, hK⟩ := B
  obtain ⟨C, T, N, hc, hjN, hin, hl, hfin, hd⟩ := hf
  obtain ⟨hS, hfc, kC, hkC, hkind⟩ := hK.1.1 ci _ hc
  obtain ⟨cf, kf, fi, f, hi, hsl⟩ := hS j hjN
  obtain ⟨cell, q1, q2, q3, q4⟩ := hT.hd hk h0
  obtain ⟨v0, w1, -⟩ := hT.at hk h0 (Nat.le_of_ble_eq_true hj)
  rw [zcl_obj ho, hci] at q2
  have hix : zix E k j = f.slot := by rw [zix_obj ho, hci, hsl]
  rw [sl_of q1, hix] at w1
  have hlay := hts _ (hin _ (u_in_lay hjN))
  unfold u_lay at hlay
  rw [if_neg (by rw [hfin]; decide)] at hlay
  have h6 := u_store hfc hkC hkind hlay hi hd hn hfit
  refine W.putK hx hb (f := f) ⟨hown, hts _ hl, ⟨_, _, _, hi⟩, (u_facts hfc hkC (u_lays hts hin hjN) hi).1⟩ (by rw [q2]; exact h6) q1 q3 (k2_hasslot w1) rfl rfl hdg fun H1 e1 e2 e3 => ?_
  rw [← hix] at e1 ⊢
  exact kk H1 cell q1 e1 (up_of q1 e1 e2 e3 (by rw [hix]; exact k2_hasslot w1))
theorem zG.up {H1 : Heap} {v : Value} {cell : Cell} (hG : zG E WS H0 H locs) (hV : zV E) (hk : eK E a = k) (h0 : Nat.ble 1 k = true) (hj : j < zn k) (hd : dn (eK E) (zty (eX E) (eM E) k j) v) (hs : WS.any (fun r => Nat.beq r.1 k && (Nat.beq r.2 j || Nat.beq r.2 99)) = true) (hU : Up H H1 a (zix E k j) v) (hc : H[a]? = some cell) (h1 : H1[a]? = some (cell.setSlot (zix E k j) v)) {i : Nat} : zG E WS H0 H1 (locs ++ [⟨a, i⟩]) := by
  refine ⟨hG.1.up hV hk hj hd hU hc h1, ?_, fun q hq => ?_⟩
  · have h2 := zFr.up (WS := WS) hk h0 hU hs
    exact ⟨h2.1.trans hG.2.1.1, fun b hb => (h2.2.1 b hb).trans (hG.2.1.2.1 b hb), fun b i hn => (h2.2.2 b i hn).trans (hG.2.1.2.2 b i hn)⟩
  · rcases List.mem_append.mp hq with h | h
    · exact hG.2.2 q h
    · rw [List.mem_singleton.mp h]
      show eK E a ≠ 0
      have := Nat.le_of_ble_eq_true h0
      omega
theorem g_put (B : zB p s m args c E cc own nL) {ty : FieldType} (hf : zFlp own index ci j ty) (hV : zV E) (hG : zG E WS H0 H locs) (hk : eK E a = k) (ho : zo k = true) (hci : zci k = ci) (h0 : Nat.ble 1 k = true) (hj : Nat.blt j (zn k) = true) {v : Value} (hd : dn (eK E) (zty (eX E) (eM E) k j) v) (hn : narrow ty v = v) (hfit : fits ty v = true) (hs : WS.any (fun r => Nat.beq r.1 k && (Nat.beq r.2 j || Nat.beq r.2 99)) = true) (hdg : decode cc pc = .ok (.putfield index, 3))
    (kk : ∀ (H1 : Heap) (locs1 : List Loc), zG E WS H0 H1 locs1 → Up H H1 a (zix E k j) v → W p l e R s m args below meth c H1 locs1 cells slots Q (F0 m (pc + 3) ls rest)) : W p l e R s m args below meth c H locs cells slots Q (F0 m pc ls (v :: .ref a :: rest)) :=
  g_putC B hf hG.1 hk ho hci h0 hj hn hfit hdg (fun H1 cell hc h1 hU => kk H1 _ (hG.up hV hk h0 (Nat.le_of_ble_eq_true hj) hd hs hU hc h1) hU)
theorem g_putI (B : zB p s m args c E cc own nL) (hf : zFlp own index ci j .int) (hV : zV E) (hG : zG E WS H0 H locs) (hk : eK E a = k) (ho : zo k = true) (hci : zci k = ci) (h0 : Nat.ble 1 k = true) (hj : Nat.blt j (zn k) = true) {x : Int32} {lo hi : Int} (hty : zty (eX E) (eM E) k j = .inl (lo, hi)) (h1 : lo ≤ x.toInt) (h2 : x.toInt ≤ hi) (hs : WS.any (fun r => Nat.beq r.1 k && (Nat.beq r.2 j || Nat.beq r.2 99)) = true) (hdg : decode cc pc = .ok (.putfield index, 3))
    (kk : ∀ (H1 : Heap) (locs1 : List Loc), zG E WS H0 H1 locs1 → Up H H1 a (zix E k j) (.int x) → W p l e R s m args below meth c H1 locs1 cells slots Q (F0 m (pc + 3) ls rest)) : W p l e R s m args below meth c H locs cells slots Q (F0 m pc ls (.int x :: .ref a :: rest)) :=
  g_put B hf hV hG hk ho hci h0 hj (by rw [hty]; exact ⟨x, rfl, h1, h2⟩) rfl rfl hs hdg kk
theorem g_putZ (B : zB p s m args c E cc own nL) (hf : zFlp own index ci j .boolean) (hV : zV E) (hG : zG E WS H0 H locs) (hk : eK E a = k) (ho : zo k = true) (hci : zci k = ci) (h0 : Nat.ble 1 k = true) (hj : Nat.blt j (zn k) = true) {x : Int32} (hty : zty (eX E) (eM E) k j = .inl (0, 1)) (h1 : 0 ≤ x.toInt) (h2 : x.toInt ≤ 1) (hs : WS.any (fun r => Nat.beq r.1 k && (Nat.beq r.2 j || Nat.beq r.2 99)) = true) (hdg : decode cc pc = .ok (.putfield index, 3))
    (kk : ∀ (H1 : Heap) (locs1 : List Loc), zG E WS H0 H1 locs1 → Up H H1 a (zix E k j) (.int x) → W p l e R s m args below meth c H1 locs1 cells slots Q (F0 m (pc + 3) ls rest)) : W p l e R s m args below meth c H locs cells slots Q (F0 m pc ls (.int x :: .ref a :: rest)) :=
  g_put B hf hV hG hk ho hci h0 hj (by rw [hty]; exact ⟨x, rfl, h1, h2⟩) (z_nz h1 h2) (by rcases z_01 h1 h2 with rfl | rfl <;> rfl) hs hdg kk
theorem g_putR (B : zB p s m args c E cc own nL) {ty : FieldType} (hf : zFlp own index ci j ty) (hV : zV E) (hG : zG E WS H0 H locs) (hk : eK E a = k) (ho : zo k = true) (hci : zci k = ci) (h0 : Nat.ble 1 k = true) (hj : Nat.blt j (zn k) = true) {b k2 : Nat} (hty : zty (eX E) (eM E) k j = .inr (.inl k2)) (hb2 : eK E b = k2) (hn : narrow ty (.ref b) = .ref b) (hfit : fits ty (.ref b) = true) (hs : WS.any (fun r => Nat.beq r.1 k && (Nat.beq r.2 j || Nat.beq r.2 99)) = true) (hdg : decode cc pc = .ok (.putfield index, 3))
    (kk : ∀ (H1 : Heap) (locs1 : List Loc), zG E WS H0 H1 locs1 → Up H H1 a (zix E k j) (.ref b) → W p l e R s m args below meth c H1 locs1 cells slots Q (F0 m (pc + 3) ls rest)) : W p l e R s m args below meth c H locs cells slots Q (F0 m pc ls (.ref b :: .ref a :: rest)) :=
  g_put B hf hV hG hk ho hci h0 hj (by rw [hty]; exact ⟨b, rfl, hb2⟩) hn hfit hs hdg kk
theorem g_putL (B : zB p s m args c E cc own nL) (hf : zFlp own index ci j .long) (hV : zV E) (hG : zG E WS H0 H locs) (hk : eK E a = k) (ho : zo k = true) (hci : zci k = ci) (h0 : Nat.ble 1 k = true) (hj : Nat.blt j (zn k) = true) {x : Int64} (hty : zty (eX E) (eM E) k j = .inr (.inr 0)) (hs : WS.any (fun r => Nat.beq r.1 k && (Nat.beq r.2 j || Nat.beq r.2 99)) = true) (hdg : decode cc pc = .ok (.putfield index, 3))
    (kk : ∀ (H1 : Heap) (locs1 : List Loc), zG E WS H0 H1 locs1 → Up H H1 a (zix E k j) (.long x) → W p l e R s m args below meth c H1 locs1 cells slots Q (F0 m (pc + 3) ls rest)) : W p l e R s m args below meth c H locs cells slots Q (F0 m pc ls (.long x :: .ref a :: rest)) :=
  g_put B hf hV hG hk ho hci h0 hj (by rw [hty]; exact ⟨x, rfl⟩) rfl rfl hs hdg kk
theorem g_alen (B : zB p s m args c E cc own nL) (hT : HT E H) (hk : eK E a = k) (ho : zo k = false) (h0 : Nat.ble 1 k = true) {ty : FieldType} (hat : zat k = some ty) {n : Int32} (hn : (zn k).toInt32 = n) (hdg : decode cc pc = .ok (.arraylength, 1))
    (kk : W p l e R s m args below meth c H locs cells slots Q (F0 m (pc + 1) ls (.int n :: rest))) : W p l e R s m args below meth c H locs cells slots Q (F0 m pc ls (.ref a :: rest)) := by
  obtain ⟨hx, hb, -, hown, hts, hK⟩ := B
  obtain ⟨cell, q1, q2, q3, q4⟩ := hT.hd hk h0
  exact W.alen hx hb q1 (zarr (H := H) hK hk ho hat q2 q3) (by rw [q4 ho]; exact hn) rfl rfl hdg kk
theorem g_iald (B : zB p s m args c E cc own nL) (hT : HT E H) (hk : eK E a = k) (ho : zo k = false) (h0 : Nat.ble 1 k = true) (hat : zat k = some .int) {i : Int32} {N : Nat} (hN : zn k = N) (hi0 : 0 ≤ i.toInt) (hi1 : i.toInt < (N : Int)) {v : Value} (hv : sl H a i.toNatClampNeg = some v) (hdg : decode cc pc = .ok (.iaload, 1))
    (kk : W p l e R s m args below meth c H locs cells slots Q (F0 m (pc + 1) ls (v :: rest))) : W p l e R s m args below meth c H locs cells slots Q (F0 m pc ls (.int i :: .ref a :: rest)) := by
  obtain ⟨hx, hb, -, hown, hts, hK⟩ := B
  obtain ⟨cell, q1, q2, q3, q4⟩ := hT.hd hk h0
  rw [sl_of q1] at hv
  exact W.iald hx hb q1 (zarr (H := H) hK hk ho hat q2 q3) (by rw [q3]; exact fun h => by cases h) (by rw [q4 ho, hN]; exact z_vin hi0 hi1) hv rfl rfl hdg kk
theorem g_bald (B : zB p s m args c E cc own nL) (hT : HT E H) (hk : eK E a = k) (ho : zo k = false) (h0 : Nat.ble 1 k = true) (hat : zat k = some .byte) {i : Int32} {N : Nat} (hN : zn k = N) (hi0 : 0 ≤ i.toInt) (hi1 : i.toInt < (N : Int)) {v : Value} (hv : sl H a i.toNatClampNeg = some v) (hdg : decode cc pc = .ok (.baload, 1))
    (kk : W p l e R s m args below meth c H locs cells slots Q (F0 m (pc + 1) ls (v :: rest))) : W p l e R s m args below meth c H locs cells slots Q (F0 m pc ls (.int i :: .ref a :: rest)) := by
  obtain ⟨hx, hb, -, hown, hts, hK⟩ := B
  obtain ⟨cell, q1, q2, q3, q4⟩ := hT.hd hk h0
  rw [sl_of q1] at hv
  exact W.bald hx hb q1 (zarr (H := H) hK hk ho hat q2 q3) (by rw [q3]; exact fun h => by cases h) (by rw [q4 ho, hN]; exact z_vin hi0 hi1) hv rfl rfl hdg kk
theorem g_zald (B : zB p s m args c E cc own nL) (hT : HT E H) (hk : eK E a = k) (ho : zo k = false) (h0 : Nat.ble 1 k = true) (hat : zat k = some .boolean) {i : Int32} {N : Nat} (hN : zn k = N) (hi0 : 0 ≤ i.toInt) (hi1 : i.toInt < (N : Int)) {v : Value} (hv : sl H a i.toNatClampNeg = some v) (hdg : decode cc pc = .ok (.baload, 1))
    (kk : W p l e R s m args below meth c H locs cells slots Q (F0 m (pc + 1) ls (v :: rest))) : W p l e R s m args below meth c H locs cells slots Q (F0 m pc ls (.int i :: .ref a :: rest)) := by
  obtain ⟨hx, hb, -, hown, hts, hK⟩ := B
  obtain ⟨cell, q1, q2, q3, q4⟩ := hT.hd hk h0
  rw [sl_of q1] at hv
  exact W.zald hx hb q1 (zarr (H := H) hK hk ho hat q2 q3) (by rw [q3]; exact fun h => by cases h) (by rw [q4 ho, hN]; exact z_vin hi0 hi1) hv rfl rfl hdg kk
theorem g_lald (B : zB p s m args c E cc own nL) (hT : HT E H) (hk : eK E a = k) (ho : zo k = false) (h0 : Nat.ble 1 k = true) (hat : zat k = some .long) {i : Int32} {N : Nat} (hN : zn k = N) (hi0 : 0 ≤ i.toInt) (hi1 : i.toInt < (N : Int)) {v : Value} (hv : sl H a i.toNatClampNeg = some v) (hdg : decode cc pc = .ok (.laload, 1))
    (kk : W p l e R s m args below meth c H locs cells slots Q (F0 m (pc + 1) ls (v :: rest))) : W p l e R s m args below meth c H locs cells slots Q (F0 m pc ls (.int i :: .ref a :: rest)) := by
  obtain ⟨hx, hb, -, hown, hts, hK⟩ := B
  obtain ⟨cell, q1, q2, q3, q4⟩ := hT.hd hk h0
  rw [sl_of q1] at hv
  exact W.lald hx hb q1 (zarr (H := H) hK hk ho hat q2 q3) (by rw [q3]; exact fun h => by cases h) (by rw [q4 ho, hN]; exact z_vin hi0 hi1) hv rfl rfl hdg kk
theorem g_aald (B : zB p s m args c E cc own nL) (hT : HT E H) (hk : eK E a = k) (ho : zo k = false) (h0 : Nat.ble 1 k = true) {ty : FieldType} (hat : zat k = some ty) (hrf : ty.isReference = true) {i : Int32} {N : Nat} (hN : zn k = N) (hi0 : 0 ≤ i.toInt) (hi1 : i.toInt < (N : Int)) {v : Value} (hv : sl H a i.toNatClampNeg = some v) (hdg : decode cc pc = .ok (.aaload, 1))
    (kk : W p l e R s m args below meth c H locs cells slots Q (F0 m (pc + 1) ls (v :: rest))) : W p l e R s m args below meth c H locs cells slots Q (F0 m pc ls (.int i :: .ref a :: rest)) := by
  obtain ⟨hx, hb, -, hown, hts, hK⟩ := B
  obtain ⟨cell, q1, q2, q3, q4⟩ := hT.hd hk h0
  rw [sl_of q1] at hv
  exact W.aald hx hb q1 (zarr (H := H) hK hk ho hat q2 q3) hrf (by rw [q3]; exact fun h => by cases h) (by rw [q4 ho, hN]; exact z_vin hi0 hi1) hv rfl rfl hdg kk
theorem g_ialdI (B : zB p s m args c E cc own nL) (hT : HT E H) (hk : eK E a = k) (ho : zo k = false) (h0 : Nat.ble 1 k = true) (hat : zat k = some .int) {i : Int32} {N : Nat} (hN : zn k = N) (hi0 : 0 ≤ i.toInt) (hi1 : i.toInt < (N : Int)) {lo hi : Int} (hty : zty (eX E) (eM E) k i.toNatClampNeg = .inl (lo, hi)) (hdg : decode cc pc = .ok (.iaload, 1))
    (kk : ∀ x : Int32, sl H a i.toNatClampNeg = some (.int x) → lo ≤ x.toInt → x.toInt ≤ hi → W p l e R s m args below meth c H locs cells slots Q (F0 m (pc + 1) ls (.int x :: rest))) : W p l e R s m args below meth c H locs cells slots Q (F0 m pc ls (.int i :: .ref a :: rest)) := by
  obtain ⟨x, h1, h2, h3⟩ := hT.atI hk h0 (j := i.toNatClampNeg) (by rw [hN]; exact z_clN hi0 hi1) hty
  rw [zix_arr ho] at h1
  exact g_iald B hT hk ho h0 hat hN hi0 hi1 h1 hdg (kk x h1 h2 h3)
theorem g_baldI (B : zB p s m args c E cc own nL) (hT : HT E H) (hk : eK E a = k) (ho : zo k = false) (h0 : Nat.ble 1 k = true) (hat : zat k = some .byte) {i : Int32} {N : Nat} (hN : zn k = N) (hi0 : 0 ≤ i.toInt) (hi1 : i.toInt < (N : Int)) {lo hi : Int} (hty : zty (eX E) (eM E) k i.toNatClampNeg = .inl (lo, hi)) (hdg : decode cc pc = .ok (.baload, 1))
    (kk : ∀ x : Int32, sl H a i.toNatClampNeg = some (.int x) → lo ≤ x.toInt → x.toInt ≤ hi → W p l e R s m args below meth c H locs cells slots Q (F0 m (pc + 1) ls (.int x :: rest))) : W p l e R s m args below meth c H locs cells slots Q (F0 m pc ls (.int i :: .ref a :: rest)) := by
  obtain ⟨x, h1, h2, h3⟩ := hT.atI hk h0 (j := i.toNatClampNeg) (by rw [hN]; exact z_clN hi0 hi1) hty
  rw [zix_arr ho] at h1
  exact g_bald B hT hk ho h0 hat hN hi0 hi1 h1 hdg (kk x h1 h2 h3)
theorem g_zaldI (B : zB p s m args c E cc own nL) (hT : HT E H) (hk : eK E a = k) (ho : zo k = false) (h0 : Nat.ble 1 k = true) (hat : zat k = some .boolean) {i : Int32} {N : Nat} (hN : zn k = N) (hi0 : 0 ≤ i.toInt) (hi1 : i.toInt < (N : Int)) {lo hi : Int} (hty : zty (eX E) (eM E) k i.toNatClampNeg = .inl (lo, hi)) (hdg : decode cc pc = .ok (.baload, 1))
    (kk : ∀ x : Int32, sl H a i.toNatClampNeg = some (.int x) → lo ≤ x.toInt → x.toInt ≤ hi → W p l e R s m args below meth c H locs cells slots Q (F0 m (pc + 1) ls (.int x :: rest))) : W p l e R s m args below meth c H locs cells slots Q (F0 m pc ls (.int i :: .ref a :: rest)) := by
  obtain ⟨x, h1, h2, h3⟩ := hT.atI hk h0 (j := i.toNatClampNeg) (by rw [hN]; exact z_clN hi0 hi1) hty
  rw [zix_arr ho] at h1
  exact g_zald B hT hk ho h0 hat hN hi0 hi1 h1 hdg (kk x h1 h2 h3)
theorem g_laldI (B : zB p s m args c E cc own nL) (hT : HT E H) (hk : eK E a = k) (ho : zo k = false) (h0 : Nat.ble 1 k = true) (hat : zat k = some .long) {i : Int32} {N : Nat} (hN : zn k = N) (hi0 : 0 ≤ i.toInt) (hi1 : i.toInt < (N : Int)) (hty : zty (eX E) (eM E) k i.toNatClampNeg = .inr (.inr 0)) (hdg : decode cc pc = .ok (.laload, 1))
    (kk : ∀ x : Int64, sl H a i.toNatClampNeg = some (.long x) → W p l e R s m args below meth c H locs cells slots Q (F0 m (pc + 1) ls (.long x :: rest))) : W p l e R s m args below meth c H locs cells slots Q (F0 m pc ls (.int i :: .ref a :: rest)) := by
  obtain ⟨x, h1⟩ := hT.atL hk h0 (j := i.toNatClampNeg) (by rw [hN]; exact z_clN hi0 hi1) hty
  rw [zix_arr ho] at h1
  exact g_lald B hT hk ho h0 hat hN hi0 hi1 h1 hdg (kk x h1)
theorem g_aaldI (B : zB p s m args c E cc own nL) (hT : HT E H) (hk : eK E a = k) (ho : zo k = false) (h0 : Nat.ble 1 k = true) {ty : FieldType} (hat : zat k = some ty) (hrf : ty.isReference = true) {i : Int32} {N : Nat} (hN : zn k = N) (hi0 : 0 ≤ i.toInt) (hi1 : i.toInt < (N : Int)) {k2 : Nat} (hty : zty (eX E) (eM E) k i.toNatClampNeg = .inr (.inl k2)) (hdg : decode cc pc = .ok (.aaload, 1))
    (kk : ∀ b : Nat, sl H a i.toNatClampNeg = some (.ref b) → eK E b = k2 → W p l e R s m args below meth c H locs cells slots Q (F0 m (pc + 1) ls (.ref b :: rest))) : W p l e R s m args below meth c H locs cells slots Q (F0 m pc ls (.int i :: .ref a :: rest)) := by
  obtain ⟨x, h1, h2⟩ := hT.atR hk h0 (j := i.toNatClampNeg) (by rw [hN]; exact z_clN hi0 hi1) hty
  rw [zix_arr ho] at h1
  exact g_aald B hT hk ho h0 hat hrf hN hi0 hi1 h1 hdg (kk x h1 h2)
theorem g_iast (B : zB p s m args c E cc own nL) (hV : zV E) (hG : zG E WS H0 H locs) (hk : eK E a = k) (ho : zo k = false) (h0 : Nat.ble 1 k = true) (hat : zat k = some .int) {i : Int32} {N : Nat} (hN : zn k = N) (hi0 : 0 ≤ i.toInt) (hi1 : i.toInt < (N : Int)) {x : Int32} (hd : dn (eK E) (zty (eX E) (eM E) k i.toNatClampNeg) (.int x)) (hs : WS.any (fun r => Nat.beq r.1 k && Nat.beq r.2 99) = true) (hdg : decode cc pc = .ok (.iastore, 1))
    (kk : ∀ (H1 : Heap) (locs1 : List Loc), zG E WS H0 H1 locs1 → Up H H1 a i.toNatClampNeg (.int x) → W p l e R s m args below meth c H1 locs1 cells slots Q (F0 m (pc + 1) ls rest)) : W p l e R s m args below meth c H locs cells slots Q (F0 m pc ls (.int x :: .int i :: .ref a :: rest)) := by
  obtain ⟨hx, hb, -, hown, hts, hK⟩ := B
  obtain ⟨cell, q1, q2, q3, q4⟩ := hG.1.hd hk h0
  have hj : i.toNatClampNeg < zn k := by rw [hN]; exact z_clN hi0 hi1
  refine W.iast hx hb q1 (zarr (H := H) hK hk ho hat q2 q3) (by rw [q3]; exact fun h => by cases h) (by rw [q4 ho, hN]; exact z_vin hi0 hi1) rfl rfl hdg fun H1 e1 e2 e3 => ?_
  have hU := up_of q1 e1 e2 e3 (by rw [q4 ho]; exact hj)
  have hz : zix E k i.toNatClampNeg = i.toNatClampNeg := zix_arr ho
  refine kk H1 _ (hG.up hV hk h0 (j := i.toNatClampNeg) hj hd ?_ (by rw [hz]; exact hU) q1 (by rw [hz]; exact e1)) hU
  obtain ⟨r, hr, h3⟩ := List.any_eq_true.mp hs
  rw [Bool.and_eq_true] at h3
  exact List.any_eq_true.mpr ⟨r, hr, by rw [Bool.and_eq_true, Bool.or_eq_true]; exact ⟨h3.1, Or.inr h3.2⟩⟩
theorem g_bast (B : zB p s m args c E cc own nL) (hV : zV E) (hG : zG E WS H0 H locs) (hk : eK E a = k) (ho : zo k = false) (h0 : Nat.ble 1 k = true) (hat : zat k = some .byte) {i : Int32} {N : Nat} (hN : zn k = N) (hi0 : 0 ≤ i.toInt) (hi1 : i.toInt < (N : Int)) {x : Int32} (hd : dn (eK E) (zty (eX E) (eM E) k i.toNatClampNeg) (narrow .byte (.int x))) (hs : WS.any (fun r => Nat.beq r.1 k && Nat.beq r.2 99) = true) (hdg : decode cc pc = .ok (.bastore, 1))
    (kk : ∀ (H1 : Heap) (locs1 : List Loc), zG E WS H0 H1 locs1 → Up H H1 a i.toNatClampNeg (narrow .byte (.int x)) → W p l e R s m args below meth c H1 locs1 cells slots Q (F0 m (pc + 1) ls rest)) : W p l e R s m args below meth c H locs cells slots Q (F0 m pc ls (.int x :: .int i :: .ref a :: rest)) := by
  obtain ⟨hx, hb, -, hown, hts, hK⟩ := B
  obtain ⟨cell, q1, q2, q3, q4⟩ := hG.1.hd hk h0
  have hj : i.toNatClampNeg < zn k := by rw [hN]; exact z_clN hi0 hi1
  refine W.bast hx hb q1 (zarr (H := H) hK hk ho hat q2 q3) (by rw [q3]; exact fun h => by cases h) (by rw [q4 ho, hN]; exact z_vin hi0 hi1) rfl rfl hdg fun H1 e1 e2 e3 => ?_
  have hU := up_of q1 e1 e2 e3 (by rw [q4 ho]; exact hj)
  have hz : zix E k i.toNatClampNeg = i.toNatClampNeg := zix_arr ho
  refine kk H1 _ (hG.up hV hk h0 (j := i.toNatClampNeg) hj hd ?_ (by rw [hz]; exact hU) q1 (by rw [hz]; exact e1)) hU
  obtain ⟨r, hr, h3⟩ := List.any_eq_true.mp hs
  rw [Bool.and_eq_true] at h3
  exact List.any_eq_true.mpr ⟨r, hr, by rw [Bool.and_eq_true, Bool.or_eq_true]; exact ⟨h3.1, Or.inr h3.2⟩⟩
theorem g_zast (B : zB p s m args c E cc own nL) (hV : zV E) (hG : zG E WS H0 H locs) (hk : eK E a = k) (ho : zo k = false) (h0 : Nat.ble 1 k = true) (hat : zat k = some .boolean) {i : Int32} {N : Nat} (hN : zn k = N) (hi0 : 0 ≤ i.toInt) (hi1 : i.toInt < (N : Int)) {x : Int32} (hd : dn (eK E) (zty (eX E) (eM E) k i.toNatClampNeg) (narrow .boolean (.int x))) (hs : WS.any (fun r => Nat.beq r.1 k && Nat.beq r.2 99) = true) (hdg : decode cc pc = .ok (.bastore, 1))
    (kk : ∀ (H1 : Heap) (locs1 : List Loc), zG E WS H0 H1 locs1 → Up H H1 a i.toNatClampNeg (narrow .boolean (.int x)) → W p l e R s m args below meth c H1 locs1 cells slots Q (F0 m (pc + 1) ls rest)) : W p l e R s m args below meth c H locs cells slots Q (F0 m pc ls (.int x :: .int i :: .ref a :: rest)) := by
  obtain ⟨hx, hb, -, hown, hts, hK⟩ := B
  obtain ⟨cell, q1, q2, q3, q4⟩ := hG.1.hd hk h0
  have hj : i.toNatClampNeg < zn k := by rw [hN]; exact z_clN hi0 hi1
  refine W.zast hx hb q1 (zarr (H := H) hK hk ho hat q2 q3) (by rw [q3]; exact fun h => by cases h) (by rw [q4 ho, hN]; exact z_vin hi0 hi1) rfl rfl hdg fun H1 e1 e2 e3 => ?_
  have hU := up_of q1 e1 e2 e3 (by rw [q4 ho]; exact hj)
  have hz : zix E k i.toNatClampNeg = i.toNatClampNeg := zix_arr ho
  refine kk H1 _ (hG.up hV hk h0 (j := i.toNatClampNeg) hj hd ?_ (by rw [hz]; exact hU) q1 (by rw [hz]; exact e1)) hU
  obtain ⟨r, hr, h3⟩ := List.any_eq_true.mp hs
  rw [Bool.and_eq_true] at h3
  exact List.any_eq_true.mpr ⟨r, hr, by rw [Bool.and_eq_true, Bool.or_eq_true]; exact ⟨h3.1, Or.inr h3.2⟩⟩
theorem g_last (B : zB p s m args c E cc own nL) (hV : zV E) (hG : zG E WS H0 H locs) (hk : eK E a = k) (ho : zo k = false) (h0 : Nat.ble 1 k = true) (hat : zat k = some .long) {i : Int32} {N : Nat} (hN : zn k = N) (hi0 : 0 ≤ i.toInt) (hi1 : i.toInt < (N : Int)) {x : Int64} (hd : dn (eK E) (zty (eX E) (eM E) k i.toNatClampNeg) (.long x)) (hs : WS.any (fun r => Nat.beq r.1 k && Nat.beq r.2 99) = true) (hdg : decode cc pc = .ok (.lastore, 1))
    (kk : ∀ (H1 : Heap) (locs1 : List Loc), zG E WS H0 H1 locs1 → Up H H1 a i.toNatClampNeg (.long x) → W p l e R s m args below meth c H1 locs1 cells slots Q (F0 m (pc + 1) ls rest)) : W p l e R s m args below meth c H locs cells slots Q (F0 m pc ls (.long x :: .int i :: .ref a :: rest)) := by
  obtain ⟨hx, hb, -, hown, hts, hK⟩ := B
  obtain ⟨cell, q1, q2, q3, q4⟩ := hG.1.hd hk h0
  have hj : i.toNatClampNeg < zn k := by rw [hN]; exact z_clN hi0 hi1
  refine W.last hx hb q1 (zarr (H := H) hK hk ho hat q2 q3) (by rw [q3]; exact fun h => by cases h) (by rw [q4 ho, hN]; exact z_vin hi0 hi1) rfl rfl hdg fun H1 e1 e2 e3 => ?_
  have hU := up_of q1 e1 e2 e3 (by rw [q4 ho]; exact hj)
  have hz : zix E k i.toNatClampNeg = i.toNatClampNeg := zix_arr ho
  refine kk H1 _ (hG.up hV hk h0 (j := i.toNatClampNeg) hj hd ?_ (by rw [hz]; exact hU) q1 (by rw [hz]; exact e1)) hU
  obtain ⟨r, hr, h3⟩ := List.any_eq_true.mp hs
  rw [Bool.and_eq_true] at h3
  exact List.any_eq_true.mpr ⟨r, hr, by rw [Bool.and_eq_true, Bool.or_eq_true]; exact ⟨h3.1, Or.inr h3.2⟩⟩
theorem g_iastI (B : zB p s m args c E cc own nL) (hV : zV E) (hG : zG E WS H0 H locs) (hk : eK E a = k) (ho : zo k = false) (h0 : Nat.ble 1 k = true) (hat : zat k = some .int) {i : Int32} {N : Nat} (hN : zn k = N) (hi0 : 0 ≤ i.toInt) (hi1 : i.toInt < (N : Int)) {x : Int32} {lo hi : Int} (hty : zty (eX E) (eM E) k i.toNatClampNeg = .inl (lo, hi)) (h1 : lo ≤ x.toInt) (h2 : x.toInt ≤ hi) (hs : WS.any (fun r => Nat.beq r.1 k && Nat.beq r.2 99) = true) (hdg : decode cc pc = .ok (.iastore, 1))
    (kk : ∀ (H1 : Heap) (locs1 : List Loc), zG E WS H0 H1 locs1 → Up H H1 a i.toNatClampNeg (.int x) → W p l e R s m args below meth c H1 locs1 cells slots Q (F0 m (pc + 1) ls rest)) : W p l e R s m args below meth c H locs cells slots Q (F0 m pc ls (.int x :: .int i :: .ref a :: rest)) :=
  g_iast B hV hG hk ho h0 hat hN hi0 hi1 (by rw [hty]; exact ⟨x, rfl, h1, h2⟩) hs hdg kk
theorem g_zastI (B : zB p s m args c E cc own nL) (hV : zV E) (hG : zG E WS H0 H locs) (hk : eK E a = k) (ho : zo k = false) (h0 : Nat.ble 1 k = true) (hat : zat k = some .boolean) {i : Int32} {N : Nat} (hN : zn k = N) (hi0 : 0 ≤ i.toInt) (hi1 : i.toInt < (N : Int)) {x : Int32} (hty : zty (eX E) (eM E) k i.toNatClampNeg = .inl (0, 1)) (h1 : 0 ≤ x.toInt) (h2 : x.toInt ≤ 1) (hs : WS.any (fun r => Nat.beq r.1 k && Nat.beq r.2 99) = true) (hdg : decode cc pc = .ok (.bastore, 1))
    (kk : ∀ (H1 : Heap) (locs1 : List Loc), zG E WS H0 H1 locs1 → Up H H1 a i.toNatClampNeg (.int x) → W p l e R s m args below meth c H1 locs1 cells slots Q (F0 m (pc + 1) ls rest)) : W p l e R s m args below meth c H locs cells slots Q (F0 m pc ls (.int x :: .int i :: .ref a :: rest)) := by
  refine g_zast B hV hG hk ho h0 hat hN hi0 hi1 (by rw [hty, z_nz h1 h2]; exact ⟨x, rfl, h1, h2⟩) hs hdg (fun H1 locs1 g u => kk H1 locs1 g ?_)
  rw [z_nz h1 h2] at u; exact u
theorem g_bastI (B : zB p s m args c E cc own nL) (hV : zV E) (hG : zG E WS H0 H locs) (hk : eK E a = k) (ho : zo k = false) (h0 : Nat.ble 1 k = true) (hat : zat k = some .byte) {i : Int32} {N : Nat} (hN : zn k = N) (hi0 : 0 ≤ i.toInt) (hi1 : i.toInt < (N : Int)) {x : Int32} (hty : zty (eX E) (eM E) k i.toNatClampNeg = .inl (-2147483648, 2147483647)) (hs : WS.any (fun r => Nat.beq r.1 k && Nat.beq r.2 99) = true) (hdg : decode cc pc = .ok (.bastore, 1))
    (kk : ∀ (H1 : Heap) (locs1 : List Loc), zG E WS H0 H1 locs1 → Up H H1 a i.toNatClampNeg (narrow .byte (.int x)) → W p l e R s m args below meth c H1 locs1 cells slots Q (F0 m (pc + 1) ls rest)) : W p l e R s m args below meth c H locs cells slots Q (F0 m pc ls (.int x :: .int i :: .ref a :: rest)) :=
  g_bast B hV hG hk ho h0 hat hN hi0 hi1 (by rw [hty]; exact ⟨_, rfl, (z_rng _).1, (z_rng _).2⟩) hs hdg kk
theorem g_lastI (B : zB p s m args c E cc own nL) (hV : zV E) (hG : zG E WS H0 H locs) (hk : eK E a = k) (ho : zo k = false) (h0 : Nat.ble 1 k = true) (hat : zat k = some .long) {i : Int32} {N : Nat} (hN : zn k = N) (hi0 : 0 ≤ i.toInt) (hi1 : i.toInt < (N : Int)) {x : Int64} (hty : zty (eX E) (eM E) k i.toNatClampNeg = .inr (.inr 0)) (hs : WS.any (fun r => Nat.beq r.1 k && Nat.beq r.2 99) = true) (hdg : decode cc pc = .ok (.lastore, 1))
    (kk : ∀ (H1 : Heap) (locs1 : List Loc), zG E WS H0 H1 locs1 → Up H H1 a i.toNatClampNeg (.long x) → W p l e R s m args below meth c H1 locs1 cells slots Q (F0 m (pc + 1) ls rest)) : W p l e R s m args below meth c H locs cells slots Q (F0 m pc ls (.long x :: .int i :: .ref a :: rest)) :=
  g_last B hV hG hk ho h0 hat hN hi0 hi1 (by rw [hty]; exact ⟨x, rfl⟩) hs hdg kk
theorem zrecv {C : String} (hK : zK E s) (hT : HT E H) (hk : eK E a = k) (ho : zo k = true) (h0 : Nat.ble 1 k = true) (hC : (vwCl[zci k]?).map (fun q => q.1) = some C) : ∃ cellB : Cell, H[a]? = some cellB ∧ cellB.vm.isStatics = false ∧ s.vm.findClass C = some cellB.cls := by
  obtain ⟨cell, q1, q2, q3, q4⟩ := hT.hd hk h0
  obtain ⟨q, hq, hq1⟩ := Option.map_eq_some_iff.mp hC
  obtain ⟨hS, hfc, -⟩ := hK.1.1 _ _ hq
  refine ⟨cell, q1, by rw [q3]; rfl, ?_⟩
  rw [q2, zcl_obj ho, ← hq1]; exact hfc
variable {y : MethodName} {bytes : ByteArray} {maxL n : Nat} {ret : Option FieldType} {rm : Room} {Qc : Array Value → State → Outcome → State → Prop} {free : Nat → Prop} {As : List Value} {Cn : String}
theorem zrV (B : zB p s m args c E cc own nL) (hM : Met l y (zws y bytes maxL ret) rm (zP E H (.ref a :: As)) Qc 0 0 free) (cl : zCl own index Cn y bytes maxL ret n) (hT : HT E H) (hk : eK E a = k) (ho : zo k = true) (h0 : Nat.ble 1 k = true) (hC : (vwCl[zci k]?).map (fun q => q.1) = some Cn) (hn : As.length = n) (hsize : ls.size = nL) (hst : st0 = As.reverse ++ .ref a :: rest) (hW : (rest.map fun v => v.category).sum ≤ 8) (hdg : decode cc pc = .ok (.invokevirtual index, 3)) (hrc : rm.cells = 0) (hrs : rm.slots = 0) (hR : Nat.ble (rm.frames + 1) R.frames = true ∧ Nat.ble (8 + (maxL + 11) + rm.locals) R.locals = true) (hcs : cells ≤ R.cells ∧ slots ≤ R.slots) (hO : zO E s H) :
    va_Run p l e R s m args below meth c H locs cells slots 0 0 (F0 m pc ls st0) rest (Qc (Value.ref a :: As).toArray) free := by
  obtain ⟨hx, hb, hml, hown, hts, hK⟩ := B
  obtain ⟨c1, c2, c3, c4, c5, c6⟩ := cl
  refine va_runV (As := As) (rest := rest) (C := Cn) ⟨hx, hb, hml, hown, hts⟩ hM ⟨callB_of n hts (z_good c1) rfl hrc hrs (hts _ c2) (hts _ c3) c6 ⟨Nat.le_of_ble_eq_true hR.1, Nat.le_of_ble_eq_true hR.2⟩, hts _ c4, hts _ c5⟩ ⟨zP_blind, zrecv hK hT hk ho h0 hC, fun U hU hW => ⟨rfl, hU, hK.warm hW hU hO⟩⟩ rfl hn hsize hst (lv_room hW) hdg hcs
theorem zrS (B : zB p s m args c E cc own nL) (hM : Met l y (zws y bytes maxL ret) rm (zP E H As) Qc 0 0 free) (cl : zCs own index y bytes maxL ret n) (hn : As.length = n) (hsize : ls.size = nL) (hst : st0 = As.reverse ++ rest) (hW : (rest.map fun v => v.category).sum ≤ 8) (hdg : decode cc pc = .ok (.invokestatic index, 3)) (hrc : rm.cells = 0) (hrs : rm.slots = 0) (hR : Nat.ble (rm.frames + 1) R.frames = true ∧ Nat.ble (8 + (maxL + 11) + rm.locals) R.locals = true) (hcs : cells ≤ R.cells ∧ slots ≤ R.slots) (hO : zO E s H) :
    va_Run p l e R s m args below meth c H locs cells slots 0 0 (F0 m pc ls st0) rest (Qc As.toArray) free := by
  obtain ⟨hx, hb, hml, hown, hts, hK⟩ := B
  obtain ⟨c1, c2, c3, c4, c6⟩ := cl
  exact va_runS (As := As) (rest := rest) ⟨hx, hb, hml, hown, hts⟩ hM ⟨callB_of n hts (z_good c1) rfl hrc hrs (hts _ c2) (hts _ c3) c6 ⟨Nat.le_of_ble_eq_true hR.1, Nat.le_of_ble_eq_true hR.2⟩, hts _ c4⟩ ⟨zP_blind, fun U hU hW => ⟨rfl, hU, hK.warm hW hU hO⟩⟩ rfl hn hsize hst (lv_room hW) hdg hcs
theorem zrVN (B : zB p s m args c E cc own nL) (hM : Met l y (zws y bytes maxL ret) rm (zP E H (.ref a :: As)) Qc 0 0 free) {host : String} (cn : Cond.methodLinkNest own index y host ∈ zNest) (c1 : Cond.code y bytes maxL ret ∈ wsL_law) (c2 : Cond.initialized y.cls ∈ wsL_law) (c4 : Cond.instanceMethod y ∈ wsL_law) (c5 : Cond.selects Cn y y ∈ wsL_law) (c6 : y.cls ≠ "java/lang/invoke/MethodHandle" ∧ y.cls ≠ "java/lang/invoke/VarHandle" ∧ (parseMethodDescriptor y.desc).map (fun d => d.parameters.length) = some n) (hT : HT E H) (hk : eK E a = k) (ho : zo k = true) (h0 : Nat.ble 1 k = true) (hC : (vwCl[zci k]?).map (fun q => q.1) = some Cn) (hn : As.length = n) (hsize : ls.size = nL) (hst : st0 = As.reverse ++ .ref a :: rest) (hW : (rest.map fun v => v.category).sum ≤ 8) (hdg : decode cc pc = .ok (.invokevirtual index, 3)) (hrc : rm.cells = 0) (hrs : rm.slots = 0) (hR : Nat.ble (rm.frames + 1) R.frames = true ∧ Nat.ble (8 + (maxL + 11) + rm.locals) R.locals = true) (hcs : cells ≤ R.cells ∧ slots ≤ R.slots) (hO : zO E s H) :
    va_Run p l e R s m args below meth c H locs cells slots 0 0 (F0 m pc ls st0) rest (Qc (Value.ref a :: As).toArray) free := by
  obtain ⟨hx, hb, hml, hown, hts, hK⟩ := B
  exact va_runVN (As := As) (rest := rest) (C := Cn) ⟨hx, hb, hml, hown, hts⟩ hM ⟨va_cnB n hts (z_good c1) rfl hrc hrs (hK.2.2.1.2 _ cn) (hts _ c2) c6 ⟨Nat.le_of_ble_eq_true hR.1, Nat.le_of_ble_eq_true hR.2⟩, hts _ c4, hts _ c5⟩ ⟨zP_blind, zrecv hK hT hk ho h0 hC, fun U hU hW => ⟨rfl, hU, hK.warm hW hU hO⟩⟩ rfl hn hsize hst (lv_room hW) hdg hcs
theorem zkPI {P : Int32 → Prop} {av : Array Value} (hr : va_Run p l e R s m args below meth c H locs cells slots 0 0 (F0 m pc ls st0) rest (zPI P av) (fun _ => False)) (kk : ∀ r : Int32, P r → W p l e R s m args below meth c H locs cells slots Q (F0 m (pc + 3) ls (.int r :: rest))) : W p l e R s m args below meth c H locs cells slots Q (F0 m pc ls st0) := by
  intro T hT X
  obtain ⟨v, st₀, t, T', L, h0, X', hL, e1, e2, ⟨⟨r, hv, hp⟩, hh⟩, st⟩ := hr T hT X
  cases hv
  have hL0 : L = [] := by
    cases L with
    | nil => rfl
    | cons q L => exact (hL q List.mem_cons_self).elim
  subst hL0
  rw [List.append_nil] at X'
  obtain ⟨t2, a1, b1⟩ := kk r hp T' (by rw [e1, hh, h0]) X'
  exact ⟨t2, st t2 a1, b1⟩
theorem zkPR {P : Nat → Prop} {av : Array Value} (hr : va_Run p l e R s m args below meth c H locs cells slots 0 0 (F0 m pc ls st0) rest (zPR P av) (fun _ => False)) (kk : ∀ r : Nat, P r → W p l e R s m args below meth c H locs cells slots Q (F0 m (pc + 3) ls (.ref r :: rest))) : W p l e R s m args below meth c H locs cells slots Q (F0 m pc ls st0) := by
  intro T hT X
  obtain ⟨v, st₀, t, T', L, h0, X', hL, e1, e2, ⟨⟨r, hv, hp⟩, hh⟩, st⟩ := hr T hT X
  cases hv
  have hL0 : L = [] := by
    cases L with
    | nil => rfl
    | cons q L => exact (hL q List.mem_cons_self).elim
  subst hL0
  rw [List.append_nil] at X'
  obtain ⟨t2, a1, b1⟩ := kk r hp T' (by rw [e1, hh, h0]) X'
  exact ⟨t2, st t2 a1, b1⟩
theorem zkI {P : Int32 → Heap → Prop} {av : Array Value} (hr : va_Run p l e R s m args below meth c H locs cells slots 0 0 (F0 m pc ls st0) rest (zQI E E W1 P av) (zfr E)) (hG : zG E WS H0 H locs) (hs : zsub W1 WS = true) (kk : ∀ (r : Int32) (H1 : Heap) (locs1 : List Loc), P r H1 → zG E WS H0 H1 locs1 → zFr E W1 H H1 → W p l e R s m args below meth c H1 locs1 cells slots Q (F0 m (pc + 3) ls (.int r :: rest))) : W p l e R s m args below meth c H locs cells slots Q (F0 m pc ls st0) := by
  intro T hT X
  obtain ⟨v, st₀, t, T', L, h0, X', hL, e1, e2, ⟨⟨r, hv, hp⟩, hh, hf⟩, st⟩ := hr T hT X
  cases hv
  rw [h0, ← e1] at hf
  rw [← e1] at hp hh
  obtain ⟨t2, a1, b1⟩ := kk r T'.heap (locs ++ L) hp ⟨hh, hG.2.1.trans hf hs, fun q hq => (List.mem_append.mp hq).elim (hG.2.2 q) (hL q)⟩ hf T' rfl X'
  exact ⟨t2, st t2 a1, b1⟩
theorem zkV {P : Heap → Prop} {av : Array Value} (hr : va_Run p l e R s m args below meth c H locs cells slots 0 0 (F0 m pc ls st0) rest (zQV E E W1 P av) (zfr E)) (hG : zG E WS H0 H locs) (hs : zsub W1 WS = true) (kk : ∀ (H1 : Heap) (locs1 : List Loc), P H1 → zG E WS H0 H1 locs1 → zFr E W1 H H1 → W p l e R s m args below meth c H1 locs1 cells slots Q (F0 m (pc + 3) ls rest)) : W p l e R s m args below meth c H locs cells slots Q (F0 m pc ls st0) := by
  intro T hT X
  obtain ⟨v, st₀, t, T', L, h0, X', hL, e1, e2, ⟨⟨hv, hp⟩, hh, hf⟩, st⟩ := hr T hT X
  cases hv
  rw [h0, ← e1] at hf
  rw [← e1] at hp hh
  obtain ⟨t2, a1, b1⟩ := kk T'.heap (locs ++ L) hp ⟨hh, hG.2.1.trans hf hs, fun q hq => (List.mem_append.mp hq).elim (hG.2.2 q) (hL q)⟩ hf T' rfl X'
  exact ⟨t2, st t2 a1, b1⟩
theorem rtPI (B : zB p s m args c E cc own nL) {P : Int32 → Prop} {v : Int32} {ty : FieldType} (hr : meth.sig.returnType = some ty) (hlocks : meth.locks = false) (hh : s.heap = H) (hQ : Q = MQ below (zPI P) args s 0 0 (fun _ => False)) (hn : narrow ty (.int v) = .int v) (hP : P v) (hdg : decode cc pc = .ok (.ireturn, 1)) : W p l e R s m args below meth c H [] 0 0 Q (F0 m pc ls [.int v]) := by
  subst hQ
  exact W.zret B.1 B.2.1 hr hn (fun t ht hW => ⟨⟨v, rfl, hP⟩, ht.trans hh.symm⟩) (fun _ h => by cases h) hdg hlocks
theorem rtPR (B : zB p s m args c E cc own nL) {P : Nat → Prop} {v : Nat} {ty : String} (hr : meth.sig.returnType = some (.object ty)) (hlocks : meth.locks = false) (hh : s.heap = H) (hQ : Q = MQ below (zPR P) args s 0 0 (fun _ => False)) (hP : P v) (hdg : decode cc pc = .ok (.areturn, 1)) : W p l e R s m args below meth c H [] 0 0 Q (F0 m pc ls [.ref v]) := by
  subst hQ
  exact W.aret B.1 B.2.1 hr (Or.inl ⟨ty, rfl⟩) (Or.inr ⟨v, rfl⟩) (fun t ht hW => ⟨⟨v, rfl, hP⟩, ht.trans hh.symm⟩) (fun _ h => by cases h) hdg hlocks
theorem rtI (B : zB p s m args c E cc own nL) {P : Int32 → Heap → Prop} {v : Int32} {ty : FieldType} (hr : meth.sig.returnType = some ty) (hlocks : meth.locks = false) (hh : s.heap = H0) (hQ : Q = MQ below (zQI E E WS P) args s 0 0 (zfr E)) (hG : zG E WS H0 H locs) (hn : narrow ty (.int v) = .int v) (hP : P v H) (hdg : decode cc pc = .ok (.ireturn, 1)) : W p l e R s m args below meth c H locs 0 0 Q (F0 m pc ls [.int v]) := by
  subst hQ
  exact W.zret B.1 B.2.1 hr hn (fun t ht hW => ⟨⟨v, rfl, by rw [ht]; exact hP⟩, by rw [ht]; exact hG.1, by rw [ht, hh]; exact hG.2.1⟩) hG.2.2 hdg hlocks
theorem rtV (B : zB p s m args c E cc own nL) {P : Heap → Prop} (hr : meth.sig.returnType = none) (hlocks : meth.locks = false) (hh : s.heap = H0) (hQ : Q = MQ below (zQV E E WS P) args s 0 0 (zfr E)) (hG : zG E WS H0 H locs) (hP : P H) (hdg : decode cc pc = .ok (.return_, 1)) : W p l e R s m args below meth c H locs 0 0 Q (F0 m pc ls []) := by
  subst hQ
  exact W.vret B.1 B.2.1 hr (fun t ht hW => ⟨⟨rfl, by rw [ht]; exact hP⟩, by rw [ht]; exact hG.1, by rw [ht, hh]; exact hG.2.1⟩) hG.2.2 hdg hlocks
end ZR
theorem z_ne0 {x : Int32} (h : x.toInt ≠ 0) : ¬ x = 0 := fun e => h (by rw [e]; rfl)
theorem z_divT {x y : Int32} {a b : Int} (hx : x.toInt = a) (hy : y.toInt = b) (h1 : 0 ≤ a) (h2 : 0 < b) : (x / y).toInt = a / b := by
  have r := z_rng x
  have r2 := z_rng y
  rw [hx] at r
  rw [hy] at r2
  rw [Int32.toInt_div, hx, hy, Int.tdiv_eq_ediv_of_nonneg h1]
  have h3 : 0 ≤ a / b := Int.ediv_nonneg h1 (by omega)
  have h4 : a / b ≤ a := Int.ediv_le_self _ h1
  exact z_bm (by omega) (by omega)
theorem z_div {v x y : Int32} {a b : Int} (e : v = x / y) (hx : x.toInt = a) (hy : y.toInt = b) (h1 : 0 ≤ a) (h2 : 0 < b) : v.toInt = a / b ∧ 0 ≤ v.toInt ∧ v.toInt ≤ a := by
  rw [e, z_divT hx hy h1 h2]
  exact ⟨rfl, Int.ediv_nonneg h1 (by omega), Int.ediv_le_self _ h1⟩
theorem z_rem {v x y : Int32} {a b : Int} (e : v = x - x / y * y) (hx : x.toInt = a) (hy : y.toInt = b) (h1 : 0 ≤ a) (h2 : 0 < b) : v.toInt = a % b ∧ 0 ≤ v.toInt ∧ v.toInt < b ∧ v.toInt ≤ a := by
  have r := z_rng x
  rw [hx] at r
  have q := z_divT hx hy h1 h2
  have h3 : 0 ≤ a / b := Int.ediv_nonneg h1 (by omega)
  have h4 := Int.emod_nonneg a (b := b) (by omega)
  have h5 := Int.emod_lt_of_pos a h2
  have h6 : a / b * b + a % b = a := by rw [Int.mul_comm]; exact Int.mul_ediv_add_emod a b
  have h7 : 0 ≤ a / b * b := Int.mul_nonneg h3 (by omega)
  have m := z_mul (v := x / y * y) rfl q hy (by omega) (by omega)
  have s := z_sub (v := x - x / y * y) rfl hx m (by omega) (by omega)
  rw [e, s]
  refine ⟨by omega, by omega, by omega, by omega⟩
theorem z_lcmp {v : Int32} {x y : Int64} (e : v = lg_cmp x y) : (-1 ≤ v.toInt ∧ v.toInt ≤ 1) ∧ (v.toInt = 0 ↔ x = y) := by
  subst e
  unfold lg_cmp
  split
  · rename_i h
    refine ⟨by decide, ⟨fun q => absurd q (by decide), fun q => ?_⟩⟩
    subst q
    exact absurd h (Int64.lt_irrefl)
  · split
    · rename_i h; exact ⟨by decide, ⟨fun _ => h, fun _ => rfl⟩⟩
    · rename_i h; exact ⟨by decide, ⟨fun q => absurd q (by decide), fun q => absurd q h⟩⟩
