/-! making cells: the kinds are fixed ahead -/
def HTq (E : zE) (H : Heap) (q : Nat) : Prop := zhd E (eK E q) q H ∧ ∀ j : Nat, j < zn (eK E q) → ∃ v, sl H q (zix E (eK E q) j) = some v ∧ dn (eK E) (zty (eX E) (eM E) (eK E q) j) v
theorem HTq.kept {E : zE} {H H1 : Heap} {q : Nat} (h : HTq E H q) (e : H1[q]? = H[q]?) : HTq E H1 q := by
  obtain ⟨⟨cl, q1, q2⟩, hf⟩ := h
  refine ⟨⟨cl, by rw [e]; exact q1, q2⟩, fun j hj => ?_⟩
  obtain ⟨v, h1, h2⟩ := hf j hj
  exact ⟨v, by rw [sl_kept e]; exact h1, h2⟩
theorem HT.ofq {E : zE} {H : Heap} (h : ∀ q, eK E q ≠ 0 → HTq E H q) : HT E H := fun a ha => h a ha
theorem HT.toq {E : zE} {H : Heap} (h : HT E H) {q : Nat} (hq : eK E q ≠ 0) : HTq E H q := h q hq
def zKi (E : zE) (n : Nat) (L : List Nat) : Prop := ∀ i k : Nat, L[i]? = some k → eK E (n + i) = k
theorem zKi.sub {E : zE} {n : Nat} {L : List Nat} (h : zKi E n L) (o : Nat) (L2 : List Nat) (h2 : (L.drop o).take L2.length = L2) : zKi E (n + o) L2 := by
  intro i k hi
  have hl : i < L2.length := (List.getElem?_eq_some_iff.mp hi).1
  rw [← h2, List.getElem?_take, if_pos hl, List.getElem?_drop] at hi
  rw [Nat.add_assoc]
  exact h _ _ hi
def zAr (E : zE) (U : State) : Prop := ∀ (a : Nat) (ty : FieldType), zat (eK E a) = some ty → U.vm.findClass ("[" ++ ty.toString) = some (eA E a)
theorem zAr.warm {E : zE} {s U : State} (hW : s.WarmedH U.vm) (h : zAr E s) : zAr E U := fun a ty ha => by
  rw [hW.alike.findClass]; exact h a ty ha
theorem zAr.same {E : zE} {s U : State} (hv : U.vm = s.vm) (h : zAr E s) : zAr E U := fun a ty ha => by
  rw [hv]; exact h a ty ha
def zTh (E : zE) (k b : Nat) (H : Heap) (fs : List Value) : Prop := zhd E k b H ∧ ∀ (j : Nat) (v : Value), fs[j]? = some v → sl H b (zix E k j) = some v
theorem zTh.kept {E : zE} {k b : Nat} {H H1 : Heap} {fs : List Value} (h : zTh E k b H fs) (e : H1[b]? = H[b]?) : zTh E k b H1 fs := by
  obtain ⟨⟨cl, q1, q2⟩, hf⟩ := h
  exact ⟨⟨cl, by rw [e]; exact q1, q2⟩, fun j v hj => by rw [sl_kept e]; exact hf j v hj⟩
theorem zTh.lt {E : zE} {k b : Nat} {H : Heap} {fs : List Value} (h : zTh E k b H fs) : b < H.size := by
  obtain ⟨⟨cl, q1, q2⟩, hf⟩ := h
  exact (Array.getElem?_eq_some_iff.mp q1).1
theorem zTh.up {E : zE} (hV : zV E) {k b j : Nat} {H H1 : Heap} {fs : List Value} {v : Value} {cell : Cell} (hT : zTh E k b H fs) (ho : zo k = true) (hlen : Nat.ble fs.length (zn k) = true) (hj : Nat.blt j (zn k) = true) (hc : H[b]? = some cell) (h1 : H1[b]? = some (cell.setSlot (zix E k j) v)) (hU : Up H H1 b (zix E k j) v) : zTh E k b H1 (fs.set j v) := by
  obtain ⟨⟨cl, q1, q2, q3, q4⟩, hf⟩ := hT
  cases hc.symm.trans q1
  refine ⟨⟨_, h1, q2, q3, fun h => by simpa [Cell.setSlot] using q4 h⟩, fun i w hw => ?_⟩
  by_cases hij : i = j
  · subst hij
    have hl : i < (fs.set i v).length := (List.getElem?_eq_some_iff.mp hw).1
    rw [List.length_set] at hl
    rw [List.getElem?_set_self hl] at hw
    cases hw
    exact hU.2.1
  · rw [List.getElem?_set_ne (Ne.symm hij)] at hw
    have hi : i < fs.length := (List.getElem?_eq_some_iff.mp hw).1
    have hi2 : i < zn k := Nat.lt_of_lt_of_le hi (Nat.le_of_ble_eq_true hlen)
    rw [hU.2.2.1 b _ (Or.inr (hV k i j ho hi2 (Nat.le_of_ble_eq_true hj) hij))]
    exact hf i w hw
/-- every place of this stands: it is of its kind -/
theorem zTh.done {E : zE} {k b : Nat} {H : Heap} {fs : List Value} (h : zTh E k b H fs) (hk : eK E b = k) (hall : ∀ j, j < zn k → ∃ v, fs[j]? = some v ∧ dn (eK E) (zty (eX E) (eM E) k j) v) : HTq E H b := by
  subst hk
  refine ⟨h.1, fun j hj => ?_⟩
  obtain ⟨v, h1, h2⟩ := hall j hj
  exact ⟨v, h.2 j v h1, h2⟩
def zCo (E : zE) (b : Nat) (O : List Nat) (H0 H : Heap) (z : Nat) (locs : List Loc) : Prop := H.size = H0.size + z ∧ (∀ q : Nat, q < H0.size → q ≠ b → H[q]? = H0[q]?) ∧ (∀ q : Nat, H0.size ≤ q → q < H0.size + z → eK E q ≠ 0 ∧ (q ∉ O → HTq E H q)) ∧ ∀ q ∈ locs, q.base = b ∨ H0.size ≤ q.base
theorem zCo.rf {E : zE} {b : Nat} {H0 : Heap} : zCo E b [] H0 H0 0 [] := ⟨rfl, fun _ _ _ => rfl, fun q h1 h2 => by omega, fun _ h => by cases h⟩
theorem zCo.put {E : zE} {b : Nat} {O : List Nat} {H0 H H1 : Heap} {z i : Nat} {locs : List Loc} (hC : zCo E b O H0 H z locs) (hb : b < H0.size) (hz : H1.size = H.size) (ho : ∀ q : Nat, q ≠ b → H1[q]? = H[q]?) : zCo E b O H0 H1 z (locs ++ [⟨b, i⟩]) := by
  refine ⟨hz.trans hC.1, fun q h1 h2 => (ho q h2).trans (hC.2.1 q h1 h2), fun q h1 h2 => ⟨(hC.2.2.1 q h1 h2).1, fun hq => ((hC.2.2.1 q h1 h2).2 hq).kept (ho q (by omega))⟩, fun q hq => ?_⟩
  rcases List.mem_append.mp hq with h | h
  · exact hC.2.2.2 q h
  · rw [List.mem_singleton.mp h]; exact Or.inl rfl
theorem zCo.grow {E : zE} {b : Nat} {O O' : List Nat} {H0 H H1 : Heap} {z : Nat} {locs : List Loc} (hC : zCo E b O H0 H z locs) (hz : H1.size = H0.size + z + 1) (ho : ∀ q : Nat, q < H0.size + z → H1[q]? = H[q]?) (hOO : ∀ q, q ∈ O → q ∈ O') (hk : eK E (H0.size + z) ≠ 0) (hn : H0.size + z ∉ O' → HTq E H1 (H0.size + z)) : zCo E b O' H0 H1 (z + 1) locs := by
  refine ⟨by omega, fun q h1 h2 => (ho q (by omega)).trans (hC.2.1 q h1 h2), fun q h1 h2 => ?_, hC.2.2.2⟩
  by_cases hq : q = H0.size + z
  · subst hq; exact ⟨hk, hn⟩
  · obtain ⟨g1, g2⟩ := hC.2.2.1 q h1 (by omega)
    exact ⟨g1, fun h => (g2 (fun h' => h (hOO q h'))).kept (ho q (by omega))⟩
theorem zCo.zO {E : zE} {b : Nat} {O : List Nat} {H0 H : Heap} {z : Nat} {locs : List Loc} {s : State} (hC : zCo E b O H0 H z locs) (hh : s.heap = H0) (hb : eK E b ≠ 0) : zO E s H := by
  intro a ha
  rw [hh]
  by_cases h1 : a < H0.size
  · exact hC.2.1 a h1 (fun e => hb (e ▸ ha))
  · by_cases h2 : a < H0.size + z
    · exact absurd ha (hC.2.2.1 a (by omega) h2).1
    · have e1 : H[a]? = none := Array.getElem?_eq_none (by have := hC.1; omega)
      have e2 : H0[a]? = none := Array.getElem?_eq_none (by omega)
      rw [e1, e2]
/-- an array of positions that is being filled -/
def zOp (E : zE) (a : Nat) (H : Heap) (i : Nat) : Prop := zhd E (eK E a) a H ∧ ∀ j : Nat, j < i → ∃ b : Nat, sl H a j = some (.ref b) ∧ eK E b = 5
theorem zOp.kept {E : zE} {a i : Nat} {H H1 : Heap} (h : zOp E a H i) (e : H1[a]? = H[a]?) : zOp E a H1 i := by
  obtain ⟨⟨cl, q1, q2⟩, hf⟩ := h
  exact ⟨⟨cl, by rw [e]; exact q1, q2⟩, fun j hj => by rw [sl_kept e]; exact hf j hj⟩
theorem zOp.done {E : zE} {a ka i : Nat} {H : Heap} (h : zOp E a H i) (hk : eK E a = ka) (ho : zo ka = false) (hN : zn ka = i) (hty : ∀ j, zty (eX E) (eM E) ka j = .inr (.inl 5)) : HTq E H a := by
  subst hk
  refine ⟨h.1, fun j hj => ?_⟩
  rw [zix_arr ho, hty j]
  obtain ⟨b, h1, h2⟩ := h.2 j (by omega)
  exact ⟨_, h1, b, rfl, h2⟩
theorem zCo.close {E : zE} {b a : Nat} {O : List Nat} {H0 H : Heap} {z : Nat} {locs : List Loc} (hC : zCo E b (a :: O) H0 H z locs) (h : HTq E H a) : zCo E b O H0 H z locs := by
  refine ⟨hC.1, hC.2.1, fun q h1 h2 => ⟨(hC.2.2.1 q h1 h2).1, fun hq => ?_⟩, hC.2.2.2⟩
  by_cases e : q = a
  · subst e; exact h
  · exact (hC.2.2.1 q h1 h2).2 (fun h' => by
      rcases List.mem_cons.mp h' with h' | h'
      · exact e h'
      · exact hq h')
def zPm (E : zE) (H0 : Heap) (av : List Value) : Array Value → State → Prop := va_Pc av (fun U => U.heap = H0 ∧ zK E U ∧ zAr E U)
theorem zPm_blind {E : zE} {H0 : Heap} {av : List Value} : FrameBlind (zPm E H0 av) := by
  intro a U g mk q
  exact ⟨q.1, q.2.1, zK.same (s := U) (U := U.calling g mk a) rfl rfl q.2.2.1, zAr.same (s := U) (U := U.calling g mk a) rfl q.2.2.2⟩
def zQm (E : zE) (b mc : Nat) (H0 : Heap) : Array Value → State → Outcome → State → Prop := fun _ _ oc t => oc = .returned none ∧ t.heap.size = H0.size + mc ∧ (∀ q : Nat, q < H0.size → q ≠ b → t.heap[q]? = H0[q]?) ∧ HTq E t.heap b ∧ ∀ q : Nat, H0.size ≤ q → q < H0.size + mc → HTq E t.heap q
def zfm (b n : Nat) : Nat → Prop := fun q => q = b ∨ n ≤ q
def zFlf (own : String) (index ci j : Nat) (ty : FieldType) : Prop := ∃ (C : String) (T : u_T) (N : Nat), vwCl[ci]? = some (C, T, N) ∧ j < N ∧ (∀ w ∈ u_ws C T N, w ∈ wsL_law) ∧ Cond.fieldLink own index (T j).1 (T j).2.1 (T j).2.2.1 ∈ wsL_law ∧ (T j).2.2.2 = true ∧ parseFieldDescriptor (T j).2.2.1 = some ty ∧ (T j).1 = own
def zCi (own : String) (index : Nat) (y : MethodName) (bytes : ByteArray) (maxL n : Nat) : Prop := Cond.code y bytes maxL none ∈ wsL_law ∧ Cond.initialized y.cls ∈ wsL_law ∧ Cond.methodLink own index y ∈ wsL_law ∧ Cond.instanceMethod y ∈ wsL_law ∧ y.name = "<init>" ∧ (y.cls ≠ "java/lang/invoke/MethodHandle" ∧ y.cls ≠ "java/lang/invoke/VarHandle" ∧ (parseMethodDescriptor y.desc).map (fun d => d.parameters.length) = some n)
def zCn (own : String) (index : Nat) (y : MethodName) (host : String) (bytes : ByteArray) (maxL n : Nat) : Prop := Cond.code y bytes maxL none ∈ wsL_law ∧ Cond.initialized y.cls ∈ wsL_law ∧ Cond.methodLinkNest own index y host ∈ zNest ∧ Cond.instanceMethod y ∈ wsL_law ∧ y.name = "<init>" ∧ (y.cls ≠ "java/lang/invoke/MethodHandle" ∧ y.cls ≠ "java/lang/invoke/VarHandle" ∧ (parseMethodDescriptor y.desc).map (fun d => d.parameters.length) = some n)
def zNw (own : String) (index ci N : Nat) (bl : List Value) : Prop := ∃ (C : String) (T : u_T) (ty : Nat → FieldType), vwCl[ci]? = some (C, T, N) ∧ (∀ w ∈ u_ws C T N, w ∈ wsL_law) ∧ (∀ k, k < N → parseFieldDescriptor (T k).2.2.1 = some (ty k)) ∧ Cond.classLink own index C ∈ wsL_law ∧ Cond.instantiable C N ∈ wsL_law ∧ Cond.initialized C ∈ wsL_law ∧ bl.length = N ∧ ∀ k, k < N → bl[k]? = some (defaultValue (ty k))
section ZM
variable {p : Program} {l : Launch} {e : Env} {R : Room} {s : State} {m : MethodId} {args : Array Value} {below : List Frame} {meth : Method} {c : Code} {H H0 : Heap} {locs : List Loc} {cells slots : Nat} {Q : State → Prop} {cc : ByteArray} {pc nL : Nat} {ls : Array Slot} {rest st0 : List Value} {E : zE} {own : String} {index ci j k b z : Nat} {O : List Nat} {fs : List Value}
theorem zEntM {y : MethodName} {ret : Option FieldType} {av : List Value} {Qc : Array Value → State → Outcome → State → Prop} {free : Nat → Prop} {rm : Room} {mc ms : Nat} (hy : plainName y.cls = true) (hyn : y.name = "<init>") (hlen : (lg_sl av).length ≤ nL)
    (body : ∀ (p : Program) (e : Env) (s : State) (m : MethodId) (args : Array Value) (below : List Frame) (meth : Method) (c : Code) (ls : Array Slot) (Q : State → Prop), zB p s m args c E cc y.cls nL → zAr E s → meth.name = "<init>" → meth.sig.returnType = ret → meth.locks = false → s.heap = H0 → Q = MQ below Qc args s mc ms free → lv_has ls nL (lv_args 0 av) →
      W p l e rm s m args below meth c H0 [] 0 0 Q (F0 m 0 ls [])) : Met l y (zws y cc nL ret) rm (zPm E H0 av) Qc mc ms free := by
  refine Met.ofW (cc := cc) (maxL := nL) (ret := ret) hy rfl ?_
  intro p e s m args below meth c s₁ B hml hv
  obtain ⟨rfl, hh, hK, hA⟩ := hv
  have hl := lv_entry av (n := nL) hlen
  rw [lg_entry_eq]
  generalize (lg_sl av ++ List.replicate (nL - (lg_sl av).length) Slot.unset).toArray = ls at hl ⊢
  rw [hh]
  have hts := atoms_spec (ws := zws y cc nL ret) B.pre
  exact body p e s m av.toArray below meth c ls _ ⟨B.exec, B.bytes, hml, findClass_of_methodNamed B.named, fun w hw => hts w (List.mem_cons_of_mem _ hw), hK⟩ hA ((name_of_methodNamed B.named B.method).1.trans hyn) B.returns B.notSynchronized hh rfl hl
theorem m_obj (B : zB p s m args c E cc own nL) (h1 : Cond.methodLink own index objectInit ∈ wsL_law) (h2 : Cond.instanceMethod objectInit ∈ wsL_law) (h3 : Cond.code objectInit ⟨#[0xb1]⟩ 1 none ∈ wsL_law) (hsize : ls.size = nL) (hdg : decode cc pc = .ok (.invokespecial index, 3)) (hf : Nat.ble 1 R.frames = true) (hlo : Nat.ble 12 R.locals = true)
    (kk : W p l e R s m args below meth c H locs cells slots Q (F0 m (pc + 3) ls [])) : W p l e R s m args below meth c H locs cells slots Q (F0 m pc ls [.ref b]) := by
  obtain ⟨hx, hb, hml, hown, hts, hK⟩ := B
  exact W.objInit hx hb hown (hts _ h1) (hts _ h2) (hts _ h3) rfl (hsize.trans hml.symm) rfl hdg (Nat.le_of_ble_eq_true hf) (by show 2 * 0 + 0 + 12 ≤ _; have := Nat.le_of_ble_eq_true hlo; omega) kk
theorem m_put (B : zB p s m args c E cc own nL) {ty : FieldType} (hf : zFlp own index ci j ty) (hV : zV E) (hbn : b < H0.size) (hC : zCo E b O H0 H z locs) (hT : zTh E k b H fs) (ho : zo k = true) (hci : zci k = ci) (hl : fs.length = zn k) (hj : Nat.blt j (zn k) = true) {v : Value} (hn : narrow ty v = v) (hfit : fits ty v = true) (hdg : decode cc pc = .ok (.putfield index, 3))
    (kk : ∀ (H1 : Heap) (locs1 : List Loc), zCo E b O H0 H1 z locs1 → zTh E k b H1 (fs.set j v) → (∀ q : Nat, q ≠ b → H1[q]? = H[q]?) → W p l e R s m args below meth c H1 locs1 cells slots Q (F0 m (pc + 3) ls rest)) : W p l e R s m args below meth c H locs cells slots Q (F0 m pc ls (v :: .ref b :: rest)) := by
  obtain ⟨hx, hb, -, hown, hts, hK⟩ := B
  obtain ⟨C, T, N, hc, hjN, hin, hl2, hfin, hd⟩ := hf
  obtain ⟨hS, hfc, kC, hkC, hkind⟩ := hK.1.1 ci _ hc
  obtain ⟨cf, kf, fi, f, hi, hsl⟩ := hS j hjN
  obtain ⟨cell, q1, q2, q3, q4⟩ := hT.1
  have hjl : j < fs.length := by rw [hl]; exact Nat.le_of_ble_eq_true hj
  have w1 := hT.2 j _ (List.getElem?_eq_getElem hjl)
  rw [zcl_obj ho, hci] at q2
  have hix : zix E k j = f.slot := by rw [zix_obj ho, hci, hsl]
  rw [sl_of q1, hix] at w1
  have hlay := hts _ (hin _ (u_in_lay hjN))
  unfold u_lay at hlay
  rw [if_neg (by rw [hfin]; decide)] at hlay
  have h6 := u_store hfc hkC hkind hlay hi hd hn hfit
  refine W.putK hx hb (f := f) ⟨hown, hts _ hl2, ⟨_, _, _, hi⟩, (u_facts hfc hkC (u_lays hts hin hjN) hi).1⟩ (by rw [q2]; exact h6) q1 q3 (k2_hasslot w1) rfl rfl hdg fun H1 e1 e2 e3 => ?_
  rw [← hix] at e1 ⊢
  exact kk H1 _ (hC.put hbn e2 e3) (hT.up hV ho (by rw [hl]; exact Nat.ble_eq_true_of_le (Nat.le_refl _)) hj q1 e1 (up_of q1 e1 e2 e3 (by rw [hix]; exact k2_hasslot w1))) e3
theorem m_putF (B : zB p s m args c E cc own nL) {ty : FieldType} (hf : zFlf own index ci j ty) (hnm : meth.name = "<init>") (hV : zV E) (hbn : b < H0.size) (hC : zCo E b O H0 H z locs) (hT : zTh E k b H fs) (ho : zo k = true) (hci : zci k = ci) (hl : fs.length = zn k) (hj : Nat.blt j (zn k) = true) {v : Value} (hn : narrow ty v = v) (hfit : fits ty v = true) (hdg : decode cc pc = .ok (.putfield index, 3))
    (kk : ∀ (H1 : Heap) (locs1 : List Loc), zCo E b O H0 H1 z locs1 → zTh E k b H1 (fs.set j v) → (∀ q : Nat, q ≠ b → H1[q]? = H[q]?) → W p l e R s m args below meth c H1 locs1 cells slots Q (F0 m (pc + 3) ls rest)) : W p l e R s m args below meth c H locs cells slots Q (F0 m pc ls (v :: .ref b :: rest)) := by
  obtain ⟨hx, hb, -, hown, hts, hK⟩ := B
  obtain ⟨C, T, N, hc, hjN, hin, hl2, hfin, hd, hdecl⟩ := hf
  obtain ⟨hS, hfc, kC, hkC, hkind⟩ := hK.1.1 ci _ hc
  obtain ⟨cf, kf, fi, f, hi, hsl⟩ := hS j hjN
  obtain ⟨cell, q1, q2, q3, q4⟩ := hT.1
  have hjl : j < fs.length := by rw [hl]; exact Nat.le_of_ble_eq_true hj
  have w1 := hT.2 j _ (List.getElem?_eq_getElem hjl)
  rw [zcl_obj ho, hci] at q2
  have hix : zix E k j = f.slot := by rw [zix_obj ho, hci, hsl]
  rw [sl_of q1, hix] at w1
  have hlay := hts _ (hin _ (u_in_lay hjN))
  unfold u_lay at hlay
  rw [if_pos hfin] at hlay
  have hst := (u_facts hfc hkC (u_lays hts hin hjN) hi).1
  have hcf : m.cls = cf := by
    obtain ⟨_, _, c', _, _, _, -, -, hf', -, -, -, hown2, -⟩ := Cond.laysFinal_spec hlay
    have e1 : c' = cf := by have := hi.symm.trans hf'; simp at this; exact this.1.symm
    rw [hdecl] at hown2
    rw [← e1]; exact Option.some.inj (hown.symm.trans hown2)
  have h6 := u_fits hfc hkC hkind (Or.inr hlay) hi hd hn hfit
  refine W.putFinK hx hb hown (hts _ hl2) hi hst hcf hnm (by rw [q2]; exact h6) q1 q3 (k2_hasslot w1) rfl rfl hdg fun H1 e1 e2 e3 => ?_
  rw [← hix] at e1 ⊢
  exact kk H1 _ (hC.put hbn e2 e3) (hT.up hV ho (by rw [hl]; exact Nat.ble_eq_true_of_le (Nat.le_refl _)) hj q1 e1 (up_of q1 e1 e2 e3 (by rw [hix]; exact k2_hasslot w1))) e3
theorem m_get (B : zB p s m args c E cc own nL) (hf : zFld own index ci j) (hT : zTh E k b H fs) (ho : zo k = true) (hci : zci k = ci) {v : Value} (hv : fs[j]? = some v) (hdg : decode cc pc = .ok (.getfield index, 3))
    (kk : W p l e R s m args below meth c H locs cells slots Q (F0 m (pc + 3) ls (v :: rest))) : W p l e R s m args below meth c H locs cells slots Q (F0 m pc ls (.ref b :: rest)) := by
  obtain ⟨hx, hb, -, hown, hts, hK⟩ := B
  obtain ⟨C, T, N, hc, hjN, hin, hl⟩ := hf
  obtain ⟨hS, hfc, kC, hkC, hkind⟩ := hK.1.1 ci _ hc
  obtain ⟨cf, kf, fi, f, hi, hsl⟩ := hS j hjN
  obtain ⟨cell, q1, q2, q3, q4⟩ := hT.1
  have w1 := hT.2 j _ hv
  rw [sl_of q1, zix_obj ho, hci] at w1
  exact W.getf hx hb hown (hts _ hl) hi (u_facts hfc hkC (u_lays hts hin hjN) hi).1 q1 (by rw [q3]; exact fun h => by cases h) (by rw [hsl]; exact w1) rfl rfl hdg kk
theorem m_newa (B : zB p s m args c E cc own nL) (hA : zAr E s) (hbn : b < H0.size) (hC : zCo E b O H0 H z locs) (hT : zTh E k b H fs) {atype : ArrayType} {ty : FieldType} (hty : newarray.typeOf atype = ty) (harr : Cond.arrayClass ty ∈ wsL_law) {ka N : Nat} (hk : eK E (H0.size + z) = ka) (h0 : Nat.ble 1 ka = true) (ho : zo ka = false) (hat : zat ka = some ty) (hN : zn ka = N) {n : Int32} (hn : ¬ n < 0) (hn2 : n.toNatClampNeg = N) (hd : ∀ j, j < N → dn (eK E) (zty (eX E) (eM E) ka j) (defaultValue ty)) (hbytes : N * componentBytes ty ≤ 536870912) (hcells : cells + 1 ≤ R.cells) (hslots : slots + N ≤ R.slots) (hdg : decode cc pc = .ok (.newarray atype, 2))
    (kk : ∀ H1 : Heap, zCo E b O H0 H1 (z + 1) locs → zTh E k b H1 fs → (∀ q : Nat, q < H0.size + z → H1[q]? = H[q]?) → W p l e R s m args below meth c H1 locs (cells + 1) (slots + N) Q (F0 m (pc + 2) ls (.ref (H0.size + z) :: rest))) : W p l e R s m args below meth c H locs cells slots Q (F0 m pc ls (.int n :: rest)) := by
  obtain ⟨hx, hb, -, hown, hts, hK⟩ := B
  subst hty
  refine va_newaK hx hb (hts _ harr) rfl hdg rfl hn hn2 hbytes hcells hslots hC.1 fun H1 cA e1 z1 o1 hAr hNm => ?_
  have hcA : cA = eA E (H0.size + z) := Option.some.inj (hNm.symm.trans (hA _ _ (by rw [hk]; exact hat)))
  subst hcA
  have hk0 : ka ≠ 0 := by have := Nat.le_of_ble_eq_true h0; omega
  refine kk H1 (hC.grow (O' := O) z1 o1 (fun _ h => h) (by rw [hk]; exact hk0) (fun _ => ⟨⟨_, e1, ?_, rfl, fun _ => ?_⟩, fun j hj => ?_⟩)) (hT.kept (o1 b (by omega))) o1
  · rw [hk, zcl_arr ho]; rfl
  · rw [arrV_size, hk, hN]
  · rw [hk] at hj ⊢
    rw [hN] at hj
    refine ⟨_, ?_, hd j hj⟩
    rw [zix_arr ho, sl_of e1]
    exact arrV_read _ _ hj
theorem m_anew (B : zB p s m args c E cc own nL) (hA : zAr E s) (hbn : b < H0.size) (hC : zCo E b O H0 H z locs) (hT : zTh E k b H fs) (hcl : Cond.classLink own index RX4 ∈ wsL_law) {ka N : Nat} (hk : eK E (H0.size + z) = ka) (h0 : Nat.ble 1 ka = true) (ho : zo ka = false) (hat : zat ka = some (.object RX4)) (hN : zn ka = N) {n : Int32} (hn : ¬ n < 0) (hn2 : n.toNatClampNeg = N) (hbytes : N * 4 ≤ 536870912) (hcells : cells + 1 ≤ R.cells) (hslots : slots + N ≤ R.slots) (hdg : decode cc pc = .ok (.anewarray index, 3))
    (kk : ∀ H1 : Heap, zCo E b ((H0.size + z) :: O) H0 H1 (z + 1) locs → zTh E k b H1 fs → zOp E (H0.size + z) H1 0 → (∀ q : Nat, q < H0.size + z → H1[q]? = H[q]?) → W p l e R s m args below meth c H1 locs (cells + 1) (slots + N) Q (F0 m (pc + 3) ls (.ref (H0.size + z) :: rest))) : W p l e R s m args below meth c H locs cells slots Q (F0 m pc ls (.int n :: rest)) := by
  obtain ⟨hx, hb, -, hown, hts, hK⟩ := B
  subst hn2
  refine W.anew hx hb hown (hts _ hcl) (va_AO.use hK.2.2.1.1) rfl hdg rfl hn hbytes hcells hslots fun cA kA comp f1 f2 f3 f4 => ?_
  have hcA : cA = eA E (H0.size + z) := Option.some.inj (f1.symm.trans (hA _ _ (by rw [hk]; exact hat)))
  generalize hH1 : H.push ({ cls := cA, slots := Array.replicate n.toNatClampNeg .null, vm := .none } : Cell) = H1
  have z1 : H1.size = H0.size + z + 1 := by rw [← hH1, Array.size_push, hC.1]
  have e1 : H1[H0.size + z]? = some ({ cls := cA, slots := Array.replicate n.toNatClampNeg .null, vm := .none } : Cell) := by rw [← hH1, ← hC.1, Array.getElem?_push_size]
  have o1 : ∀ q : Nat, q < H0.size + z → H1[q]? = H[q]? := fun q hq => by rw [← hH1, Array.getElem?_push, if_neg (by have := hC.1; omega)]
  have hk0 : ka ≠ 0 := by have := Nat.le_of_ble_eq_true h0; omega
  rw [show (Value.ref H.size) = .ref (H0.size + z) by rw [hC.1]]
  refine kk H1 (hC.grow z1 o1 (fun _ h => List.mem_cons_of_mem _ h) (by rw [hk]; exact hk0) (fun h => absurd List.mem_cons_self h)) (hT.kept (o1 b (by omega))) ⟨⟨_, e1, ?_, rfl, fun _ => ?_⟩, fun j hj => by omega⟩ o1
  · rw [hk, zcl_arr ho]; exact hcA
  · rw [hk, hN]; simp
theorem m_new (B : zB p s m args c E cc own nL) (hbn : b < H0.size) (hC : zCo E b O H0 H z locs) (hT : zTh E k b H fs) {N kn : Nat} {bl : List Value} (hw : zNw own index ci N bl) (hk : eK E (H0.size + z) = kn) (h0 : Nat.ble 1 kn = true) (ho : zo kn = true) (hci : zci kn = ci) (hcells : cells + 1 ≤ R.cells) (hslots : slots + N ≤ R.slots) (hdg : decode cc pc = .ok (.new index, 3))
    (kk : ∀ H1 : Heap, zCo E b ((H0.size + z) :: O) H0 H1 (z + 1) locs → zTh E k b H1 fs → zTh E kn (H0.size + z) H1 bl → (∀ q : Nat, q < H0.size + z → H1[q]? = H[q]?) → W p l e R s m args below meth c H1 locs (cells + 1) (slots + N) Q (F0 m (pc + 3) ls (.ref (H0.size + z) :: rest))) : W p l e R s m args below meth c H locs cells slots Q (F0 m pc ls rest) := by
  obtain ⟨hx, hb, -, hown, hts, hK⟩ := B
  obtain ⟨C, T, ty, hc, hin, hty, w1, w2, w3, hlen, hbl⟩ := hw
  have hKn := hK.1.1 ci _ hc
  refine W.newcK hx hb hown (hts _ w1) (hts _ w2) (hts _ w3) rfl hdg hcells hslots hKn.2.1 hC.1 fun H1 kC hkC e1 z1 o1 => ?_
  have hk0 : kn ≠ 0 := by have := Nat.le_of_ble_eq_true h0; omega
  obtain ⟨cell, q1, q2, q3, q4⟩ := u_born ty hts hin hKn hkC e1 hty
  refine kk H1 (hC.grow z1 o1 (fun _ h => List.mem_cons_of_mem _ h) (by rw [hk]; exact hk0) (fun h => absurd List.mem_cons_self h)) (hT.kept (o1 b (by omega))) ⟨⟨cell, q1, ?_, q3, fun h => ?_⟩, fun j v hv => ?_⟩ o1
  · rw [zcl_obj ho, hci]; exact q2
  · rw [ho] at h; cases h
  · have hj : j < N := by rw [← hlen]; exact (List.getElem?_eq_some_iff.mp hv).1
    have h2 := hbl j hj
    rw [hv] at h2
    cases h2
    rw [sl_of q1, zix_obj ho, hci]
    exact q4 j hj
theorem m_aast (B : zB p s m args c E cc own nL) (hA : zAr E s) (hbn : b < H0.size) (hC : zCo E b O H0 H z locs) (hT : zTh E k b H fs) {a ka v i N : Nat} (hO : zOp E a H i) (hin : a ∈ O) (ha : H0.size ≤ a) (hk : eK E a = ka) (ho : zo ka = false) (hat : zat ka = some (.object RX4)) (hN : zn ka = N) (hi : i < N) (hN2 : N < 100000) (hv : eK E v = 5) (hvq : HTq E H v) (hdg : decode cc pc = .ok (.aastore, 1))
    (kk : ∀ (H1 : Heap) (locs1 : List Loc), zCo E b O H0 H1 z locs1 → zTh E k b H1 fs → zOp E a H1 (i + 1) → (∀ q : Nat, q ≠ a → H1[q]? = H[q]?) → W p l e R s m args below meth c H1 locs1 cells slots Q (F0 m (pc + 1) ls rest)) : W p l e R s m args below meth c H locs cells slots Q (F0 m pc ls (.ref v :: .int (nI i) :: .ref a :: rest)) := by
  obtain ⟨hx, hb, -, hown, hts, hK⟩ := B
  obtain ⟨⟨cell, q1, q2, q3, q4⟩, hf⟩ := hO
  obtain ⟨⟨cv, r1, r2, r3, r4⟩, -⟩ := hvq
  obtain ⟨comp0, cA0, kA0, g1, g2, g3, g4, g5⟩ := Cond.arrayOver_spec (va_AO.use (A := #[]) hK.2.2.1.1)
  have hcA : cA0 = eA E a := Option.some.inj (g5.symm.trans (hA a _ (by rw [hk]; exact hat)))
  subst hcA
  obtain ⟨hS, hfc, kC, hkC, hkind⟩ := hK.1.1 4 _ (rfl : vwCl[4]? = some (RX4, TX4, 7))
  have hcomp : comp0 = (eD E).1 4 := Option.some.inj (g1.symm.trans hfc)
  subst hcomp
  have hcv : cv.cls = (eD E).1 4 := by rw [r2, hv]; rfl
  have hcc : cell.cls = eA E a := by rw [q2, hk, zcl_arr ho]
  have hsz : cell.slots.size = N := by rw [q4 (by rw [hk]; exact ho), hk, hN]
  have hcl : (nI i).toNatClampNeg = i := nI_clamp (by omega)
  have hlt : (nI i).toNatClampNeg < cell.slots.size := by rw [hcl, hsz]; exact hi
  have hn0 : ¬ nI i < 0 := fun q => by
    have := z_lt q (nI_toInt (by omega)) (show (0 : Int32).toInt = 0 from rfl)
    omega
  refine W.aast hx hb q1 (fun q h => by rw [q3] at h; cases h) (fun h => by rw [q3] at h; cases h) (by rw [hcc]; exact g3) g4 rfl hkC ⟨hn0, hlt⟩ r1 (fun q h => by rw [r3] at h; cases h) (by rw [hcv]; exact hkC) (by rw [hcv]; exact va_assign ⟨hfc, kC, hkC, hkind⟩) rfl rfl hdg fun H1 e1 z1 o1 => ?_
  rw [hcl] at e1 ⊢
  have hU := up_of q1 e1 z1 o1 (by rw [hsz]; exact hi)
  have hba : b ≠ a := by omega
  refine kk H1 _ ⟨z1.trans hC.1, fun q h1 h2 => (o1 q (Nat.ne_of_lt (Nat.lt_of_lt_of_le h1 ha))).trans (hC.2.1 q h1 h2), fun q h1 h2 => ⟨(hC.2.2.1 q h1 h2).1, fun hq => ((hC.2.2.1 q h1 h2).2 hq).kept (o1 q (fun e => hq (e ▸ hin)))⟩, fun q hq => ?_⟩ (hT.kept (o1 b hba)) ⟨⟨_, e1, q2, q3, fun h => by simpa [Cell.setSlot] using q4 h⟩, fun j hj => ?_⟩ o1
  · rcases List.mem_append.mp hq with h | h
    · exact hC.2.2.2 q h
    · rw [List.mem_singleton.mp h]; exact Or.inr ha
  · by_cases hji : j = i
    · subst hji; exact ⟨v, hU.2.1, hv⟩
    · rw [hU.2.2.1 a j (Or.inr hji)]
      exact hf j (by omega)
theorem m_retM (B : zB p s m args c E cc own nL) {mc ms : Nat} (hr : meth.sig.returnType = none) (hlocks : meth.locks = false) (hh : s.heap = H0) (hQ : Q = MQ below (zQm E b mc H0) args s mc ms (zfm b H0.size)) (hC : zCo E b [] H0 H mc locs) (hdone : HTq E H b) (hdg : decode cc pc = .ok (.return_, 1)) : W p l e R s m args below meth c H locs mc ms Q (F0 m pc ls []) := by
  subst hQ
  exact W.vret B.1 B.2.1 hr (fun t ht hW => ⟨rfl, by rw [ht]; exact hC.1, fun q h1 h2 => by rw [ht]; exact hC.2.1 q h1 h2, by rw [ht]; exact hdone, fun q h1 h2 => by rw [ht]; exact (hC.2.2.1 q h1 h2).2 (fun h => by cases h)⟩) (fun q hq => hC.2.2.2 q hq) hdg hlocks
variable {y : MethodName} {bytes : ByteArray} {maxL n a mc ms : Nat} {rm : Room} {Qc : Array Value → State → Outcome → State → Prop} {free : Nat → Prop} {As : List Value} {host : String}
theorem zrI (B : zB p s m args c E cc own nL) (hA : zAr E s) (hM : Met l y (zws y bytes maxL none) rm (zPm E H (.ref a :: As)) Qc mc ms free) (cl : zCi own index y bytes maxL n) (hn : As.length = n) (hsize : ls.size = nL) (hst : st0 = As.reverse ++ .ref a :: rest) (hW : (rest.map fun v => v.category).sum ≤ 8) (hdg : decode cc pc = .ok (.invokespecial index, 3)) (hrc : rm.cells = mc) (hrs : rm.slots = ms) (hR : Nat.ble (rm.frames + 1) R.frames = true ∧ Nat.ble (8 + (maxL + 11) + rm.locals) R.locals = true) (hcs : cells + mc ≤ R.cells ∧ slots + ms ≤ R.slots) (hO : zO E s H) :
    va_Run p l e R s m args below meth c H locs cells slots mc ms (F0 m pc ls st0) rest (Qc (Value.ref a :: As).toArray) free := by
  obtain ⟨hx, hb, hml, hown, hts, hK⟩ := B
  obtain ⟨c1, c2, c3, c4, c5, c6⟩ := cl
  exact va_runI (As := As) (rest := rest) ⟨hx, hb, hml, hown, hts⟩ hM ⟨callB_of n hts (z_good c1) rfl hrc hrs (hts _ c2) (hts _ c3) c6 ⟨Nat.le_of_ble_eq_true hR.1, Nat.le_of_ble_eq_true hR.2⟩, c5, hts _ c4⟩ ⟨zPm_blind, fun U hU hW => ⟨rfl, hU, hK.warm hW hU hO, hA.warm hW⟩⟩ rfl hn hsize hst (lv_room hW) hdg hcs
theorem zrIN (B : zB p s m args c E cc own nL) (hA : zAr E s) (hM : Met l y (zws y bytes maxL none) rm (zPm E H (.ref a :: As)) Qc mc ms free) (cl : zCn own index y host bytes maxL n) (hn : As.length = n) (hsize : ls.size = nL) (hst : st0 = As.reverse ++ .ref a :: rest) (hW : (rest.map fun v => v.category).sum ≤ 8) (hdg : decode cc pc = .ok (.invokespecial index, 3)) (hrc : rm.cells = mc) (hrs : rm.slots = ms) (hR : Nat.ble (rm.frames + 1) R.frames = true ∧ Nat.ble (8 + (maxL + 11) + rm.locals) R.locals = true) (hcs : cells + mc ≤ R.cells ∧ slots + ms ≤ R.slots) (hO : zO E s H) :
    va_Run p l e R s m args below meth c H locs cells slots mc ms (F0 m pc ls st0) rest (Qc (Value.ref a :: As).toArray) free := by
  obtain ⟨hx, hb, hml, hown, hts, hK⟩ := B
  obtain ⟨c1, c2, c3, c4, c5, c6⟩ := cl
  exact va_runIN (As := As) (rest := rest) ⟨hx, hb, hml, hown, hts⟩ hM ⟨va_cnB n hts (z_good c1) rfl hrc hrs (hK.2.2.1.2 _ c3) (hts _ c2) c6 ⟨Nat.le_of_ble_eq_true hR.1, Nat.le_of_ble_eq_true hR.2⟩, c5, hts _ c4⟩ ⟨zPm_blind, fun U hU hW => ⟨rfl, hU, hK.warm hW hU hO, hA.warm hW⟩⟩ rfl hn hsize hst (lv_room hW) hdg hcs
/-- after a constructor's call -/
theorem zkM {av : Array Value} (hr : va_Run p l e R s m args below meth c H locs cells slots mc ms (F0 m pc ls st0) rest (zQm E a mc H av) (zfm a H.size)) (hbn : b < H0.size) (hC : zCo E b (a :: O) H0 H z locs) (hT : zTh E k b H fs) (ha : H0.size ≤ a) (ha2 : a < H0.size + z) (hkk : ∀ q : Nat, H0.size + z ≤ q → q < H0.size + z + mc → eK E q ≠ 0)
    (kk : ∀ (H1 : Heap) (locs1 : List Loc), zCo E b O H0 H1 (z + mc) locs1 → zTh E k b H1 fs → HTq E H1 a → (∀ q : Nat, q < H0.size + z → q ≠ a → H1[q]? = H[q]?) → W p l e R s m args below meth c H1 locs1 (cells + mc) (slots + ms) Q (F0 m (pc + 3) ls rest)) : W p l e R s m args below meth c H locs cells slots Q (F0 m pc ls st0) := by
  intro T hTT X
  obtain ⟨v, st₀, t, T', L, h0, X', hL, e1, e2, ⟨hv, hz, ho, hq, hnew⟩, st⟩ := hr T hTT X
  cases hv
  rw [← e1] at hz ho hq hnew
  have hs := hC.1
  rw [hs] at hz ho hnew
  have hC1 : zCo E b O H0 T'.heap (z + mc) (locs ++ L) := by
    refine ⟨by omega, fun q h1 h2 => (ho q (by omega) (by omega)).trans (hC.2.1 q h1 h2), fun q h1 h2 => ?_, fun q hq1 => ?_⟩
    · by_cases hlt : q < H0.size + z
      · obtain ⟨g1, g2⟩ := hC.2.2.1 q h1 hlt
        refine ⟨g1, fun hn => ?_⟩
        by_cases hqa : q = a
        · subst hqa; exact hq
        · exact (g2 (fun h => by
            rcases List.mem_cons.mp h with h | h
            · exact hqa h
            · exact hn h)).kept (ho q hlt hqa)
      · exact ⟨hkk q (by omega) (by omega), fun _ => hnew q (by omega) (by omega)⟩
    · rcases List.mem_append.mp hq1 with h | h
      · exact hC.2.2.2 q h
      · have h3 : q.base = a ∨ H.size ≤ q.base := hL q h
        rw [hs] at h3
        rcases h3 with h3 | h3
        · rw [h3]; exact Or.inr ha
        · exact Or.inr (Nat.le_trans (Nat.le_add_right _ _) h3)
  obtain ⟨t2, a1, b1⟩ := kk T'.heap (locs ++ L) hC1 (hT.kept (ho b (by omega) (by omega))) hq ho T' rfl X'
  exact ⟨t2, st t2 a1, b1⟩
end ZM
