/-! tools of our own: what stands at every method's entry, at a call, at a return -/
def zNest : List Cond := [.methodLinkNest RX11 19 yX10_init RX11, .methodLinkNest RX11 38 yX2_init RX11, .methodLinkNest RX11 70 yX0_init RX11, .methodLinkNest RX11 77 yX7_init RX11, .methodLinkNest RX11 232 yX8_goOn RX11, .methodLinkNest RX1 27 yX4_init RX11, .methodLinkNest RX3 45 yX4_init RX11, .methodLinkNest RX6 25 yX4_init RX11, .methodLinkNest RX8 48 yX4_init RX11, .methodLinkNest RX10 52 yX4_init RX11]
def zN (U : State) : Prop := va_AO RX4 U ∧ ∀ w ∈ zNest, va_Nw w U
theorem zNest_is {w : Cond} (h : w ∈ zNest) : ∃ a i x k, w = .methodLinkNest a i x k := by
  simp only [zNest, List.mem_cons, List.not_mem_nil, or_false] at h
  rcases h with h | h | h | h | h | h | h | h | h | h <;> exact ⟨_, _, _, _, h⟩
theorem zN.warm {s U : State} (hW : s.WarmedH U.vm) (h : zN s) : zN U := by
  refine ⟨va_AO.moved hW.alike h.1, fun w hw => ?_⟩
  have h2 := h.2 w hw
  obtain ⟨a, i, x, k, rfl⟩ := zNest_is hw
  exact va_Nw.warmM hW h2
theorem zN.same {s U : State} (hv : s.vm = U.vm) (h : zN s) : zN U := by
  refine ⟨va_AO.moved (by rw [hv]; exact Vm.Alike.refl U.vm) h.1, fun w hw => ?_⟩
  have h2 := h.2 w hw
  obtain ⟨a, i, x, k, rfl⟩ := zNest_is hw
  exact va_Nw.same rfl hv h2
def zPre (D : va_G) (av : List Value) (ws : va_W) (tys : List (ClassId × FieldType)) (sz : Nat) : Array Value → State → Prop := va_Pc av (fun U => U.heap.size = sz ∧ va_P D vwCl ws U.heap ∧ va_K D vwCl tys U ∧ va_D (fun _ => True) ws ∧ zN U)
def zB {S : Type} (D : va_G) (A : Nat → Prop) (w1 : S → va_W) (t1 : S → List (ClassId × FieldType)) : S → State → Prop := fun u t => va_P D vwCl (w1 u) t.heap ∧ va_K D vwCl (t1 u) t ∧ va_D A (w1 u)
def zBr {S : Type} (D : va_G) (A : Nat → Prop) (w1 : S → va_W) (t1 : S → List (ClassId × FieldType)) (ad : S → Nat) : S → Nat → State → Prop := fun u a t => a = ad u ∧ zB D A w1 t1 u t
theorem zPre_blind {D : va_G} {av : List Value} {ws : va_W} {tys : List (ClassId × FieldType)} {sz : Nat} (a : Array Value) (U : State) (g : JFrame) (mk : MethodId) (q : zPre D av ws tys sz a U) : zPre D av ws tys sz a (U.calling g mk a) := by
  obtain ⟨q0, q1, qP, qK, qD, qN⟩ := q
  exact ⟨q0, q1, qP, va_K.moved (u := U) (U := U.calling g mk a) (Vm.Alike.refl U.vm) qK, qD, zN.same (s := U) (U := U.calling g mk a) rfl qN⟩
theorem z_fm {α β : Type} {f : α → Option β} {is : List α} {w : List β} (h : is.map f = w.map some) : is.filterMap f = w := by
  have e : is.filterMap f = (is.map f).filterMap id := by rw [List.filterMap_map]; rfl
  rw [e, h, List.filterMap_map]
  simp
section ZT
variable {p : Program} {l : Launch} {e : Env} {R : Room} {s : State} {m : MethodId} {args : Array Value} {below : List Frame} {meth : Method} {c : Code} {H : Heap} {locs : List Loc} {cells slots : Nat} {Q : State → Prop} {cc : ByteArray} {pc nL : Nat} {ls : Array Slot} {rest st0 : List Value} {D : va_G} {A : Nat → Prop} {ws wc : va_W} {tys tc : List (ClassId × FieldType)} {mc ms : Nat}
/-- a method's entry -/
theorem zOfW {y : MethodName} {wy wy' : List Cond} {rm : Room} {av : List Value} {sz : Nat} {QF : (Nat → Prop) → Array Value → State → Outcome → State → Prop} {maxL : Nat} {ret : Option FieldType}
    (hy : plainName y.cls = true) (hw : wy = Cond.code y cc maxL ret :: wy') (hlen : (lg_sl av).length ≤ maxL)
    (body : ∀ (p : Program) (e : Env) (s : State) (m : MethodId) (below : List Frame) (meth : Method) (c : Code) (A : Nat → Prop) (ls : Array Slot), p.tables.exec = Jvm.exec → c.code = cc → meth.sig.returnType = ret → c.maxLocals = maxL → (∀ w ∈ wy, w.before av.toArray s = true) → s.vm.findClass y.cls = some m.cls → meth.locks = false → meth.name = y.name → (∀ q : Nat, s.heap.size ≤ q → A q) → va_S A s.heap s.heap [] → va_P D vwCl wc s.heap → va_D A wc → va_K D vwCl tc s → zN s → lv_has ls maxL (lv_args 0 av) →
      W p l e rm s m av.toArray below meth c s.heap [] 0 0 (MQ below (QF A) av.toArray s mc ms A) (F0 m 0 ls [])) : Met l y wy rm (zPre D av wc tc sz) (QF (va_A wc sz)) mc ms (va_A wc sz) := by
  refine Met.ofW (cc := cc) (maxL := maxL) (ret := ret) hy hw ?_
  intro p e s m args below meth c s₁ B hml hv
  obtain ⟨rfl, hsz, hP, hK, hD0, hN⟩ := hv
  have hl := lv_entry av (n := maxL) hlen
  rw [lg_entry_eq]
  generalize (lg_sl av ++ List.replicate (maxL - (lg_sl av).length) Slot.unset).toArray = ls at hl ⊢
  subst hsz
  exact body p e s m below meth c (va_A wc s.heap.size) ls B.exec B.bytes B.returns hml (atoms_spec (ws := wy) B.pre) (findClass_of_methodNamed B.named) B.notSynchronized (name_of_methodNamed B.named B.method).1 (fun q h => Or.inr h) va_S.rf hP hD0.self hK hN hl
/-- the number on top is another text of the same number -/
theorem z_top {x y : Int32} (h : x = y) (k : W p l e R s m args below meth c H locs cells slots Q (F0 m pc ls (.int y :: rest))) : W p l e R s m args below meth c H locs cells slots Q (F0 m pc ls (.int x :: rest)) := by
  subst h; exact k
theorem z_topv {x y : Value} (h : x = y) (k : W p l e R s m args below meth c H locs cells slots Q (F0 m pc ls (y :: rest))) : W p l e R s m args below meth c H locs cells slots Q (F0 m pc ls (x :: rest)) := by
  subst h; exact k
theorem zret_i {S : Type} {post : Int32 → S → Prop} {w1 : S → va_W} {t1 : S → List (ClassId × FieldType)} {v : Int32} (hx : p.tables.exec = Jvm.exec) (hb : c.code = cc) (hr : meth.sig.returnType = some .int) (hlocks : meth.locks = false) (hP : va_P D vwCl ws H) (hD : va_D A ws) (hK : va_K D vwCl tys s) (hS : va_S A s.heap H locs) (u : S) (hpost : post v u) (is ks : List Nat) (hn : va_nd is = true) (h1 : is.map (fun i => ws[i]?) = (w1 u).map some) (h2 : ks.filterMap (fun i => tys[i]?) = t1 u) (hc : cells ≤ mc) (hs : slots ≤ ms) (hdg : decode cc pc = .ok (.ireturn, 1)) :
    W p l e R s m args below meth c H locs cells slots (MQ below (va_Qi post (zB D A w1 t1) A) args s mc ms A) (F0 m pc ls [.int v]) := by
  refine W.widen (k := mc) (n := ms) hc hs ?_
  exact W.iret hx hb hr (fun t ht hW => ⟨⟨v, u, rfl, hpost, by rw [ht]; exact hP.sub is (z_fm h1), va_K.moved hW.alike (hK.sub ks h2), hD.sub is hn h1⟩, hS.F ht⟩) hS.2.2 hdg hlocks
theorem zret_z {S : Type} {post : Int32 → S → Prop} {w1 : S → va_W} {t1 : S → List (ClassId × FieldType)} {v : Int32} (hx : p.tables.exec = Jvm.exec) (hb : c.code = cc) (hr : meth.sig.returnType = some .boolean) (hz : narrow .boolean (.int v) = .int v) (hlocks : meth.locks = false) (hP : va_P D vwCl ws H) (hD : va_D A ws) (hK : va_K D vwCl tys s) (hS : va_S A s.heap H locs) (u : S) (hpost : post v u) (is ks : List Nat) (hn : va_nd is = true) (h1 : is.map (fun i => ws[i]?) = (w1 u).map some) (h2 : ks.filterMap (fun i => tys[i]?) = t1 u) (hc : cells ≤ mc) (hs : slots ≤ ms) (hdg : decode cc pc = .ok (.ireturn, 1)) :
    W p l e R s m args below meth c H locs cells slots (MQ below (va_Qi post (zB D A w1 t1) A) args s mc ms A) (F0 m pc ls [.int v]) := by
  refine W.widen (k := mc) (n := ms) hc hs ?_
  exact W.zret hx hb hr hz (fun t ht hW => ⟨⟨v, u, rfl, hpost, by rw [ht]; exact hP.sub is (z_fm h1), va_K.moved hW.alike (hK.sub ks h2), hD.sub is hn h1⟩, hS.F ht⟩) hS.2.2 hdg hlocks
theorem zret_v {S : Type} {post : S → Prop} {w1 : S → va_W} {t1 : S → List (ClassId × FieldType)} (hx : p.tables.exec = Jvm.exec) (hb : c.code = cc) (hr : meth.sig.returnType = none) (hlocks : meth.locks = false) (hP : va_P D vwCl ws H) (hD : va_D A ws) (hK : va_K D vwCl tys s) (hS : va_S A s.heap H locs) (u : S) (hpost : post u) (is ks : List Nat) (hn : va_nd is = true) (h1 : is.map (fun i => ws[i]?) = (w1 u).map some) (h2 : ks.filterMap (fun i => tys[i]?) = t1 u) (hc : cells ≤ mc) (hs : slots ≤ ms) (hdg : decode cc pc = .ok (.return_, 1)) :
    W p l e R s m args below meth c H locs cells slots (MQ below (va_Qv post (zB D A w1 t1) A) args s mc ms A) (F0 m pc ls []) := by
  refine W.widen (k := mc) (n := ms) hc hs ?_
  exact W.vret hx hb hr (fun t ht hW => ⟨⟨u, rfl, hpost, by rw [ht]; exact hP.sub is (z_fm h1), va_K.moved hW.alike (hK.sub ks h2), hD.sub is hn h1⟩, hS.F ht⟩) hS.2.2 hdg hlocks
theorem zret_r {S : Type} {post : S → Prop} {w1 : S → va_W} {t1 : S → List (ClassId × FieldType)} {ad : S → Nat} {v : Nat} {rc : String} (hx : p.tables.exec = Jvm.exec) (hb : c.code = cc) (hr : meth.sig.returnType = some (.object rc)) (hlocks : meth.locks = false) (hP : va_P D vwCl ws H) (hD : va_D A ws) (hK : va_K D vwCl tys s) (hS : va_S A s.heap H locs) (u : S) (hpost : post u) (hv : v = ad u) (is ks : List Nat) (hn : va_nd is = true) (h1 : is.map (fun i => ws[i]?) = (w1 u).map some) (h2 : ks.filterMap (fun i => tys[i]?) = t1 u) (hc : cells ≤ mc) (hs : slots ≤ ms) (hdg : decode cc pc = .ok (.areturn, 1)) :
    W p l e R s m args below meth c H locs cells slots (MQ below (va_Qr post (zBr D A w1 t1 ad) A) args s mc ms A) (F0 m pc ls [.ref v]) := by
  refine W.widen (k := mc) (n := ms) hc hs ?_
  exact W.aret hx hb hr (Or.inl ⟨rc, rfl⟩) (Or.inr ⟨v, rfl⟩) (fun t ht hW => ⟨⟨u, v, rfl, hpost, hv, by rw [ht]; exact hP.sub is (z_fm h1), va_K.moved hW.alike (hK.sub ks h2), hD.sub is hn h1⟩, hS.F ht⟩) hS.2.2 hdg hlocks
variable {y : MethodName} {bytes : ByteArray} {maxL n index : Nat} {ret : Option FieldType} {wy : List Cond} {rm : Room} {Qc : Array Value → State → Outcome → State → Prop} {free : Addr → Prop} {Ts : List Cond} {own Cn host : String} {b : Addr} {As : List Value}
/-- a call of each kind: the callee's cells by their places -/
theorem zR_V (F : CallFix p m c cc nL s args Ts own) (hM : Met l y wy rm (zPre D (.ref b :: As) wc tc H.size) Qc mc ms free) (cw : CallW R s args own Cn index y bytes maxL ret wy rm mc ms n) (hP : va_P D vwCl ws H) (hD : va_D A ws) (hK : va_K D vwCl tys s) (hN : zN s) (isC isT : List Nat) (hC : isC.map (fun i => ws[i]?) = wc.map some) (hnC : va_nd isC = true) (hT : isT.filterMap (fun i => tys[i]?) = tc) (q0 ci : Nat) {fs : List Value} {T : u_T} {N : Nat} (he : wc[q0]? = some (b, .inr (ci, fs))) (hc : vwCl[ci]? = some (Cn, T, N)) (hn : As.length = n) (hsize : ls.size = nL) (hst : st0 = As.reverse ++ .ref b :: rest) (hW : (rest.map fun v => v.category).sum ≤ 8) (hdg : decode cc pc = .ok (.invokevirtual index, 3)) (hf : cells + mc ≤ R.cells ∧ slots + ms ≤ R.slots) :
    va_Run p l e R s m args below meth c H locs cells slots mc ms (F0 m pc ls st0) rest (Qc (Value.ref b :: As).toArray) free := by
  have hPc := hP.sub isC (z_fm hC)
  have hDc := hD.sub isC hnC hC
  have hKc := hK.sub isT hT
  exact va_runV (As := As) (rest := rest) F hM cw ⟨zPre_blind, va_recv hKc hPc (ci := ci) (q0 := q0) hc he, fun U hU hW => ⟨rfl, by rw [hU], by rw [hU]; exact hPc, va_K.moved hW.alike hKc, hDc.weaken (fun _ _ _ _ => trivial), zN.warm hW hN⟩⟩ rfl hn hsize hst (lv_room hW) hdg hf
theorem zR_VN (F : CallFix p m c cc nL s args Ts own) (hM : Met l y wy rm (zPre D (.ref b :: As) wc tc H.size) Qc mc ms free) (cw : va_CN R s args own index y host bytes maxL ret wy rm mc ms n ∧ (Cond.instanceMethod y).before args s = true ∧ (Cond.selects Cn y y).before args s = true) (hP : va_P D vwCl ws H) (hD : va_D A ws) (hK : va_K D vwCl tys s) (hN : zN s) (isC isT : List Nat) (hC : isC.map (fun i => ws[i]?) = wc.map some) (hnC : va_nd isC = true) (hT : isT.filterMap (fun i => tys[i]?) = tc) (q0 ci : Nat) {fs : List Value} {T : u_T} {N : Nat} (he : wc[q0]? = some (b, .inr (ci, fs))) (hc : vwCl[ci]? = some (Cn, T, N)) (hn : As.length = n) (hsize : ls.size = nL) (hst : st0 = As.reverse ++ .ref b :: rest) (hW : (rest.map fun v => v.category).sum ≤ 8) (hdg : decode cc pc = .ok (.invokevirtual index, 3)) (hf : cells + mc ≤ R.cells ∧ slots + ms ≤ R.slots) :
    va_Run p l e R s m args below meth c H locs cells slots mc ms (F0 m pc ls st0) rest (Qc (Value.ref b :: As).toArray) free := by
  have hPc := hP.sub isC (z_fm hC)
  have hDc := hD.sub isC hnC hC
  have hKc := hK.sub isT hT
  exact va_runVN (As := As) (rest := rest) F hM cw ⟨zPre_blind, va_recv hKc hPc (ci := ci) (q0 := q0) hc he, fun U hU hW => ⟨rfl, by rw [hU], by rw [hU]; exact hPc, va_K.moved hW.alike hKc, hDc.weaken (fun _ _ _ _ => trivial), zN.warm hW hN⟩⟩ rfl hn hsize hst (lv_room hW) hdg hf
theorem zR_I (F : CallFix p m c cc nL s args Ts own) (hM : Met l y wy rm (zPre D (.ref b :: As) wc tc H.size) Qc mc ms free) (cw : CallB R s args own index y bytes maxL none wy rm mc ms n ∧ y.name = "<init>" ∧ (Cond.instanceMethod y).before args s = true) (hP : va_P D vwCl ws H) (hD : va_D A ws) (hK : va_K D vwCl tys s) (hN : zN s) (isC isT : List Nat) (hC : isC.map (fun i => ws[i]?) = wc.map some) (hnC : va_nd isC = true) (hT : isT.filterMap (fun i => tys[i]?) = tc) (hn : As.length = n) (hsize : ls.size = nL) (hst : st0 = As.reverse ++ .ref b :: rest) (hW : (rest.map fun v => v.category).sum ≤ 8) (hdg : decode cc pc = .ok (.invokespecial index, 3)) (hf : cells + mc ≤ R.cells ∧ slots + ms ≤ R.slots) :
    va_Run p l e R s m args below meth c H locs cells slots mc ms (F0 m pc ls st0) rest (Qc (Value.ref b :: As).toArray) free := by
  have hPc := hP.sub isC (z_fm hC)
  have hDc := hD.sub isC hnC hC
  have hKc := hK.sub isT hT
  exact va_runI (As := As) (rest := rest) F hM cw ⟨zPre_blind, fun U hU hW => ⟨rfl, by rw [hU], by rw [hU]; exact hPc, va_K.moved hW.alike hKc, hDc.weaken (fun _ _ _ _ => trivial), zN.warm hW hN⟩⟩ rfl hn hsize hst (lv_room hW) hdg hf
theorem zR_IN (F : CallFix p m c cc nL s args Ts own) (hM : Met l y wy rm (zPre D (.ref b :: As) wc tc H.size) Qc mc ms free) (cw : va_CN R s args own index y host bytes maxL none wy rm mc ms n ∧ y.name = "<init>" ∧ (Cond.instanceMethod y).before args s = true) (hP : va_P D vwCl ws H) (hD : va_D A ws) (hK : va_K D vwCl tys s) (hN : zN s) (isC isT : List Nat) (hC : isC.map (fun i => ws[i]?) = wc.map some) (hnC : va_nd isC = true) (hT : isT.filterMap (fun i => tys[i]?) = tc) (hn : As.length = n) (hsize : ls.size = nL) (hst : st0 = As.reverse ++ .ref b :: rest) (hW : (rest.map fun v => v.category).sum ≤ 8) (hdg : decode cc pc = .ok (.invokespecial index, 3)) (hf : cells + mc ≤ R.cells ∧ slots + ms ≤ R.slots) :
    va_Run p l e R s m args below meth c H locs cells slots mc ms (F0 m pc ls st0) rest (Qc (Value.ref b :: As).toArray) free := by
  have hPc := hP.sub isC (z_fm hC)
  have hDc := hD.sub isC hnC hC
  have hKc := hK.sub isT hT
  exact va_runIN (As := As) (rest := rest) F hM cw ⟨zPre_blind, fun U hU hW => ⟨rfl, by rw [hU], by rw [hU]; exact hPc, va_K.moved hW.alike hKc, hDc.weaken (fun _ _ _ _ => trivial), zN.warm hW hN⟩⟩ rfl hn hsize hst (lv_room hW) hdg hf
theorem zR_S (F : CallFix p m c cc nL s args Ts own) (hM : Met l y wy rm (zPre D As wc tc H.size) Qc mc ms free) (cw : CallB R s args own index y bytes maxL ret wy rm mc ms n ∧ (Cond.static y).before args s = true) (hP : va_P D vwCl ws H) (hD : va_D A ws) (hK : va_K D vwCl tys s) (hN : zN s) (isC isT : List Nat) (hC : isC.map (fun i => ws[i]?) = wc.map some) (hnC : va_nd isC = true) (hT : isT.filterMap (fun i => tys[i]?) = tc) (hn : As.length = n) (hsize : ls.size = nL) (hst : st0 = As.reverse ++ rest) (hW : (rest.map fun v => v.category).sum ≤ 8) (hdg : decode cc pc = .ok (.invokestatic index, 3)) (hf : cells + mc ≤ R.cells ∧ slots + ms ≤ R.slots) :
    va_Run p l e R s m args below meth c H locs cells slots mc ms (F0 m pc ls st0) rest (Qc As.toArray) free := by
  have hPc := hP.sub isC (z_fm hC)
  have hDc := hD.sub isC hnC hC
  have hKc := hK.sub isT hT
  exact va_runS (As := As) (rest := rest) F hM cw ⟨zPre_blind, fun U hU hW => ⟨rfl, by rw [hU], by rw [hU]; exact hPc, va_K.moved hW.alike hKc, hDc.weaken (fun _ _ _ _ => trivial), zN.warm hW hN⟩⟩ rfl hn hsize hst (lv_room hW) hdg hf
/-- behind a call: the rest's cells by their places, the callee's as its contract says -/
theorem zA_i {S : Type} {post : Int32 → S → Prop} {w1 : S → va_W} {t1 : S → List (ClassId × FieldType)} {a : Array Value} (hr : va_Run p l e R s m args below meth c H locs cells slots mc ms (F0 m pc ls st0) rest (va_Qi post (zB D (va_A wc H.size) w1 t1) (va_A wc H.size) a) (va_A wc H.size)) (hP : va_P D vwCl ws H) (hD : va_D A ws) (hK : va_K D vwCl tys s) (hS : va_S A s.heap H locs) (hA : ∀ q : Nat, s.heap.size ≤ q → A q) (isC isR : List Nat) (hC : isC.map (fun i => ws[i]?) = wc.map some) (hR : isR.map (fun i => ws[i]?) = (isR.filterMap (fun i => ws[i]?)).map some) (hnR : va_nd isR = true) (hdis : ∀ i ∈ isR, i ∉ isC)
    (kk : ∀ (r : Int32) (u : S) (H1 : Heap) (locs1 : List Loc), post r u → va_P D vwCl (isR.filterMap (fun i => ws[i]?) ++ w1 u) H1 → va_D A (isR.filterMap (fun i => ws[i]?) ++ w1 u) → va_K D vwCl (tys ++ t1 u) s → va_S A s.heap H1 locs1 → W p l e R s m args below meth c H1 locs1 (cells + mc) (slots + ms) Q (F0 m (pc + 3) ls (.int r :: rest))) :
    W p l e R s m args below meth c H locs cells slots Q (F0 m pc ls st0) := by
  have hFc := va_free (wc := wc) hD hS hA isC hC
  refine va_calli hr hS (fun q _ h => hFc q h) hFc (fun r u t H1 locs1 ht hvm hw hB hz1 hk1 hS1 => ?_)
  obtain ⟨hP1, hK1, hD1⟩ := hB
  rw [ht] at hP1
  obtain ⟨hP2, hD2⟩ := va_join hP hD isC isR hC hR hnR hdis hk1 hFc hP1 hD1
  exact kk r u H1 locs1 hw hP2 hD2 (hK.app (va_K.moved hvm.symm hK1)) hS1
theorem zA_v {S : Type} {post : S → Prop} {w1 : S → va_W} {t1 : S → List (ClassId × FieldType)} {a : Array Value} (hr : va_Run p l e R s m args below meth c H locs cells slots mc ms (F0 m pc ls st0) rest (va_Qv post (zB D (va_A wc H.size) w1 t1) (va_A wc H.size) a) (va_A wc H.size)) (hP : va_P D vwCl ws H) (hD : va_D A ws) (hK : va_K D vwCl tys s) (hS : va_S A s.heap H locs) (hA : ∀ q : Nat, s.heap.size ≤ q → A q) (isC isR : List Nat) (hC : isC.map (fun i => ws[i]?) = wc.map some) (hR : isR.map (fun i => ws[i]?) = (isR.filterMap (fun i => ws[i]?)).map some) (hnR : va_nd isR = true) (hdis : ∀ i ∈ isR, i ∉ isC)
    (kk : ∀ (u : S) (H1 : Heap) (locs1 : List Loc), post u → va_P D vwCl (isR.filterMap (fun i => ws[i]?) ++ w1 u) H1 → va_D A (isR.filterMap (fun i => ws[i]?) ++ w1 u) → va_K D vwCl (tys ++ t1 u) s → va_S A s.heap H1 locs1 → W p l e R s m args below meth c H1 locs1 (cells + mc) (slots + ms) Q (F0 m (pc + 3) ls rest)) :
    W p l e R s m args below meth c H locs cells slots Q (F0 m pc ls st0) := by
  have hFc := va_free (wc := wc) hD hS hA isC hC
  refine va_callv hr hS (fun q _ h => hFc q h) hFc (fun u t H1 locs1 ht hvm hw hB hz1 hk1 hS1 => ?_)
  obtain ⟨hP1, hK1, hD1⟩ := hB
  rw [ht] at hP1
  obtain ⟨hP2, hD2⟩ := va_join hP hD isC isR hC hR hnR hdis hk1 hFc hP1 hD1
  exact kk u H1 locs1 hw hP2 hD2 (hK.app (va_K.moved hvm.symm hK1)) hS1
theorem zA_r {S : Type} {post : S → Prop} {w1 : S → va_W} {t1 : S → List (ClassId × FieldType)} {ad : S → Nat} {a : Array Value} (hr : va_Run p l e R s m args below meth c H locs cells slots mc ms (F0 m pc ls st0) rest (va_Qr post (zBr D (va_A wc H.size) w1 t1 ad) (va_A wc H.size) a) (va_A wc H.size)) (hP : va_P D vwCl ws H) (hD : va_D A ws) (hK : va_K D vwCl tys s) (hS : va_S A s.heap H locs) (hA : ∀ q : Nat, s.heap.size ≤ q → A q) (isC isR : List Nat) (hC : isC.map (fun i => ws[i]?) = wc.map some) (hR : isR.map (fun i => ws[i]?) = (isR.filterMap (fun i => ws[i]?)).map some) (hnR : va_nd isR = true) (hdis : ∀ i ∈ isR, i ∉ isC)
    (kk : ∀ (u : S) (H1 : Heap) (locs1 : List Loc), post u → va_P D vwCl (isR.filterMap (fun i => ws[i]?) ++ w1 u) H1 → va_D A (isR.filterMap (fun i => ws[i]?) ++ w1 u) → va_K D vwCl (tys ++ t1 u) s → va_S A s.heap H1 locs1 → W p l e R s m args below meth c H1 locs1 (cells + mc) (slots + ms) Q (F0 m (pc + 3) ls (.ref (ad u) :: rest))) :
    W p l e R s m args below meth c H locs cells slots Q (F0 m pc ls st0) := by
  have hFc := va_free (wc := wc) hD hS hA isC hC
  refine va_callr hr hS (fun q _ h => hFc q h) hFc (fun u ra t H1 locs1 ht hvm hw hB hz1 hk1 hS1 => ?_)
  obtain ⟨hra, hP1, hK1, hD1⟩ := hB
  subst hra
  rw [ht] at hP1
  obtain ⟨hP2, hD2⟩ := va_join hP hD isC isR hC hR hnR hdis hk1 hFc hP1 hD1
  exact kk u H1 locs1 hw hP2 hD2 (hK.app (va_K.moved hvm.symm hK1)) hS1
end ZT
