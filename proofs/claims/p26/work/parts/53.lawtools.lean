/-! THE CLAIM OUT OF ONE WALK OF THE LAW'S BODY. Your part is whole_start (and what it stands on); all else here is the same for every law, but numbers. -/
def R_law : String := "StraitGameLaw"
def lw_P (b : Addr) (xs : List Int32) (args : Array Value) (s : State) : Prop := args = #[.ref b] ∧ s.IntsAt b xs ∧ xs.length ≤ 3072 ∧ (Jvm.Cond.and given_1 narrow_1).before args s = true
def lw_Q (_ : Array Value) (s : State) (o : Outcome) (t : State) : Prop := o = .returned (some (.int 1)) ∧ Framed s o t [] 600000 7302250
def lw_Z (below : List Frame) (a : Array Value) (s : State) : State → Prop := fun t => ∃ o, t.status = .running ∧ Ended t below o ∧ lw_Q a s o t
/-- the law's own end, with 1 on the stack, nothing written that was there before, its room as the claim has it -/
theorem lw_ret {p : Program} {l : Launch} {e : Env} {s : State} {m : MethodId} {below : List Frame} {meth : Method} {c : Code} {b : Nat} (hx : p.tables.exec = Jvm.exec) (hb : c.code = code) (hr : meth.sig.returnType = ret) (hlocks : meth.locks = false) {pc : Nat} {H : Heap} {ls : Array Slot} (hdg : decode code pc = .ok (.ireturn, 1)) : W p l e room_1 s m #[Value.ref b] below meth c H [] 600000 7302250 (lw_Z below #[Value.ref b] s) (F0 m pc ls [.int 1]) := by
  intro T hT X
  obtain ⟨fs, hret, hrun, hended, hW, hframe⟩ := X.leave (v := some (.int 1)) (hlocks := hlocks) (fun h => by rw [hr] at h; cases h)
  have hmeth' : T.vm.method? m = some meth := X.method'
  refine ⟨T.setFrames fs, ?_, .returned (some (.int 1)), hrun, hended, rfl, ⟨_, rfl⟩, hW, hframe⟩
  jvm_step X.here [X.here.top, hx, hb, hdg, hmeth', hr, ret, narrow_b1]
  (try refine ⟨rfl, ?_⟩); (try refine ⟨rfl, ?_⟩)
  first | (intro acts; rw [hret _ acts rfl rfl rfl]) | rw [hret _ _ rfl rfl rfl]
  exact Steps.refl _
/-- what holds at the law's entry: the machine, the code, the tables' words (any of lw_tbl by 'hts w (by decide +kernel)'), the script of L ints xs at the cell b, what the Statement gives of the start (any of its parts by flat_of_before) -/
def lw_At (p : Program) (s : State) (m : MethodId) (meth : Method) (c : Code) (b L : Nat) (xs : Nat → Int32) : Prop :=
  p.tables.exec = Jvm.exec ∧ c.code = code ∧ meth.sig.returnType = ret ∧ c.maxLocals = 4 ∧ s.vm.findClass R_law = some m.cls ∧ (∀ w ∈ lw_tbl, w.before #[Value.ref b] s = true) ∧ va_X b L xs s s.heap ∧ b < s.heap.size ∧ meth.locks = false ∧ (Jvm.Cond.and given_1 narrow_1).before #[Value.ref b] s = true

/-! what holds between the law's calls -/
def lwE (E : zE) (ox om : Nat) (s : State) : Prop := zV E ∧ zK E s ∧ eK E ox = 12 ∧ eK E om = 13 ∧ (∀ q : Nat, eK E q ≠ 0 → s.heap.size ≤ q) ∧ (∀ a b : Nat, eK E a = 8 → eK E b = 8 → a = b) ∧ (∀ a b : Nat, eK E a = 13 → eK E b = 13 → a = b)
def lwJ (E : zE) (s : State) (H : Heap) (locs : List Loc) : Prop := HT E H ∧ zO E s H ∧ s.heap.size ≤ H.size ∧ ∀ q ∈ locs, s.heap.size ≤ q.base
def lwN (E : zE) (om : Nat) (H : Heap) : Prop := ∃ n0 : Int32, sl H om (zix E 13 37) = some (.int n0) ∧ ∃ u0 : Int32, sl H om (zix E 13 38) = some (.int u0) ∧ n0.toInt + u0.toInt ≤ 60
def lwT (E : zE) : Prop := eX E = eM E ∧ 0 ≤ eX E ∧ eX E ≤ 100000
theorem lwJ.S {E : zE} {ox om : Nat} {s : State} {H : Heap} {locs : List Loc} (hJ : lwJ E s H locs) (hE : lwE E ox om s) : va_S (fun q : Nat => s.heap.size ≤ q) s.heap H locs :=
  ⟨hJ.2.2.1, fun q hq _ => hJ.2.1 q (Classical.byContradiction (fun h => absurd (hE.2.2.2.2.1 q h) (by omega))), hJ.2.2.2⟩
theorem lwN.keep {E : zE} {ox om : Nat} {s : State} {H H1 : Heap} {W1 : List (Nat × Nat)} (hN : lwN E om H) (hE : lwE E ox om s) (hf : zFr E W1 H H1) (h1 : W1.all (zok 13 37) = true) (h2 : W1.all (zok 13 38) = true) : lwN E om H1 := by
  obtain ⟨n0, s1, u0, s2, h3⟩ := hN
  exact ⟨n0, hf.keep hE.1 hE.2.2.2.1 h1 s1, u0, hf.keep hE.1 hE.2.2.2.1 h2 s2, h3⟩
theorem lw_in {i L : Nat} {k : Int32} (h : i + 6 ≤ L) (hL : L ≤ 3072) (h0 : 0 ≤ k.toInt) (h5 : k.toInt ≤ 5) : vp_in (nI i + k) L := by
  have e1 : (nI i).toInt = (i : Int) := nI_toInt (by omega)
  have e2 := z_add (v := nI i + k) rfl e1 rfl (by omega) (by omega)
  exact z_vin (by omega) (by omega)
section LWK
variable {p : Program} {l : Launch} {e : Env} {R : Room} {s : State} {m : MethodId} {args : Array Value} {below : List Frame} {meth : Method} {c : Code} {H : Heap} {locs : List Loc} {cells slots : Nat} {Q : State → Prop} {pc : Nat} {ls : Array Slot} {rest st0 : List Value} {E : zE} {W1 : List (Nat × Nat)} {ox om : Nat}
theorem lk_I {P : Int32 → Heap → Prop} {av : Array Value} (hr : va_Run p l e R s m args below meth c H locs cells slots 0 0 (F0 m pc ls st0) rest (zQI E E W1 P av) (zfr E)) (hE : lwE E ox om s) (hJ : lwJ E s H locs) (kk : ∀ (r : Int32) (H1 : Heap) (locs1 : List Loc), P r H1 → zFr E W1 H H1 → lwJ E s H1 locs1 → W p l e R s m args below meth c H1 locs1 cells slots Q (F0 m (pc + 3) ls (.int r :: rest))) : W p l e R s m args below meth c H locs cells slots Q (F0 m pc ls st0) := by
  intro T hT X
  obtain ⟨v, st₀, t, T', L, h0, X', hL, e1, e2, ⟨⟨r, hv, hp⟩, hh, hf⟩, st⟩ := hr T hT X
  cases hv
  rw [h0, ← e1] at hf
  rw [← e1] at hp hh
  obtain ⟨t2, a1, b1⟩ := kk r T'.heap (locs ++ L) hp hf ⟨hh, fun a ha => (hf.2.1 a ha).trans (hJ.2.1 a ha), by rw [hf.1]; exact hJ.2.2.1, fun q hq => (List.mem_append.mp hq).elim (hJ.2.2.2 q) (fun h => hE.2.2.2.2.1 _ (hL q h))⟩ T' rfl X'
  exact ⟨t2, st t2 a1, b1⟩
theorem lk_L {f : zE → Int → zE} {b : Int32} {tt : Int} {av : Array Value} (hr : va_Run p l e R s m args below meth c H locs cells slots 0 0 (F0 m pc ls st0) rest (zQL f E W1 tt b av) (zfr E)) (hk : ∀ t : Int, eK (f E t) = eK E) (hE : lwE E ox om s) (hJ : lwJ E s H locs) (kk : ∀ (r : Int32) (H1 : Heap) (locs1 : List Loc), r.toInt = zLv tt b.toInt → zFr E W1 H H1 → lwJ (f E (zLt tt b.toInt)) s H1 locs1 → W p l e R s m args below meth c H1 locs1 cells slots Q (F0 m (pc + 3) ls (.int r :: rest))) : W p l e R s m args below meth c H locs cells slots Q (F0 m pc ls st0) := by
  intro T hT X
  obtain ⟨v, st₀, t, T', L, h0, X', hL, e1, e2, ⟨r, hv, hp, hh, hf⟩, st⟩ := hr T hT X
  cases hv
  rw [h0, ← e1] at hf
  rw [← e1] at hh
  obtain ⟨t2, a1, b1⟩ := kk r T'.heap (locs ++ L) hp hf ⟨hh, fun a ha => (hf.2.1 a (by rw [← hk]; exact ha)).trans (hJ.2.1 a (by rw [← hk]; exact ha)), by rw [hf.1]; exact hJ.2.2.1, fun q hq => (List.mem_append.mp hq).elim (hJ.2.2.2 q) (fun h => hE.2.2.2.2.1 _ (hL q h))⟩ T' rfl X'
  exact ⟨t2, st t2 a1, b1⟩
end LWK
theorem zLt_b {t b : Int} (h0 : 0 ≤ t) (h1 : t ≤ 100000) : 0 ≤ zLt t b ∧ zLt t b ≤ 100000 := by
  unfold zLt
  split <;> omega
