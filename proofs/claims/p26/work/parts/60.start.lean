theorem dL_law_0 : decode cL_law 0 = .ok (.new 7, 3) := by decide +kernel
theorem dL_law_3 : decode cL_law 3 = .ok (.dup, 1) := by decide +kernel
theorem dL_law_4 : decode cL_law 4 = .ok (.invokespecial 9, 3) := by decide +kernel
theorem dL_law_7 : decode cL_law 7 = .ok (.astore_n 1, 1) := by decide +kernel
theorem dL_law_8 : decode cL_law 8 = .ok (.new 10, 3) := by decide +kernel
theorem dL_law_11 : decode cL_law 11 = .ok (.dup, 1) := by decide +kernel
theorem dL_law_12 : decode cL_law 12 = .ok (.invokespecial 12, 3) := by decide +kernel
theorem dL_law_15 : decode cL_law 15 = .ok (.astore_n 2, 1) := by decide +kernel
theorem dL_law_16 : decode cL_law 16 = .ok (.iconst 0, 1) := by decide +kernel
theorem dL_law_17 : decode cL_law 17 = .ok (.istore_n 3, 1) := by decide +kernel
section LWN
variable {p : Program} {l : Launch} {e : Env} {R : Room} {s : State} {m : MethodId} {args : Array Value} {below : List Frame} {meth : Method} {c : Code} {H : Heap} {locs : List Loc} {cells slots : Nat} {Q : State → Prop} {cc : ByteArray} {pc nL : Nat} {ls : Array Slot} {rest st0 : List Value} {E : zE} {own : String} {index ci mc ms : Nat}
theorem l_new (B : zB p s m args c E cc own nL) {N kn n : Nat} (hn : H.size = n) {bl : List Value} (hw : zNw own index ci N bl) (ho : zo kn = true) (hci : zci kn = ci) (hcells : cells + 1 ≤ R.cells) (hslots : slots + N ≤ R.slots) (hdg : decode cc pc = .ok (.new index, 3))
    (kk : ∀ H1 : Heap, H1.size = n + 1 → (∀ q : Nat, q < n → H1[q]? = H[q]?) → zTh E kn n H1 bl → W p l e R s m args below meth c H1 locs (cells + 1) (slots + N) Q (F0 m (pc + 3) ls (.ref n :: rest))) : W p l e R s m args below meth c H locs cells slots Q (F0 m pc ls rest) := by
  obtain ⟨hx, hb, -, hown, hts, hK⟩ := B
  obtain ⟨C, T, ty, hc, hin, hty, w1, w2, w3, hlen, hbl⟩ := hw
  have hKn := hK.1.1 ci _ hc
  refine W.newcK hx hb hown (hts _ w1) (hts _ w2) (hts _ w3) rfl hdg hcells hslots hKn.2.1 hn fun H1 kC hkC e1 z1 o1 => ?_
  obtain ⟨cell, q1, q2, q3, q4⟩ := u_born ty hts hin hKn hkC e1 hty
  refine kk H1 z1 o1 ⟨⟨cell, q1, ?_, q3, fun h => ?_⟩, fun j v hv => ?_⟩
  · rw [zcl_obj ho, hci]; exact q2
  · rw [ho] at h; cases h
  · have hj : j < N := by rw [← hlen]; exact (List.getElem?_eq_some_iff.mp hv).1
    have h2 := hbl j hj
    rw [hv] at h2
    cases h2
    rw [sl_of q1, zix_obj ho, hci]
    exact q4 j hj
theorem l_ini {P : Heap → Prop} {av : Array Value} {n : Nat} (hr : va_Run p l e R s m args below meth c H locs cells slots mc ms (F0 m pc ls st0) rest (zQ0 E mc H P av) (zfb E H.size)) (hlo : ∀ q : Nat, zfb E H.size q → n ≤ q) (hL0 : ∀ q ∈ locs, n ≤ q.base)
    (kk : ∀ (H1 : Heap) (locs1 : List Loc), H1.size = H.size + mc → HT E H1 → (∀ a : Nat, eK E a = 0 → H1[a]? = H[a]?) → P H1 → (∀ q ∈ locs1, n ≤ q.base) → W p l e R s m args below meth c H1 locs1 (cells + mc) (slots + ms) Q (F0 m (pc + 3) ls rest)) : W p l e R s m args below meth c H locs cells slots Q (F0 m pc ls st0) := by
  intro T hTT X
  obtain ⟨v, st₀, t, T', L, h0, X', hL, e1, e2, ⟨hv, hz, hT, ho, hp⟩, st⟩ := hr T hTT X
  cases hv
  rw [← e1] at hz ho hT hp
  obtain ⟨t2, a1, b1⟩ := kk T'.heap (locs ++ L) hz hT ho hp (fun q hq => (List.mem_append.mp hq).elim (hL0 q) (fun h => hlo _ (hL q h))) T' rfl X'
  exact ⟨t2, st t2 a1, b1⟩
end LWN
set_option maxHeartbeats 8000000 in
set_option maxRecDepth 100000 in
theorem whole_start {p : Program} {e : Env} {s : State} {m : MethodId} {below : List Frame} {meth : Method} {c : Code} (l : Launch) {b L : Nat} {xs : Nat → Int32} (hL : L ≤ 3072) (C0 : lw_At p s m meth c b L xs) : W p l e room_1 s m #[Value.ref b] below meth c s.heap [] 0 0 (lw_Z below #[Value.ref b] s) (entryFrame m ([Value.ref b] : List Value).toArray 4) := by
  obtain ⟨hx, hb, hr, hml, hown0, hts0, hX, hbl, hlocks, hgv⟩ := id C0
  have hts : ∀ w ∈ wsL_law, w.before #[Value.ref b] s = true := fun w h => hts0 w (wsL_law_in w h)
  have hN : zN s := zN_of hts0
  obtain ⟨n, hn⟩ : ∃ n, s.heap.size = n := ⟨_, rfl⟩
  obtain ⟨D, hKD⟩ := zD_of hts
  obtain ⟨f, hf⟩ := zArr_of hts hN
  obtain ⟨S, T, hST⟩ := zSt_of hts0 hgv
  have lA : zLA.length = 339 := zLA_len
  have lL : zLL.length = 376 := zLL_len
  have hap : ∀ q : Nat, q < n + 339 → zKf n zLL q = zKf n zLA q := fun q hq => zKf_app (by rw [lA]; exact hq)
  have hA1 : ∀ q : Nat, zKf n zLA q ≠ 0 → n ≤ q ∧ q < n + 339 := fun q hq => by have := zKf_lo hq; rw [lA] at this; exact this
  have hA2 : ∀ q : Nat, zKf n zLL q ≠ 0 → n ≤ q ∧ q < n + 376 := fun q hq => by have := zKf_lo hq; rw [lL] at this; exact this
  have h12 : ∀ q : Nat, zKf n zLA q ≠ 0 → zKf n zLL q = zKf n zLA q := fun q hq => hap q (hA1 q hq).2
  obtain ⟨A, hAd⟩ : ∃ A : Nat → ClassId, A = fun a => f ((zat (zKf n zLL a)).getD .int) := ⟨_, rfl⟩
  obtain ⟨E1, hE1⟩ : ∃ E1 : zE, E1 = (D, zKf n zLA, A, S, T, 0, 0) := ⟨_, rfl⟩
  obtain ⟨E2, hE2⟩ : ∃ E2 : zE, E2 = (D, zKf n zLL, A, S, T, 0, 0) := ⟨_, rfl⟩
  have k1 : eK E1 = zKf n zLA := by rw [hE1]; rfl
  have k2 : eK E2 = zKf n zLL := by rw [hE2]; rfl
  have a1 : eA E1 = A := by rw [hE1]; rfl
  have a2 : eA E2 = A := by rw [hE2]; rfl
  have d1 : eD E1 = D := by rw [hE1]; rfl
  have d2 : eD E2 = D := by rw [hE2]; rfl
  have x1 : eX E1 = 0 := by rw [hE1]; rfl
  have x2 : eX E2 = 0 := by rw [hE2]; rfl
  have m1 : eM E1 = 0 := by rw [hE1]; rfl
  have m2 : eM E2 = 0 := by rw [hE2]; rfl
  have fA2 : ∀ (a : Nat) (ty : FieldType), zat (zKf n zLL a) = some ty → s.vm.findClass ("[" ++ ty.toString) = some (A a) ∧ zTA s (A a) ty := by
    intro a ty h
    have h3 := hf ty (zat_ty h)
    rw [hAd]
    show s.vm.findClass ("[" ++ ty.toString) = some (f ((zat (zKf n zLL a)).getD .int)) ∧ zTA s (f ((zat (zKf n zLL a)).getD .int)) ty
    rw [h]
    exact h3
  have fA1 : ∀ (a : Nat) (ty : FieldType), zat (zKf n zLA a) = some ty → s.vm.findClass ("[" ++ ty.toString) = some (A a) ∧ zTA s (A a) ty := by
    intro a ty h
    refine fA2 a ty ?_
    rw [h12 a (fun h0 => by rw [h0] at h; cases h)]
    exact h
  have hK1 : zK E1 s := ⟨by rw [d1]; exact hKD, fun a ty h => by rw [a1]; rw [k1] at h; exact (fA1 a ty h).2, hN, hST E1 (by rw [hE1]; rfl) (by rw [hE1]; rfl) (fun a ha => Classical.byContradiction (fun h => by rw [k1] at h; have := hA1 a h; omega))⟩
  have hK2 : zK E2 s := ⟨by rw [d2]; exact hKD, fun a ty h => by rw [a2]; rw [k2] at h; exact (fA2 a ty h).2, hN, hST E2 (by rw [hE2]; rfl) (by rw [hE2]; rfl) (fun a ha => Classical.byContradiction (fun h => by rw [k2] at h; have := hA2 a h; omega))⟩
  have hr1 : zAr E1 s := fun a ty h => by rw [a1]; rw [k1] at h; exact (fA1 a ty h).1
  have hr2 : zAr E2 s := fun a ty h => by rw [a2]; rw [k2] at h; exact (fA2 a ty h).1
  have hV1 : zV E1 := zV_of hts hK1.1
  have hV2 : zV E2 := zV_of hts hK2.1
  have B1 : zB p s m #[Value.ref b] c E1 cL_law RL 4 := ⟨hx, hb, hml, hown0, hts, hK1⟩
  have B2 : zB p s m #[Value.ref b] c E2 cL_law RL 4 := ⟨hx, hb, hml, hown0, hts, hK2⟩
  have ko : eK E1 n = 12 := by rw [k1]; exact zKf_at (i := 0) rfl
  have ko2 : eK E2 n = 12 := by rw [k2, hap n (by omega)]; exact zKf_at (i := 0) rfl
  have km : eK E2 (n + 339) = 13 := by rw [k2]; exact zKf_at zLL_m
  have z1 : ∀ q : Nat, eK E1 q ≠ 0 → n ≤ q ∧ q < n + 339 := fun q hq => hA1 q (by rw [← k1]; exact hq)
  have z2 : ∀ q : Nat, eK E2 q ≠ 0 → n ≤ q ∧ q < n + 376 := fun q hq => hA2 q (by rw [← k2]; exact hq)
  have z12 : ∀ q : Nat, eK E1 q ≠ 0 → eK E2 q = eK E1 q := fun q hq => by rw [k1] at hq ⊢; rw [k2]; exact h12 q hq
  have z21 : ∀ q : Nat, q < n + 339 → eK E2 q = eK E1 q := fun q hq => by rw [k1, k2]; exact hap q hq
  have hl := lv_entry ([.ref b]) (n := 4) (Nat.le_of_ble_eq_true rfl)
  rw [lg_entry_eq]
  generalize (lg_sl ([.ref b]) ++ List.replicate (4 - (lg_sl ([.ref b])).length) Slot.unset).toArray = ls at hl ⊢
  have hl : lv_has ls 4 [(0, .ref b)] := hl
  refine l_new (kn := 12) (n := n) B1 hn nw_RL_7 rfl rfl (Nat.le_of_ble_eq_true rfl) (Nat.le_of_ble_eq_true rfl) dL_law_0 (fun H1 s1 o1 hT1 => ?_)
  have hO1 : zO E1 s H1 := by
    intro a ha
    by_cases h : a < n
    · exact o1 a h
    · have hne : a ≠ n := fun q => by rw [q, ko] at ha; cases ha
      rw [Array.getElem?_eq_none (by omega), Array.getElem?_eq_none (by omega)]
  refine lv_dup hx hb dL_law_3 rfl ?_
  refine l_ini (n := n) (zrI (rest := [.ref n]) B1 hr1 (m_X11_init l E1 hV1 H1 n ko (by omega) hT1 x1 (fun q hq hne h => by have := z1 q h; omega) (fun q hq => Classical.byContradiction (fun h => by have := z1 q h; omega)) (by rw [s1]; exact zKi_of k1 1 zLX11 zLA_d)) ci_RL_9 rfl hl.1 rfl (Nat.le_of_ble_eq_true rfl) dL_law_4 rfl rfl ⟨rfl, rfl⟩ ⟨Nat.le_of_ble_eq_true rfl, Nat.le_of_ble_eq_true rfl⟩ hO1) (fun q hq => hq.elim (fun h => (z1 q h).1) (fun h => by omega)) (fun _ h => by cases h) (fun H2 lc2 s2 hT2 o2 _ hL2 => ?_)
  refine lv_astore_n (lv' := [(1, .ref n), (0, .ref b)]) hx hb dL_law_7 rfl hl (by decide) rfl (fun ls hl => ?_)
  have s2' : H2.size = n + 339 := by omega
  refine l_new (kn := 13) (n := n + 339) B2 s2' nw_RL_10 rfl rfl (Nat.le_of_ble_eq_true rfl) (Nat.le_of_ble_eq_true rfl) dL_law_8 (fun H3 s3 o3 hT3 => ?_)
  have hO3 : zO E2 s H3 := by
    intro a ha
    by_cases h : a < n + 339
    · rw [o3 a h, o2 a (by rw [← z21 a h]; exact ha)]
      exact hO1 a (by rw [← z21 a h]; exact ha)
    · have hne : a ≠ n + 339 := fun q => by rw [q, km] at ha; cases ha
      rw [Array.getElem?_eq_none (by omega), Array.getElem?_eq_none (by omega)]
  refine lv_dup hx hb dL_law_11 rfl ?_
  refine l_ini (n := n) (zrI (rest := [.ref (n + 339)]) B2 hr2 (m_X12_init l E2 hV2 H3 (n + 339) km (by omega) hT3 m2 (fun q hq hne h => by
      have hq2 : q < n + 339 := by omega
      have h1 : eK E1 q ≠ 0 := by rw [← z21 q hq2]; exact h
      exact (HTq.mono (d2.trans d1.symm) (a2.trans a1.symm) (x2.trans x1.symm) (m2.trans m1.symm) z12 h1 (hT2.toq h1)).kept (o3 q hq2)) (fun q hq => Classical.byContradiction (fun h => by have := z2 q h; omega)) (by rw [s3]; exact zKi_of k2 340 zLX12 zLL_d)) ci_RL_12 rfl hl.1 rfl (Nat.le_of_ble_eq_true rfl) dL_law_12 rfl rfl ⟨rfl, rfl⟩ ⟨Nat.le_of_ble_eq_true rfl, Nat.le_of_ble_eq_true rfl⟩ hO3) (fun q hq => hq.elim (fun h => (z2 q h).1) (fun h => by omega)) hL2 (fun H4 lc4 s4 hT4 o4 hp4 hL4 => ?_)
  refine lv_astore_n (lv' := [(2, .ref (n + 339)), (1, .ref n), (0, .ref b)]) hx hb dL_law_15 rfl hl (by decide) rfl (fun ls hl => ?_)
  refine lv_iconst (v := 0) hx hb dL_law_16 (by decide) ?_
  refine lv_istore_n (lv' := [(3, .int (nI 0)), (2, .ref (n + 339)), (1, .ref n), (0, .ref b)]) hx hb dL_law_17 rfl hl (by decide) rfl (fun ls hl => ?_)
  refine W.widen (k := 376) (n := 58132) (Nat.le_of_ble_eq_true rfl) (Nat.le_of_ble_eq_true rfl) ?_
  obtain ⟨⟨n1, sn1, n10, n11⟩, ⟨u1, su1, u10, u11⟩⟩ := hp4
  refine law_loop l hL C0 (ox := n) (om := n + 339) L 0 (by omega) (by omega) E2 H4 lc4 ls ⟨hV2, hK2, ko2, km, fun q hq => by rw [hn]; exact (z2 q hq).1, ?_, ?_⟩ ⟨hT4, fun a ha => (o4 a ha).trans (hO3 a ha), by omega, fun q hq => by rw [hn]; exact hL4 q hq⟩ ⟨n1, sn1, u1, su1, by omega⟩ ⟨x2.trans m2.symm, by rw [x2]; decide, by rw [x2]; decide⟩ hl
  · rw [k2]; exact zKf_one (by decide) (fun i hi => zLL_8 i (by rw [← lL]; exact hi))
  · rw [k2]; exact zKf_one (by decide) (fun i hi => zLL_13 i (by rw [← lL]; exact hi))
