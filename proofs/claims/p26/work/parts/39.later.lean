def setX (E : zE) (t : Int) : zE := (E.1, E.2.1, E.2.2.1, E.2.2.2.1, E.2.2.2.2.1, t, E.2.2.2.2.2.2)
def setM (E : zE) (t : Int) : zE := (E.1, E.2.1, E.2.2.1, E.2.2.2.1, E.2.2.2.2.1, E.2.2.2.2.2.1, t)
def zLt (t b : Int) : Int := if 0 ≤ b ∧ b ≤ 1000 ∧ t + b ≤ 100000 then t + b else t
def zLv (t b : Int) : Int := if 0 ≤ b ∧ b ≤ 1000 ∧ t + b ≤ 100000 then t + b else -1
def zQL (f : zE → Int → zE) (E : zE) (WS : List (Nat × Nat)) (t : Int) (b : Int32) : Array Value → State → Outcome → State → Prop := fun _ st oc u => ∃ r : Int32, oc = .returned (some (.int r)) ∧ r.toInt = zLv t b.toInt ∧ HT (f E (zLt t b.toInt)) u.heap ∧ zFr E WS st.heap u.heap
theorem zty_nX (tx ty tm : Int) : ∀ k : Nat, k ≠ 8 → ∀ j : Nat, zty ty tm k j = zty tx tm k j := by
  intro k hk j
  unfold zty
  split <;> first | rfl | exact absurd rfl hk
theorem zty_8 (tx ty tm : Int) (j : Nat) (h : j ≠ 1) : zty ty tm 8 j = zty tx tm 8 j := by
  show zty8 ty tm j = zty8 tx tm j
  unfold zty8
  split <;> first | rfl | exact absurd rfl h
theorem zty_nM (tx tm tn : Int) : ∀ k : Nat, k ≠ 13 → ∀ j : Nat, zty tx tn k j = zty tx tm k j := by
  intro k hk j
  unfold zty
  split <;> first | rfl | exact absurd rfl hk
theorem zty_13 (tx tm tn : Int) (j : Nat) (h : j ≠ 48) : zty tx tn 13 j = zty tx tm 13 j := by
  show zty13 tx tn j = zty13 tx tm j
  unfold zty13
  split <;> first | rfl | exact absurd rfl h
theorem HT.upT {E E1 : zE} {H H1 : Heap} (e1 : eD E1 = eD E) (e2 : eK E1 = eK E) (e3 : eA E1 = eA E) {a kk jj : Nat} (hty : ∀ k j : Nat, (k ≠ kk ∨ j ≠ jj) → zty (eX E1) (eM E1) k j = zty (eX E) (eM E) k j) (hT : HT E H) (hV : zV E) (hk : eK E a = kk) (ho : zo kk = true) (hu : ∀ b, eK E b = kk → b = a) (hj : jj < zn kk) {v : Value} (hd : dn (eK E) (zty (eX E1) (eM E1) kk jj) v) (hU : Up H H1 a (zix E kk jj) v) {cell : Cell} (hc : H[a]? = some cell) (h1 : H1[a]? = some (cell.setSlot (zix E kk jj) v)) : HT E1 H1 := by
  have z1 : ∀ k j, zix E1 k j = zix E k j := fun k j => by unfold zix; rw [e1]
  have z2 : ∀ k x, zcl E1 k x = zcl E k x := fun k x => by unfold zcl; rw [e1, e3]
  intro b hb
  rw [e2] at hb ⊢
  obtain ⟨⟨cl, q1, q2, q3, q4⟩, hf⟩ := hT b hb
  by_cases hba : b = a
  · subst hba
    cases hc.symm.trans q1
    refine ⟨⟨_, h1, by rw [z2]; exact q2, q3, fun h => by rw [hk, ho] at h; cases h⟩, fun i hi => ?_⟩
    rw [z1]
    by_cases hij : i = jj
    · subst hij
      rw [hk]
      exact ⟨v, hU.2.1, hd⟩
    · obtain ⟨w, w1, w2⟩ := hf i hi
      refine ⟨w, ?_, by rw [hty _ i (Or.inr hij)]; exact w2⟩
      rw [hU.2.2.1 b _ (Or.inr ?_)]
      · exact w1
      · rw [hk] at hi ⊢
        exact hV kk i jj ho hi hj hij
  · have hkb : eK E b ≠ kk := fun h => hba (hu b h)
    refine ⟨⟨cl, by rw [hU.2.2.2 b hba]; exact q1, by rw [z2]; exact q2, q3, q4⟩, fun i hi => ?_⟩
    obtain ⟨w, w1, w2⟩ := hf i hi
    exact ⟨w, by rw [z1, hU.2.2.1 b _ (Or.inl hba)]; exact w1, by rw [hty _ _ (Or.inl hkb)]; exact w2⟩
theorem dX11_later_0 : decode cX11_later 0 = .ok (.iload_n 1, 1) := by decide +kernel
theorem dX11_later_1 : decode cX11_later 1 = .ok (.ifCond .lt 24, 3) := by decide +kernel
theorem dX11_later_4 : decode cX11_later 4 = .ok (.iload_n 1, 1) := by decide +kernel
theorem dX11_later_5 : decode cX11_later 5 = .ok (.sipush 1000, 3) := by decide +kernel
theorem dX11_later_8 : decode cX11_later 8 = .ok (.if_icmp .gt 17, 3) := by decide +kernel
theorem dX11_later_11 : decode cX11_later 11 = .ok (.aload_n 0, 1) := by decide +kernel
theorem dX11_later_12 : decode cX11_later 12 = .ok (.getfield 78, 3) := by decide +kernel
theorem dX11_later_15 : decode cX11_later 15 = .ok (.getfield 226, 3) := by decide +kernel
theorem dX11_later_18 : decode cX11_later 18 = .ok (.iload_n 1, 1) := by decide +kernel
theorem dX11_later_19 : decode cX11_later 19 = .ok (.iadd, 1) := by decide +kernel
theorem dX11_later_20 : decode cX11_later 20 = .ok (.ldc 229, 2) := by decide +kernel
theorem dX11_later_22 : decode cX11_later 22 = .ok (.if_icmp .le 5, 3) := by decide +kernel
theorem dX11_later_25 : decode cX11_later 25 = .ok (.iconst (-1), 1) := by decide +kernel
theorem dX11_later_26 : decode cX11_later 26 = .ok (.ireturn, 1) := by decide +kernel
theorem dX11_later_27 : decode cX11_later 27 = .ok (.aload_n 0, 1) := by decide +kernel
theorem dX11_later_28 : decode cX11_later 28 = .ok (.getfield 78, 3) := by decide +kernel
theorem dX11_later_31 : decode cX11_later 31 = .ok (.dup, 1) := by decide +kernel
theorem dX11_later_32 : decode cX11_later 32 = .ok (.getfield 226, 3) := by decide +kernel
theorem dX11_later_35 : decode cX11_later 35 = .ok (.iload_n 1, 1) := by decide +kernel
theorem dX11_later_36 : decode cX11_later 36 = .ok (.iadd, 1) := by decide +kernel
theorem dX11_later_37 : decode cX11_later 37 = .ok (.putfield 226, 3) := by decide +kernel
theorem dX11_later_40 : decode cX11_later 40 = .ok (.aload_n 0, 1) := by decide +kernel
theorem dX11_later_41 : decode cX11_later 41 = .ok (.getfield 78, 3) := by decide +kernel
theorem dX11_later_44 : decode cX11_later 44 = .ok (.getfield 226, 3) := by decide +kernel
theorem dX11_later_47 : decode cX11_later 47 = .ok (.ireturn, 1) := by decide +kernel
def rm_X11_later : Room := { frames := 0, cells := 0, slots := 0, locals := 0 }
set_option maxRecDepth 100000 in
set_option maxHeartbeats 4000000 in
theorem c_X11_later (l : Launch) (E : zE) (hV : zV E) (H0 : Heap) (hT0 : HT E H0) (h0 : Nat) (kh0 : eK E h0 = 12) (p0 : Int32) (hu : ∀ a b : Nat, eK E a = 8 → eK E b = 8 → a = b) (t0 : 0 ≤ eX E) (t1 : eX E ≤ 100000) : Met l yX11_later (zws yX11_later cX11_later 2 (some .int)) rm_X11_later (zP E H0 [.ref h0, .int p0]) (zQL setX E [(8, 1)] (eX E) p0) 0 0 (zfr E) := by
  refine zEnt (by decide) (Nat.le_of_ble_eq_true rfl) (fun p e s m args below meth c ls Q B hr hlk hh hQ hl => ?_)
  have hx := B.1
  have hb := B.2.1
  subst hQ
  have hl : lv_has ls 2 [(0, .ref h0), (1, .int p0)] := hl
  have no : ¬ (0 ≤ p0.toInt ∧ p0.toInt ≤ 1000 ∧ eX E + p0.toInt ≤ 100000) → W p l e rm_X11_later s m args below meth c H0 [] 0 0 (MQ below (zQL setX E [(8, 1)] (eX E) p0) args s 0 0 (zfr E)) (F0 m 25 ls []) := by
    intro hn
    refine lv_iconst (v := (-1)) hx hb dX11_later_25 (by decide) ?_
    exact W.iret hx hb hr (fun t ht hW => ⟨-1, rfl, by unfold zLv; rw [if_neg hn]; decide, by unfold zLt; rw [if_neg hn, ht]; exact hT0, by rw [ht, hh]; exact zFr.rf⟩) (fun _ h => by cases h) dX11_later_26 hlk
  refine lv_iload_n hx hb dX11_later_0 rfl (lv_at hl 1 rfl) ?_
  refine lv_if_lt (tgt := 25) hx hb dX11_later_1 (by decide) (fun c_1 => ?_) (fun c_1 => ?_)
  · have f_1 := z_lt c_1 rfl kl_0
    exact no (by omega)
  · have f_1 := z_nlt c_1 rfl kl_0
    refine lv_iload_n hx hb dX11_later_4 rfl (lv_at hl 1 rfl) ?_
    refine lv_sipush (v := 1000) hx hb dX11_later_5 (by decide) ?_
    refine lv_icmp_gt (tgt := 25) hx hb dX11_later_8 (by decide) (fun c_2 => ?_) (fun c_2 => ?_)
    · have f_2 := z_lt c_2 kl_1000 rfl
      exact no (by omega)
    · have f_2 := z_nlt c_2 kl_1000 rfl
      refine lv_aload_n hx hb dX11_later_11 rfl (lv_at hl 0 rfl) ?_
      refine g_getR B fl_RX11_78 hT0 kh0 rfl rfl rfl rfl rfl dX11_later_12 (fun q_3 s_3 k_q_3 => ?_)
      refine g_getI B fl_RX11_226 hT0 k_q_3 rfl rfl rfl rfl rfl dX11_later_15 (fun x_4 s_4 a_4 b_4 => ?_)
      refine lv_iload_n hx hb dX11_later_18 rfl (lv_at hl 1 rfl) ?_
      refine lv_iadd hx hb dX11_later_19 ?_
      refine lv_topi (fun x_5 e_5 => ?_)
      have t_5 := z_add e_5 rfl rfl (by omega) (by omega)
      refine lv_ldc hx hb B.2.2.2.1 (B.2.2.2.2.1 _ (mc_wsL_law_r49 _ (List.mem_of_getElem? (i := 5) rfl))) dX11_later_20 ?_
      refine lv_icmp_le (tgt := 27) hx hb dX11_later_22 (by decide) (fun c_6 => ?_) (fun c_6 => ?_)
      · have f_6 := z_le c_6 rfl kl_100000
        have hyes : 0 ≤ p0.toInt ∧ p0.toInt ≤ 1000 ∧ eX E + p0.toInt ≤ 100000 := ⟨by omega, by omega, by omega⟩
        refine lv_aload_n hx hb dX11_later_27 rfl (lv_at hl 0 rfl) ?_
        refine g_get B fl_RX11_78 hT0 kh0 rfl rfl rfl dX11_later_28 s_3 ?_
        refine lv_dup hx hb dX11_later_31 rfl ?_
        refine g_get B fl_RX11_226 hT0 k_q_3 rfl rfl rfl dX11_later_32 s_4 ?_
        refine lv_iload_n hx hb dX11_later_35 rfl (lv_at hl 1 rfl) ?_
        refine lv_iadd hx hb dX11_later_36 ?_
        refine lv_topi (fun x_7 e_7 => ?_)
        have t_7 := z_add e_7 rfl rfl (by omega) (by omega)
        refine g_putC B fp_RX11_226 hT0 k_q_3 rfl rfl rfl rfl rfl rfl dX11_later_37 (fun H1 cell hc h1 hU => ?_)
        have hF : zFr E [(8, 1)] H0 H1 := zFr.up k_q_3 rfl hU rfl
        have hlt : zLt (eX E) p0.toInt = x_7.toInt := by unfold zLt; rw [if_pos hyes]; omega
        have hT1 : HT (setX E (zLt (eX E) p0.toInt)) H1 := HT.upT (E := E) (E1 := setX E (zLt (eX E) p0.toInt)) rfl rfl rfl (kk := 8) (jj := 1) (fun k j hkj => by
          by_cases hk8 : k = 8
          · subst hk8
            exact zty_8 _ _ _ j (hkj.resolve_left (fun h => h rfl))
          · exact zty_nX _ _ _ k hk8 j) hT0 hV k_q_3 rfl (fun b hb8 => hu b q_3 hb8 k_q_3) (by decide) ⟨x_7, rfl, by show zLt (eX E) p0.toInt ≤ _; omega, by show _ ≤ zLt (eX E) p0.toInt; omega⟩ hU hc h1
        have B1 : zB p s m args c (setX E (zLt (eX E) p0.toInt)) cX11_later yX11_later.cls 2 := B
        have s_8 : sl H1 h0 (zix E 12 10) = some (.ref q_3) := hU.keep (Or.inl (k_ne kh0 k_q_3 rfl)) s_3
        refine lv_aload_n hx hb dX11_later_40 rfl (lv_at hl 0 rfl) ?_
        refine g_get B1 fl_RX11_78 hT1 kh0 rfl rfl rfl dX11_later_41 s_8 ?_
        refine g_get B1 fl_RX11_226 hT1 k_q_3 rfl rfl rfl dX11_later_44 hU.2.1 ?_
        exact W.iret hx hb hr (fun t ht hW => ⟨x_7, rfl, by unfold zLv; rw [if_pos hyes]; omega, by rw [ht]; exact hT1, by rw [ht, hh]; exact hF⟩) (fun q hq => by
          rw [List.mem_singleton.mp hq]
          show eK E q_3 ≠ 0
          omega) dX11_later_47 hlk
      · have f_6 := z_nle c_6 rfl kl_100000
        exact no (by omega)
