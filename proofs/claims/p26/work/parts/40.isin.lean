def rm_X12_isIn_s : Room := { frames := 0, cells := 0, slots := 0, locals := 0 }
set_option maxRecDepth 100000 in
set_option maxHeartbeats 4000000 in
theorem c_X12_isIn_s (l : Launch) (E : zE) (hV : zV E) (H0 : Heap) (hT0 : HT E H0) (p0 : Int32) (p1 : Int32) (p2 : Int32) : Met l yX12_isIn (zws yX12_isIn cX12_isIn 3 (some .boolean)) rm_X12_isIn_s (zP E H0 [.int p0, .int p1, .int p2]) (zPI (fun r => 0 ≤ r.toInt ∧ r.toInt ≤ 1 ∧ ((r.toInt = 1 ∧ p1.toInt ≤ p0.toInt ∧ p0.toInt ≤ p2.toInt) ∨ (r.toInt = 0 ∧ (p0.toInt < p1.toInt ∨ p2.toInt < p0.toInt))))) 0 0 (fun _ => False) := by
  refine zEnt (by decide) (Nat.le_of_ble_eq_true rfl) (fun p e s m args below meth c ls Q B hr hlk hh hQ hl => ?_)
  have hx := B.1
  have hb := B.2.1
  have hl : lv_has ls 3 [(0, .int p0), (1, .int p1), (2, .int p2)] := hl
  refine lv_iload_n hx hb dX12_isIn_0 rfl (lv_at hl 0 rfl) ?_
  refine lv_iload_n hx hb dX12_isIn_1 rfl (lv_at hl 1 rfl) ?_
  refine lv_icmp_lt (tgt := 14) hx hb dX12_isIn_2 (by decide) (fun c_1 => ?_) (fun c_1 => ?_)
  · have f_1 := z_lt c_1 rfl rfl
    refine lv_iconst (v := 0) hx hb dX12_isIn_14 (by decide) ?_
    have := kl_0
    have := kl_0
    exact rtPI (v := 0) B hr hlk hh hQ rfl ⟨by omega, by omega, by omega⟩ dX12_isIn_15
  · have f_1 := z_nlt c_1 rfl rfl
    refine lv_iload_n hx hb dX12_isIn_5 rfl (lv_at hl 0 rfl) ?_
    refine lv_iload_n hx hb dX12_isIn_6 rfl (lv_at hl 2 rfl) ?_
    refine lv_icmp_gt (tgt := 14) hx hb dX12_isIn_7 (by decide) (fun c_2 => ?_) (fun c_2 => ?_)
    · have f_2 := z_lt c_2 rfl rfl
      refine lv_iconst (v := 0) hx hb dX12_isIn_14 (by decide) ?_
      have := kl_0
      have := kl_0
      exact rtPI (v := 0) B hr hlk hh hQ rfl ⟨by omega, by omega, by omega⟩ dX12_isIn_15
    · have f_2 := z_nlt c_2 rfl rfl
      refine lv_iconst (v := 1) hx hb dX12_isIn_10 (by decide) ?_
      refine lv_goto (tgt := 15) hx hb dX12_isIn_11 (by decide) ?_
      have := kl_1
      have := kl_1
      exact rtPI (v := 1) B hr hlk hh hQ rfl ⟨by omega, by omega, by omega⟩ dX12_isIn_15
