def rm_X12_room_s : Room := { frames := 0, cells := 0, slots := 0, locals := 0 }
set_option maxRecDepth 100000 in
set_option maxHeartbeats 4000000 in
theorem c_X12_room_s (l : Launch) (E : zE) (hV : zV E) (H0 : Heap) (hT0 : HT E H0) (p0 : Int32) (p0_lo : 1 ≤ p0.toInt) (p0_hi : p0.toInt ≤ 11) : Met l yX12_room (zws yX12_room cX12_room 1 (some .int)) rm_X12_room_s (zP E H0 [.int p0]) (zPI (fun r => 1 ≤ r.toInt ∧ r.toInt ≤ 1024 ∧ (r.toInt = ((zrm p0.toInt.toNat : Nat) : Int)))) 0 0 (fun _ => False) := by
  refine zEnt (by decide) (Nat.le_of_ble_eq_true rfl) (fun p e s m args below meth c ls Q B hr hlk hh hQ hl => ?_)
  have hx := B.1
  have hb := B.2.1
  have hl : lv_has ls 1 [(0, .int p0)] := hl
  refine lv_iconst (v := 1) hx hb dX12_room_0 (by decide) ?_
  refine lv_bipush (v := 11) hx hb dX12_room_1 (by decide) ?_
  refine lv_iload_n hx hb dX12_room_3 rfl (lv_at hl 0 rfl) ?_
  refine lv_isub hx hb dX12_room_4 ?_
  refine lv_topi (fun x_1 e_1 => ?_)
  have t_1 := z_sub e_1 kl_11 rfl (by omega) (by omega)
  refine lv_ishl hx hb dX12_room_5 ?_
  refine lv_topi (fun x_2 e_2 => ?_)
  have t_2 := z_shlV (A := 1) 10 e_2 kl_1 rfl (by omega) (by omega) rfl (by omega) (by omega) (by decide)
  exact rtPI (v := x_2) B hr hlk hh hQ rfl ⟨by omega, by omega, z_room e_2 e_1 (by omega) (by omega)⟩ dX12_room_6
