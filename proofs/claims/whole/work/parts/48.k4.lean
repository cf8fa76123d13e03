def GX4 : FF := fun ct ad k => match k with
  | 0 => .inr (3, [.ref (ad 1), .int 0, .int 0, .int 0, .int 0, .int 0, .int 0])
  | _ => .inl (ct 0, 50, .inl (fun _ => 0))
set_option maxRecDepth 100000 in
set_option maxHeartbeats 4000000 in
theorem k_X4 : Ck yX4_init M_X4_init 3 GX4 := by
  refine ck_of (k := 0) rfl rfl rfl (by decide) (fun D ct h0 sz => ?_)
  refine e_aload_n (pc' := 1) rfl dX4_init_0 rfl ?_
  refine e_objInit (pc' := 4) oi_X4 (by decide) (by decide) dX4_init_1 rfl ?_
  refine e_aload_n (pc' := 5) rfl dX4_init_4 rfl ?_
  refine e_bipush (v := 50) (pc' := 7) (by decide) dX4_init_5 rfl ?_
  refine e_newa (atype := .int) (t := 0) (N' := 50) (a0 := (50, .inl (fun _ => 0))) (pc' := 9) ac_int rfl rfl (na_int _) (by decide +kernel) (by decide +kernel) (Nat.le_of_ble_eq_true rfl) (Nat.le_of_ble_eq_true rfl) (Nat.le_of_ble_eq_true rfl) dX4_init_7 rfl (fun q1 => ?_)
  refine e_putF (i := 0) (j := 0) (pc' := 12) fk_X4_9 (pf_3_0 _) (by decide) rfl rfl (by decide) dX4_init_9 rfl ?_
  refine e_vret rfl dX4_init_12 rfl rfl (Nat.le_of_ble_eq_true rfl) (fun j hj => ?_)
  match j, hj with
  | 0, _ => rfl
  | 1, _ => rfl
  | j + 2, hj => exact absurd hj (by omega)
