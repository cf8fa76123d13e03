def GX4 : FF := fun ct ad k => match k with
  | 0 => .inr (3, [.ref (ad 1), .int 0, .int 0, .int 0, .int 0, .int 0, .int 0])
  | _ => .inl (ct 0, 50, .inl (fun _ => 0))
set_option maxRecDepth 100000 in
set_option maxHeartbeats 4000000 in
theorem k_X4 : Ck yX4_init M_X4_init 3 GX4 := by
  refine ck_of (k := 0) rfl rfl rfl (by decide) (fun D ct h0 sz => ?_)
  refine e_aload_n (pc' := 1) rfl dX4_init_0 rfl ?_
  refine e_objInit (pc' := 4) oi_X4 (by decide) (by decide) dX4_init_1 rfl ?_
  refine e_aload_n (pc' := 5) rfl dX4_init_4 rfl ?_
  refine e_bipush (v := 50) (pc' := 7) (by decide) dX4_init_5 rfl ?_
  refine e_newa (atype := .int) (t := 0) (N' := 50) (a0 := (50, .inl (fun _ => 0))) (pc' := 9) ac_int rfl rfl (na_int _) (by decide +kernel) (by decide +kernel) (Nat.le_of_ble_eq_true rfl) (Nat.le_of_ble_eq_true rfl) (Nat.le_of_ble_eq_true rfl) dX4_init_7 rfl (fun q1 => ?_)
  refine e_putF (i := 0) (j := 0) (pc' := 12) fk_X4_9 (pf_3_0 _) (by decide) rfl rfl (Nat.le_of_ble_eq_true rfl) dX4_init_9 rfl ?_
  refine e_vret rfl dX4_init_12 rfl rfl (Nat.le_of_ble_eq_true rfl) (fun j hj => ?_)
  match j, hj with
  | 0, _ => rfl
  | 1, _ => rfl
  | j + 2, hj => exact absurd hj (by omega)
def GX0 : FF := fun ct ad k => match k with
  | 0 => .inr (0, [.ref (ad 1), .ref (ad 2), .ref (ad 3), .int 0])
  | 1 => .inl (ct 0, 20, .inl (fun _ => 0))
  | 2 => .inl (ct 0, 20, .inl (fun _ => 0))
  | _ => .inl (ct 0, 20, .inl (fun _ => 0))
set_option maxRecDepth 100000 in
set_option maxHeartbeats 4000000 in
theorem k_X0 : Ck yX0_init M_X0_init 0 GX0 := by
  refine ck_of (k := 0) rfl rfl rfl (by decide) (fun D ct h0 sz => ?_)
  refine e_aload_n (pc' := 1) rfl dX0_init_0 rfl ?_
  refine e_objInit (pc' := 4) oi_X0 (by decide) (by decide) dX0_init_1 rfl ?_
  refine e_aload_n (pc' := 5) rfl dX0_init_4 rfl ?_
  refine e_bipush (v := 20) (pc' := 7) (by decide) dX0_init_5 rfl ?_
  refine e_newa (atype := .int) (t := 0) (N' := 20) (a0 := (20, .inl (fun _ => 0))) (pc' := 9) ac_int rfl rfl (na_int _) (by decide +kernel) (by decide +kernel) (Nat.le_of_ble_eq_true rfl) (Nat.le_of_ble_eq_true rfl) (Nat.le_of_ble_eq_true rfl) dX0_init_7 rfl (fun q1 => ?_)
  refine e_putF (i := 0) (j := 0) (pc' := 12) fk_X0_9 (pf_0_0 _) (by decide) rfl rfl (Nat.le_of_ble_eq_true rfl) dX0_init_9 rfl ?_
  refine e_aload_n (pc' := 13) rfl dX0_init_12 rfl ?_
  refine e_bipush (v := 20) (pc' := 15) (by decide) dX0_init_13 rfl ?_
  refine e_newa (atype := .int) (t := 0) (N' := 20) (a0 := (20, .inl (fun _ => 0))) (pc' := 17) ac_int rfl rfl (na_int _) (by decide +kernel) (by decide +kernel) (Nat.le_of_ble_eq_true rfl) (Nat.le_of_ble_eq_true rfl) (Nat.le_of_ble_eq_true rfl) dX0_init_15 rfl (fun q2 => ?_)
  refine e_putF (i := 0) (j := 1) (pc' := 20) fk_X0_15 (pf_0_1 _) (by decide) rfl rfl (Nat.le_of_ble_eq_true rfl) dX0_init_17 rfl ?_
  refine e_aload_n (pc' := 21) rfl dX0_init_20 rfl ?_
  refine e_bipush (v := 20) (pc' := 23) (by decide) dX0_init_21 rfl ?_
  refine e_newa (atype := .int) (t := 0) (N' := 20) (a0 := (20, .inl (fun _ => 0))) (pc' := 25) ac_int rfl rfl (na_int _) (by decide +kernel) (by decide +kernel) (Nat.le_of_ble_eq_true rfl) (Nat.le_of_ble_eq_true rfl) (Nat.le_of_ble_eq_true rfl) dX0_init_23 rfl (fun q3 => ?_)
  refine e_putF (i := 0) (j := 2) (pc' := 28) fk_X0_18 (pf_0_2 _) (by decide) rfl rfl (Nat.le_of_ble_eq_true rfl) dX0_init_25 rfl ?_
  refine e_vret rfl dX0_init_28 rfl rfl (Nat.le_of_ble_eq_true rfl) (fun j hj => ?_)
  match j, hj with
  | 0, _ => rfl
  | 1, _ => rfl
  | 2, _ => rfl
  | 3, _ => rfl
  | j + 4, hj => exact absurd hj (by omega)
def GX3 : FF := fun _ _ _ => .inr (2, [.int 0])
set_option maxRecDepth 100000 in
set_option maxHeartbeats 4000000 in
theorem k_X3 : Ck yX3_init M_X3_init 2 GX3 := by
  refine ck_of (k := 0) rfl rfl rfl (by decide) (fun D ct h0 sz => ?_)
  refine e_aload_n (pc' := 1) rfl dX3_init_0 rfl ?_
  refine e_objInit (pc' := 4) oi_X3 (by decide) (by decide) dX3_init_1 rfl ?_
  refine e_vret rfl dX3_init_4 rfl rfl (Nat.le_of_ble_eq_true rfl) (fun j hj => ?_)
  match j, hj with
  | 0, _ => rfl
  | j + 1, hj => exact absurd hj (by omega)
def GX7 : FF := fun ct ad k => match k with
  | 0 => .inr (6, [.ref (ad 1), .ref (ad 2), .int 0, .int 0])
  | 1 => .inl (ct 0, 61, .inl (fun _ => 0))
  | _ => .inl (ct 0, 61, .inl (fun _ => 0))
set_option maxRecDepth 100000 in
set_option maxHeartbeats 4000000 in
theorem k_X7 : Ck yX7_init M_X7_init 6 GX7 := by
  refine ck_of (k := 0) rfl rfl rfl (by decide) (fun D ct h0 sz => ?_)
  refine e_aload_n (pc' := 1) rfl dX7_init_0 rfl ?_
  refine e_objInit (pc' := 4) oi_X7 (by decide) (by decide) dX7_init_1 rfl ?_
  refine e_aload_n (pc' := 5) rfl dX7_init_4 rfl ?_
  refine e_bipush (v := 61) (pc' := 7) (by decide) dX7_init_5 rfl ?_
  refine e_newa (atype := .int) (t := 0) (N' := 61) (a0 := (61, .inl (fun _ => 0))) (pc' := 9) ac_int rfl rfl (na_int _) (by decide +kernel) (by decide +kernel) (Nat.le_of_ble_eq_true rfl) (Nat.le_of_ble_eq_true rfl) (Nat.le_of_ble_eq_true rfl) dX7_init_7 rfl (fun q1 => ?_)
  refine e_putF (i := 0) (j := 0) (pc' := 12) fk_X7_9 (pf_6_0 _) (by decide) rfl rfl (Nat.le_of_ble_eq_true rfl) dX7_init_9 rfl ?_
  refine e_aload_n (pc' := 13) rfl dX7_init_12 rfl ?_
  refine e_bipush (v := 61) (pc' := 15) (by decide) dX7_init_13 rfl ?_
  refine e_newa (atype := .int) (t := 0) (N' := 61) (a0 := (61, .inl (fun _ => 0))) (pc' := 17) ac_int rfl rfl (na_int _) (by decide +kernel) (by decide +kernel) (Nat.le_of_ble_eq_true rfl) (Nat.le_of_ble_eq_true rfl) (Nat.le_of_ble_eq_true rfl) dX7_init_15 rfl (fun q2 => ?_)
  refine e_putF (i := 0) (j := 1) (pc' := 20) fk_X7_15 (pf_6_1 _) (by decide) rfl rfl (Nat.le_of_ble_eq_true rfl) dX7_init_17 rfl ?_
  refine e_vret rfl dX7_init_20 rfl rfl (Nat.le_of_ble_eq_true rfl) (fun j hj => ?_)
  match j, hj with
  | 0, _ => rfl
  | 1, _ => rfl
  | 2, _ => rfl
  | j + 3, hj => exact absurd hj (by omega)
def GX2 : FF := fun ct ad k => match k with
  | 0 => .inr (1, [.ref (ad 1), .ref (ad 2), .ref (ad 3), .ref (ad 4), .int 0])
  | 1 => .inl (ct 0, 4, .inl (fun _ => 0))
  | 2 => .inl (ct 0, 4, .inl (fun _ => 0))
  | 3 => .inl (ct 1, 4, .inr (.inl (fun _ => 0)))
  | _ => .inl (ct 1, 4, .inr (.inl (fun _ => 0)))
set_option maxRecDepth 100000 in
set_option maxHeartbeats 4000000 in
theorem k_X2 : Ck yX2_init M_X2_init 1 GX2 := by
  refine ck_of (k := 0) rfl rfl rfl (by decide) (fun D ct h0 sz => ?_)
  refine e_aload_n (pc' := 1) rfl dX2_init_0 rfl ?_
  refine e_objInit (pc' := 4) oi_X2 (by decide) (by decide) dX2_init_1 rfl ?_
  refine e_aload_n (pc' := 5) rfl dX2_init_4 rfl ?_
  refine e_iconst (v := 4) (pc' := 6) (by decide) dX2_init_5 rfl ?_
  refine e_newa (atype := .int) (t := 0) (N' := 4) (a0 := (4, .inl (fun _ => 0))) (pc' := 8) ac_int rfl rfl (na_int _) (by decide +kernel) (by decide +kernel) (Nat.le_of_ble_eq_true rfl) (Nat.le_of_ble_eq_true rfl) (Nat.le_of_ble_eq_true rfl) dX2_init_6 rfl (fun q1 => ?_)
  refine e_putF (i := 0) (j := 0) (pc' := 11) fk_X2_11 (pf_1_0 _) (by decide) rfl rfl (Nat.le_of_ble_eq_true rfl) dX2_init_8 rfl ?_
  refine e_aload_n (pc' := 12) rfl dX2_init_11 rfl ?_
  refine e_iconst (v := 4) (pc' := 13) (by decide) dX2_init_12 rfl ?_
  refine e_newa (atype := .int) (t := 0) (N' := 4) (a0 := (4, .inl (fun _ => 0))) (pc' := 15) ac_int rfl rfl (na_int _) (by decide +kernel) (by decide +kernel) (Nat.le_of_ble_eq_true rfl) (Nat.le_of_ble_eq_true rfl) (Nat.le_of_ble_eq_true rfl) dX2_init_13 rfl (fun q2 => ?_)
  refine e_putF (i := 0) (j := 1) (pc' := 18) fk_X2_15 (pf_1_1 _) (by decide) rfl rfl (Nat.le_of_ble_eq_true rfl) dX2_init_15 rfl ?_
  refine e_aload_n (pc' := 19) rfl dX2_init_18 rfl ?_
  refine e_iconst (v := 4) (pc' := 20) (by decide) dX2_init_19 rfl ?_
  refine e_newa (atype := .long) (t := 1) (N' := 4) (a0 := (4, .inr (.inl (fun _ => 0)))) (pc' := 22) ac_long rfl rfl (na_long _) (by decide +kernel) (by decide +kernel) (Nat.le_of_ble_eq_true rfl) (Nat.le_of_ble_eq_true rfl) (Nat.le_of_ble_eq_true rfl) dX2_init_20 rfl (fun q3 => ?_)
  refine e_putF (i := 0) (j := 2) (pc' := 25) fk_X2_18 (pf_1_2 _) (by decide) rfl rfl (Nat.le_of_ble_eq_true rfl) dX2_init_22 rfl ?_
  refine e_aload_n (pc' := 26) rfl dX2_init_25 rfl ?_
  refine e_iconst (v := 4) (pc' := 27) (by decide) dX2_init_26 rfl ?_
  refine e_newa (atype := .long) (t := 1) (N' := 4) (a0 := (4, .inr (.inl (fun _ => 0)))) (pc' := 29) ac_long rfl rfl (na_long _) (by decide +kernel) (by decide +kernel) (Nat.le_of_ble_eq_true rfl) (Nat.le_of_ble_eq_true rfl) (Nat.le_of_ble_eq_true rfl) dX2_init_27 rfl (fun q4 => ?_)
  refine e_putF (i := 0) (j := 3) (pc' := 32) fk_X2_22 (pf_1_3 _) (by decide) rfl rfl (Nat.le_of_ble_eq_true rfl) dX2_init_29 rfl ?_
  refine e_vret rfl dX2_init_32 rfl rfl (Nat.le_of_ble_eq_true rfl) (fun j hj => ?_)
  match j, hj with
  | 0, _ => rfl
  | 1, _ => rfl
  | 2, _ => rfl
  | 3, _ => rfl
  | 4, _ => rfl
  | j + 5, hj => exact absurd hj (by omega)
def GX10 : FF := fun ct ad k => match k with
  | 0 => .inr (9, [.int 0, .ref (ad 1), .ref (ad 2), .int 0, .ref (ad 3), .ref (ad 4), .ref (ad 5), .long 0, .int 0, .ref (ad 6), .ref (ad 7), .ref (ad 8), .int 0, .int 0, .ref (ad 9), .ref (ad 10)])
  | 1 => .inl (ct 0, 338, .inl (fun _ => 0))
  | 2 => .inl (ct 0, 5408, .inl (fun _ => 0))
  | 3 => .inl (ct 0, 676, .inl (fun _ => 0))
  | 4 => .inl (ct 2, 2, .inl (fun _ => 0))
  | 5 => .inl (ct 1, 2, .inr (.inl (fun _ => 0)))
  | 6 => .inl (ct 0, 20, .inl (fun _ => 0))
  | 7 => .inl (ct 0, 20, .inl (fun _ => 0))
  | 8 => .inl (ct 0, 20, .inl (fun _ => 0))
  | 9 => .inl (ct 0, 61, .inl (fun _ => 0))
  | _ => .inl (ct 0, 61, .inl (fun _ => 0))
set_option maxRecDepth 100000 in
set_option maxHeartbeats 4000000 in
theorem k_X10 : Ck yX10_init M_X10_init 9 GX10 := by
  refine ck_of (k := 0) rfl rfl rfl (by decide) (fun D ct h0 sz => ?_)
  refine e_aload_n (pc' := 1) rfl dX10_init_0 rfl ?_
  refine e_objInit (pc' := 4) oi_X10 (by decide) (by decide) dX10_init_1 rfl ?_
  refine e_aload_n (pc' := 5) rfl dX10_init_4 rfl ?_
  refine e_sipush (v := 338) (pc' := 8) (by decide) dX10_init_5 rfl ?_
  refine e_newa (atype := .int) (t := 0) (N' := 338) (a0 := (338, .inl (fun _ => 0))) (pc' := 10) ac_int rfl rfl (na_int _) (by decide +kernel) (by decide +kernel) (Nat.le_of_ble_eq_true rfl) (Nat.le_of_ble_eq_true rfl) (Nat.le_of_ble_eq_true rfl) dX10_init_8 rfl (fun q1 => ?_)
  refine e_putF (i := 0) (j := 1) (pc' := 13) fk_X10_7 (pf_9_1 _) (by decide) rfl rfl (Nat.le_of_ble_eq_true rfl) dX10_init_10 rfl ?_
  refine e_aload_n (pc' := 14) rfl dX10_init_13 rfl ?_
  refine e_sipush (v := 5408) (pc' := 17) (by decide) dX10_init_14 rfl ?_
  refine e_newa (atype := .int) (t := 0) (N' := 5408) (a0 := (5408, .inl (fun _ => 0))) (pc' := 19) ac_int rfl rfl (na_int _) (by decide +kernel) (by decide +kernel) (Nat.le_of_ble_eq_true rfl) (Nat.le_of_ble_eq_true rfl) (Nat.le_of_ble_eq_true rfl) dX10_init_17 rfl (fun q2 => ?_)
  refine e_putF (i := 0) (j := 2) (pc' := 22) fk_X10_13 (pf_9_2 _) (by decide) rfl rfl (Nat.le_of_ble_eq_true rfl) dX10_init_19 rfl ?_
  refine e_aload_n (pc' := 23) rfl dX10_init_22 rfl ?_
  refine e_sipush (v := 676) (pc' := 26) (by decide) dX10_init_23 rfl ?_
  refine e_newa (atype := .int) (t := 0) (N' := 676) (a0 := (676, .inl (fun _ => 0))) (pc' := 28) ac_int rfl rfl (na_int _) (by decide +kernel) (by decide +kernel) (Nat.le_of_ble_eq_true rfl) (Nat.le_of_ble_eq_true rfl) (Nat.le_of_ble_eq_true rfl) dX10_init_26 rfl (fun q3 => ?_)
  refine e_putF (i := 0) (j := 4) (pc' := 31) fk_X10_16 (pf_9_4 _) (by decide) rfl rfl (Nat.le_of_ble_eq_true rfl) dX10_init_28 rfl ?_
  refine e_aload_n (pc' := 32) rfl dX10_init_31 rfl ?_
  refine e_iconst (v := 2) (pc' := 33) (by decide) dX10_init_32 rfl ?_
  refine e_newa (atype := .boolean) (t := 2) (N' := 2) (a0 := (2, .inl (fun _ => 0))) (pc' := 35) ac_boolean rfl rfl (na_boolean _) (by decide +kernel) (by decide +kernel) (Nat.le_of_ble_eq_true rfl) (Nat.le_of_ble_eq_true rfl) (Nat.le_of_ble_eq_true rfl) dX10_init_33 rfl (fun q4 => ?_)
  refine e_putF (i := 0) (j := 5) (pc' := 38) fk_X10_19 (pf_9_5 _) (by decide) rfl rfl (Nat.le_of_ble_eq_true rfl) dX10_init_35 rfl ?_
  refine e_aload_n (pc' := 39) rfl dX10_init_38 rfl ?_
  refine e_iconst (v := 2) (pc' := 40) (by decide) dX10_init_39 rfl ?_
  refine e_newa (atype := .long) (t := 1) (N' := 2) (a0 := (2, .inr (.inl (fun _ => 0)))) (pc' := 42) ac_long rfl rfl (na_long _) (by decide +kernel) (by decide +kernel) (Nat.le_of_ble_eq_true rfl) (Nat.le_of_ble_eq_true rfl) (Nat.le_of_ble_eq_true rfl) dX10_init_40 rfl (fun q5 => ?_)
  refine e_putF (i := 0) (j := 6) (pc' := 45) fk_X10_23 (pf_9_6 _) (by decide) rfl rfl (Nat.le_of_ble_eq_true rfl) dX10_init_42 rfl ?_
  refine e_aload_n (pc' := 46) rfl dX10_init_45 rfl ?_
  refine e_bipush (v := 20) (pc' := 48) (by decide) dX10_init_46 rfl ?_
  refine e_newa (atype := .int) (t := 0) (N' := 20) (a0 := (20, .inl (fun _ => 0))) (pc' := 50) ac_int rfl rfl (na_int _) (by decide +kernel) (by decide +kernel) (Nat.le_of_ble_eq_true rfl) (Nat.le_of_ble_eq_true rfl) (Nat.le_of_ble_eq_true rfl) dX10_init_48 rfl (fun q6 => ?_)
  refine e_putF (i := 0) (j := 9) (pc' := 53) fk_X10_27 (pf_9_9 _) (by decide) rfl rfl (Nat.le_of_ble_eq_true rfl) dX10_init_50 rfl ?_
  refine e_aload_n (pc' := 54) rfl dX10_init_53 rfl ?_
  refine e_bipush (v := 20) (pc' := 56) (by decide) dX10_init_54 rfl ?_
  refine e_newa (atype := .int) (t := 0) (N' := 20) (a0 := (20, .inl (fun _ => 0))) (pc' := 58) ac_int rfl rfl (na_int _) (by decide +kernel) (by decide +kernel) (Nat.le_of_ble_eq_true rfl) (Nat.le_of_ble_eq_true rfl) (Nat.le_of_ble_eq_true rfl) dX10_init_56 rfl (fun q7 => ?_)
  refine e_putF (i := 0) (j := 10) (pc' := 61) fk_X10_30 (pf_9_10 _) (by decide) rfl rfl (Nat.le_of_ble_eq_true rfl) dX10_init_58 rfl ?_
  refine e_aload_n (pc' := 62) rfl dX10_init_61 rfl ?_
  refine e_bipush (v := 20) (pc' := 64) (by decide) dX10_init_62 rfl ?_
  refine e_newa (atype := .int) (t := 0) (N' := 20) (a0 := (20, .inl (fun _ => 0))) (pc' := 66) ac_int rfl rfl (na_int _) (by decide +kernel) (by decide +kernel) (Nat.le_of_ble_eq_true rfl) (Nat.le_of_ble_eq_true rfl) (Nat.le_of_ble_eq_true rfl) dX10_init_64 rfl (fun q8 => ?_)
  refine e_putF (i := 0) (j := 11) (pc' := 69) fk_X10_33 (pf_9_11 _) (by decide) rfl rfl (Nat.le_of_ble_eq_true rfl) dX10_init_66 rfl ?_
  refine e_aload_n (pc' := 70) rfl dX10_init_69 rfl ?_
  refine e_bipush (v := 61) (pc' := 72) (by decide) dX10_init_70 rfl ?_
  refine e_newa (atype := .int) (t := 0) (N' := 61) (a0 := (61, .inl (fun _ => 0))) (pc' := 74) ac_int rfl rfl (na_int _) (by decide +kernel) (by decide +kernel) (Nat.le_of_ble_eq_true rfl) (Nat.le_of_ble_eq_true rfl) (Nat.le_of_ble_eq_true rfl) dX10_init_72 rfl (fun q9 => ?_)
  refine e_putF (i := 0) (j := 14) (pc' := 77) fk_X10_36 (pf_9_14 _) (by decide) rfl rfl (Nat.le_of_ble_eq_true rfl) dX10_init_74 rfl ?_
  refine e_aload_n (pc' := 78) rfl dX10_init_77 rfl ?_
  refine e_bipush (v := 61) (pc' := 80) (by decide) dX10_init_78 rfl ?_
  refine e_newa (atype := .int) (t := 0) (N' := 61) (a0 := (61, .inl (fun _ => 0))) (pc' := 82) ac_int rfl rfl (na_int _) (by decide +kernel) (by decide +kernel) (Nat.le_of_ble_eq_true rfl) (Nat.le_of_ble_eq_true rfl) (Nat.le_of_ble_eq_true rfl) dX10_init_80 rfl (fun q10 => ?_)
  refine e_putF (i := 0) (j := 15) (pc' := 85) fk_X10_39 (pf_9_15 _) (by decide) rfl rfl (Nat.le_of_ble_eq_true rfl) dX10_init_82 rfl ?_
  refine e_aload_n (pc' := 86) rfl dX10_init_85 rfl ?_
  refine e_lconst (v := 0) (pc' := 87) (by decide) dX10_init_86 rfl ?_
  refine e_putl (i := 0) (j := 7) (pc' := 90) fk_X10_42 pk_9_7 (by decide) rfl rfl (Nat.le_of_ble_eq_true rfl) dX10_init_87 rfl ?_
  refine e_vret rfl dX10_init_90 rfl rfl (Nat.le_of_ble_eq_true rfl) (fun j hj => ?_)
  match j, hj with
  | 0, _ => rfl
  | 1, _ => rfl
  | 2, _ => rfl
  | 3, _ => rfl
  | 4, _ => rfl
  | 5, _ => rfl
  | 6, _ => rfl
  | 7, _ => rfl
  | 8, _ => rfl
  | 9, _ => rfl
  | 10, _ => rfl
  | j + 11, hj => exact absurd hj (by omega)
