def bkP (v q : Nat → Int32) (k j : Nat) : Int32 := if j < k then q j else v j
theorem bkP_0 (v q : Nat → Int32) : bkP v q 0 = v := funext fun j => if_neg (by omega)
theorem bkP_s (v q : Nat → Int32) (k : Nat) : upd (bkP v q k) k (q k) = bkP v q (k + 1) := by
  funext j
  rw [upd_app]
  unfold bkP
  by_cases h : j = k
  · rw [if_pos h, if_pos (by omega), h]
  · rw [if_neg h]
    by_cases h2 : j < k
    · rw [if_pos h2, if_pos (by omega)]
    · rw [if_neg h2, if_neg (by omega)]
theorem in_u (x : Int32) : ((1 : Int64) ≤ x.toInt64 ∧ x.toInt64 ≤ 16) ↔ (1 ≤ x ∧ x ≤ 16) := in_c x 1 16 (by decide) (by decide)
theorem in_d (x : Int32) : ((1 : Int64) ≤ x.toInt64 ∧ x.toInt64 ≤ 12) ↔ (1 ≤ x ∧ x ≤ 12) := in_c x 1 12 (by decide) (by decide)
set_option maxRecDepth 100000 in
set_option maxHeartbeats 4000000 in
theorem l_X10_undo {ρ : St} {z : Int32} {U : Nat} (hU : ρ.1 18 3 = nI U) (hU15 : U ≤ 15) : ∀ (n k : Nat), k + n = 338 → Ex M_X10_undo (some (.int (nI U)), pA ρ 19 (bkP (ρ.1 19) (fun j => ρ.1 20 (338 * U + j)) 338)) 43 [some (.ref 18), some (.int z), some (.int (nI k))] [] (pA ρ 19 (bkP (ρ.1 19) (fun j => ρ.1 20 (338 * U + j)) k)) := by
  intro n
  induction n with
  | zero =>
    intro k hk
    obtain rfl : k = 338 := by omega
    refine x_iload_n (pc' := 44) rfl dX10_undo_43 rfl ?_
    refine x_sipush (v := 338) (pc' := 47) (by decide) dX10_undo_44 rfl ?_
    refine x_icmp_ge (tgt := 77) (pc' := 50) (by decide) dX10_undo_47 rfl (fun c47 => ?_) (fun c47 => absurd (by decide) c47)
    refine x_aload_n (pc' := 78) rfl dX10_undo_77 rfl ?_
    refine x_get (v := .int _) (pc' := 81) fk_X10_166 (by first | assumption | exact ⟨by decide, rfl⟩) rfl dX10_undo_78 rfl ?_
    exact x_iret rfl dX10_undo_81 (ret_i hU)
  | succ n ih =>
    intro k hk
    have hU2 : (pA ρ 19 (bkP (ρ.1 19) (fun j => ρ.1 20 (338 * U + j)) k)).1 18 3 = nI U := hU
    refine x_iload_n (pc' := 44) rfl dX10_undo_43 rfl ?_
    refine x_sipush (v := 338) (pc' := 47) (by decide) dX10_undo_44 rfl ?_
    refine x_icmp_ge (tgt := 77) (pc' := 50) (by decide) dX10_undo_47 rfl (fun c47 => absurd c47 (nI_ge (b := 338) (by omega) (by decide))) (fun c47 => ?_)
    refine x_aload_n (pc' := 51) rfl dX10_undo_50 rfl ?_
    refine x_get (v := .ref 19) (pc' := 54) fk_X10_7 (by first | assumption | exact ⟨by decide, rfl⟩) rfl dX10_undo_51 rfl ?_
    refine x_iload_n (pc' := 55) rfl dX10_undo_54 rfl ?_
    refine x_aload_n (pc' := 56) rfl dX10_undo_55 rfl ?_
    refine x_get (v := .ref 20) (pc' := 59) fk_X10_13 (by first | assumption | exact ⟨by decide, rfl⟩) rfl dX10_undo_56 rfl ?_
    refine x_sipush (v := 338) (pc' := 62) (by decide) dX10_undo_59 rfl ?_
    refine x_aload_n (pc' := 63) rfl dX10_undo_62 rfl ?_
    refine x_get (v := .int _) (pc' := 66) fk_X10_166 (by first | assumption | exact ⟨by decide, rfl⟩) rfl dX10_undo_63 rfl ?_
    refine x_imul (pc' := 67) dX10_undo_66 rfl ?_
    refine x_iload_n (pc' := 68) rfl dX10_undo_67 rfl ?_
    refine x_iadd (pc' := 69) dX10_undo_68 rfl ?_
    refine x_ialdn (N := 5408) (n := 338 * U + k) (pc' := 70) (by first | assumption | exact ⟨by decide, rfl⟩) (by decide) (by rw [hU2]; simp only [lit32, pk_mul, nI_add]) (by omega) dX10_undo_69 rfl ?_
    refine x_iastn (N := 338) (n := k) (pc' := 71) (by first | assumption | exact ⟨by decide, rfl⟩) (by decide) rfl (by omega) dX10_undo_70 rfl ?_
    refine x_st (pA_pI _ _ _ _ _) ?_
    refine x_st (σ' := pA ρ 19 (bkP (ρ.1 19) (fun j => ρ.1 20 (338 * U + j)) (k + 1))) (by rw [pA_ne (by decide)]; exact congrArg (pA ρ 19) (bkP_s (ρ.1 19) (fun j => ρ.1 20 (338 * U + j)) k)) ?_
    refine x_iinc (lv' := [_, _, _]) (pc' := 74) rfl (nI_1 k) (by decide) rfl dX10_undo_71 rfl ?_
    refine x_goto (tgt := 43) (by decide) dX10_undo_74 ?_
    exact ih (k + 1) (by omega)
set_option maxRecDepth 100000 in
set_option maxHeartbeats 4000000 in
theorem a_X10_undo {σ : St} {U m : Nat} (hU : σ.1 18 3 = nI U) (hU16 : U ≤ 16) (h1 : 1 ≤ m) (hm : m ≤ U) : Ct yX10_undo M_X10_undo [.ref 18, .int (nI m)] σ (some (.int (nI (U - m))), pA (pI (pI σ 18 0 0) 18 3 (nI (U - m))) 19 (bkP (σ.1 19) (fun j => σ.1 20 (338 * (U - m) + j)) 338)) := by
  refine ct_of (k := 1) rfl rfl rfl (Nat.le_of_ble_eq_true rfl) ?_
  refine x_aload_n (pc' := 1) rfl dX10_undo_0 rfl ?_
  refine x_iconst (v := 0) (pc' := 2) (by decide) dX10_undo_1 rfl ?_
  refine x_puti (pc' := 5) fk_X10_46 pk_9_0 rfl (by first | assumption | exact ⟨by decide, rfl⟩) dX10_undo_2 rfl ?_
  refine x_iload_n (pc' := 6) rfl dX10_undo_5 rfl ?_
  refine x_i2l (pc' := 7) dX10_undo_6 rfl ?_
  refine x_lconst (v := 1) (pc' := 8) (by decide) dX10_undo_7 rfl ?_
  refine x_ldc2 (pc' := 11) kl_X10_250 dX10_undo_8 rfl ?_
  refine x_callSi (As := [.long _, .long _, .long _]) (rest := []) (pc' := 14) rfl sk_X10_50 mk_X10_in (by decide) rfl (Nat.le_of_ble_eq_true rfl) dX10_undo_11 rfl c_X10_in ?_
  refine x_if_ne (tgt := 20) (pc' := 17) (by decide) dX10_undo_14 rfl (fun c14 => ?_) (fun c14 => absurd c14 (by rw [b1 ((in_u _).mpr ⟨nI_le (a := 1) h1 (by omega), nI_le (b := 16) (by omega) (by decide)⟩)]; decide))
  refine x_iload_n (pc' := 21) rfl dX10_undo_20 rfl ?_
  refine x_aload_n (pc' := 22) rfl dX10_undo_21 rfl ?_
  refine x_get (v := .int _) (pc' := 25) fk_X10_166 (by first | assumption | exact ⟨by decide, rfl⟩) rfl dX10_undo_22 rfl ?_
  refine x_icmp_le (tgt := 31) (pc' := 28) (by decide) dX10_undo_25 rfl (fun c25 => ?_) (fun c25 => absurd (by rw [show (pI σ 18 0 0).1 18 3 = nI U from hU]; exact nI_le hm (by omega)) c25)
  refine x_aload_n (pc' := 32) rfl dX10_undo_31 rfl ?_
  refine x_dup (pc' := 33) rfl dX10_undo_32 rfl ?_
  refine x_get (v := .int _) (pc' := 36) fk_X10_166 (by first | assumption | exact ⟨by decide, rfl⟩) rfl dX10_undo_33 rfl ?_
  refine x_iload_n (pc' := 37) rfl dX10_undo_36 rfl ?_
  refine x_isub (pc' := 38) dX10_undo_37 rfl ?_
  refine x_top (y := nI (U - m)) (by rw [show (pI σ 18 0 0).1 18 3 = nI U from hU]; exact pk_sub hm) ?_
  refine x_puti (pc' := 41) fk_X10_166 pk_9_3 rfl (by first | assumption | exact ⟨by decide, rfl⟩) dX10_undo_38 rfl ?_
  refine x_iconst (v := 0) (pc' := 42) (by decide) dX10_undo_41 rfl ?_
  refine x_istore_n (lv' := [_, _, _]) (pc' := 43) (by decide) rfl dX10_undo_42 rfl ?_
  refine x_st (σ' := pA (pI (pI σ 18 0 0) 18 3 (nI (U - m))) 19 (bkP (σ.1 19) (fun j => σ.1 20 (338 * (U - m) + j)) 0)) (by rw [bkP_0]; exact (pA_self (pI (pI σ 18 0 0) 18 3 (nI (U - m))) 19).symm) ?_
  exact l_X10_undo (ρ := pI (pI σ 18 0 0) 18 3 (nI (U - m))) (U := U - m) rfl (by omega) _ 0 (Nat.zero_add _)
set_option maxRecDepth 100000 in
set_option maxHeartbeats 4000000 in
theorem r_X10_undo {σ : St} {x : Int32} {U : Nat} (hU : σ.1 18 3 = nI U) (hU16 : U ≤ 16) (hn : ¬ ((1 ≤ x ∧ x ≤ 16) ∧ x ≤ nI U)) : ∃ σ', Ct yX10_undo M_X10_undo [.ref 18, .int x] σ (some (.int (pif (1 ≤ x ∧ x ≤ 16) (-1000000003) (-1000000002))), σ') ∧ ScM σ σ' := by
  refine ⟨_, ?_, ScM.thr σ 0⟩
  by_cases h : 1 ≤ x ∧ x ≤ 16
  · rw [pif_t h]
    refine ct_of (k := 1) rfl rfl rfl (Nat.le_of_ble_eq_true rfl) ?_
    refine x_aload_n (pc' := 1) rfl dX10_undo_0 rfl ?_
    refine x_iconst (v := 0) (pc' := 2) (by decide) dX10_undo_1 rfl ?_
    refine x_puti (pc' := 5) fk_X10_46 pk_9_0 rfl (by first | assumption | exact ⟨by decide, rfl⟩) dX10_undo_2 rfl ?_
    refine x_iload_n (pc' := 6) rfl dX10_undo_5 rfl ?_
    refine x_i2l (pc' := 7) dX10_undo_6 rfl ?_
    refine x_lconst (v := 1) (pc' := 8) (by decide) dX10_undo_7 rfl ?_
    refine x_ldc2 (pc' := 11) kl_X10_250 dX10_undo_8 rfl ?_
    refine x_callSi (As := [.long _, .long _, .long _]) (rest := []) (pc' := 14) rfl sk_X10_50 mk_X10_in (by decide) rfl (Nat.le_of_ble_eq_true rfl) dX10_undo_11 rfl c_X10_in ?_
    refine x_if_ne (tgt := 20) (pc' := 17) (by decide) dX10_undo_14 rfl (fun c14 => ?_) (fun c14 => absurd c14 (by rw [b1 ((in_u _).mpr h)]; decide))
    refine x_iload_n (pc' := 21) rfl dX10_undo_20 rfl ?_
    refine x_aload_n (pc' := 22) rfl dX10_undo_21 rfl ?_
    refine x_get (v := .int _) (pc' := 25) fk_X10_166 (by first | assumption | exact ⟨by decide, rfl⟩) rfl dX10_undo_22 rfl ?_
    refine x_icmp_le (tgt := 31) (pc' := 28) (by decide) dX10_undo_25 rfl (fun c25 => absurd c25 (fun q => hn ⟨h, by rw [← hU]; exact q⟩)) (fun c25 => ?_)
    refine x_ldc (pc' := 30) kc_X10_221 dX10_undo_28 rfl ?_
    exact x_iret rfl dX10_undo_30 rfl
  · rw [pif_f h]
    refine ct_of (k := 1) rfl rfl rfl (Nat.le_of_ble_eq_true rfl) ?_
    refine x_aload_n (pc' := 1) rfl dX10_undo_0 rfl ?_
    refine x_iconst (v := 0) (pc' := 2) (by decide) dX10_undo_1 rfl ?_
    refine x_puti (pc' := 5) fk_X10_46 pk_9_0 rfl (by first | assumption | exact ⟨by decide, rfl⟩) dX10_undo_2 rfl ?_
    refine x_iload_n (pc' := 6) rfl dX10_undo_5 rfl ?_
    refine x_i2l (pc' := 7) dX10_undo_6 rfl ?_
    refine x_lconst (v := 1) (pc' := 8) (by decide) dX10_undo_7 rfl ?_
    refine x_ldc2 (pc' := 11) kl_X10_250 dX10_undo_8 rfl ?_
    refine x_callSi (As := [.long _, .long _, .long _]) (rest := []) (pc' := 14) rfl sk_X10_50 mk_X10_in (by decide) rfl (Nat.le_of_ble_eq_true rfl) dX10_undo_11 rfl c_X10_in ?_
    refine x_if_ne (tgt := 20) (pc' := 17) (by decide) dX10_undo_14 rfl (fun c14 => absurd (b0 (fun q => h ((in_u x).mp q))) c14) (fun c14 => ?_)
    refine x_ldc (pc' := 19) kc_X10_169 dX10_undo_17 rfl ?_
    exact x_iret rfl dX10_undo_19 rfl
set_option maxRecDepth 100000 in
set_option maxHeartbeats 4000000 in
theorem a_X10_write {σ : St} {x y z : Int32} {E : Nat} (hE : σ.1 18 8 = nI E) (hE20 : E < 20) (hp : plc x y) : Ct yX10_write M_X10_write [.ref 18, .int x, .int y, .int z] σ (some (.int (nI (E + 1))), pI (pI (pI (pI (pI σ 18 0 0) 24 E x) 25 E y) 26 E z) 18 8 (nI (E + 1))) := by
  refine ct_of (k := 0) rfl rfl rfl (Nat.le_of_ble_eq_true rfl) ?_
  refine x_aload_n (pc' := 1) rfl dX10_write_0 rfl ?_
  refine x_iconst (v := 0) (pc' := 2) (by decide) dX10_write_1 rfl ?_
  refine x_puti (pc' := 5) fk_X10_46 pk_9_0 rfl (by first | assumption | exact ⟨by decide, rfl⟩) dX10_write_2 rfl ?_
  refine x_iload_n (pc' := 6) rfl dX10_write_5 rfl ?_
  refine x_iload_n (pc' := 7) rfl dX10_write_6 rfl ?_
  refine x_callSi (As := [.int _, .int _]) (rest := []) (pc' := 10) rfl sk_X10_196 mk_X10_isPlace (by decide) rfl (Nat.le_of_ble_eq_true rfl) dX10_write_7 rfl c_X10_isPlace ?_
  refine x_if_ne (tgt := 16) (pc' := 13) (by decide) dX10_write_10 rfl (fun c10 => ?_) (fun c10 => absurd c10 (by rw [pb_1 hp]; decide))
  refine x_aload_n (pc' := 17) rfl dX10_write_16 rfl ?_
  refine x_get (v := .int _) (pc' := 20) fk_X10_142 (by first | assumption | exact ⟨by decide, rfl⟩) rfl dX10_write_17 rfl ?_
  refine x_bipush (v := 20) (pc' := 22) (by decide) dX10_write_20 rfl ?_
  refine x_icmp_ne (tgt := 28) (pc' := 25) (by decide) dX10_write_22 rfl (fun c22 => ?_) (fun c22 => absurd c22 (by rw [show (pI σ 18 0 0).1 18 8 = nI E from hE]; exact fun q => absurd (ni_inj (a := E) (b := 20) (by omega) (by decide) q) (by omega)))
  refine x_aload_n (pc' := 29) rfl dX10_write_28 rfl ?_
  refine x_get (v := .ref 24) (pc' := 32) fk_X10_27 (by first | assumption | exact ⟨by decide, rfl⟩) rfl dX10_write_29 rfl ?_
  refine x_aload_n (pc' := 33) rfl dX10_write_32 rfl ?_
  refine x_get (v := .int _) (pc' := 36) fk_X10_142 (by first | assumption | exact ⟨by decide, rfl⟩) rfl dX10_write_33 rfl ?_
  refine x_iload_n (pc' := 37) rfl dX10_write_36 rfl ?_
  refine x_iastn (N := 20) (n := E) (pc' := 38) (by first | assumption | exact ⟨by decide, rfl⟩) (by decide) hE (by omega) dX10_write_37 rfl ?_
  refine x_aload_n (pc' := 39) rfl dX10_write_38 rfl ?_
  refine x_get (v := .ref 25) (pc' := 42) fk_X10_30 (by first | assumption | exact ⟨by decide, rfl⟩) rfl dX10_write_39 rfl ?_
  refine x_aload_n (pc' := 43) rfl dX10_write_42 rfl ?_
  refine x_get (v := .int _) (pc' := 46) fk_X10_142 (by first | assumption | exact ⟨by decide, rfl⟩) rfl dX10_write_43 rfl ?_
  refine x_iload_n (pc' := 47) rfl dX10_write_46 rfl ?_
  refine x_iastn (N := 20) (n := E) (pc' := 48) (by first | assumption | exact ⟨by decide, rfl⟩) (by decide) hE (by omega) dX10_write_47 rfl ?_
  refine x_aload_n (pc' := 49) rfl dX10_write_48 rfl ?_
  refine x_get (v := .ref 26) (pc' := 52) fk_X10_33 (by first | assumption | exact ⟨by decide, rfl⟩) rfl dX10_write_49 rfl ?_
  refine x_aload_n (pc' := 53) rfl dX10_write_52 rfl ?_
  refine x_get (v := .int _) (pc' := 56) fk_X10_142 (by first | assumption | exact ⟨by decide, rfl⟩) rfl dX10_write_53 rfl ?_
  refine x_iload_n (pc' := 57) rfl dX10_write_56 rfl ?_
  refine x_iastn (N := 20) (n := E) (pc' := 58) (by first | assumption | exact ⟨by decide, rfl⟩) (by decide) hE (by omega) dX10_write_57 rfl ?_
  refine x_aload_n (pc' := 59) rfl dX10_write_58 rfl ?_
  refine x_dup (pc' := 60) rfl dX10_write_59 rfl ?_
  refine x_get (v := .int _) (pc' := 63) fk_X10_142 (by first | assumption | exact ⟨by decide, rfl⟩) rfl dX10_write_60 rfl ?_
  refine x_iconst (v := 1) (pc' := 64) (by decide) dX10_write_63 rfl ?_
  refine x_iadd (pc' := 65) dX10_write_64 rfl ?_
  refine x_top (y := nI (E + 1)) (by rw [show (pI (pI (pI (pI σ 18 0 0) 24 E x) 25 E y) 26 E z).1 18 8 = nI E from hE]; exact nI_1 E) ?_
  refine x_puti (pc' := 68) fk_X10_142 pk_9_8 rfl (by first | assumption | exact ⟨by decide, rfl⟩) dX10_write_65 rfl ?_
  refine x_aload_n (pc' := 69) rfl dX10_write_68 rfl ?_
  refine x_get (v := .int _) (pc' := 72) fk_X10_142 (by first | assumption | exact ⟨by decide, rfl⟩) rfl dX10_write_69 rfl ?_
  exact x_iret rfl dX10_write_72 rfl
set_option maxRecDepth 100000 in
set_option maxHeartbeats 4000000 in
theorem r_X10_write {σ : St} {x y z : Int32} {E : Nat} (hE : σ.1 18 8 = nI E) (hn : ¬ (plc x y ∧ E < 20)) (hE20 : E ≤ 20) : ∃ σ', Ct yX10_write M_X10_write [.ref 18, .int x, .int y, .int z] σ (some (.int (pif (plc x y) (-1000000004) (-1000000002))), σ') ∧ ScM σ σ' := by
  refine ⟨_, ?_, ScM.thr σ 0⟩
  by_cases h : plc x y
  · rw [pif_t h]
    have e : E = 20 := by
      have : ¬ E < 20 := fun q => hn ⟨h, q⟩
      omega
    refine ct_of (k := 0) rfl rfl rfl (Nat.le_of_ble_eq_true rfl) ?_
    refine x_aload_n (pc' := 1) rfl dX10_write_0 rfl ?_
    refine x_iconst (v := 0) (pc' := 2) (by decide) dX10_write_1 rfl ?_
    refine x_puti (pc' := 5) fk_X10_46 pk_9_0 rfl (by first | assumption | exact ⟨by decide, rfl⟩) dX10_write_2 rfl ?_
    refine x_iload_n (pc' := 6) rfl dX10_write_5 rfl ?_
    refine x_iload_n (pc' := 7) rfl dX10_write_6 rfl ?_
    refine x_callSi (As := [.int _, .int _]) (rest := []) (pc' := 10) rfl sk_X10_196 mk_X10_isPlace (by decide) rfl (Nat.le_of_ble_eq_true rfl) dX10_write_7 rfl c_X10_isPlace ?_
    refine x_if_ne (tgt := 16) (pc' := 13) (by decide) dX10_write_10 rfl (fun c10 => ?_) (fun c10 => absurd c10 (by rw [pb_1 h]; decide))
    refine x_aload_n (pc' := 17) rfl dX10_write_16 rfl ?_
    refine x_get (v := .int _) (pc' := 20) fk_X10_142 (by first | assumption | exact ⟨by decide, rfl⟩) rfl dX10_write_17 rfl ?_
    refine x_bipush (v := 20) (pc' := 22) (by decide) dX10_write_20 rfl ?_
    refine x_icmp_ne (tgt := 28) (pc' := 25) (by decide) dX10_write_22 rfl (fun c22 => absurd (by rw [show (pI σ 18 0 0).1 18 8 = nI E from hE, e]; rfl) c22) (fun c22 => ?_)
    refine x_ldc (pc' := 27) kc_X10_222 dX10_write_25 rfl ?_
    exact x_iret rfl dX10_write_27 rfl
  · rw [pif_f h]
    refine ct_of (k := 0) rfl rfl rfl (Nat.le_of_ble_eq_true rfl) ?_
    refine x_aload_n (pc' := 1) rfl dX10_write_0 rfl ?_
    refine x_iconst (v := 0) (pc' := 2) (by decide) dX10_write_1 rfl ?_
    refine x_puti (pc' := 5) fk_X10_46 pk_9_0 rfl (by first | assumption | exact ⟨by decide, rfl⟩) dX10_write_2 rfl ?_
    refine x_iload_n (pc' := 6) rfl dX10_write_5 rfl ?_
    refine x_iload_n (pc' := 7) rfl dX10_write_6 rfl ?_
    refine x_callSi (As := [.int _, .int _]) (rest := []) (pc' := 10) rfl sk_X10_196 mk_X10_isPlace (by decide) rfl (Nat.le_of_ble_eq_true rfl) dX10_write_7 rfl c_X10_isPlace ?_
    refine x_if_ne (tgt := 16) (pc' := 13) (by decide) dX10_write_10 rfl (fun c10 => absurd (pb_0 h) c10) (fun c10 => ?_)
    refine x_ldc (pc' := 15) kc_X10_169 dX10_write_13 rfl ?_
    exact x_iret rfl dX10_write_15 rfl
set_option maxRecDepth 100000 in
set_option maxHeartbeats 4000000 in
theorem c_X10_tear {σ : St}  : Ct yX10_tear M_X10_tear [.ref 18] σ (some (.int (σ.1 18 8)), pI (pI σ 18 0 0) 18 8 0) := by
  refine ct_of (k := 1) rfl rfl rfl (Nat.le_of_ble_eq_true rfl) ?_
  refine x_aload_n (pc' := 1) rfl dX10_tear_0 rfl ?_
  refine x_iconst (v := 0) (pc' := 2) (by decide) dX10_tear_1 rfl ?_
  refine x_puti (pc' := 5) fk_X10_46 pk_9_0 rfl (by first | assumption | exact ⟨by decide, rfl⟩) dX10_tear_2 rfl ?_
  refine x_aload_n (pc' := 6) rfl dX10_tear_5 rfl ?_
  refine x_get (v := .int _) (pc' := 9) fk_X10_142 (by first | assumption | exact ⟨by decide, rfl⟩) rfl dX10_tear_6 rfl ?_
  refine x_istore_n (lv' := [_, _]) (pc' := 10) (by decide) rfl dX10_tear_9 rfl ?_
  refine x_aload_n (pc' := 11) rfl dX10_tear_10 rfl ?_
  refine x_iconst (v := 0) (pc' := 12) (by decide) dX10_tear_11 rfl ?_
  refine x_puti (pc' := 15) fk_X10_142 pk_9_8 rfl (by first | assumption | exact ⟨by decide, rfl⟩) dX10_tear_12 rfl ?_
  refine x_iload_n (pc' := 16) rfl dX10_tear_15 rfl ?_
  exact x_iret rfl dX10_tear_16 rfl
set_option maxRecDepth 100000 in
set_option maxHeartbeats 4000000 in
theorem a_X10_seed {σ : St} {x : Int32} (hx : 0 ≤ x) : Ct yX10_seed M_X10_seed [.ref 18, .int x] σ (some (.int (σ.2.1 18 7).toInt32), pL (pI σ 18 0 0) 18 7 x.toInt64) := by
  refine ct_of (k := 1) rfl rfl rfl (Nat.le_of_ble_eq_true rfl) ?_
  refine x_aload_n (pc' := 1) rfl dX10_seed_0 rfl ?_
  refine x_iconst (v := 0) (pc' := 2) (by decide) dX10_seed_1 rfl ?_
  refine x_puti (pc' := 5) fk_X10_46 pk_9_0 rfl (by first | assumption | exact ⟨by decide, rfl⟩) dX10_seed_2 rfl ?_
  refine x_iload_n (pc' := 6) rfl dX10_seed_5 rfl ?_
  refine x_if_ge (tgt := 12) (pc' := 9) (by decide) dX10_seed_6 rfl (fun c6 => ?_) (fun c6 => absurd hx c6)
  refine x_aload_n (pc' := 13) rfl dX10_seed_12 rfl ?_
  refine x_get (v := .long _) (pc' := 16) fk_X10_42 (by first | assumption | exact ⟨by decide, rfl⟩) rfl dX10_seed_13 rfl ?_
  refine x_l2i (pc' := 17) dX10_seed_16 rfl ?_
  refine x_istore_n (lv' := [_, _, _]) (pc' := 18) (by decide) rfl dX10_seed_17 rfl ?_
  refine x_aload_n (pc' := 19) rfl dX10_seed_18 rfl ?_
  refine x_iload_n (pc' := 20) rfl dX10_seed_19 rfl ?_
  refine x_i2l (pc' := 21) dX10_seed_20 rfl ?_
  refine x_putl (pc' := 24) fk_X10_42 pk_9_7 rfl (by first | assumption | exact ⟨by decide, rfl⟩) dX10_seed_21 rfl ?_
  refine x_iload_n (pc' := 25) rfl dX10_seed_24 rfl ?_
  exact x_iret rfl dX10_seed_25 rfl
set_option maxRecDepth 100000 in
set_option maxHeartbeats 4000000 in
theorem r_X10_seed {σ : St} {x : Int32} (hx : ¬ 0 ≤ x) : ∃ σ', Ct yX10_seed M_X10_seed [.ref 18, .int x] σ (some (.int (-1000000002)), σ') ∧ ScM σ σ' := by
  refine ⟨_, ?_, ScM.thr σ 0⟩
  refine ct_of (k := 1) rfl rfl rfl (Nat.le_of_ble_eq_true rfl) ?_
  refine x_aload_n (pc' := 1) rfl dX10_seed_0 rfl ?_
  refine x_iconst (v := 0) (pc' := 2) (by decide) dX10_seed_1 rfl ?_
  refine x_puti (pc' := 5) fk_X10_46 pk_9_0 rfl (by first | assumption | exact ⟨by decide, rfl⟩) dX10_seed_2 rfl ?_
  refine x_iload_n (pc' := 6) rfl dX10_seed_5 rfl ?_
  refine x_if_ge (tgt := 12) (pc' := 9) (by decide) dX10_seed_6 rfl (fun c6 => absurd c6 hx) (fun c6 => ?_)
  refine x_ldc (pc' := 11) kc_X10_169 dX10_seed_9 rfl ?_
  exact x_iret rfl dX10_seed_11 rfl
set_option maxRecDepth 100000 in
set_option maxHeartbeats 4000000 in
theorem l_X10_keep {ρ : St} {i : Nat} {out : Option Value × St} (hi : i < 2) (kk : Ex M_X10_keep out 51 [some (.ref 18), some (.int (nI i)), some (.int (nI 338))] [] (pA ρ 21 (cpP (ρ.1 21) (ρ.1 19) i 338))) : ∀ (n k : Nat), k + n = 338 → Ex M_X10_keep out 20 [some (.ref 18), some (.int (nI i)), some (.int (nI k))] [] (pA ρ 21 (cpP (ρ.1 21) (ρ.1 19) i k)) := by
  intro n
  induction n with
  | zero =>
    intro k hk
    obtain rfl : k = 338 := by omega
    refine x_iload_n (pc' := 21) rfl dX10_keep_20 rfl ?_
    refine x_sipush (v := 338) (pc' := 24) (by decide) dX10_keep_21 rfl ?_
    refine x_icmp_ge (tgt := 51) (pc' := 27) (by decide) dX10_keep_24 rfl (fun c24 => ?_) (fun c24 => absurd (by decide) c24)
    exact kk
  | succ n ih =>
    intro k hk
    refine x_iload_n (pc' := 21) rfl dX10_keep_20 rfl ?_
    refine x_sipush (v := 338) (pc' := 24) (by decide) dX10_keep_21 rfl ?_
    refine x_icmp_ge (tgt := 51) (pc' := 27) (by decide) dX10_keep_24 rfl (fun c24 => absurd c24 (nI_ge (b := 338) (by omega) (by decide))) (fun c24 => ?_)
    refine x_aload_n (pc' := 28) rfl dX10_keep_27 rfl ?_
    refine x_get (v := .ref 21) (pc' := 31) fk_X10_16 (by first | assumption | exact ⟨by decide, rfl⟩) rfl dX10_keep_28 rfl ?_
    refine x_sipush (v := 338) (pc' := 34) (by decide) dX10_keep_31 rfl ?_
    refine x_iload_n (pc' := 35) rfl dX10_keep_34 rfl ?_
    refine x_imul (pc' := 36) dX10_keep_35 rfl ?_
    refine x_iload_n (pc' := 37) rfl dX10_keep_36 rfl ?_
    refine x_iadd (pc' := 38) dX10_keep_37 rfl ?_
    refine x_aload_n (pc' := 39) rfl dX10_keep_38 rfl ?_
    refine x_get (v := .ref 19) (pc' := 42) fk_X10_7 (by first | assumption | exact ⟨by decide, rfl⟩) rfl dX10_keep_39 rfl ?_
    refine x_iload_n (pc' := 43) rfl dX10_keep_42 rfl ?_
    refine x_ialdn (N := 338) (n := k) (pc' := 44) (by first | assumption | exact ⟨by decide, rfl⟩) (by decide) rfl (by omega) dX10_keep_43 rfl ?_
    refine x_iastn (N := 676) (n := 338 * i + k) (pc' := 45) (by first | assumption | exact ⟨by decide, rfl⟩) (by decide) (by simp only [lit32, pk_mul, nI_add]) (by omega) dX10_keep_44 rfl ?_
    refine x_st (pA_pI _ _ _ _ _) ?_
    refine x_st (σ' := pA ρ 21 (cpP (ρ.1 21) (ρ.1 19) i (k + 1))) (by rw [pA_ne (by decide), cpP_s]) ?_
    refine x_iinc (lv' := [_, _, _]) (pc' := 48) rfl (nI_1 k) (by decide) rfl dX10_keep_45 rfl ?_
    refine x_goto (tgt := 20) (by decide) dX10_keep_48 ?_
    exact ih (k + 1) (by omega)
set_option maxRecDepth 100000 in
set_option maxHeartbeats 4000000 in
theorem a_X10_keep {σ : St} {i : Nat} (hi : i < 2) : Ct yX10_keep M_X10_keep [.ref 18, .int (nI i)] σ (some (.int 1), pI (pI (pL (pA (pI σ 18 0 0) 21 (cpP (σ.1 21) (σ.1 19) i 338)) 23 i (σ.2.1 18 7)) 22 i 1) 18 3 0) := by
  refine ct_of (k := 1) rfl rfl rfl (Nat.le_of_ble_eq_true rfl) ?_
  refine x_aload_n (pc' := 1) rfl dX10_keep_0 rfl ?_
  refine x_iconst (v := 0) (pc' := 2) (by decide) dX10_keep_1 rfl ?_
  refine x_puti (pc' := 5) fk_X10_46 pk_9_0 rfl (by first | assumption | exact ⟨by decide, rfl⟩) dX10_keep_2 rfl ?_
  refine x_iload_n (pc' := 6) rfl dX10_keep_5 rfl ?_
  refine x_i2l (pc' := 7) dX10_keep_6 rfl ?_
  refine x_lconst (v := 0) (pc' := 8) (by decide) dX10_keep_7 rfl ?_
  refine x_lconst (v := 1) (pc' := 9) (by decide) dX10_keep_8 rfl ?_
  refine x_callSi (As := [.long _, .long _, .long _]) (rest := []) (pc' := 12) rfl sk_X10_50 mk_X10_in (by decide) rfl (Nat.le_of_ble_eq_true rfl) dX10_keep_9 rfl c_X10_in ?_
  refine x_if_ne (tgt := 18) (pc' := 15) (by decide) dX10_keep_12 rfl (fun c12 => ?_) (fun c12 => absurd c12 (by rw [b1 ((in_k _ (N := 1) (by decide) (by decide)).mpr ⟨nI_pos' (by omega), nI_lt (b := 2) hi (by decide)⟩)]; decide))
  refine x_iconst (v := 0) (pc' := 19) (by decide) dX10_keep_18 rfl ?_
  refine x_istore_n (lv' := [_, _, _]) (pc' := 20) (by decide) rfl dX10_keep_19 rfl ?_
  refine x_st (σ' := pA (pI σ 18 0 0) 21 (cpP (σ.1 21) (σ.1 19) i 0)) (by rw [cpP_0]; exact (pA_self (pI σ 18 0 0) 21).symm) ?_
  refine l_X10_keep (ρ := pI σ 18 0 0) hi ?_ _ 0 (Nat.zero_add _)
  refine x_aload_n (pc' := 52) rfl dX10_keep_51 rfl ?_
  refine x_get (v := .ref 23) (pc' := 55) fk_X10_23 (by first | assumption | exact ⟨by decide, rfl⟩) rfl dX10_keep_52 rfl ?_
  refine x_iload_n (pc' := 56) rfl dX10_keep_55 rfl ?_
  refine x_aload_n (pc' := 57) rfl dX10_keep_56 rfl ?_
  refine x_get (v := .long _) (pc' := 60) fk_X10_42 (by first | assumption | exact ⟨by decide, rfl⟩) rfl dX10_keep_57 rfl ?_
  refine x_lastn (N := 2) (n := i) (pc' := 61) (by first | assumption | exact ⟨by decide, rfl⟩) (by decide) rfl (by omega) dX10_keep_60 rfl ?_
  refine x_aload_n (pc' := 62) rfl dX10_keep_61 rfl ?_
  refine x_get (v := .ref 22) (pc' := 65) fk_X10_19 (by first | assumption | exact ⟨by decide, rfl⟩) rfl dX10_keep_62 rfl ?_
  refine x_iload_n (pc' := 66) rfl dX10_keep_65 rfl ?_
  refine x_iconst (v := 1) (pc' := 67) (by decide) dX10_keep_66 rfl ?_
  refine x_zastn (N := 2) (n := i) (pc' := 68) (by first | assumption | exact ⟨by decide, rfl⟩) (by decide) rfl (by omega) rfl dX10_keep_67 rfl ?_
  refine x_aload_n (pc' := 69) rfl dX10_keep_68 rfl ?_
  refine x_iconst (v := 0) (pc' := 70) (by decide) dX10_keep_69 rfl ?_
  refine x_puti (pc' := 73) fk_X10_166 pk_9_3 rfl (by first | assumption | exact ⟨by decide, rfl⟩) dX10_keep_70 rfl ?_
  refine x_iconst (v := 1) (pc' := 74) (by decide) dX10_keep_73 rfl ?_
  exact x_iret rfl dX10_keep_74 rfl
set_option maxRecDepth 100000 in
set_option maxHeartbeats 4000000 in
theorem r_X10_keep {σ : St} {x : Int32} (hx : ¬ (0 ≤ x ∧ x < 2)) : ∃ σ', Ct yX10_keep M_X10_keep [.ref 18, .int x] σ (some (.int (-1000000001)), σ') ∧ ScM σ σ' := by
  refine ⟨_, ?_, ScM.thr σ 0⟩
  refine ct_of (k := 1) rfl rfl rfl (Nat.le_of_ble_eq_true rfl) ?_
  refine x_aload_n (pc' := 1) rfl dX10_keep_0 rfl ?_
  refine x_iconst (v := 0) (pc' := 2) (by decide) dX10_keep_1 rfl ?_
  refine x_puti (pc' := 5) fk_X10_46 pk_9_0 rfl (by first | assumption | exact ⟨by decide, rfl⟩) dX10_keep_2 rfl ?_
  refine x_iload_n (pc' := 6) rfl dX10_keep_5 rfl ?_
  refine x_i2l (pc' := 7) dX10_keep_6 rfl ?_
  refine x_lconst (v := 0) (pc' := 8) (by decide) dX10_keep_7 rfl ?_
  refine x_lconst (v := 1) (pc' := 9) (by decide) dX10_keep_8 rfl ?_
  refine x_callSi (As := [.long _, .long _, .long _]) (rest := []) (pc' := 12) rfl sk_X10_50 mk_X10_in (by decide) rfl (Nat.le_of_ble_eq_true rfl) dX10_keep_9 rfl c_X10_in ?_
  refine x_if_ne (tgt := 18) (pc' := 15) (by decide) dX10_keep_12 rfl (fun c12 => absurd (b0 (fun q => hx ((in_k x (N := 1) (by decide) (by decide)).mp q))) c12) (fun c12 => ?_)
  refine x_ldc (pc' := 17) kc_X10_170 dX10_keep_15 rfl ?_
  exact x_iret rfl dX10_keep_17 rfl
set_option maxRecDepth 100000 in
set_option maxHeartbeats 4000000 in
theorem l_X10_goBack {ρ : St} {i : Nat} {out : Option Value × St} (hi : i < 2) (kk : Ex M_X10_goBack out 63 [some (.ref 18), some (.int (nI i)), some (.int (nI 338))] [] (pA ρ 19 (bkP (ρ.1 19) (fun j => ρ.1 21 (338 * i + j)) 338))) : ∀ (n k : Nat), k + n = 338 → Ex M_X10_goBack out 32 [some (.ref 18), some (.int (nI i)), some (.int (nI k))] [] (pA ρ 19 (bkP (ρ.1 19) (fun j => ρ.1 21 (338 * i + j)) k)) := by
  intro n
  induction n with
  | zero =>
    intro k hk
    obtain rfl : k = 338 := by omega
    refine x_iload_n (pc' := 33) rfl dX10_goBack_32 rfl ?_
    refine x_sipush (v := 338) (pc' := 36) (by decide) dX10_goBack_33 rfl ?_
    refine x_icmp_ge (tgt := 63) (pc' := 39) (by decide) dX10_goBack_36 rfl (fun c36 => ?_) (fun c36 => absurd (by decide) c36)
    exact kk
  | succ n ih =>
    intro k hk
    refine x_iload_n (pc' := 33) rfl dX10_goBack_32 rfl ?_
    refine x_sipush (v := 338) (pc' := 36) (by decide) dX10_goBack_33 rfl ?_
    refine x_icmp_ge (tgt := 63) (pc' := 39) (by decide) dX10_goBack_36 rfl (fun c36 => absurd c36 (nI_ge (b := 338) (by omega) (by decide))) (fun c36 => ?_)
    refine x_aload_n (pc' := 40) rfl dX10_goBack_39 rfl ?_
    refine x_get (v := .ref 19) (pc' := 43) fk_X10_7 (by first | assumption | exact ⟨by decide, rfl⟩) rfl dX10_goBack_40 rfl ?_
    refine x_iload_n (pc' := 44) rfl dX10_goBack_43 rfl ?_
    refine x_aload_n (pc' := 45) rfl dX10_goBack_44 rfl ?_
    refine x_get (v := .ref 21) (pc' := 48) fk_X10_16 (by first | assumption | exact ⟨by decide, rfl⟩) rfl dX10_goBack_45 rfl ?_
    refine x_sipush (v := 338) (pc' := 51) (by decide) dX10_goBack_48 rfl ?_
    refine x_iload_n (pc' := 52) rfl dX10_goBack_51 rfl ?_
    refine x_imul (pc' := 53) dX10_goBack_52 rfl ?_
    refine x_iload_n (pc' := 54) rfl dX10_goBack_53 rfl ?_
    refine x_iadd (pc' := 55) dX10_goBack_54 rfl ?_
    refine x_ialdn (N := 676) (n := 338 * i + k) (pc' := 56) (by first | assumption | exact ⟨by decide, rfl⟩) (by decide) (by simp only [lit32, pk_mul, nI_add]) (by omega) dX10_goBack_55 rfl ?_
    refine x_iastn (N := 338) (n := k) (pc' := 57) (by first | assumption | exact ⟨by decide, rfl⟩) (by decide) rfl (by omega) dX10_goBack_56 rfl ?_
    refine x_st (pA_pI _ _ _ _ _) ?_
    refine x_st (σ' := pA ρ 19 (bkP (ρ.1 19) (fun j => ρ.1 21 (338 * i + j)) (k + 1))) (by rw [pA_ne (by decide)]; exact congrArg (pA ρ 19) (bkP_s (ρ.1 19) (fun j => ρ.1 21 (338 * i + j)) k)) ?_
    refine x_iinc (lv' := [_, _, _]) (pc' := 60) rfl (nI_1 k) (by decide) rfl dX10_goBack_57 rfl ?_
    refine x_goto (tgt := 32) (by decide) dX10_goBack_60 ?_
    exact ih (k + 1) (by omega)
set_option maxRecDepth 100000 in
set_option maxHeartbeats 4000000 in
theorem a_X10_goBack {σ : St} {i : Nat} (hi : i < 2) (hk : ¬ σ.1 22 i = 0) : Ct yX10_goBack M_X10_goBack [.ref 18, .int (nI i)] σ (some (.int 1), pI (pL (pA (pI σ 18 0 0) 19 (bkP (σ.1 19) (fun j => σ.1 21 (338 * i + j)) 338)) 18 7 (σ.2.1 23 i)) 18 3 0) := by
  refine ct_of (k := 1) rfl rfl rfl (Nat.le_of_ble_eq_true rfl) ?_
  refine x_aload_n (pc' := 1) rfl dX10_goBack_0 rfl ?_
  refine x_iconst (v := 0) (pc' := 2) (by decide) dX10_goBack_1 rfl ?_
  refine x_puti (pc' := 5) fk_X10_46 pk_9_0 rfl (by first | assumption | exact ⟨by decide, rfl⟩) dX10_goBack_2 rfl ?_
  refine x_iload_n (pc' := 6) rfl dX10_goBack_5 rfl ?_
  refine x_i2l (pc' := 7) dX10_goBack_6 rfl ?_
  refine x_lconst (v := 0) (pc' := 8) (by decide) dX10_goBack_7 rfl ?_
  refine x_lconst (v := 1) (pc' := 9) (by decide) dX10_goBack_8 rfl ?_
  refine x_callSi (As := [.long _, .long _, .long _]) (rest := []) (pc' := 12) rfl sk_X10_50 mk_X10_in (by decide) rfl (Nat.le_of_ble_eq_true rfl) dX10_goBack_9 rfl c_X10_in ?_
  refine x_if_ne (tgt := 18) (pc' := 15) (by decide) dX10_goBack_12 rfl (fun c12 => ?_) (fun c12 => absurd c12 (by rw [b1 ((in_k _ (N := 1) (by decide) (by decide)).mpr ⟨nI_pos' (by omega), nI_lt (b := 2) hi (by decide)⟩)]; decide))
  refine x_aload_n (pc' := 19) rfl dX10_goBack_18 rfl ?_
  refine x_get (v := .ref 22) (pc' := 22) fk_X10_19 (by first | assumption | exact ⟨by decide, rfl⟩) rfl dX10_goBack_19 rfl ?_
  refine x_iload_n (pc' := 23) rfl dX10_goBack_22 rfl ?_
  refine x_zaldn (N := 2) (n := i) (pc' := 24) (by first | assumption | exact ⟨by decide, rfl⟩) (by decide) rfl (by omega) dX10_goBack_23 rfl ?_
  refine x_if_ne (tgt := 30) (pc' := 27) (by decide) dX10_goBack_24 rfl (fun c24 => ?_) (fun c24 => absurd c24 hk)
  refine x_iconst (v := 0) (pc' := 31) (by decide) dX10_goBack_30 rfl ?_
  refine x_istore_n (lv' := [_, _, _]) (pc' := 32) (by decide) rfl dX10_goBack_31 rfl ?_
  refine x_st (σ' := pA (pI σ 18 0 0) 19 (bkP (σ.1 19) (fun j => σ.1 21 (338 * i + j)) 0)) (by rw [bkP_0]; exact (pA_self (pI σ 18 0 0) 19).symm) ?_
  refine l_X10_goBack (ρ := pI σ 18 0 0) hi ?_ _ 0 (Nat.zero_add _)
  refine x_aload_n (pc' := 64) rfl dX10_goBack_63 rfl ?_
  refine x_aload_n (pc' := 65) rfl dX10_goBack_64 rfl ?_
  refine x_get (v := .ref 23) (pc' := 68) fk_X10_23 (by first | assumption | exact ⟨by decide, rfl⟩) rfl dX10_goBack_65 rfl ?_
  refine x_iload_n (pc' := 69) rfl dX10_goBack_68 rfl ?_
  refine x_laldn (N := 2) (n := i) (pc' := 70) (by first | assumption | exact ⟨by decide, rfl⟩) (by decide) rfl (by omega) dX10_goBack_69 rfl ?_
  refine x_putl (pc' := 73) fk_X10_42 pk_9_7 rfl (by first | assumption | exact ⟨by decide, rfl⟩) dX10_goBack_70 rfl ?_
  refine x_aload_n (pc' := 74) rfl dX10_goBack_73 rfl ?_
  refine x_iconst (v := 0) (pc' := 75) (by decide) dX10_goBack_74 rfl ?_
  refine x_puti (pc' := 78) fk_X10_166 pk_9_3 rfl (by first | assumption | exact ⟨by decide, rfl⟩) dX10_goBack_75 rfl ?_
  refine x_iconst (v := 1) (pc' := 79) (by decide) dX10_goBack_78 rfl ?_
  exact x_iret rfl dX10_goBack_79 rfl
set_option maxRecDepth 100000 in
set_option maxHeartbeats 4000000 in
theorem r_X10_goBack {σ : St} {x : Int32} (hn : ¬ ((0 ≤ x ∧ x < 2) ∧ ¬ σ.1 22 x.toNatClampNeg = 0)) : ∃ σ', Ct yX10_goBack M_X10_goBack [.ref 18, .int x] σ (some (.int (pif (0 ≤ x ∧ x < 2) (-1000000003) (-1000000001))), σ') ∧ ScM σ σ' := by
  refine ⟨_, ?_, ScM.thr σ 0⟩
  by_cases h : 0 ≤ x ∧ x < 2
  · rw [pif_t h]
    obtain ⟨i, hi, rfl⟩ := i_in (n := 2) (by decide) h.1 h.2
    have h0 : σ.1 22 i = 0 := Classical.not_not.mp (fun q => hn ⟨h, by rw [nI_clamp (by omega)]; exact q⟩)
    refine ct_of (k := 1) rfl rfl rfl (Nat.le_of_ble_eq_true rfl) ?_
    refine x_aload_n (pc' := 1) rfl dX10_goBack_0 rfl ?_
    refine x_iconst (v := 0) (pc' := 2) (by decide) dX10_goBack_1 rfl ?_
    refine x_puti (pc' := 5) fk_X10_46 pk_9_0 rfl (by first | assumption | exact ⟨by decide, rfl⟩) dX10_goBack_2 rfl ?_
    refine x_iload_n (pc' := 6) rfl dX10_goBack_5 rfl ?_
    refine x_i2l (pc' := 7) dX10_goBack_6 rfl ?_
    refine x_lconst (v := 0) (pc' := 8) (by decide) dX10_goBack_7 rfl ?_
    refine x_lconst (v := 1) (pc' := 9) (by decide) dX10_goBack_8 rfl ?_
    refine x_callSi (As := [.long _, .long _, .long _]) (rest := []) (pc' := 12) rfl sk_X10_50 mk_X10_in (by decide) rfl (Nat.le_of_ble_eq_true rfl) dX10_goBack_9 rfl c_X10_in ?_
    refine x_if_ne (tgt := 18) (pc' := 15) (by decide) dX10_goBack_12 rfl (fun c12 => ?_) (fun c12 => absurd c12 (by rw [b1 ((in_k _ (N := 1) (by decide) (by decide)).mpr h)]; decide))
    refine x_aload_n (pc' := 19) rfl dX10_goBack_18 rfl ?_
    refine x_get (v := .ref 22) (pc' := 22) fk_X10_19 (by first | assumption | exact ⟨by decide, rfl⟩) rfl dX10_goBack_19 rfl ?_
    refine x_iload_n (pc' := 23) rfl dX10_goBack_22 rfl ?_
    refine x_zaldn (N := 2) (n := i) (pc' := 24) (by first | assumption | exact ⟨by decide, rfl⟩) (by decide) rfl (by omega) dX10_goBack_23 rfl ?_
    refine x_if_ne (tgt := 30) (pc' := 27) (by decide) dX10_goBack_24 rfl (fun c24 => absurd h0 c24) (fun c24 => ?_)
    refine x_ldc (pc' := 29) kc_X10_221 dX10_goBack_27 rfl ?_
    exact x_iret rfl dX10_goBack_29 rfl
  · rw [pif_f h]
    refine ct_of (k := 1) rfl rfl rfl (Nat.le_of_ble_eq_true rfl) ?_
    refine x_aload_n (pc' := 1) rfl dX10_goBack_0 rfl ?_
    refine x_iconst (v := 0) (pc' := 2) (by decide) dX10_goBack_1 rfl ?_
    refine x_puti (pc' := 5) fk_X10_46 pk_9_0 rfl (by first | assumption | exact ⟨by decide, rfl⟩) dX10_goBack_2 rfl ?_
    refine x_iload_n (pc' := 6) rfl dX10_goBack_5 rfl ?_
    refine x_i2l (pc' := 7) dX10_goBack_6 rfl ?_
    refine x_lconst (v := 0) (pc' := 8) (by decide) dX10_goBack_7 rfl ?_
    refine x_lconst (v := 1) (pc' := 9) (by decide) dX10_goBack_8 rfl ?_
    refine x_callSi (As := [.long _, .long _, .long _]) (rest := []) (pc' := 12) rfl sk_X10_50 mk_X10_in (by decide) rfl (Nat.le_of_ble_eq_true rfl) dX10_goBack_9 rfl c_X10_in ?_
    refine x_if_ne (tgt := 18) (pc' := 15) (by decide) dX10_goBack_12 rfl (fun c12 => absurd (b0 (fun q => h ((in_k x (N := 1) (by decide) (by decide)).mp q))) c12) (fun c12 => ?_)
    refine x_ldc (pc' := 17) kc_X10_170 dX10_goBack_15 rfl ?_
    exact x_iret rfl dX10_goBack_17 rfl
def sd (s : Nat) : Nat := (s * 1103515245 + 12345) % 2 ^ 31
theorem sd_lt (s : Nat) : sd s < 2 ^ 31 := Nat.mod_lt _ (by decide)
theorem lN_mask (x : Nat) : lN x &&& 2147483647 = lN (x % 2 ^ 31) := by
  apply Int64.toBitVec_inj.mp
  rw [Int64.toBitVec_and]
  show BitVec.ofNat 64 x &&& BitVec.ofNat 64 2147483647 = BitVec.ofNat 64 (x % 2 ^ 31)
  apply BitVec.eq_of_toNat_eq
  rw [BitVec.toNat_and, BitVec.toNat_ofNat, BitVec.toNat_ofNat, BitVec.toNat_ofNat, show 2147483647 % 2 ^ 64 = 2 ^ 31 - 1 from rfl, Nat.and_two_pow_sub_one_eq_mod, Nat.mod_mod_of_dvd _ (by decide), Nat.mod_mod_of_dvd' (by decide)]
theorem sd_l {s : Nat} : (lN s * 1103515245 + 12345) &&& 2147483647 = lN (sd s) := by
  rw [show (1103515245 : Int64) = lN 1103515245 from rfl, show (12345 : Int64) = lN 12345 from rfl, lN_mul, lN_add, lN_mask]
  rfl
set_option maxRecDepth 100000 in
set_option maxHeartbeats 4000000 in
theorem c_X10_draw {σ : St} {x : Int32} {s m : Nat} (hs : σ.2.1 18 7 = lN s) (hx : x = nI m) (h0 : 0 < m) (hm : m < 2 ^ 31) : Ct yX10_draw M_X10_draw [.ref 18, .int x] σ (some (.int (nI (sd s / 65536 % m))), pL σ 18 7 (lN (sd s))) := by
  subst hx
  refine ct_of (k := 0) rfl rfl rfl (Nat.le_of_ble_eq_true rfl) ?_
  refine x_aload_n (pc' := 1) rfl dX10_draw_0 rfl ?_
  refine x_aload_n (pc' := 2) rfl dX10_draw_1 rfl ?_
  refine x_get (v := .long _) (pc' := 5) fk_X10_42 (by first | assumption | exact ⟨by decide, rfl⟩) rfl dX10_draw_2 rfl ?_
  refine x_ldc2 (pc' := 8) kl_X10_237 dX10_draw_5 rfl ?_
  refine x_lmul (pc' := 9) dX10_draw_8 rfl ?_
  refine x_ldc2 (pc' := 12) kl_X10_239 dX10_draw_9 rfl ?_
  refine x_ladd (pc' := 13) dX10_draw_12 rfl ?_
  refine x_ldc2 (pc' := 16) kl_X10_241 dX10_draw_13 rfl ?_
  refine x_land (pc' := 17) dX10_draw_16 rfl ?_
  refine x_topl (y := lN (sd s)) (by rw [hs]; exact sd_l) ?_
  refine x_putl (pc' := 20) fk_X10_42 pk_9_7 rfl (by first | assumption | exact ⟨by decide, rfl⟩) dX10_draw_17 rfl ?_
  refine x_aload_n (pc' := 21) rfl dX10_draw_20 rfl ?_
  refine x_get (v := .long _) (pc' := 24) fk_X10_42 (by first | assumption | exact ⟨by decide, rfl⟩) rfl dX10_draw_21 rfl ?_
  refine x_topl (y := lN (sd s)) rfl ?_
  refine x_ldc2 (pc' := 27) kl_X10_243 dX10_draw_24 rfl ?_
  refine x_ldiv (pc' := 28) (by decide) dX10_draw_27 rfl ?_
  refine x_topl (y := lN (sd s / 65536)) (pk_lDiv (b := 65536) (by have := sd_lt s; omega) (by decide) (by decide)) ?_
  refine x_iload_n (pc' := 29) rfl dX10_draw_28 rfl ?_
  refine x_i2l (pc' := 30) dX10_draw_29 rfl ?_
  refine x_topl (nI_l hm) ?_
  refine x_lrem (pc' := 31) (by rw [show (0 : Int64) = lN 0 from rfl, lN_eq hm (by decide)]; omega) dX10_draw_30 rfl ?_
  refine x_topl (y := lN (sd s / 65536 % m)) (pk_lRem (by have := sd_lt s; omega) h0 (by omega)) ?_
  refine x_l2i (pc' := 32) dX10_draw_31 rfl ?_
  exact x_iret rfl dX10_draw_32 (ret_i (lN_i _))
