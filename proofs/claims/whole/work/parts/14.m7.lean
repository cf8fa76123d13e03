noncomputable def nmK (v : Nat → Int32) (g k : Nat) : Nat := pif (¬ oV v g (k % fN v g 4) (k / fN v g 4) 0 = 0 ∨ ¬ oV v g (k % fN v g 4) (k / fN v g 4) 1 = 0) 1 0
noncomputable def nmG (v : Nat → Int32) (g : Nat) : Nat := sumN (nmK v g) (fN v g 4 * fN v g 5)
noncomputable def nmS (v : Nat → Int32) : Nat := sumN (nmG v) (cN v)
set_option maxRecDepth 100000 in
set_option maxHeartbeats 4000000 in
theorem l_X10_nm1 {σ : St} {G a : Nat} {out : Option Value × St} (hv : Ok (σ.1 19)) (hG : G < cN (σ.1 19)) (kk : ∀ A B, Ex M_X10_nodesMoved out 93 [some (.ref 18), some (.int (nI (a + nmG (σ.1 19) G))), some (.int (nI G)), some (.int (nI (fN (σ.1 19) G 4 * fN (σ.1 19) G 5))), A, B] [] σ) : ∀ (n k : Nat) (A B : Option Value), k + n = fN (σ.1 19) G 4 * fN (σ.1 19) G 5 → Ex M_X10_nodesMoved out 16 [some (.ref 18), some (.int (nI (a + sumN (nmK (σ.1 19) G) k))), some (.int (nI G)), some (.int (nI k)), A, B] [] σ := by
  intro n
  induction n with
  | zero =>
    intro k A B hk
    obtain ⟨g6, c5, r5, c2, r2, s1, s64⟩ := hv.b hG
    have hf := hv.F hG
    have hm : fN (σ.1 19) G 4 * fN (σ.1 19) G 5 ≤ 5 * 5 := Nat.mul_le_mul c5 r5
    have em : σ.1 19 (2 + 6 * G + 4) * σ.1 19 (2 + 6 * G + 5) = nI (fN (σ.1 19) G 4 * fN (σ.1 19) G 5) := by rw [hf.at (by omega) (by omega), hf.at (by omega) (by omega)]; exact pk_mul _ _
    obtain rfl : k = fN (σ.1 19) G 4 * fN (σ.1 19) G 5 := by omega
    refine x_iload_n (pc' := 17) rfl dX10_nodesMoved_16 rfl ?_
    refine x_aload_n (pc' := 18) rfl dX10_nodesMoved_17 rfl ?_
    refine x_iload_n (pc' := 19) rfl dX10_nodesMoved_18 rfl ?_
    refine x_iconst (v := 4) (pc' := 20) (by decide) dX10_nodesMoved_19 rfl ?_
    refine x_callVi (As := [.int _, .int _]) (rest := [.int _]) (ci := 9) (pc' := 23) rfl vk_X10_58 mk_X10_its (by decide) (by first | assumption | exact ⟨by decide, rfl⟩) (by decide) rfl (Nat.le_of_ble_eq_true rfl) dX10_nodesMoved_20 rfl (c_X10_its (E := 4) rfl rfl (by omega)) ?_
    refine x_aload_n (pc' := 24) rfl dX10_nodesMoved_23 rfl ?_
    refine x_iload_n (pc' := 25) rfl dX10_nodesMoved_24 rfl ?_
    refine x_iconst (v := 5) (pc' := 26) (by decide) dX10_nodesMoved_25 rfl ?_
    refine x_callVi (As := [.int _, .int _]) (rest := [.int _, .int _]) (ci := 9) (pc' := 29) rfl vk_X10_58 mk_X10_its (by decide) (by first | assumption | exact ⟨by decide, rfl⟩) (by decide) rfl (Nat.le_of_ble_eq_true rfl) dX10_nodesMoved_26 rfl (c_X10_its (E := 5) rfl rfl (by omega)) ?_
    refine x_imul (pc' := 30) dX10_nodesMoved_29 rfl ?_
    refine x_icmp_ge (tgt := 93) (pc' := 33) (by decide) dX10_nodesMoved_30 rfl (fun c30 => ?_) (fun c30 => absurd (by rw [em]; exact nI_le (by omega) (by omega)) c30)
    exact kk _ _
  | succ n ih =>
    intro k A B hk
    obtain ⟨g6, c5, r5, c2, r2, s1, s64⟩ := hv.b hG
    have hf := hv.F hG
    have hm : fN (σ.1 19) G 4 * fN (σ.1 19) G 5 ≤ 5 * 5 := Nat.mul_le_mul c5 r5
    have em : σ.1 19 (2 + 6 * G + 4) * σ.1 19 (2 + 6 * G + 5) = nI (fN (σ.1 19) G 4 * fN (σ.1 19) G 5) := by rw [hf.at (by omega) (by omega), hf.at (by omega) (by omega)]; exact pk_mul _ _
    obtain ⟨k1, k2⟩ := kmod (k := k) (C := fN (σ.1 19) G 4) (R := fN (σ.1 19) G 5) (by omega) (by omega)
    refine x_iload_n (pc' := 17) rfl dX10_nodesMoved_16 rfl ?_
    refine x_aload_n (pc' := 18) rfl dX10_nodesMoved_17 rfl ?_
    refine x_iload_n (pc' := 19) rfl dX10_nodesMoved_18 rfl ?_
    refine x_iconst (v := 4) (pc' := 20) (by decide) dX10_nodesMoved_19 rfl ?_
    refine x_callVi (As := [.int _, .int _]) (rest := [.int _]) (ci := 9) (pc' := 23) rfl vk_X10_58 mk_X10_its (by decide) (by first | assumption | exact ⟨by decide, rfl⟩) (by decide) rfl (Nat.le_of_ble_eq_true rfl) dX10_nodesMoved_20 rfl (c_X10_its (E := 4) rfl rfl (by omega)) ?_
    refine x_aload_n (pc' := 24) rfl dX10_nodesMoved_23 rfl ?_
    refine x_iload_n (pc' := 25) rfl dX10_nodesMoved_24 rfl ?_
    refine x_iconst (v := 5) (pc' := 26) (by decide) dX10_nodesMoved_25 rfl ?_
    refine x_callVi (As := [.int _, .int _]) (rest := [.int _, .int _]) (ci := 9) (pc' := 29) rfl vk_X10_58 mk_X10_its (by decide) (by first | assumption | exact ⟨by decide, rfl⟩) (by decide) rfl (Nat.le_of_ble_eq_true rfl) dX10_nodesMoved_26 rfl (c_X10_its (E := 5) rfl rfl (by omega)) ?_
    refine x_imul (pc' := 30) dX10_nodesMoved_29 rfl ?_
    refine x_icmp_ge (tgt := 93) (pc' := 33) (by decide) dX10_nodesMoved_30 rfl (fun c30 => absurd c30 (by rw [em]; exact nI_ge (by omega) (by omega))) (fun c30 => ?_)
    refine x_iload_n (pc' := 34) rfl dX10_nodesMoved_33 rfl ?_
    refine x_aload_n (pc' := 35) rfl dX10_nodesMoved_34 rfl ?_
    refine x_iload_n (pc' := 36) rfl dX10_nodesMoved_35 rfl ?_
    refine x_iconst (v := 4) (pc' := 37) (by decide) dX10_nodesMoved_36 rfl ?_
    refine x_callVi (As := [.int _, .int _]) (rest := [.int _]) (ci := 9) (pc' := 40) rfl vk_X10_58 mk_X10_its (by decide) (by first | assumption | exact ⟨by decide, rfl⟩) (by decide) rfl (Nat.le_of_ble_eq_true rfl) dX10_nodesMoved_37 rfl (c_X10_its (E := 4) rfl rfl (by omega)) ?_
    refine x_irem (pc' := 41) (by rw [hf.at (by omega) (by omega)]; exact nI_ne0 (by omega) (by omega)) dX10_nodesMoved_40 rfl ?_
    refine x_top (y := nI (k % fN (σ.1 19) G 4)) (by rw [hf.at (by omega) (by omega)]; exact pk_rem (by omega) (by omega) (by omega)) ?_
    refine x_istore (lv' := [_, _, _, _, _, _]) (pc' := 43) (by decide) rfl dX10_nodesMoved_41 rfl ?_
    refine x_iload_n (pc' := 44) rfl dX10_nodesMoved_43 rfl ?_
    refine x_aload_n (pc' := 45) rfl dX10_nodesMoved_44 rfl ?_
    refine x_iload_n (pc' := 46) rfl dX10_nodesMoved_45 rfl ?_
    refine x_iconst (v := 4) (pc' := 47) (by decide) dX10_nodesMoved_46 rfl ?_
    refine x_callVi (As := [.int _, .int _]) (rest := [.int _]) (ci := 9) (pc' := 50) rfl vk_X10_58 mk_X10_its (by decide) (by first | assumption | exact ⟨by decide, rfl⟩) (by decide) rfl (Nat.le_of_ble_eq_true rfl) dX10_nodesMoved_47 rfl (c_X10_its (E := 4) rfl rfl (by omega)) ?_
    refine x_idiv (pc' := 51) (by rw [hf.at (by omega) (by omega)]; exact nI_ne0 (by omega) (by omega)) dX10_nodesMoved_50 rfl ?_
    refine x_top (y := nI (k / fN (σ.1 19) G 4)) (by rw [hf.at (by omega) (by omega)]; exact pk_div (by omega) (by omega) (by omega)) ?_
    refine x_istore (lv' := [_, _, _, _, _, _]) (pc' := 53) (by decide) rfl dX10_nodesMoved_51 rfl ?_
    refine x_iload_n (pc' := 54) rfl dX10_nodesMoved_53 rfl ?_
    refine x_aload_n (pc' := 55) rfl dX10_nodesMoved_54 rfl ?_
    refine x_iload_n (pc' := 56) rfl dX10_nodesMoved_55 rfl ?_
    refine x_iload (pc' := 58) rfl dX10_nodesMoved_56 rfl ?_
    refine x_iload (pc' := 60) rfl dX10_nodesMoved_58 rfl ?_
    refine x_iconst (v := 0) (pc' := 61) (by decide) dX10_nodesMoved_60 rfl ?_
    refine x_callVi (As := [.int _, .int _, .int _, .int _]) (rest := [.int _]) (ci := 9) (pc' := 64) rfl vk_X10_87 mk_X10_off (by decide) (by first | assumption | exact ⟨by decide, rfl⟩) (by decide) rfl (Nat.le_of_ble_eq_true rfl) dX10_nodesMoved_61 rfl (c_X10_off (W := 0) rfl rfl rfl rfl (by omega)) ?_
    refine x_if_ne (tgt := 80) (pc' := 67) (by decide) dX10_nodesMoved_64 rfl (fun c64 => ?_) (fun c64 => ?_)
    · refine x_iconst (v := 1) (pc' := 81) (by decide) dX10_nodesMoved_80 rfl ?_
      refine x_goto (tgt := 85) (by decide) dX10_nodesMoved_81 ?_
      refine x_top (y := nI (nmK (σ.1 19) G k)) (by rw [nmK, pif_t (Or.inl c64)]; rfl) ?_
      refine x_iadd (pc' := 86) dX10_nodesMoved_85 rfl ?_
      refine x_top (y := nI (a + sumN (nmK (σ.1 19) G) (k + 1))) (by rw [nI_add, Nat.add_assoc]; rfl) ?_
      refine x_istore_n (lv' := [_, _, _, _, _, _]) (pc' := 87) (by decide) rfl dX10_nodesMoved_86 rfl ?_
      refine x_iinc (lv' := [_, _, _, _, _, _]) (pc' := 90) rfl (nI_1 k) (by decide) rfl dX10_nodesMoved_87 rfl ?_
      refine x_goto (tgt := 16) (by decide) dX10_nodesMoved_90 ?_
      exact ih (k + 1) _ _ (by omega)
    · refine x_aload_n (pc' := 68) rfl dX10_nodesMoved_67 rfl ?_
      refine x_iload_n (pc' := 69) rfl dX10_nodesMoved_68 rfl ?_
      refine x_iload (pc' := 71) rfl dX10_nodesMoved_69 rfl ?_
      refine x_iload (pc' := 73) rfl dX10_nodesMoved_71 rfl ?_
      refine x_iconst (v := 1) (pc' := 74) (by decide) dX10_nodesMoved_73 rfl ?_
      refine x_callVi (As := [.int _, .int _, .int _, .int _]) (rest := [.int _]) (ci := 9) (pc' := 77) rfl vk_X10_87 mk_X10_off (by decide) (by first | assumption | exact ⟨by decide, rfl⟩) (by decide) rfl (Nat.le_of_ble_eq_true rfl) dX10_nodesMoved_74 rfl (c_X10_off (W := 1) rfl rfl rfl rfl (by omega)) ?_
      refine x_if_eq (tgt := 84) (pc' := 80) (by decide) dX10_nodesMoved_77 rfl (fun c77 => ?_) (fun c77 => ?_)
      · refine x_iconst (v := 0) (pc' := 85) (by decide) dX10_nodesMoved_84 rfl ?_
        refine x_top (y := nI (nmK (σ.1 19) G k)) (by rw [nmK, pif_f (fun q => q.elim (fun h => h c64) (fun h => h c77))]; rfl) ?_
        refine x_iadd (pc' := 86) dX10_nodesMoved_85 rfl ?_
        refine x_top (y := nI (a + sumN (nmK (σ.1 19) G) (k + 1))) (by rw [nI_add, Nat.add_assoc]; rfl) ?_
        refine x_istore_n (lv' := [_, _, _, _, _, _]) (pc' := 87) (by decide) rfl dX10_nodesMoved_86 rfl ?_
        refine x_iinc (lv' := [_, _, _, _, _, _]) (pc' := 90) rfl (nI_1 k) (by decide) rfl dX10_nodesMoved_87 rfl ?_
        refine x_goto (tgt := 16) (by decide) dX10_nodesMoved_90 ?_
        exact ih (k + 1) _ _ (by omega)
      · refine x_iconst (v := 1) (pc' := 81) (by decide) dX10_nodesMoved_80 rfl ?_
        refine x_goto (tgt := 85) (by decide) dX10_nodesMoved_81 ?_
        refine x_top (y := nI (nmK (σ.1 19) G k)) (by rw [nmK, pif_t (Or.inr c77)]; rfl) ?_
        refine x_iadd (pc' := 86) dX10_nodesMoved_85 rfl ?_
        refine x_top (y := nI (a + sumN (nmK (σ.1 19) G) (k + 1))) (by rw [nI_add, Nat.add_assoc]; rfl) ?_
        refine x_istore_n (lv' := [_, _, _, _, _, _]) (pc' := 87) (by decide) rfl dX10_nodesMoved_86 rfl ?_
        refine x_iinc (lv' := [_, _, _, _, _, _]) (pc' := 90) rfl (nI_1 k) (by decide) rfl dX10_nodesMoved_87 rfl ?_
        refine x_goto (tgt := 16) (by decide) dX10_nodesMoved_90 ?_
        exact ih (k + 1) _ _ (by omega)
set_option maxRecDepth 100000 in
set_option maxHeartbeats 4000000 in
theorem l_X10_nm2 {σ : St} (hv : Ok (σ.1 19)) : ∀ (n G : Nat) (A B D : Option Value), G + n = cN (σ.1 19) → Ex M_X10_nodesMoved (some (.int (nI (nmS (σ.1 19)))), σ) 4 [some (.ref 18), some (.int (nI (sumN (nmG (σ.1 19)) G))), some (.int (nI G)), D, A, B] [] σ := by
  intro n
  induction n with
  | zero =>
    intro G A B D hG
    have h6 := hv.c6
    obtain rfl : G = cN (σ.1 19) := by omega
    refine x_iload_n (pc' := 5) rfl dX10_nodesMoved_4 rfl ?_
    refine x_aload_n (pc' := 6) rfl dX10_nodesMoved_5 rfl ?_
    refine x_get (v := .ref 19) (pc' := 9) fk_X10_7 (by first | assumption | exact ⟨by decide, rfl⟩) rfl dX10_nodesMoved_6 rfl ?_
    refine x_iconst (v := 0) (pc' := 10) (by decide) dX10_nodesMoved_9 rfl ?_
    refine x_ialdn (N := 338) (n := 0) (pc' := 11) (by first | assumption | exact ⟨by decide, rfl⟩) (by decide) rfl (by decide) dX10_nodesMoved_10 rfl ?_
    refine x_icmp_ge (tgt := 99) (pc' := 14) (by decide) dX10_nodesMoved_11 rfl (fun c11 => ?_) (fun c11 => absurd (by rw [hv.c0]; exact nI_le (by omega) (by omega)) c11)
    refine x_iload_n (pc' := 100) rfl dX10_nodesMoved_99 rfl ?_
    exact x_iret rfl dX10_nodesMoved_100 rfl
  | succ n ih =>
    intro G A B D hG
    have h6 := hv.c6
    refine x_iload_n (pc' := 5) rfl dX10_nodesMoved_4 rfl ?_
    refine x_aload_n (pc' := 6) rfl dX10_nodesMoved_5 rfl ?_
    refine x_get (v := .ref 19) (pc' := 9) fk_X10_7 (by first | assumption | exact ⟨by decide, rfl⟩) rfl dX10_nodesMoved_6 rfl ?_
    refine x_iconst (v := 0) (pc' := 10) (by decide) dX10_nodesMoved_9 rfl ?_
    refine x_ialdn (N := 338) (n := 0) (pc' := 11) (by first | assumption | exact ⟨by decide, rfl⟩) (by decide) rfl (by decide) dX10_nodesMoved_10 rfl ?_
    refine x_icmp_ge (tgt := 99) (pc' := 14) (by decide) dX10_nodesMoved_11 rfl (fun c11 => absurd c11 (by rw [hv.c0]; exact nI_ge (by omega) (by omega))) (fun c11 => ?_)
    refine x_iconst (v := 0) (pc' := 15) (by decide) dX10_nodesMoved_14 rfl ?_
    refine x_istore_n (lv' := [_, _, _, _, _, _]) (pc' := 16) (by decide) rfl dX10_nodesMoved_15 rfl ?_
    refine l_X10_nm1 (a := sumN (nmG (σ.1 19)) G) hv (by omega) (fun A B => ?_) _ 0 _ _ (Nat.zero_add _)
    refine x_iinc (lv' := [_, _, _, _, _, _]) (pc' := 96) rfl (nI_1 G) (by decide) rfl dX10_nodesMoved_93 rfl ?_
    refine x_goto (tgt := 4) (by decide) dX10_nodesMoved_96 ?_
    exact ih (G + 1) _ _ _ (by omega)
set_option maxRecDepth 100000 in
set_option maxHeartbeats 4000000 in
theorem c_X10_nodesMoved {σ : St} (hv : Ok (σ.1 19)) : Ct yX10_nodesMoved M_X10_nodesMoved [.ref 18] σ (some (.int (nI (nmS (σ.1 19)))), σ) := by
  refine ct_of (k := 5) rfl rfl rfl (Nat.le_of_ble_eq_true rfl) ?_
  refine x_iconst (v := 0) (pc' := 1) (by decide) dX10_nodesMoved_0 rfl ?_
  refine x_istore_n (lv' := [_, _, _, _, _, _]) (pc' := 2) (by decide) rfl dX10_nodesMoved_1 rfl ?_
  refine x_iconst (v := 0) (pc' := 3) (by decide) dX10_nodesMoved_2 rfl ?_
  refine x_istore_n (lv' := [_, _, _, _, _, _]) (pc' := 4) (by decide) rfl dX10_nodesMoved_3 rfl ?_
  exact l_X10_nm2 hv _ 0 _ _ _ (Nat.zero_add _)
set_option maxRecDepth 100000 in
set_option maxHeartbeats 4000000 in
theorem v_X10_nodesMoved {σ : St} {v0 : Nat → Int32} (hs : σ.1 19 = v0) (hv : Ok v0) : Ct yX10_nodesMoved M_X10_nodesMoved [.ref 18] σ (some (.int (nI (nmS v0))), σ) := by
  subst hs
  exact c_X10_nodesMoved hv
/-- the first entry of the book that is otherwise now -/
noncomputable def wrF (v bx bY bi : Nat → Int32) : Nat → Nat → Int32
  | _, 0 => -1
  | k, n + 1 => pif (bx k + mvS v (bx k).toNatClampNeg (bY k).toNatClampNeg 0 = bi k) (wrF v bx bY bi (k + 1) n) (nI k)
def BkOk (bx bY : Nat → Int32) (n : Nat) : Prop := n ≤ 20 ∧ ∀ k, k < n → plc (bx k) (bY k)
theorem plc_cl {x y : Int32} (h : plc x y) : x = nI x.toNatClampNeg ∧ y = nI y.toNatClampNeg ∧ x.toNatClampNeg ≤ 64000 ∧ y.toNatClampNeg ≤ 64000 := by
  obtain ⟨px, py, h1, h2, rfl, rfl⟩ := plc_nat h
  rw [nI_clamp (by omega), nI_clamp (by omega)]
  exact ⟨rfl, rfl, h1, h2⟩
set_option maxRecDepth 100000 in
set_option maxHeartbeats 4000000 in
theorem l_X10_wrong {σ : St} (hv : Ok (σ.1 19)) {E : Nat} (hE : σ.1 18 8 = nI E) (hb : BkOk (σ.1 24) (σ.1 25) E) : ∀ (n k : Nat), k + n = E → Ex M_X10_wrong (some (.int (wrF (σ.1 19) (σ.1 24) (σ.1 25) (σ.1 26) k n)), σ) 2 [some (.ref 18), some (.int (nI k))] [] σ := by
  intro n
  induction n with
  | zero =>
    intro k hk
    have h20 := hb.1
    obtain rfl : k = E := by omega
    refine x_iload_n (pc' := 3) rfl dX10_wrong_2 rfl ?_
    refine x_aload_n (pc' := 4) rfl dX10_wrong_3 rfl ?_
    refine x_get (v := .int _) (pc' := 7) fk_X10_142 (by first | assumption | exact ⟨by decide, rfl⟩) rfl dX10_wrong_4 rfl ?_
    refine x_icmp_ge (tgt := 51) (pc' := 10) (by decide) dX10_wrong_7 rfl (fun c7 => ?_) (fun c7 => absurd (show σ.1 18 8 ≤ nI k by rw [hE]; exact nI_le (by omega) (by omega)) c7)
    refine x_iconst (v := (-1)) (pc' := 52) (by decide) dX10_wrong_51 rfl ?_
    exact x_iret rfl dX10_wrong_52 rfl
  | succ n ih =>
    intro k hk
    have h20 := hb.1
    obtain ⟨p1, p2, p3, p4⟩ := plc_cl (hb.2 k (by omega))
    refine x_iload_n (pc' := 3) rfl dX10_wrong_2 rfl ?_
    refine x_aload_n (pc' := 4) rfl dX10_wrong_3 rfl ?_
    refine x_get (v := .int _) (pc' := 7) fk_X10_142 (by first | assumption | exact ⟨by decide, rfl⟩) rfl dX10_wrong_4 rfl ?_
    refine x_icmp_ge (tgt := 51) (pc' := 10) (by decide) dX10_wrong_7 rfl (fun c7 => absurd c7 (show ¬ σ.1 18 8 ≤ nI k by rw [hE]; exact nI_ge (by omega) (by omega))) (fun c7 => ?_)
    refine x_aload_n (pc' := 11) rfl dX10_wrong_10 rfl ?_
    refine x_get (v := .ref 24) (pc' := 14) fk_X10_27 (by first | assumption | exact ⟨by decide, rfl⟩) rfl dX10_wrong_11 rfl ?_
    refine x_iload_n (pc' := 15) rfl dX10_wrong_14 rfl ?_
    refine x_ialdn (N := 20) (n := k) (pc' := 16) (by first | assumption | exact ⟨by decide, rfl⟩) (by decide) rfl (by omega) dX10_wrong_15 rfl ?_
    refine x_aload_n (pc' := 17) rfl dX10_wrong_16 rfl ?_
    refine x_aload_n (pc' := 18) rfl dX10_wrong_17 rfl ?_
    refine x_get (v := .ref 24) (pc' := 21) fk_X10_27 (by first | assumption | exact ⟨by decide, rfl⟩) rfl dX10_wrong_18 rfl ?_
    refine x_iload_n (pc' := 22) rfl dX10_wrong_21 rfl ?_
    refine x_ialdn (N := 20) (n := k) (pc' := 23) (by first | assumption | exact ⟨by decide, rfl⟩) (by decide) rfl (by omega) dX10_wrong_22 rfl ?_
    refine x_aload_n (pc' := 24) rfl dX10_wrong_23 rfl ?_
    refine x_get (v := .ref 25) (pc' := 27) fk_X10_30 (by first | assumption | exact ⟨by decide, rfl⟩) rfl dX10_wrong_24 rfl ?_
    refine x_iload_n (pc' := 28) rfl dX10_wrong_27 rfl ?_
    refine x_ialdn (N := 20) (n := k) (pc' := 29) (by first | assumption | exact ⟨by decide, rfl⟩) (by decide) rfl (by omega) dX10_wrong_28 rfl ?_
    refine x_iconst (v := 0) (pc' := 30) (by decide) dX10_wrong_29 rfl ?_
    refine x_callVi (As := [.int _, .int _, .int _]) (rest := [.int _]) (ci := 9) (pc' := 33) rfl vk_X10_145 mk_X10_movedBy (by decide) (by first | assumption | exact ⟨by decide, rfl⟩) (by decide) rfl (Nat.le_of_ble_eq_true rfl) dX10_wrong_30 rfl (c_X10_movedBy hv p1 p2 (W := 0) rfl p3 p4 (by decide)) ?_
    refine x_iadd (pc' := 34) dX10_wrong_33 rfl ?_
    refine x_aload_n (pc' := 35) rfl dX10_wrong_34 rfl ?_
    refine x_get (v := .ref 26) (pc' := 38) fk_X10_33 (by first | assumption | exact ⟨by decide, rfl⟩) rfl dX10_wrong_35 rfl ?_
    refine x_iload_n (pc' := 39) rfl dX10_wrong_38 rfl ?_
    refine x_ialdn (N := 20) (n := k) (pc' := 40) (by first | assumption | exact ⟨by decide, rfl⟩) (by decide) rfl (by omega) dX10_wrong_39 rfl ?_
    refine x_icmp_eq (tgt := 45) (pc' := 43) (by decide) dX10_wrong_40 rfl (fun c40 => ?_) (fun c40 => ?_)
    · refine x_iinc (lv' := [_, _]) (pc' := 48) rfl (nI_1 k) (by decide) rfl dX10_wrong_45 rfl ?_
      refine x_goto (tgt := 2) (by decide) dX10_wrong_48 ?_
      rw [wrF, pif_t c40]
      exact ih (k + 1) (by omega)
    · refine x_iload_n (pc' := 44) rfl dX10_wrong_43 rfl ?_
      exact x_iret rfl dX10_wrong_44 (ret_i (by rw [wrF, pif_f c40]))
set_option maxRecDepth 100000 in
set_option maxHeartbeats 4000000 in
theorem c_X10_wrong {σ : St} (hv : Ok (σ.1 19)) {E : Nat} (hE : σ.1 18 8 = nI E) (hb : BkOk (σ.1 24) (σ.1 25) E) : Ct yX10_wrong M_X10_wrong [.ref 18] σ (some (.int (wrF (σ.1 19) (σ.1 24) (σ.1 25) (σ.1 26) 0 E)), σ) := by
  refine ct_of (k := 1) rfl rfl rfl (Nat.le_of_ble_eq_true rfl) ?_
  refine x_iconst (v := 0) (pc' := 1) (by decide) dX10_wrong_0 rfl ?_
  refine x_istore_n (lv' := [_, _]) (pc' := 2) (by decide) rfl dX10_wrong_1 rfl ?_
  exact l_X10_wrong hv hE hb _ 0 (Nat.zero_add _)
noncomputable def tlK (v : Nat → Int32) (w g : Nat) : Nat := if w = 5 then gapN v g else if w < 5 then cellN v g (if w = 4 then 1 else 0) else 0
noncomputable def whS (v : Nat → Int32) : Nat → Int32
  | 0 => -1
  | n + 1 => pif (maxN (gapM v) n < gapM v n) (nI n) (whS v n)
noncomputable def tallyS (v : Nat → Int32) (w : Nat) : Int32 := if w < 6 then nI (sumN (tlK v w) (cN v)) else if w = 6 then maxN (gapM v) (cN v) else whS v (cN v)
noncomputable def tga (v : Nat → Int32) (z : Int32) : Nat → Int32
  | 0 => z
  | n + 1 => nI (gapN v n)
noncomputable def tgb (v : Nat → Int32) (z : Int32) : Nat → Int32
  | 0 => z
  | n + 1 => gapM v n
theorem g2_g2 (σ : St) (a b c d : Int32) : g2 (g2 σ a b) c d = g2 σ c d := by
  show pI (pI (g2 σ a b) 18 12 c) 18 13 d = g2 σ c d
  rw [g2_p12, g2_p13]
theorem g2_self (σ : St) : g2 σ (σ.1 18 12) (σ.1 18 13) = σ := by
  refine st_ext (fun k j => ?_) rfl
  rw [g2_app]
  by_cases h : k = 18 ∧ j = 13
  · rw [if_pos h, h.1, h.2]
  · rw [if_neg h]
    by_cases h2 : k = 18 ∧ j = 12
    · rw [if_pos h2, h2.1, h2.2]
    · rw [if_neg h2]
set_option maxRecDepth 100000 in
set_option maxHeartbeats 4000000 in
theorem l_X10_tally {σ : St} {w : Nat} (hw : 3 ≤ w) (hw7 : w ≤ 7) (hv : Ok (σ.1 19)) : ∀ (n G : Nat), G + n = cN (σ.1 19) → Ex M_X10_tally (some (.int (tallyS (σ.1 19) w)), g2 σ (tga (σ.1 19) (σ.1 18 12) (cN (σ.1 19))) (tgb (σ.1 19) (σ.1 18 13) (cN (σ.1 19)))) 10 [some (.ref 18), some (.int (nI w)), some (.int (nI (sumN (tlK (σ.1 19) w) G))), some (.int (maxN (gapM (σ.1 19)) G)), some (.int (whS (σ.1 19) G)), some (.int (nI G))] [] (g2 σ (tga (σ.1 19) (σ.1 18 12) G) (tgb (σ.1 19) (σ.1 18 13) G)) := by
  intro n
  induction n with
  | zero =>
    intro G hG
    have h6 := hv.c6
    obtain rfl : G = cN (σ.1 19) := by omega
    have hs : (g2 σ (tga (σ.1 19) (σ.1 18 12) (cN (σ.1 19))) (tgb (σ.1 19) (σ.1 18 13) (cN (σ.1 19)))).1 19 = σ.1 19 := g2_n (by decide)
    refine x_iload (pc' := 12) rfl dX10_tally_10 rfl ?_
    refine x_aload_n (pc' := 13) rfl dX10_tally_12 rfl ?_
    refine x_get (v := .ref 19) (pc' := 16) fk_X10_7 (by first | assumption | exact ⟨by decide, rfl⟩) rfl dX10_tally_13 rfl ?_
    refine x_iconst (v := 0) (pc' := 17) (by decide) dX10_tally_16 rfl ?_
    refine x_ialdn (N := 338) (n := 0) (pc' := 18) (by first | assumption | exact ⟨by decide, rfl⟩) (by decide) rfl (by decide) dX10_tally_17 rfl ?_
    refine x_icmp_ge (tgt := 99) (pc' := 21) (by decide) dX10_tally_18 rfl (fun c18 => ?_) (fun c18 => absurd (by rw [hs, hv.c0]; exact nI_le (by omega) (by omega)) c18)
    refine x_iload_n (pc' := 100) rfl dX10_tally_99 rfl ?_
    refine x_bipush (v := 6) (pc' := 102) (by decide) dX10_tally_100 rfl ?_
    refine x_icmp_ge (tgt := 109) (pc' := 105) (by decide) dX10_tally_102 rfl (fun c102 => ?_) (fun c102 => ?_)
    · refine x_iload_n (pc' := 110) rfl dX10_tally_109 rfl ?_
      refine x_bipush (v := 6) (pc' := 112) (by decide) dX10_tally_110 rfl ?_
      refine x_icmp_ne (tgt := 119) (pc' := 115) (by decide) dX10_tally_112 rfl (fun c112 => ?_) (fun c112 => ?_)
      · refine x_iload (pc' := 121) rfl dX10_tally_119 rfl ?_
        exact x_iret rfl dX10_tally_121 (by rw [tallyS, if_neg (fun q => nI_ge (b := 6) q (by decide) c102), if_neg (fun q => c112 (by rw [q]; rfl))])
      · refine x_iload_n (pc' := 116) rfl dX10_tally_115 rfl ?_
        refine x_goto (tgt := 121) (by decide) dX10_tally_116 ?_
        exact x_iret rfl dX10_tally_121 (by rw [tallyS, if_neg (fun q => nI_ge (b := 6) q (by decide) c102), if_pos ((nI_eq (b := 6) (by omega) (by decide)).mp c112)])
    · refine x_iload_n (pc' := 106) rfl dX10_tally_105 rfl ?_
      refine x_goto (tgt := 121) (by decide) dX10_tally_106 ?_
      exact x_iret rfl dX10_tally_121 (by rw [tallyS, if_pos ((nI_ltI (b := 6) (by omega) (by decide)).mp (i_nle.mp c102))])
  | succ n ih =>
    intro G hG
    have h6 := hv.c6
    have hs : (g2 σ (tga (σ.1 19) (σ.1 18 12) G) (tgb (σ.1 19) (σ.1 18 13) G)).1 19 = σ.1 19 := g2_n (by decide)
    have hs2 : (g2 σ (tga (σ.1 19) (σ.1 18 12) (G + 1)) (tgb (σ.1 19) (σ.1 18 13) (G + 1))).1 19 = σ.1 19 := g2_n (by decide)
    have k82 : Ex M_X10_tally (some (.int (tallyS (σ.1 19) w)), g2 σ (tga (σ.1 19) (σ.1 18 12) (cN (σ.1 19))) (tgb (σ.1 19) (σ.1 18 13) (cN (σ.1 19)))) 82 [some (.ref 18), some (.int (nI w)), some (.int (nI (sumN (tlK (σ.1 19) w) (G + 1)))), some (.int (maxN (gapM (σ.1 19)) G)), some (.int (whS (σ.1 19) G)), some (.int (nI G))] [.int (whS (σ.1 19) (G + 1))] (g2 σ (tga (σ.1 19) (σ.1 18 12) (G + 1)) (tgb (σ.1 19) (σ.1 18 13) (G + 1))) := by
      refine x_istore (lv' := [_, _, _, _, _, _]) (pc' := 84) (by decide) rfl dX10_tally_82 rfl ?_
      refine x_iload_n (pc' := 85) rfl dX10_tally_84 rfl ?_
      refine x_aload_n (pc' := 86) rfl dX10_tally_85 rfl ?_
      refine x_get (v := .int _) (pc' := 89) fk_X10_114 (by first | assumption | exact ⟨by decide, rfl⟩) rfl dX10_tally_86 rfl ?_
      refine x_callSi (As := [.int _, .int _]) (rest := []) (pc' := 92) rfl sk_X10_108 mk_X10_larger (by decide) rfl (Nat.le_of_ble_eq_true rfl) dX10_tally_89 rfl c_X10_larger ?_
      refine x_istore_n (lv' := [_, _, _, _, _, _]) (pc' := 93) (by decide) rfl dX10_tally_92 rfl ?_
      refine x_iinc (lv' := [_, _, _, _, _, _]) (pc' := 96) rfl (nI_1 G) (by decide) rfl dX10_tally_93 rfl ?_
      refine x_goto (tgt := 10) (by decide) dX10_tally_96 ?_
      exact ih (G + 1) (by omega)
    have k65 : Ex M_X10_tally (some (.int (tallyS (σ.1 19) w)), g2 σ (tga (σ.1 19) (σ.1 18 12) (cN (σ.1 19))) (tgb (σ.1 19) (σ.1 18 13) (cN (σ.1 19)))) 65 [some (.ref 18), some (.int (nI w)), some (.int (nI (sumN (tlK (σ.1 19) w) G))), some (.int (maxN (gapM (σ.1 19)) G)), some (.int (whS (σ.1 19) G)), some (.int (nI G))] [.int (nI (tlK (σ.1 19) w G)), .int (nI (sumN (tlK (σ.1 19) w) G))] (g2 σ (tga (σ.1 19) (σ.1 18 12) (G + 1)) (tgb (σ.1 19) (σ.1 18 13) (G + 1))) := by
      refine x_iadd (pc' := 66) dX10_tally_65 rfl ?_
      refine x_top (y := nI (sumN (tlK (σ.1 19) w) (G + 1))) (nI_add _ _) ?_
      refine x_istore_n (lv' := [_, _, _, _, _, _]) (pc' := 67) (by decide) rfl dX10_tally_66 rfl ?_
      refine x_aload_n (pc' := 68) rfl dX10_tally_67 rfl ?_
      refine x_get (v := .int _) (pc' := 71) fk_X10_114 (by first | assumption | exact ⟨by decide, rfl⟩) rfl dX10_tally_68 rfl ?_
      refine x_iload_n (pc' := 72) rfl dX10_tally_71 rfl ?_
      refine x_icmp_le (tgt := 80) (pc' := 75) (by decide) dX10_tally_72 rfl (fun c72 => ?_) (fun c72 => ?_)
      · refine x_iload (pc' := 82) rfl dX10_tally_80 rfl ?_
        exact x_top (by rw [whS, pif_f (P := maxN (gapM (σ.1 19)) G < gapM (σ.1 19) G) (fun q => i_nlt.mpr c72 q)]) k82
      · refine x_iload (pc' := 77) rfl dX10_tally_75 rfl ?_
        refine x_goto (tgt := 82) (by decide) dX10_tally_77 ?_
        exact x_top (by rw [whS, pif_t (P := maxN (gapM (σ.1 19)) G < gapM (σ.1 19) G) (i_nle.mp c72)]) k82
    refine x_iload (pc' := 12) rfl dX10_tally_10 rfl ?_
    refine x_aload_n (pc' := 13) rfl dX10_tally_12 rfl ?_
    refine x_get (v := .ref 19) (pc' := 16) fk_X10_7 (by first | assumption | exact ⟨by decide, rfl⟩) rfl dX10_tally_13 rfl ?_
    refine x_iconst (v := 0) (pc' := 17) (by decide) dX10_tally_16 rfl ?_
    refine x_ialdn (N := 338) (n := 0) (pc' := 18) (by first | assumption | exact ⟨by decide, rfl⟩) (by decide) rfl (by decide) dX10_tally_17 rfl ?_
    refine x_icmp_ge (tgt := 99) (pc' := 21) (by decide) dX10_tally_18 rfl (fun c18 => absurd c18 (by rw [hs, hv.c0]; exact nI_ge (by omega) (by omega))) (fun c18 => ?_)
    refine x_aload_n (pc' := 22) rfl dX10_tally_21 rfl ?_
    refine x_iload (pc' := 24) rfl dX10_tally_22 rfl ?_
    refine x_callVv (As := [.int _]) (rest := []) (ci := 9) (pc' := 27) rfl vk_X10_148 mk_X10_gaps (by decide) (by first | assumption | exact ⟨by decide, rfl⟩) (by decide) rfl (Nat.le_of_ble_eq_true rfl) dX10_tally_24 rfl (v_X10_gaps hs hv (by omega) rfl) ?_
    refine x_st (g2_g2 σ _ _ _ _) ?_
    refine x_iload_n (pc' := 28) rfl dX10_tally_27 rfl ?_
    refine x_iload_n (pc' := 29) rfl dX10_tally_28 rfl ?_
    refine x_iconst (v := 5) (pc' := 30) (by decide) dX10_tally_29 rfl ?_
    refine x_icmp_ne (tgt := 40) (pc' := 33) (by decide) dX10_tally_30 rfl (fun c30 => ?_) (fun c30 => ?_)
    · refine x_iload_n (pc' := 41) rfl dX10_tally_40 rfl ?_
      refine x_iconst (v := 5) (pc' := 42) (by decide) dX10_tally_41 rfl ?_
      refine x_icmp_ge (tgt := 64) (pc' := 45) (by decide) dX10_tally_42 rfl (fun c42 => ?_) (fun c42 => ?_)
      · refine x_iconst (v := 0) (pc' := 65) (by decide) dX10_tally_64 rfl ?_
        exact x_top (by rw [tlK, if_neg (fun q => c30 (by rw [q]; rfl)), if_neg (fun q => nI_ge (b := 5) q (by decide) c42)]; rfl) k65
      · refine x_aload_n (pc' := 46) rfl dX10_tally_45 rfl ?_
        refine x_iload (pc' := 48) rfl dX10_tally_46 rfl ?_
        refine x_iload_n (pc' := 49) rfl dX10_tally_48 rfl ?_
        refine x_iconst (v := 4) (pc' := 50) (by decide) dX10_tally_49 rfl ?_
        refine x_icmp_ne (tgt := 57) (pc' := 53) (by decide) dX10_tally_50 rfl (fun c50 => ?_) (fun c50 => ?_)
        · refine x_iconst (v := 0) (pc' := 58) (by decide) dX10_tally_57 rfl ?_
          refine x_callVi (As := [.int _, .int _]) (rest := [.int _]) (ci := 9) (pc' := 61) rfl vk_X10_152 mk_X10_cells (by decide) (by first | assumption | exact ⟨by decide, rfl⟩) (by decide) rfl (Nat.le_of_ble_eq_true rfl) dX10_tally_58 rfl (v_X10_cells hs2 hv (by omega) rfl) ?_
          refine x_goto (tgt := 65) (by decide) dX10_tally_61 ?_
          exact x_top (by rw [tlK, if_neg (fun q => c30 (by rw [q]; rfl)), if_pos ((nI_ltI (b := 5) (by omega) (by decide)).mp (i_nle.mp c42)), if_neg (fun q => c50 (by rw [q]; rfl))]) k65
        · refine x_iconst (v := 1) (pc' := 54) (by decide) dX10_tally_53 rfl ?_
          refine x_goto (tgt := 58) (by decide) dX10_tally_54 ?_
          refine x_callVi (As := [.int _, .int _]) (rest := [.int _]) (ci := 9) (pc' := 61) rfl vk_X10_152 mk_X10_cells (by decide) (by first | assumption | exact ⟨by decide, rfl⟩) (by decide) rfl (Nat.le_of_ble_eq_true rfl) dX10_tally_58 rfl (v_X10_cells hs2 hv (by omega) rfl) ?_
          refine x_goto (tgt := 65) (by decide) dX10_tally_61 ?_
          exact x_top (by rw [tlK, if_neg (fun q => c30 (by rw [q]; rfl)), if_pos ((nI_ltI (b := 5) (by omega) (by decide)).mp (i_nle.mp c42)), if_pos ((nI_eq (b := 4) (by omega) (by decide)).mp c50)]) k65
    · refine x_aload_n (pc' := 34) rfl dX10_tally_33 rfl ?_
      refine x_get (v := .int _) (pc' := 37) fk_X10_111 (by first | assumption | exact ⟨by decide, rfl⟩) rfl dX10_tally_34 rfl ?_
      refine x_goto (tgt := 65) (by decide) dX10_tally_37 ?_
      exact x_top (by rw [tlK, if_pos ((nI_eq (b := 5) (by omega) (by decide)).mp c30)]; rfl) k65
set_option maxRecDepth 100000 in
set_option maxHeartbeats 4000000 in
theorem c_X10_tally {σ : St} {x : Int32} {w : Nat} (hx : x = nI w) (hw : 3 ≤ w) (hw7 : w ≤ 7) (hv : Ok (σ.1 19)) : Ct yX10_tally M_X10_tally [.ref 18, .int x] σ (some (.int (tallyS (σ.1 19) w)), g2 σ (tga (σ.1 19) (σ.1 18 12) (cN (σ.1 19))) (tgb (σ.1 19) (σ.1 18 13) (cN (σ.1 19)))) := by
  subst hx
  refine ct_of (k := 4) rfl rfl rfl (Nat.le_of_ble_eq_true rfl) ?_
  refine x_iconst (v := 0) (pc' := 1) (by decide) dX10_tally_0 rfl ?_
  refine x_istore_n (lv' := [_, _, _, _, _, _]) (pc' := 2) (by decide) rfl dX10_tally_1 rfl ?_
  refine x_iconst (v := 0) (pc' := 3) (by decide) dX10_tally_2 rfl ?_
  refine x_istore_n (lv' := [_, _, _, _, _, _]) (pc' := 4) (by decide) rfl dX10_tally_3 rfl ?_
  refine x_iconst (v := (-1)) (pc' := 5) (by decide) dX10_tally_4 rfl ?_
  refine x_istore (lv' := [_, _, _, _, _, _]) (pc' := 7) (by decide) rfl dX10_tally_5 rfl ?_
  refine x_iconst (v := 0) (pc' := 8) (by decide) dX10_tally_7 rfl ?_
  refine x_istore (lv' := [_, _, _, _, _, _]) (pc' := 10) (by decide) rfl dX10_tally_8 rfl ?_
  have q := l_X10_tally hw hw7 hv _ 0 (Nat.zero_add _)
  rw [show g2 σ (tga (σ.1 19) (σ.1 18 12) 0) (tgb (σ.1 19) (σ.1 18 13) 0) = σ from g2_self σ] at q
  exact q
