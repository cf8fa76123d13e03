noncomputable def fitV (v : Nat → Int32) (C G : Nat) : Nat → Nat → Int32
  | 0 => v
  | k + 1 => pif (brd (fitV v C G k) G (k % C) (k / C)) (set2 (fitV v C G k) (ndI G (k % C) (k / C)) (ofpS (fitV v C G k) G (k % C) (k / C) 0) (ofpS (fitV v C G k) G (k % C) (k / C) 1)) (fitV v C G k)
noncomputable def fitK (v : Nat → Int32) (C G k : Nat) : Nat := pif (brd (fitV v C G k) G (k % C) (k / C)) (chg (fitV v C G k) (ndI G (k % C) (k / C)) (ofpS (fitV v C G k) G (k % C) (k / C) 0) (ofpS (fitV v C G k) G (k % C) (k / C) 1)) 0
theorem fit_lo (v : Nat → Int32) (C G : Nat) {j : Nat} (hj : j < 38) : ∀ k, fitV v C G k j = v j
  | 0 => rfl
  | k + 1 => by
    by_cases h : brd (fitV v C G k) G (k % C) (k / C)
    · rw [fitV, pif_t h, set2_lo (by unfold ndI; omega), fit_lo v C G hj k]
    · rw [fitV, pif_f h, fit_lo v C G hj k]
theorem fit_ok {v : Nat → Int32} (hv : Ok v) {G : Nat} (hG : G < cN v) (hp : ¬ v (2 + 6 * G) = -1) : ∀ k, k ≤ fN v G 4 * fN v G 5 → Ok (fitV v (fN v G 4) G k)
  | 0, _ => hv
  | k + 1, hk => by
    have ih := fit_ok hv hG hp k (by omega)
    obtain ⟨g6, c5, r5, c2, r2, s1, s64⟩ := hv.b hG
    have hlo : ∀ j, j < 38 → fitV v (fN v G 4) G k j = v j := fun j hj => fit_lo v _ _ hj k
    by_cases h : brd (fitV v (fN v G 4) G k) G (k % fN v G 4) (k / fN v G 4)
    · obtain ⟨k1, k2⟩ := kmod (k := k) (C := fN v G 4) (R := fN v G 5) (by omega) (by omega)
      rw [fitV, pif_t h]
      have hG2 : G < cN (fitV v (fN v G 4) G k) := by rw [lo_cN hlo]; exact hG
      have hp2 : ¬ fitV v (fN v G 4) G k (2 + 6 * G) = -1 := by rw [hlo _ (by omega)]; exact hp
      have c1 : k % fN v G 4 < fN (fitV v (fN v G 4) G k) G 4 := by rw [lo_fN hlo g6 (by omega)]; exact k1
      have c3 : k / fN v G 4 < fN (fitV v (fN v G 4) G k) G 5 := by rw [lo_fN hlo g6 (by omega)]; exact k2
      exact Ok_set2 ih (ofpS_sm ih hG2 hp2 c1 c3 (by decide)) (ofpS_sm ih hG2 hp2 c1 c3 (by decide))
    · rw [fitV, pif_f h]
      exact ih
set_option maxRecDepth 100000 in
set_option maxHeartbeats 4000000 in
theorem l_X10_fit {σ τ : St} {G : Nat} (hv : Ok (σ.1 19)) (hG : G < cN (σ.1 19)) (hp : ¬ σ.1 19 (2 + 6 * G) = -1) : ∀ (n k : Nat) (A B : Option Value), k + n = fN (σ.1 19) G 4 * fN (σ.1 19) G 5 → Ex M_X10_fit (some (.int (nI (sumN (fitK (σ.1 19) (fN (σ.1 19) G 4) G) (fN (σ.1 19) G 4 * fN (σ.1 19) G 5)))), pA τ 19 (fitV (σ.1 19) (fN (σ.1 19) G 4) G (fN (σ.1 19) G 4 * fN (σ.1 19) G 5))) 37 [some (.ref 18), some (.int (nI G)), some (.int (nI (sumN (fitK (σ.1 19) (fN (σ.1 19) G 4) G) k))), some (.int (nI k)), A, B] [] (pA τ 19 (fitV (σ.1 19) (fN (σ.1 19) G 4) G k)) := by
  intro n
  induction n with
  | zero =>
    intro k A B hk
    obtain ⟨g6, c5, r5, c2, r2, s1, s64⟩ := hv.b hG
    have hf := hv.F hG
    have hm : fN (σ.1 19) G 4 * fN (σ.1 19) G 5 ≤ 5 * 5 := Nat.mul_le_mul c5 r5
    have hs : (pA τ 19 (fitV (σ.1 19) (fN (σ.1 19) G 4) G k)).1 19 = fitV (σ.1 19) (fN (σ.1 19) G 4) G k := pA_at _ _ _
    have hlo : ∀ j, j < 38 → fitV (σ.1 19) (fN (σ.1 19) G 4) G k j = σ.1 19 j := fun j hj => fit_lo _ _ _ hj k
    have hv2 : Ok (fitV (σ.1 19) (fN (σ.1 19) G 4) G k) := fit_ok hv hG hp k (by omega)
    have hG2 : G < cN (fitV (σ.1 19) (fN (σ.1 19) G 4) G k) := by rw [lo_cN hlo]; exact hG
    have hp2 : ¬ fitV (σ.1 19) (fN (σ.1 19) G 4) G k (2 + 6 * G) = -1 := by rw [hlo _ (by omega)]; exact hp
    have e4 : fitV (σ.1 19) (fN (σ.1 19) G 4) G k (2 + 6 * G + 4) = nI (fN (σ.1 19) G 4) := by rw [hlo _ (by omega)]; exact hf.at (by omega) (by omega)
    have e5 : fitV (σ.1 19) (fN (σ.1 19) G 4) G k (2 + 6 * G + 5) = nI (fN (σ.1 19) G 5) := by rw [hlo _ (by omega)]; exact hf.at (by omega) (by omega)
    obtain rfl : k = fN (σ.1 19) G 4 * fN (σ.1 19) G 5 := by omega
    refine x_iload_n (pc' := 38) rfl dX10_fit_37 rfl ?_
    refine x_aload_n (pc' := 39) rfl dX10_fit_38 rfl ?_
    refine x_iload_n (pc' := 40) rfl dX10_fit_39 rfl ?_
    refine x_iconst (v := 4) (pc' := 41) (by decide) dX10_fit_40 rfl ?_
    refine x_callVi (As := [.int _, .int _]) (rest := [.int _]) (ci := 9) (pc' := 44) rfl vk_X10_58 mk_X10_its (by decide) (by first | assumption | exact ⟨by decide, rfl⟩) (by decide) rfl (Nat.le_of_ble_eq_true rfl) dX10_fit_41 rfl (v_X10_its hs (E := 4) rfl rfl (by omega)) ?_
    refine x_aload_n (pc' := 45) rfl dX10_fit_44 rfl ?_
    refine x_iload_n (pc' := 46) rfl dX10_fit_45 rfl ?_
    refine x_iconst (v := 5) (pc' := 47) (by decide) dX10_fit_46 rfl ?_
    refine x_callVi (As := [.int _, .int _]) (rest := [.int _, .int _]) (ci := 9) (pc' := 50) rfl vk_X10_58 mk_X10_its (by decide) (by first | assumption | exact ⟨by decide, rfl⟩) (by decide) rfl (Nat.le_of_ble_eq_true rfl) dX10_fit_47 rfl (v_X10_its hs (E := 5) rfl rfl (by omega)) ?_
    refine x_imul (pc' := 51) dX10_fit_50 rfl ?_
    refine x_icmp_ge (tgt := 124) (pc' := 54) (by decide) dX10_fit_51 rfl (fun c51 => ?_) (fun c51 => absurd (by rw [e4, e5, pk_mul]; exact nI_le (by omega) (by omega)) c51)
    refine x_iload_n (pc' := 125) rfl dX10_fit_124 rfl ?_
    exact x_iret rfl dX10_fit_125 rfl
  | succ n ih =>
    intro k A B hk
    obtain ⟨g6, c5, r5, c2, r2, s1, s64⟩ := hv.b hG
    have hf := hv.F hG
    have hm : fN (σ.1 19) G 4 * fN (σ.1 19) G 5 ≤ 5 * 5 := Nat.mul_le_mul c5 r5
    have hs : (pA τ 19 (fitV (σ.1 19) (fN (σ.1 19) G 4) G k)).1 19 = fitV (σ.1 19) (fN (σ.1 19) G 4) G k := pA_at _ _ _
    have hlo : ∀ j, j < 38 → fitV (σ.1 19) (fN (σ.1 19) G 4) G k j = σ.1 19 j := fun j hj => fit_lo _ _ _ hj k
    have hv2 : Ok (fitV (σ.1 19) (fN (σ.1 19) G 4) G k) := fit_ok hv hG hp k (by omega)
    have hG2 : G < cN (fitV (σ.1 19) (fN (σ.1 19) G 4) G k) := by rw [lo_cN hlo]; exact hG
    have hp2 : ¬ fitV (σ.1 19) (fN (σ.1 19) G 4) G k (2 + 6 * G) = -1 := by rw [hlo _ (by omega)]; exact hp
    have e4 : fitV (σ.1 19) (fN (σ.1 19) G 4) G k (2 + 6 * G + 4) = nI (fN (σ.1 19) G 4) := by rw [hlo _ (by omega)]; exact hf.at (by omega) (by omega)
    have e5 : fitV (σ.1 19) (fN (σ.1 19) G 4) G k (2 + 6 * G + 5) = nI (fN (σ.1 19) G 5) := by rw [hlo _ (by omega)]; exact hf.at (by omega) (by omega)
    obtain ⟨k1, k2⟩ := kmod (k := k) (C := fN (σ.1 19) G 4) (R := fN (σ.1 19) G 5) (by omega) (by omega)
    have c1 : k % fN (σ.1 19) G 4 < fN (fitV (σ.1 19) (fN (σ.1 19) G 4) G k) G 4 := by rw [lo_fN hlo g6 (by omega)]; exact k1
    have c3 : k / fN (σ.1 19) G 4 < fN (fitV (σ.1 19) (fN (σ.1 19) G 4) G k) G 5 := by rw [lo_fN hlo g6 (by omega)]; exact k2
    refine x_iload_n (pc' := 38) rfl dX10_fit_37 rfl ?_
    refine x_aload_n (pc' := 39) rfl dX10_fit_38 rfl ?_
    refine x_iload_n (pc' := 40) rfl dX10_fit_39 rfl ?_
    refine x_iconst (v := 4) (pc' := 41) (by decide) dX10_fit_40 rfl ?_
    refine x_callVi (As := [.int _, .int _]) (rest := [.int _]) (ci := 9) (pc' := 44) rfl vk_X10_58 mk_X10_its (by decide) (by first | assumption | exact ⟨by decide, rfl⟩) (by decide) rfl (Nat.le_of_ble_eq_true rfl) dX10_fit_41 rfl (v_X10_its hs (E := 4) rfl rfl (by omega)) ?_
    refine x_aload_n (pc' := 45) rfl dX10_fit_44 rfl ?_
    refine x_iload_n (pc' := 46) rfl dX10_fit_45 rfl ?_
    refine x_iconst (v := 5) (pc' := 47) (by decide) dX10_fit_46 rfl ?_
    refine x_callVi (As := [.int _, .int _]) (rest := [.int _, .int _]) (ci := 9) (pc' := 50) rfl vk_X10_58 mk_X10_its (by decide) (by first | assumption | exact ⟨by decide, rfl⟩) (by decide) rfl (Nat.le_of_ble_eq_true rfl) dX10_fit_47 rfl (v_X10_its hs (E := 5) rfl rfl (by omega)) ?_
    refine x_imul (pc' := 51) dX10_fit_50 rfl ?_
    refine x_icmp_ge (tgt := 124) (pc' := 54) (by decide) dX10_fit_51 rfl (fun c51 => absurd c51 (by rw [e4, e5, pk_mul]; exact nI_ge (by omega) (by omega))) (fun c51 => ?_)
    refine x_iload_n (pc' := 55) rfl dX10_fit_54 rfl ?_
    refine x_aload_n (pc' := 56) rfl dX10_fit_55 rfl ?_
    refine x_iload_n (pc' := 57) rfl dX10_fit_56 rfl ?_
    refine x_iconst (v := 4) (pc' := 58) (by decide) dX10_fit_57 rfl ?_
    refine x_callVi (As := [.int _, .int _]) (rest := [.int _]) (ci := 9) (pc' := 61) rfl vk_X10_58 mk_X10_its (by decide) (by first | assumption | exact ⟨by decide, rfl⟩) (by decide) rfl (Nat.le_of_ble_eq_true rfl) dX10_fit_58 rfl (v_X10_its hs (E := 4) rfl rfl (by omega)) ?_
    refine x_irem (pc' := 62) (by rw [e4]; exact nI_ne0 (by omega) (by omega)) dX10_fit_61 rfl ?_
    refine x_top (y := nI (k % fN (σ.1 19) G 4)) (by rw [e4]; exact pk_rem (by omega) (by omega) (by omega)) ?_
    refine x_istore (lv' := [_, _, _, _, _, _]) (pc' := 64) (by decide) rfl dX10_fit_62 rfl ?_
    refine x_iload_n (pc' := 65) rfl dX10_fit_64 rfl ?_
    refine x_aload_n (pc' := 66) rfl dX10_fit_65 rfl ?_
    refine x_iload_n (pc' := 67) rfl dX10_fit_66 rfl ?_
    refine x_iconst (v := 4) (pc' := 68) (by decide) dX10_fit_67 rfl ?_
    refine x_callVi (As := [.int _, .int _]) (rest := [.int _]) (ci := 9) (pc' := 71) rfl vk_X10_58 mk_X10_its (by decide) (by first | assumption | exact ⟨by decide, rfl⟩) (by decide) rfl (Nat.le_of_ble_eq_true rfl) dX10_fit_68 rfl (v_X10_its hs (E := 4) rfl rfl (by omega)) ?_
    refine x_idiv (pc' := 72) (by rw [e4]; exact nI_ne0 (by omega) (by omega)) dX10_fit_71 rfl ?_
    refine x_top (y := nI (k / fN (σ.1 19) G 4)) (by rw [e4]; exact pk_div (by omega) (by omega) (by omega)) ?_
    refine x_istore (lv' := [_, _, _, _, _, _]) (pc' := 74) (by decide) rfl dX10_fit_72 rfl ?_
    refine x_aload_n (pc' := 75) rfl dX10_fit_74 rfl ?_
    refine x_iload_n (pc' := 76) rfl dX10_fit_75 rfl ?_
    refine x_iload (pc' := 78) rfl dX10_fit_76 rfl ?_
    refine x_iload (pc' := 80) rfl dX10_fit_78 rfl ?_
    refine x_callVi (As := [.int _, .int _, .int _]) (rest := []) (ci := 9) (pc' := 83) rfl vk_X10_117 mk_X10_isBorder (by decide) (by first | assumption | exact ⟨by decide, rfl⟩) (by decide) rfl (Nat.le_of_ble_eq_true rfl) dX10_fit_80 rfl (v_X10_isBorder hs hv2 hG2 rfl rfl rfl c1 c3) ?_
    refine x_if_eq (tgt := 118) (pc' := 86) (by decide) dX10_fit_83 rfl (fun c83 => ?_) (fun c83 => ?_)
    · have q1 : sumN (fitK (σ.1 19) (fN (σ.1 19) G 4) G) (k + 1) = sumN (fitK (σ.1 19) (fN (σ.1 19) G 4) G) k := by rw [sumN, fitK, pif_f (pb_iff.mp c83)]; rfl
      have q2 : fitV (σ.1 19) (fN (σ.1 19) G 4) G (k + 1) = fitV (σ.1 19) (fN (σ.1 19) G 4) G k := by rw [fitV, pif_f (pb_iff.mp c83)]
      have ih2 := ih (k + 1) (some (.int (nI (k % fN (σ.1 19) G 4)))) (some (.int (nI (k / fN (σ.1 19) G 4)))) (by omega)
      rw [q1, q2] at ih2
      refine x_iinc (lv' := [_, _, _, _, _, _]) (pc' := 121) rfl (nI_1 k) (by decide) rfl dX10_fit_118 rfl ?_
      refine x_goto (tgt := 37) (by decide) dX10_fit_121 ?_
      exact ih2
    · refine x_iload_n (pc' := 87) rfl dX10_fit_86 rfl ?_
      refine x_aload_n (pc' := 88) rfl dX10_fit_87 rfl ?_
      refine x_iload_n (pc' := 89) rfl dX10_fit_88 rfl ?_
      refine x_iload (pc' := 91) rfl dX10_fit_89 rfl ?_
      refine x_iload (pc' := 93) rfl dX10_fit_91 rfl ?_
      refine x_aload_n (pc' := 94) rfl dX10_fit_93 rfl ?_
      refine x_iload_n (pc' := 95) rfl dX10_fit_94 rfl ?_
      refine x_iload (pc' := 97) rfl dX10_fit_95 rfl ?_
      refine x_iload (pc' := 99) rfl dX10_fit_97 rfl ?_
      refine x_iconst (v := 0) (pc' := 100) (by decide) dX10_fit_99 rfl ?_
      refine x_callVi (As := [.int _, .int _, .int _, .int _]) (rest := [.int _, .int _, .int _, .ref _, .int _]) (ci := 9) (pc' := 103) rfl vk_X10_101 mk_X10_ofParent (by decide) (by first | assumption | exact ⟨by decide, rfl⟩) (by decide) rfl (Nat.le_of_ble_eq_true rfl) dX10_fit_100 rfl (v_X10_ofParent hs hv2 hG2 hp2 rfl rfl rfl c1 c3 (W := 0) rfl (by decide)) ?_
      refine x_aload_n (pc' := 104) rfl dX10_fit_103 rfl ?_
      refine x_iload_n (pc' := 105) rfl dX10_fit_104 rfl ?_
      refine x_iload (pc' := 107) rfl dX10_fit_105 rfl ?_
      refine x_iload (pc' := 109) rfl dX10_fit_107 rfl ?_
      refine x_iconst (v := 1) (pc' := 110) (by decide) dX10_fit_109 rfl ?_
      refine x_callVi (As := [.int _, .int _, .int _, .int _]) (rest := [.int _, .int _, .int _, .int _, .ref _, .int _]) (ci := 9) (pc' := 113) rfl vk_X10_101 mk_X10_ofParent (by decide) (by first | assumption | exact ⟨by decide, rfl⟩) (by decide) rfl (Nat.le_of_ble_eq_true rfl) dX10_fit_110 rfl (v_X10_ofParent hs hv2 hG2 hp2 rfl rfl rfl c1 c3 (W := 1) rfl (by decide)) ?_
      refine x_callVi (As := [.int _, .int _, .int _, .int _, .int _]) (rest := [.int _]) (ci := 9) (pc' := 116) rfl vk_X10_233 mk_X10_sets (by decide) (by first | assumption | exact ⟨by decide, rfl⟩) (by decide) rfl (Nat.le_of_ble_eq_true rfl) dX10_fit_113 rfl (v_X10_sets hs rfl rfl rfl g6 (by omega) (by omega)) ?_
      refine x_st (pA_pA _ _ _ _) ?_
      refine x_iadd (pc' := 117) dX10_fit_116 rfl ?_
      refine x_top (y := nI (sumN (fitK (σ.1 19) (fN (σ.1 19) G 4) G) (k + 1))) (by rw [nI_add, sumN, fitK, pif_t (pb_n c83)]) ?_
      refine x_st (σ' := pA τ 19 (fitV (σ.1 19) (fN (σ.1 19) G 4) G (k + 1))) (by rw [fitV, pif_t (pb_n c83)]) ?_
      refine x_istore_n (lv' := [_, _, _, _, _, _]) (pc' := 118) (by decide) rfl dX10_fit_117 rfl ?_
      refine x_iinc (lv' := [_, _, _, _, _, _]) (pc' := 121) rfl (nI_1 k) (by decide) rfl dX10_fit_118 rfl ?_
      refine x_goto (tgt := 37) (by decide) dX10_fit_121 ?_
      exact ih (k + 1) _ _ (by omega)
set_option maxRecDepth 100000 in
set_option maxHeartbeats 4000000 in
theorem a_X10_fit {σ : St} {G : Nat} (hv : Ok (σ.1 19)) (hG : G < cN (σ.1 19)) (hp : ¬ σ.1 19 (2 + 6 * G) = -1) {U : Nat} (hU : σ.1 18 3 = nI U) (hU16 : U ≤ 16) : ∃ σ', Ct yX10_fit M_X10_fit [.ref 18, .int (nI G)] σ (some (.int (nI (sumN (fitK (σ.1 19) (fN (σ.1 19) G 4) G) (fN (σ.1 19) G 4 * fN (σ.1 19) G 5)))), σ') ∧ DeedM σ σ' U (fitV (σ.1 19) (fN (σ.1 19) G 4) G (fN (σ.1 19) G 4 * fN (σ.1 19) G 5)) := by
  obtain ⟨τ, hN, hpu⟩ := c_X10_notes (σ := pI σ 18 0 0) hU hU16
  have hs : τ.1 19 = σ.1 19 := by rw [hpu.row (by decide) (by decide), pI_ne (by decide)]
  have hs0 : (pI σ 18 0 0).1 19 = σ.1 19 := pI_ne (by decide)
  have h6 := hv.c6
  have hg : 0 ≤ nI G ∧ nI G < nI (cN (σ.1 19)) := ⟨nI_pos' (by omega), nI_lt hG (by omega)⟩
  refine ⟨_, ?_, deed_of hpu _⟩
  refine ct_of (k := 4) rfl rfl rfl (Nat.le_of_ble_eq_true rfl) ?_
  refine x_aload_n (pc' := 1) rfl dX10_fit_0 rfl ?_
  refine x_iconst (v := 0) (pc' := 2) (by decide) dX10_fit_1 rfl ?_
  refine x_puti (pc' := 5) fk_X10_46 pk_9_0 rfl (by first | assumption | exact ⟨by decide, rfl⟩) dX10_fit_2 rfl ?_
  refine x_aload_n (pc' := 6) rfl dX10_fit_5 rfl ?_
  refine x_iload_n (pc' := 7) rfl dX10_fit_6 rfl ?_
  refine x_callVi (As := [.int _]) (rest := []) (ci := 9) (pc' := 10) rfl vk_X10_54 mk_X10_isGrid (by decide) (by first | assumption | exact ⟨by decide, rfl⟩) (by decide) rfl (Nat.le_of_ble_eq_true rfl) dX10_fit_7 rfl (c_X10_isGrid (σ := pI σ 18 0 0) hv.c0 hv.c6) ?_
  refine x_if_ne (tgt := 16) (pc' := 13) (by decide) dX10_fit_10 rfl (fun c10 => ?_) (fun c10 => absurd c10 (by rw [b1 hg]; decide))
  refine x_aload_n (pc' := 17) rfl dX10_fit_16 rfl ?_
  refine x_iload_n (pc' := 18) rfl dX10_fit_17 rfl ?_
  refine x_iconst (v := 0) (pc' := 19) (by decide) dX10_fit_18 rfl ?_
  refine x_callVi (As := [.int _, .int _]) (rest := []) (ci := 9) (pc' := 22) rfl vk_X10_58 mk_X10_its (by decide) (by first | assumption | exact ⟨by decide, rfl⟩) (by decide) rfl (Nat.le_of_ble_eq_true rfl) dX10_fit_19 rfl (v_X10_its hs0 (E := 0) rfl rfl (by omega)) ?_
  refine x_iconst (v := (-1)) (pc' := 23) (by decide) dX10_fit_22 rfl ?_
  refine x_icmp_ne (tgt := 29) (pc' := 26) (by decide) dX10_fit_23 rfl (fun c23 => ?_) (fun c23 => absurd c23 hp)
  refine x_aload_n (pc' := 30) rfl dX10_fit_29 rfl ?_
  refine x_callVv (As := []) (rest := []) (ci := 9) (pc' := 33) rfl vk_X10_223 mk_X10_notes (by decide) (by first | assumption | exact ⟨by decide, rfl⟩) (by decide) rfl (Nat.le_of_ble_eq_true rfl) dX10_fit_30 rfl hN ?_
  refine x_iconst (v := 0) (pc' := 34) (by decide) dX10_fit_33 rfl ?_
  refine x_istore_n (lv' := [_, _, _, _, _, _]) (pc' := 35) (by decide) rfl dX10_fit_34 rfl ?_
  refine x_iconst (v := 0) (pc' := 36) (by decide) dX10_fit_35 rfl ?_
  refine x_istore_n (lv' := [_, _, _, _, _, _]) (pc' := 37) (by decide) rfl dX10_fit_36 rfl ?_
  refine x_st (σ' := pA τ 19 (σ.1 19)) (by rw [← hs, pA_self]) ?_
  exact l_X10_fit hv hG hp _ 0 _ _ (Nat.zero_add _)
set_option maxRecDepth 100000 in
set_option maxHeartbeats 4000000 in
theorem r_X10_fit {σ : St} {g : Int32} (hv : Ok (σ.1 19)) (hn : ¬ (grS (σ.1 19) g ∧ ¬ σ.1 19 (2 + 6 * g.toNatClampNeg) = -1)) : ∃ σ', Ct yX10_fit M_X10_fit [.ref 18, .int g] σ (some (.int (pif (grS (σ.1 19) g) (-1000000003) (-1000000001))), σ') ∧ ScM σ σ' := by
  have h6 := hv.c6
  have hs0 : (pI σ 18 0 0).1 19 = σ.1 19 := pI_ne (by decide)
  refine ⟨_, ?_, ScM.thr σ 0⟩
  by_cases h : grS (σ.1 19) g
  · rw [pif_t h]
    obtain ⟨G, hG, rfl⟩ := grS_nat hv h
    have hp : σ.1 19 (2 + 6 * G) = -1 := Classical.not_not.mp (fun q => hn ⟨h, by rw [nI_clamp (by omega)]; exact q⟩)
    refine ct_of (k := 4) rfl rfl rfl (Nat.le_of_ble_eq_true rfl) ?_
    refine x_aload_n (pc' := 1) rfl dX10_fit_0 rfl ?_
    refine x_iconst (v := 0) (pc' := 2) (by decide) dX10_fit_1 rfl ?_
    refine x_puti (pc' := 5) fk_X10_46 pk_9_0 rfl (by first | assumption | exact ⟨by decide, rfl⟩) dX10_fit_2 rfl ?_
    refine x_aload_n (pc' := 6) rfl dX10_fit_5 rfl ?_
    refine x_iload_n (pc' := 7) rfl dX10_fit_6 rfl ?_
    refine x_callVi (As := [.int _]) (rest := []) (ci := 9) (pc' := 10) rfl vk_X10_54 mk_X10_isGrid (by decide) (by first | assumption | exact ⟨by decide, rfl⟩) (by decide) rfl (Nat.le_of_ble_eq_true rfl) dX10_fit_7 rfl (c_X10_isGrid (σ := pI σ 18 0 0) hv.c0 hv.c6) ?_
    refine x_if_ne (tgt := 16) (pc' := 13) (by decide) dX10_fit_10 rfl (fun c10 => ?_) (fun c10 => absurd c10 (by rw [b1 ((grS_iff hv).mpr h)]; decide))
    refine x_aload_n (pc' := 17) rfl dX10_fit_16 rfl ?_
    refine x_iload_n (pc' := 18) rfl dX10_fit_17 rfl ?_
    refine x_iconst (v := 0) (pc' := 19) (by decide) dX10_fit_18 rfl ?_
    refine x_callVi (As := [.int _, .int _]) (rest := []) (ci := 9) (pc' := 22) rfl vk_X10_58 mk_X10_its (by decide) (by first | assumption | exact ⟨by decide, rfl⟩) (by decide) rfl (Nat.le_of_ble_eq_true rfl) dX10_fit_19 rfl (v_X10_its hs0 (E := 0) rfl rfl (by omega)) ?_
    refine x_iconst (v := (-1)) (pc' := 23) (by decide) dX10_fit_22 rfl ?_
    refine x_icmp_ne (tgt := 29) (pc' := 26) (by decide) dX10_fit_23 rfl (fun c23 => absurd hp c23) (fun c23 => ?_)
    refine x_ldc (pc' := 28) kc_X10_221 dX10_fit_26 rfl ?_
    exact x_iret rfl dX10_fit_28 rfl
  · rw [pif_f h]
    refine ct_of (k := 4) rfl rfl rfl (Nat.le_of_ble_eq_true rfl) ?_
    refine x_aload_n (pc' := 1) rfl dX10_fit_0 rfl ?_
    refine x_iconst (v := 0) (pc' := 2) (by decide) dX10_fit_1 rfl ?_
    refine x_puti (pc' := 5) fk_X10_46 pk_9_0 rfl (by first | assumption | exact ⟨by decide, rfl⟩) dX10_fit_2 rfl ?_
    refine x_aload_n (pc' := 6) rfl dX10_fit_5 rfl ?_
    refine x_iload_n (pc' := 7) rfl dX10_fit_6 rfl ?_
    refine x_callVi (As := [.int _]) (rest := []) (ci := 9) (pc' := 10) rfl vk_X10_54 mk_X10_isGrid (by decide) (by first | assumption | exact ⟨by decide, rfl⟩) (by decide) rfl (Nat.le_of_ble_eq_true rfl) dX10_fit_7 rfl (c_X10_isGrid (σ := pI σ 18 0 0) hv.c0 hv.c6) ?_
    refine x_if_ne (tgt := 16) (pc' := 13) (by decide) dX10_fit_10 rfl (fun c10 => absurd (b0 (fun q => h ((grS_iff hv).mp q))) c10) (fun c10 => ?_)
    refine x_ldc (pc' := 15) kc_X10_170 dX10_fit_13 rfl ?_
    exact x_iret rfl dX10_fit_15 rfl
/-! ===== drift ===== -/
def drG (v : Nat → Int32) (s : Nat) : Nat := sd s / 65536 % cN v
def drK (v : Nat → Int32) (s : Nat) : Nat := sd (sd s) / 65536 % fN v (drG v s) 4
def drR (v : Nat → Int32) (s : Nat) : Nat := sd (sd (sd s)) / 65536 % fN v (drG v s) 5
def drX (s : Nat) : Int32 := nI (sd s / 65536 % 401) - 200
def drow (v : Nat → Int32) (s : Nat) : Nat → Int32 := set2 v (ndI (drG v s) (drK v s) (drR v s)) (drX (sd (sd (sd s)))) (drX (sd (sd (sd (sd s)))))
def drS (s : Nat) : Nat := sd (sd (sd (sd (sd s))))
def drI (v : Nat → Int32) (s : Nat) : Nat → (Nat → Int32) × Nat
  | 0 => (v, s)
  | n + 1 => (drow (drI v s n).1 (drI v s n).2, drS (drI v s n).2)
theorem drX_sm (s : Nat) : Sm (drX s) := by
  have h : sd s / 65536 % 401 < 401 := Nat.mod_lt _ (by decide)
  have e : (drX s).toInt = ((sd s / 65536 % 401 : Nat) : Int) - 200 := pk_sub_toInt (b := 200) (by omega) (by decide)
  rw [Sm, e]
  omega
theorem drow_lo (v : Nat → Int32) (s : Nat) {j : Nat} (h : j < 38) : drow v s j = v j := set2_lo (by unfold ndI; omega)
theorem drI_ok {v : Nat → Int32} (hv : Ok v) (s : Nat) : ∀ n, Ok (drI v s n).1 ∧ (∀ j, j < 38 → (drI v s n).1 j = v j)
  | 0 => ⟨hv, fun _ _ => rfl⟩
  | n + 1 => by
    obtain ⟨h1, h2⟩ := drI_ok hv s n
    exact ⟨Ok_set2 h1 (drX_sm _) (drX_sm _), fun j hj => (drow_lo _ _ hj).trans (h2 j hj)⟩
/-- what is ahead, seen from the latest on -/
def HistM (σ : St) (U : Nat) (t : Nat → Nat → Int32) : Prop := σ.1 18 3 = nI U ∧ U ≤ 16 ∧ ∀ i, i < U → ∀ j, j < 338 → σ.1 20 (338 * (U - 1 - i) + j) = t i j
def pushT (v : Nat → Int32) (t : Nat → Nat → Int32) : Nat → Nat → Int32
  | 0 => v
  | i + 1 => t i
theorem push_hist {σ σ' : St} {U : Nat} {t : Nat → Nat → Int32} (h : Push σ σ' U) (ht : HistM σ U t) : HistM σ' (min (U + 1) 16) (pushT (σ.1 19) t) := by
  refine ⟨h.1, Nat.min_le_right _ _, fun i hi j hj => ?_⟩
  cases i with
  | zero => exact h.2.1 j hj
  | succ i =>
    rw [h.2.2.1 i hi j hj]
    exact ht.2.2 i (by omega) j hj
def pushD (v : Nat → Int32) (s : Nat) (t : Nat → Nat → Int32) : Nat → Nat → Nat → Int32
  | 0 => t
  | n + 1 => pushT (drI v s n).1 (pushD v s t n)
/-- what a drift of the reference may change -/
def ScD (σ σ' : St) : Prop := (∀ k j, k ≠ 18 → k ≠ 19 → k ≠ 20 → k ≠ 27 → k ≠ 28 → σ'.1 k j = σ.1 k j) ∧ (∀ j, j ≠ 0 → j ≠ 3 → j ≠ 12 → j ≠ 13 → σ'.1 18 j = σ.1 18 j) ∧ σ'.2.2 = σ.2.2 ∧ ∀ k j, ¬ (k = 18 ∧ j = 7) → σ'.2.1 k j = σ.2.1 k j
theorem pL_pL (σ : St) (k j : Nat) (a b : Int64) : pL (pL σ k j a) k j b = pL σ k j b := by
  refine Prod.ext rfl (Prod.ext ?_ rfl)
  funext x y
  show (if x = k ∧ y = j then b else if x = k ∧ y = j then a else σ.2.1 x y) = if x = k ∧ y = j then b else σ.2.1 x y
  by_cases h : x = k ∧ y = j
  · rw [if_pos h, if_pos h]
  · rw [if_neg h, if_neg h, if_neg h]
theorem drift_hist {τ : St} {v : Nat → Int32} {x : Int64} {U : Nat} {t : Nat → Nat → Int32} (h : HistM τ U t) : HistM (pA (pL τ 18 7 x) 19 v) U t := h
theorem drift_sc {σ ρ τ : St} {v : Nat → Int32} {x : Int64} {U : Nat} (h : ScD σ ρ) (hp : Push ρ τ U) : ScD σ (pA (pL τ 18 7 x) 19 v) := by
  obtain ⟨h1, h2, h3, h4⟩ := h
  obtain ⟨-, -, -, p4, p5⟩ := hp
  refine ⟨fun k j k1 k2 k3 k4 k5 => ?_, fun j j0 j3 j4 j5 => ?_, by show τ.2.2 = _; rw [p5]; exact h3, fun k j hk => ?_⟩
  · rw [pA_ne k2]
    show τ.1 k j = _
    rw [p4 k j k3 (fun q => k1 q.1)]
    exact h1 k j k1 k2 k3 k4 k5
  · rw [pA_ne (by decide)]
    show τ.1 18 j = _
    rw [p4 18 j (by decide) (fun q => j3 q.2)]
    exact h2 j j0 j3 j4 j5
  · show (if k = 18 ∧ j = 7 then x else τ.2.1 k j) = _
    rw [if_neg hk, p5]
    exact h4 k j hk
set_option maxRecDepth 100000 in
set_option maxHeartbeats 4000000 in
theorem l_X10_drift {σ : St} {v : Nat → Int32} {s U n : Nat} {t : Nat → Nat → Int32} (hv : Ok v) (hc : 0 < cN v) (hs31 : s < 2 ^ 31) (hn : n ≤ 12) : ∀ (f k : Nat) (ρ : St) (A B D E : Option Value), k + f = n → ρ.1 19 = (drI v s k).1 → ρ.2.1 18 7 = lN (drI v s k).2 → HistM ρ (min (U + k) 16) (pushD v s t k) → ScD σ ρ → ∃ σ', Ex M_X10_drift (some (.int (nI (nmS (drI v s n).1))), σ') 34 [some (.ref 18), some (.int (nI n)), some (.int (nI k)), A, B, D, E] [] ρ ∧ σ'.1 19 = (drI v s n).1 ∧ σ'.2.1 18 7 = lN (drI v s n).2 ∧ HistM σ' (min (U + n) 16) (pushD v s t n) ∧ ScD σ σ' := by
  intro f
  induction f with
  | zero =>
    intro k ρ A B D E hk h1 h2 h3 h4
    obtain rfl : k = n := by omega
    refine ⟨ρ, ?_, h1, h2, h3, h4⟩
    obtain ⟨o1, o2⟩ := drI_ok hv s k
    refine x_iload_n (pc' := 35) rfl dX10_drift_34 rfl ?_
    refine x_iload_n (pc' := 36) rfl dX10_drift_35 rfl ?_
    refine x_icmp_ge (tgt := 120) (pc' := 39) (by decide) dX10_drift_36 rfl (fun c36 => ?_) (fun c36 => absurd (nI_le (Nat.le_refl _) (by omega)) c36)
    refine x_aload_n (pc' := 121) rfl dX10_drift_120 rfl ?_
    refine x_callVi (As := []) (rest := []) (ci := 9) (pc' := 124) rfl vk_X10_156 mk_X10_nodesMoved (by decide) (by first | assumption | exact ⟨by decide, rfl⟩) (by decide) rfl (Nat.le_of_ble_eq_true rfl) dX10_drift_121 rfl (v_X10_nodesMoved h1 o1) ?_
    exact x_iret rfl dX10_drift_124 rfl
  | succ f ih =>
    intro k ρ A B D E hk h1 h2 h3 h4
    obtain ⟨o1, o2⟩ := drI_ok hv s k
    obtain ⟨τ, hN, hpu⟩ := c_X10_notes (σ := ρ) h3.1 h3.2.1
    have hτ : τ.1 19 = (drI v s k).1 := by rw [hpu.row (by decide) (by decide), h1]
    have hτs : τ.2.1 18 7 = lN (drI v s k).2 := by rw [hpu.2.2.2.2]; exact h2
    have hcN : cN (drI v s k).1 = cN v := lo_cN o2
    have hc6 := hv.c6
    have hG : drG (drI v s k).1 (drI v s k).2 < cN (drI v s k).1 := Nat.mod_lt _ (by rw [hcN]; exact hc)
    obtain ⟨g6, c5, r5, c2, r2, s1, s64⟩ := o1.b hG
    have hf := o1.F hG
    have hK : drK (drI v s k).1 (drI v s k).2 < fN (drI v s k).1 (drG (drI v s k).1 (drI v s k).2) 4 := Nat.mod_lt _ (by omega)
    have hR : drR (drI v s k).1 (drI v s k).2 < fN (drI v s k).1 (drG (drI v s k).1 (drI v s k).2) 5 := Nat.mod_lt _ (by omega)
    have hh := push_hist hpu h3
    rw [h1, show min (min (U + k) 16 + 1) 16 = min (U + (k + 1)) 16 by omega] at hh
    obtain ⟨σ', hE, r1⟩ := ih (k + 1) (pA (pL τ 18 7 (lN (drS (drI v s k).2))) 19 (drow (drI v s k).1 (drI v s k).2)) (some (.int (nI (drG (drI v s k).1 (drI v s k).2)))) (some (.int (nI (drK (drI v s k).1 (drI v s k).2)))) (some (.int (nI (drR (drI v s k).1 (drI v s k).2)))) (some (.int (drX (sd (sd (sd (drI v s k).2)))))) (by omega) (pA_at _ _ _) rfl (drift_hist hh) (drift_sc h4 hpu)
    refine ⟨σ', ?_, r1⟩
    refine x_iload_n (pc' := 35) rfl dX10_drift_34 rfl ?_
    refine x_iload_n (pc' := 36) rfl dX10_drift_35 rfl ?_
    refine x_icmp_ge (tgt := 120) (pc' := 39) (by decide) dX10_drift_36 rfl (fun c36 => absurd c36 (nI_ge (by omega) (by omega))) (fun c36 => ?_)
    refine x_aload_n (pc' := 40) rfl dX10_drift_39 rfl ?_
    refine x_callVv (As := []) (rest := []) (ci := 9) (pc' := 43) rfl vk_X10_223 mk_X10_notes (by decide) (by first | assumption | exact ⟨by decide, rfl⟩) (by decide) rfl (Nat.le_of_ble_eq_true rfl) dX10_drift_40 rfl hN ?_
    refine x_aload_n (pc' := 44) rfl dX10_drift_43 rfl ?_
    refine x_aload_n (pc' := 45) rfl dX10_drift_44 rfl ?_
    refine x_get (v := .ref 19) (pc' := 48) fk_X10_7 (by first | assumption | exact ⟨by decide, rfl⟩) rfl dX10_drift_45 rfl ?_
    refine x_iconst (v := 0) (pc' := 49) (by decide) dX10_drift_48 rfl ?_
    refine x_ialdn (N := 338) (n := 0) (pc' := 50) (by first | assumption | exact ⟨by decide, rfl⟩) (by decide) rfl (by decide) dX10_drift_49 rfl ?_
    refine x_callVi (As := [.int _]) (rest := []) (ci := 9) (pc' := 53) rfl vk_X10_247 mk_X10_draw (by decide) (by first | assumption | exact ⟨by decide, rfl⟩) (by decide) rfl (Nat.le_of_ble_eq_true rfl) dX10_drift_50 rfl (c_X10_draw (m := cN (drI v s k).1) hτs (by rw [hτ]; exact o1.c0) (by omega) (by omega)) ?_
    refine x_top (y := nI (drG (drI v s k).1 (drI v s k).2)) rfl ?_
    refine x_istore_n (lv' := [_, _, _, _, _, _, _]) (pc' := 54) (by decide) rfl dX10_drift_53 rfl ?_
    refine x_aload_n (pc' := 55) rfl dX10_drift_54 rfl ?_
    refine x_aload_n (pc' := 56) rfl dX10_drift_55 rfl ?_
    refine x_iload_n (pc' := 57) rfl dX10_drift_56 rfl ?_
    refine x_iconst (v := 4) (pc' := 58) (by decide) dX10_drift_57 rfl ?_
    refine x_callVi (As := [.int _, .int _]) (rest := [.ref _]) (ci := 9) (pc' := 61) rfl vk_X10_58 mk_X10_its (by decide) (by first | assumption | exact ⟨by decide, rfl⟩) (by decide) rfl (Nat.le_of_ble_eq_true rfl) dX10_drift_58 rfl (v_X10_its (show (pL τ 18 7 _).1 19 = (drI v s k).1 from hτ) (E := 4) rfl rfl (by have := hG; omega)) ?_
    refine x_callVi (As := [.int _]) (rest := []) (ci := 9) (pc' := 64) rfl vk_X10_247 mk_X10_draw (by decide) (by first | assumption | exact ⟨by decide, rfl⟩) (by decide) rfl (Nat.le_of_ble_eq_true rfl) dX10_drift_61 rfl (c_X10_draw (s := sd (drI v s k).2) (m := fN (drI v s k).1 (drG (drI v s k).1 (drI v s k).2) 4) rfl (hf.at (by omega) (by omega)) (by omega) (by omega)) ?_
    refine x_st (pL_pL _ _ _ _ _) ?_
    refine x_top (y := nI (drK (drI v s k).1 (drI v s k).2)) rfl ?_
    refine x_istore (lv' := [_, _, _, _, _, _, _]) (pc' := 66) (by decide) rfl dX10_drift_64 rfl ?_
    refine x_aload_n (pc' := 67) rfl dX10_drift_66 rfl ?_
    refine x_aload_n (pc' := 68) rfl dX10_drift_67 rfl ?_
    refine x_iload_n (pc' := 69) rfl dX10_drift_68 rfl ?_
    refine x_iconst (v := 5) (pc' := 70) (by decide) dX10_drift_69 rfl ?_
    refine x_callVi (As := [.int _, .int _]) (rest := [.ref _]) (ci := 9) (pc' := 73) rfl vk_X10_58 mk_X10_its (by decide) (by first | assumption | exact ⟨by decide, rfl⟩) (by decide) rfl (Nat.le_of_ble_eq_true rfl) dX10_drift_70 rfl (v_X10_its (show (pL τ 18 7 _).1 19 = (drI v s k).1 from hτ) (E := 5) rfl rfl (by have := hG; omega)) ?_
    refine x_callVi (As := [.int _]) (rest := []) (ci := 9) (pc' := 76) rfl vk_X10_247 mk_X10_draw (by decide) (by first | assumption | exact ⟨by decide, rfl⟩) (by decide) rfl (Nat.le_of_ble_eq_true rfl) dX10_drift_73 rfl (c_X10_draw (s := sd (sd (drI v s k).2)) (m := fN (drI v s k).1 (drG (drI v s k).1 (drI v s k).2) 5) rfl (hf.at (by omega) (by omega)) (by omega) (by omega)) ?_
    refine x_st (pL_pL _ _ _ _ _) ?_
    refine x_top (y := nI (drR (drI v s k).1 (drI v s k).2)) rfl ?_
    refine x_istore (lv' := [_, _, _, _, _, _, _]) (pc' := 78) (by decide) rfl dX10_drift_76 rfl ?_
    refine x_aload_n (pc' := 79) rfl dX10_drift_78 rfl ?_
    refine x_sipush (v := 401) (pc' := 82) (by decide) dX10_drift_79 rfl ?_
    refine x_callVi (As := [.int _]) (rest := []) (ci := 9) (pc' := 85) rfl vk_X10_247 mk_X10_draw (by decide) (by first | assumption | exact ⟨by decide, rfl⟩) (by decide) rfl (Nat.le_of_ble_eq_true rfl) dX10_drift_82 rfl (c_X10_draw (s := sd (sd (sd (drI v s k).2))) (m := 401) rfl rfl (by decide) (by decide)) ?_
    refine x_st (pL_pL _ _ _ _ _) ?_
    refine x_sipush (v := 200) (pc' := 88) (by decide) dX10_drift_85 rfl ?_
    refine x_isub (pc' := 89) dX10_drift_88 rfl ?_
    refine x_top (y := drX (sd (sd (sd (drI v s k).2)))) rfl ?_
    refine x_istore (lv' := [_, _, _, _, _, _, _]) (pc' := 91) (by decide) rfl dX10_drift_89 rfl ?_
    refine x_aload_n (pc' := 92) rfl dX10_drift_91 rfl ?_
    refine x_iload_n (pc' := 93) rfl dX10_drift_92 rfl ?_
    refine x_iload (pc' := 95) rfl dX10_drift_93 rfl ?_
    refine x_iload (pc' := 97) rfl dX10_drift_95 rfl ?_
    refine x_iload (pc' := 99) rfl dX10_drift_97 rfl ?_
    refine x_aload_n (pc' := 100) rfl dX10_drift_99 rfl ?_
    refine x_sipush (v := 401) (pc' := 103) (by decide) dX10_drift_100 rfl ?_
    refine x_callVi (As := [.int _]) (rest := [.int _, .int _, .int _, .int _, .ref _]) (ci := 9) (pc' := 106) rfl vk_X10_247 mk_X10_draw (by decide) (by first | assumption | exact ⟨by decide, rfl⟩) (by decide) rfl (Nat.le_of_ble_eq_true rfl) dX10_drift_103 rfl (c_X10_draw (s := sd (sd (sd (sd (drI v s k).2)))) (m := 401) rfl rfl (by decide) (by decide)) ?_
    refine x_st (pL_pL _ _ _ _ _) ?_
    refine x_sipush (v := 200) (pc' := 109) (by decide) dX10_drift_106 rfl ?_
    refine x_isub (pc' := 110) dX10_drift_109 rfl ?_
    refine x_top (y := drX (sd (sd (sd (sd (drI v s k).2))))) rfl ?_
    refine x_callVi (As := [.int _, .int _, .int _, .int _, .int _]) (rest := []) (ci := 9) (pc' := 113) rfl vk_X10_233 mk_X10_sets (by decide) (by first | assumption | exact ⟨by decide, rfl⟩) (by decide) rfl (Nat.le_of_ble_eq_true rfl) dX10_drift_110 rfl (v_X10_sets (show (pL τ 18 7 _).1 19 = (drI v s k).1 from hτ) rfl rfl rfl g6 (by omega) (by omega)) ?_
    refine x_pop (pc' := 114) rfl dX10_drift_113 rfl ?_
    refine x_iinc (lv' := [_, _, _, _, _, _, _]) (pc' := 117) rfl (nI_1 k) (by decide) rfl dX10_drift_114 rfl ?_
    refine x_goto (tgt := 34) (by decide) dX10_drift_117 ?_
    exact hE
set_option maxRecDepth 100000 in
set_option maxHeartbeats 4000000 in
theorem a_X10_drift {σ : St} {v : Nat → Int32} {s U n : Nat} {t : Nat → Nat → Int32} (hrow : σ.1 19 = v) (hv : Ok v) (hc : 0 < cN v) (hs : σ.2.1 18 7 = lN s) (hs31 : s < 2 ^ 31) (ht : HistM σ U t) (h1 : 1 ≤ n) (hn : n ≤ 12) : ∃ σ', Ct yX10_drift M_X10_drift [.ref 18, .int (nI n)] σ (some (.int (nI (nmS (drI v s n).1))), σ') ∧ σ'.1 19 = (drI v s n).1 ∧ σ'.2.1 18 7 = lN (drI v s n).2 ∧ HistM σ' (min (U + n) 16) (pushD v s t n) ∧ ScD σ σ' := by
  have hU16 := ht.2.1
  have hh : HistM (pI σ 18 0 0) (min (U + 0) 16) (pushD v s t 0) := by rw [Nat.add_zero, Nat.min_eq_left hU16]; exact ht
  have hsc : ScD σ (pI σ 18 0 0) := ⟨fun k j k1 _ _ _ _ => by rw [pI_ne k1], fun j j0 _ _ _ => by rw [pI_app, if_neg (fun q => j0 q.2)], rfl, fun _ _ _ => rfl⟩
  obtain ⟨σ', hE, r1⟩ := l_X10_drift (σ := σ) (U := U) (t := t) hv hc hs31 hn n 0 (pI σ 18 0 0) none none none none (Nat.zero_add _) hrow hs hh hsc
  refine ⟨σ', ?_, r1⟩
  refine ct_of (k := 5) rfl rfl rfl (Nat.le_of_ble_eq_true rfl) ?_
  refine x_aload_n (pc' := 1) rfl dX10_drift_0 rfl ?_
  refine x_iconst (v := 0) (pc' := 2) (by decide) dX10_drift_1 rfl ?_
  refine x_puti (pc' := 5) fk_X10_46 pk_9_0 rfl (by first | assumption | exact ⟨by decide, rfl⟩) dX10_drift_2 rfl ?_
  refine x_iload_n (pc' := 6) rfl dX10_drift_5 rfl ?_
  refine x_i2l (pc' := 7) dX10_drift_6 rfl ?_
  refine x_lconst (v := 1) (pc' := 8) (by decide) dX10_drift_7 rfl ?_
  refine x_ldc2 (pc' := 11) kl_X10_245 dX10_drift_8 rfl ?_
  refine x_callSi (As := [.long _, .long _, .long _]) (rest := []) (pc' := 14) rfl sk_X10_50 mk_X10_in (by decide) rfl (Nat.le_of_ble_eq_true rfl) dX10_drift_11 rfl c_X10_in ?_
  refine x_if_ne (tgt := 20) (pc' := 17) (by decide) dX10_drift_14 rfl (fun c14 => ?_) (fun c14 => absurd c14 (by rw [b1 ((in_d _).mpr ⟨nI_le (a := 1) h1 (by omega), nI_le (b := 12) hn (by decide)⟩)]; decide))
  refine x_aload_n (pc' := 21) rfl dX10_drift_20 rfl ?_
  refine x_get (v := .ref 19) (pc' := 24) fk_X10_7 (by first | assumption | exact ⟨by decide, rfl⟩) rfl dX10_drift_21 rfl ?_
  refine x_iconst (v := 0) (pc' := 25) (by decide) dX10_drift_24 rfl ?_
  refine x_ialdn (N := 338) (n := 0) (pc' := 26) (by first | assumption | exact ⟨by decide, rfl⟩) (by decide) rfl (by decide) dX10_drift_25 rfl ?_
  refine x_if_ne (tgt := 32) (pc' := 29) (by decide) dX10_drift_26 rfl (fun c26 => ?_) (fun c26 => absurd c26 (by rw [show (pI σ 18 0 0).1 19 0 = nI (cN v) by rw [pI_ne (by decide), hrow]; exact hv.c0]; exact nI_ne0 hc (by have := hv.c6; omega)))
  refine x_iconst (v := 0) (pc' := 33) (by decide) dX10_drift_32 rfl ?_
  refine x_istore_n (lv' := [_, _, _, _, _, _, _]) (pc' := 34) (by decide) rfl dX10_drift_33 rfl ?_
  exact hE
set_option maxRecDepth 100000 in
set_option maxHeartbeats 4000000 in
theorem r_X10_drift {σ : St} {x : Int32} (hv : Ok (σ.1 19)) (hn : ¬ ((1 ≤ x ∧ x ≤ 12) ∧ 0 < cN (σ.1 19))) : ∃ σ', Ct yX10_drift M_X10_drift [.ref 18, .int x] σ (some (.int (pif (1 ≤ x ∧ x ≤ 12) (-1000000003) (-1000000002))), σ') ∧ ScM σ σ' := by
  refine ⟨_, ?_, ScM.thr σ 0⟩
  by_cases h : 1 ≤ x ∧ x ≤ 12
  · rw [pif_t h]
    have e : cN (σ.1 19) = 0 := by
      have : ¬ 0 < cN (σ.1 19) := fun q => hn ⟨h, q⟩
      omega
    refine ct_of (k := 5) rfl rfl rfl (Nat.le_of_ble_eq_true rfl) ?_
    refine x_aload_n (pc' := 1) rfl dX10_drift_0 rfl ?_
    refine x_iconst (v := 0) (pc' := 2) (by decide) dX10_drift_1 rfl ?_
    refine x_puti (pc' := 5) fk_X10_46 pk_9_0 rfl (by first | assumption | exact ⟨by decide, rfl⟩) dX10_drift_2 rfl ?_
    refine x_iload_n (pc' := 6) rfl dX10_drift_5 rfl ?_
    refine x_i2l (pc' := 7) dX10_drift_6 rfl ?_
    refine x_lconst (v := 1) (pc' := 8) (by decide) dX10_drift_7 rfl ?_
    refine x_ldc2 (pc' := 11) kl_X10_245 dX10_drift_8 rfl ?_
    refine x_callSi (As := [.long _, .long _, .long _]) (rest := []) (pc' := 14) rfl sk_X10_50 mk_X10_in (by decide) rfl (Nat.le_of_ble_eq_true rfl) dX10_drift_11 rfl c_X10_in ?_
    refine x_if_ne (tgt := 20) (pc' := 17) (by decide) dX10_drift_14 rfl (fun c14 => ?_) (fun c14 => absurd c14 (by rw [b1 ((in_d _).mpr h)]; decide))
    refine x_aload_n (pc' := 21) rfl dX10_drift_20 rfl ?_
    refine x_get (v := .ref 19) (pc' := 24) fk_X10_7 (by first | assumption | exact ⟨by decide, rfl⟩) rfl dX10_drift_21 rfl ?_
    refine x_iconst (v := 0) (pc' := 25) (by decide) dX10_drift_24 rfl ?_
    refine x_ialdn (N := 338) (n := 0) (pc' := 26) (by first | assumption | exact ⟨by decide, rfl⟩) (by decide) rfl (by decide) dX10_drift_25 rfl ?_
    refine x_if_ne (tgt := 32) (pc' := 29) (by decide) dX10_drift_26 rfl (fun c26 => absurd (by rw [show (pI σ 18 0 0).1 19 0 = nI (cN (σ.1 19)) by rw [pI_ne (by decide)]; exact hv.c0, e]; rfl) c26) (fun c26 => ?_)
    refine x_ldc (pc' := 31) kc_X10_221 dX10_drift_29 rfl ?_
    exact x_iret rfl dX10_drift_31 rfl
  · rw [pif_f h]
    refine ct_of (k := 5) rfl rfl rfl (Nat.le_of_ble_eq_true rfl) ?_
    refine x_aload_n (pc' := 1) rfl dX10_drift_0 rfl ?_
    refine x_iconst (v := 0) (pc' := 2) (by decide) dX10_drift_1 rfl ?_
    refine x_puti (pc' := 5) fk_X10_46 pk_9_0 rfl (by first | assumption | exact ⟨by decide, rfl⟩) dX10_drift_2 rfl ?_
    refine x_iload_n (pc' := 6) rfl dX10_drift_5 rfl ?_
    refine x_i2l (pc' := 7) dX10_drift_6 rfl ?_
    refine x_lconst (v := 1) (pc' := 8) (by decide) dX10_drift_7 rfl ?_
    refine x_ldc2 (pc' := 11) kl_X10_245 dX10_drift_8 rfl ?_
    refine x_callSi (As := [.long _, .long _, .long _]) (rest := []) (pc' := 14) rfl sk_X10_50 mk_X10_in (by decide) rfl (Nat.le_of_ble_eq_true rfl) dX10_drift_11 rfl c_X10_in ?_
    refine x_if_ne (tgt := 20) (pc' := 17) (by decide) dX10_drift_14 rfl (fun c14 => absurd (b0 (fun q => h ((in_d x).mp q))) c14) (fun c14 => ?_)
    refine x_ldc (pc' := 19) kc_X10_169 dX10_drift_17 rfl ?_
    exact x_iret rfl dX10_drift_19 rfl
