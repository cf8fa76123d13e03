theorem i_pos {n : Nat} (h : n < 2 ^ 31) : (0 : Int32) ≤ nI n := i_nlt.mp (nI_pos h)
theorem grS_of {v : Nat → Int32} (hv : Ok v) {G : Nat} (hG : G < cN v) : grS v (nI G) := by
  have h6 := hv.c6
  exact (grS_iff hv).mp ⟨i_pos (by omega), i_nle.mp (nI_ge hG (by omega))⟩
theorem nod_iff {v : Nat → Int32} (hv : Ok v) {G : Nat} (hG : G < cN v) {c r : Int32} : nodS v (nI G) c r ↔ ((0 ≤ c ∧ c < nI (fN v G 4)) ∧ 0 ≤ r ∧ r < nI (fN v G 5)) := by
  have h6 := hv.c6
  unfold nodS
  rw [nI_clamp (by omega), (hv.F hG).at (e := 4) (by decide) (by decide), (hv.F hG).at (e := 5) (by decide) (by decide)]
  exact ⟨fun q => q.2, fun q => ⟨grS_of hv hG, q⟩⟩
theorem cel_iff {v : Nat → Int32} (hv : Ok v) {G : Nat} (hG : G < cN v) {c r : Int32} : celS v (nI G) c r ↔ ((0 ≤ c ∧ c < nI (fN v G 4) - 1) ∧ 0 ≤ r ∧ r < nI (fN v G 5) - 1) := by
  have h6 := hv.c6
  unfold celS
  rw [nI_clamp (by omega), (hv.F hG).at (e := 4) (by decide) (by decide), (hv.F hG).at (e := 5) (by decide) (by decide)]
  exact ⟨fun q => q.2, fun q => ⟨grS_of hv hG, q⟩⟩
theorem out_le {x : Int32} {n : Nat} {b : Int32} (hb : b.toInt < (nI n).toInt) (h : x < 0 ∨ nI n ≤ x) : ¬ (0 ≤ x ∧ x ≤ b) := fun q => h.elim (fun h => i_nlt.mpr q.1 h) (fun h => absurd (Int.le_trans ((sI_le _ _).mp h) ((sI_le _ _).mp q.2)) (by omega))
theorem out_lt {x : Int32} {n : Nat} (h : x < 0 ∨ nI n ≤ x) : ¬ (0 ≤ x ∧ x < nI n) := fun q => h.elim (fun h => i_nlt.mpr q.1 h) (fun h => i_nlt.mpr h q.2)
set_option maxRecDepth 100000 in
set_option maxHeartbeats 4000000 in
theorem c_X5_size {σ : St}  : Ct yX5_size M_X5_size [.ref 1] σ (some (.int (σ.1 1 2)), σ) := by
  refine ct_of (k := 0) rfl rfl rfl (Nat.le_of_ble_eq_true rfl) ?_
  refine x_aload_n (pc' := 1) rfl dX5_size_0 rfl ?_
  refine x_get (v := .int _) (pc' := 4) fk_X5_18 (by first | assumption | exact ⟨by decide, rfl⟩) rfl dX5_size_1 rfl ?_
  exact x_iret rfl dX5_size_4 rfl
set_option maxRecDepth 100000 in
set_option maxHeartbeats 4000000 in
theorem c_X5_clear {σ : St}  : Ct yX5_clear M_X5_clear [.ref 1] σ (none, pI σ 1 2 0) := by
  refine ct_of (k := 0) rfl rfl rfl (Nat.le_of_ble_eq_true rfl) ?_
  refine x_aload_n (pc' := 1) rfl dX5_clear_0 rfl ?_
  refine x_iconst (v := 0) (pc' := 2) (by decide) dX5_clear_1 rfl ?_
  refine x_puti (pc' := 5) fk_X5_18 pk_4_2 rfl (by first | assumption | exact ⟨by decide, rfl⟩) dX5_clear_2 rfl ?_
  exact x_vret rfl dX5_clear_5 rfl
set_option maxRecDepth 100000 in
set_option maxHeartbeats 4000000 in
theorem c_X3_seedNow {σ : St}  : Ct yX3_seedNow M_X3_seedNow [.ref 9] σ (some (.int (σ.1 9 0)), σ) := by
  refine ct_of (k := 0) rfl rfl rfl (Nat.le_of_ble_eq_true rfl) ?_
  refine x_aload_n (pc' := 1) rfl dX3_seedNow_0 rfl ?_
  refine x_get (v := .int _) (pc' := 4) fk_X3_7 (by first | assumption | exact ⟨by decide, rfl⟩) rfl dX3_seedNow_1 rfl ?_
  exact x_iret rfl dX3_seedNow_4 rfl
set_option maxRecDepth 100000 in
set_option maxHeartbeats 4000000 in
theorem c_X3_setSeed {σ : St} {x : Int32} : Ct yX3_setSeed M_X3_setSeed [.ref 9, .int x] σ (none, pI σ 9 0 x) := by
  refine ct_of (k := 0) rfl rfl rfl (Nat.le_of_ble_eq_true rfl) ?_
  refine x_aload_n (pc' := 1) rfl dX3_setSeed_0 rfl ?_
  refine x_iload_n (pc' := 2) rfl dX3_setSeed_1 rfl ?_
  refine x_puti (pc' := 5) fk_X3_7 pk_2_0 rfl (by first | assumption | exact ⟨by decide, rfl⟩) dX3_setSeed_2 rfl ?_
  exact x_vret rfl dX3_setSeed_5 rfl
set_option maxRecDepth 100000 in
set_option maxHeartbeats 4000000 in
theorem q_X9_told {σ : St} {v : Nat → Int32} (hR : Rp σ 29 v) {what : Int32} {E : Nat} (hE : σ.1 5 3 = nI E) (hb : BkOk (σ.1 6) (σ.1 7) E) : ∃ σ', Ct yX9_told M_X9_told [.ref 0, .int what] σ (some (.int (toldS v (σ.1 5 3) (wrF v (σ.1 6) (σ.1 7) (σ.1 8) 0 E) (σ.1 1 2) (σ.1 9 0) what)), σ') ∧ ScC σ σ' := by
  have hv := hR.2.2
  have h6 := hv.c6
  obtain ⟨hk0, hk1, hk2⟩ := id hR.1
  have hn := hR.n
  have out : (what < 0 ∨ nI 12 ≤ what) → ∃ σ', Ct yX9_told M_X9_told [.ref 0, .int what] σ (some (.int (toldS v (σ.1 5 3) (wrF v (σ.1 6) (σ.1 7) (σ.1 8) 0 E) (σ.1 1 2) (σ.1 9 0) what)), σ') ∧ ScC σ σ' := by
    intro h
    refine ⟨_, ?_, ScC.rf σ⟩
    rw [show toldS v (σ.1 5 3) (wrF v (σ.1 6) (σ.1 7) (σ.1 8) 0 E) (σ.1 1 2) (σ.1 9 0) what = -1000000002 from pif_f (out_lt h)]
    refine ct_of (k := 0) rfl rfl rfl (Nat.le_of_ble_eq_true rfl) ?_
    refine x_iload_n (pc' := 1) rfl dX9_told_0 rfl ?_
    refine x_tswOut (tgt := 163) (h.elim (fun h => Or.inl ((sI_lt _ _).mp h)) (fun h => Or.inr (Int.lt_of_lt_of_le (by decide) ((sI_le _ _).mp h)))) (by decide) dX9_told_1 ?_
    refine x_ldc (pc' := 165) kc_X9_102 dX9_told_163 rfl ?_
    exact x_iret rfl dX9_told_165 rfl
  rcases pk_ix what (n := 12) (by decide) with h | h | ⟨j, hj, rfl⟩
  · exact out (Or.inl h)
  · exact out (Or.inr h)
  · match j, hj with
    | 0, _ =>
      refine ⟨_, ?_, ScC.rf σ⟩
      rw [show toldS v (σ.1 5 3) (wrF v (σ.1 6) (σ.1 7) (σ.1 8) 0 E) (σ.1 1 2) (σ.1 9 0) (nI 0) = toldN v (σ.1 5 3) (wrF v (σ.1 6) (σ.1 7) (σ.1 8) 0 E) (σ.1 1 2) (σ.1 9 0) 0 from pif_t (by decide)]
      refine ct_of (k := 0) rfl rfl rfl (Nat.le_of_ble_eq_true rfl) ?_
      refine x_iload_n (pc' := 1) rfl dX9_told_0 rfl ?_
      refine x_tswIn (off := 63) (tgt := 64) (by decide) (by decide) (by decide) (by decide) dX9_told_1 ?_
      refine x_aload_n (pc' := 65) rfl dX9_told_64 rfl ?_
      refine x_get (v := .ref 29) (pc' := 68) fk_X9_12 (by first | assumption | exact ⟨by decide, rfl⟩) rfl dX9_told_65 rfl ?_
      refine x_callVi (As := []) (rest := []) (ci := 7) (pc' := 71) rfl vk_X9_61 mk_X8_size (by decide) (by first | assumption | exact ⟨by decide, rfl⟩) (by decide) rfl (Nat.le_of_ble_eq_true rfl) dX9_told_68 rfl (c_X8_size hk0) ?_
      exact x_iret rfl dX9_told_71 (ret_i hR.2.1.1)
    | 1, _ =>
      refine ⟨_, ?_, ScC.rf σ⟩
      rw [show toldS v (σ.1 5 3) (wrF v (σ.1 6) (σ.1 7) (σ.1 8) 0 E) (σ.1 1 2) (σ.1 9 0) (nI 1) = toldN v (σ.1 5 3) (wrF v (σ.1 6) (σ.1 7) (σ.1 8) 0 E) (σ.1 1 2) (σ.1 9 0) 1 from pif_t (by decide)]
      refine ct_of (k := 0) rfl rfl rfl (Nat.le_of_ble_eq_true rfl) ?_
      refine x_iload_n (pc' := 1) rfl dX9_told_0 rfl ?_
      refine x_tswIn (off := 71) (tgt := 72) (by decide) (by decide) (by decide) (by decide) dX9_told_1 ?_
      refine x_aload_n (pc' := 73) rfl dX9_told_72 rfl ?_
      refine x_get (v := .ref 29) (pc' := 76) fk_X9_12 (by first | assumption | exact ⟨by decide, rfl⟩) rfl dX9_told_73 rfl ?_
      refine x_callVi (As := []) (rest := []) (ci := 7) (pc' := 79) rfl vk_X9_65 mk_X8_ruleNow (by decide) (by first | assumption | exact ⟨by decide, rfl⟩) (by decide) rfl (Nat.le_of_ble_eq_true rfl) dX9_told_76 rfl (c_X8_ruleNow hk0) ?_
      exact x_iret rfl dX9_told_79 (ret_i hR.2.1.2.1)
    | 2, _ =>
      refine ⟨_, ?_, ScC.rf σ⟩
      rw [show toldS v (σ.1 5 3) (wrF v (σ.1 6) (σ.1 7) (σ.1 8) 0 E) (σ.1 1 2) (σ.1 9 0) (nI 2) = toldN v (σ.1 5 3) (wrF v (σ.1 6) (σ.1 7) (σ.1 8) 0 E) (σ.1 1 2) (σ.1 9 0) 2 from pif_t (by decide)]
      refine ct_of (k := 0) rfl rfl rfl (Nat.le_of_ble_eq_true rfl) ?_
      refine x_iload_n (pc' := 1) rfl dX9_told_0 rfl ?_
      refine x_tswIn (off := 79) (tgt := 80) (by decide) (by decide) (by decide) (by decide) dX9_told_1 ?_
      refine x_aload_n (pc' := 81) rfl dX9_told_80 rfl ?_
      refine x_get (v := .ref 29) (pc' := 84) fk_X9_12 (by first | assumption | exact ⟨by decide, rfl⟩) rfl dX9_told_81 rfl ?_
      refine x_callVi (As := []) (rest := []) (ci := 7) (pc' := 87) rfl vk_X9_68 mk_X8_shiftedNodes (by decide) (by first | assumption | exact ⟨by decide, rfl⟩) (by decide) rfl (Nat.le_of_ble_eq_true rfl) dX9_told_84 rfl (c_X8_shiftedNodes hR) ?_
      exact x_iret rfl dX9_told_87 rfl
    | 3, _ =>
      obtain ⟨τ, hE1, h2⟩ := c_X9_unsureCellsOfAll hR
      refine ⟨_, ?_, h2⟩
      rw [show toldS v (σ.1 5 3) (wrF v (σ.1 6) (σ.1 7) (σ.1 8) 0 E) (σ.1 1 2) (σ.1 9 0) (nI 3) = toldN v (σ.1 5 3) (wrF v (σ.1 6) (σ.1 7) (σ.1 8) 0 E) (σ.1 1 2) (σ.1 9 0) 3 from pif_t (by decide)]
      refine ct_of (k := 0) rfl rfl rfl (Nat.le_of_ble_eq_true rfl) ?_
      refine x_iload_n (pc' := 1) rfl dX9_told_0 rfl ?_
      refine x_tswIn (off := 87) (tgt := 88) (by decide) (by decide) (by decide) (by decide) dX9_told_1 ?_
      refine x_aload_n (pc' := 89) rfl dX9_told_88 rfl ?_
      refine x_callVi (As := []) (rest := []) (ci := 8) (pc' := 92) rfl vk_X9_71 mk_X9_unsureCellsOfAll (by decide) (by first | assumption | exact ⟨by decide, rfl⟩) (by decide) rfl (Nat.le_of_ble_eq_true rfl) dX9_told_89 rfl hE1 ?_
      exact x_iret rfl dX9_told_92 rfl
    | 4, _ =>
      obtain ⟨τ, hE1, h2⟩ := c_X9_foldedCellsOfAll hR
      refine ⟨_, ?_, h2⟩
      rw [show toldS v (σ.1 5 3) (wrF v (σ.1 6) (σ.1 7) (σ.1 8) 0 E) (σ.1 1 2) (σ.1 9 0) (nI 4) = toldN v (σ.1 5 3) (wrF v (σ.1 6) (σ.1 7) (σ.1 8) 0 E) (σ.1 1 2) (σ.1 9 0) 4 from pif_t (by decide)]
      refine ct_of (k := 0) rfl rfl rfl (Nat.le_of_ble_eq_true rfl) ?_
      refine x_iload_n (pc' := 1) rfl dX9_told_0 rfl ?_
      refine x_tswIn (off := 92) (tgt := 93) (by decide) (by decide) (by decide) (by decide) dX9_told_1 ?_
      refine x_aload_n (pc' := 94) rfl dX9_told_93 rfl ?_
      refine x_callVi (As := []) (rest := []) (ci := 8) (pc' := 97) rfl vk_X9_74 mk_X9_foldedCellsOfAll (by decide) (by first | assumption | exact ⟨by decide, rfl⟩) (by decide) rfl (Nat.le_of_ble_eq_true rfl) dX9_told_94 rfl hE1 ?_
      exact x_iret rfl dX9_told_97 rfl
    | 5, _ =>
      refine ⟨_, ?_, ScC.rf σ⟩
      rw [show toldS v (σ.1 5 3) (wrF v (σ.1 6) (σ.1 7) (σ.1 8) 0 E) (σ.1 1 2) (σ.1 9 0) (nI 5) = toldN v (σ.1 5 3) (wrF v (σ.1 6) (σ.1 7) (σ.1 8) 0 E) (σ.1 1 2) (σ.1 9 0) 5 from pif_t (by decide)]
      refine ct_of (k := 0) rfl rfl rfl (Nat.le_of_ble_eq_true rfl) ?_
      refine x_iload_n (pc' := 1) rfl dX9_told_0 rfl ?_
      refine x_tswIn (off := 97) (tgt := 98) (by decide) (by decide) (by decide) (by decide) dX9_told_1 ?_
      refine x_aload_n (pc' := 99) rfl dX9_told_98 rfl ?_
      refine x_callVi (As := []) (rest := []) (ci := 8) (pc' := 102) rfl vk_X9_77 mk_X9_gapsOfAll (by decide) (by first | assumption | exact ⟨by decide, rfl⟩) (by decide) rfl (Nat.le_of_ble_eq_true rfl) dX9_told_99 rfl (c_X9_gapsOfAll hR) ?_
      exact x_iret rfl dX9_told_102 rfl
    | 6, _ =>
      refine ⟨_, ?_, ScC.rf σ⟩
      rw [show toldS v (σ.1 5 3) (wrF v (σ.1 6) (σ.1 7) (σ.1 8) 0 E) (σ.1 1 2) (σ.1 9 0) (nI 6) = toldN v (σ.1 5 3) (wrF v (σ.1 6) (σ.1 7) (σ.1 8) 0 E) (σ.1 1 2) (σ.1 9 0) 6 from pif_t (by decide)]
      rcases whS_spec v (cN v) with ⟨w1, w2⟩ | ⟨g, w0, w1, w2⟩
      · refine ct_of (k := 0) rfl rfl rfl (Nat.le_of_ble_eq_true rfl) ?_
        refine x_iload_n (pc' := 1) rfl dX9_told_0 rfl ?_
        refine x_tswIn (off := 102) (tgt := 103) (by decide) (by decide) (by decide) (by decide) dX9_told_1 ?_
        refine x_aload_n (pc' := 104) rfl dX9_told_103 rfl ?_
        refine x_get (v := .ref 29) (pc' := 107) fk_X9_12 (by first | assumption | exact ⟨by decide, rfl⟩) rfl dX9_told_104 rfl ?_
        refine x_aload_n (pc' := 108) rfl dX9_told_107 rfl ?_
        refine x_get (v := .ref 29) (pc' := 111) fk_X9_12 (by first | assumption | exact ⟨by decide, rfl⟩) rfl dX9_told_108 rfl ?_
        refine x_aload_n (pc' := 112) rfl dX9_told_111 rfl ?_
        refine x_callVi (As := []) (rest := [.ref _, .ref _]) (ci := 8) (pc' := 115) rfl vk_X9_80 mk_X9_firstWithGreatestGap (by decide) (by first | assumption | exact ⟨by decide, rfl⟩) (by decide) rfl (Nat.le_of_ble_eq_true rfl) dX9_told_112 rfl (c_X9_firstWithGreatestGap hR) ?_
        refine x_callVi (As := [.int _]) (rest := [.ref _]) (ci := 7) (pc' := 118) rfl vk_X9_83 mk_X8_at (by decide) (by first | assumption | exact ⟨by decide, rfl⟩) (by decide) rfl (Nat.le_of_ble_eq_true rfl) dX9_told_115 rfl (f_X8_at hR.1 hn h6 (fun z => by rw [w1] at z; exact absurd z.1 (by decide))) ?_
        refine x_callSi (As := [.ref _, .null]) (rest := []) (pc' := 121) rfl sk_X9_87 mk_X1_greatestGap (by decide) rfl (Nat.le_of_ble_eq_true rfl) dX9_told_118 rfl n_X1_greatestGap ?_
        exact x_iret rfl dX9_told_121 (ret_i w2.symm)
      · refine ct_of (k := 0) rfl rfl rfl (Nat.le_of_ble_eq_true rfl) ?_
        refine x_iload_n (pc' := 1) rfl dX9_told_0 rfl ?_
        refine x_tswIn (off := 102) (tgt := 103) (by decide) (by decide) (by decide) (by decide) dX9_told_1 ?_
        refine x_aload_n (pc' := 104) rfl dX9_told_103 rfl ?_
        refine x_get (v := .ref 29) (pc' := 107) fk_X9_12 (by first | assumption | exact ⟨by decide, rfl⟩) rfl dX9_told_104 rfl ?_
        refine x_aload_n (pc' := 108) rfl dX9_told_107 rfl ?_
        refine x_get (v := .ref 29) (pc' := 111) fk_X9_12 (by first | assumption | exact ⟨by decide, rfl⟩) rfl dX9_told_108 rfl ?_
        refine x_aload_n (pc' := 112) rfl dX9_told_111 rfl ?_
        refine x_callVi (As := []) (rest := [.ref _, .ref _]) (ci := 8) (pc' := 115) rfl vk_X9_80 mk_X9_firstWithGreatestGap (by decide) (by first | assumption | exact ⟨by decide, rfl⟩) (by decide) rfl (Nat.le_of_ble_eq_true rfl) dX9_told_112 rfl (c_X9_firstWithGreatestGap hR) ?_
        refine x_callVi (As := [.int _]) (rest := [.ref _]) (ci := 7) (pc' := 118) rfl vk_X9_83 mk_X8_at (by decide) (by first | assumption | exact ⟨by decide, rfl⟩) (by decide) rfl (Nat.le_of_ble_eq_true rfl) dX9_told_115 rfl (t_X8_at hR.1 hn h6 w1 w0) ?_
        refine x_callSi (As := [.ref _, .ref _]) (rest := []) (pc' := 121) rfl sk_X9_87 mk_X1_greatestGap (by decide) rfl (Nat.le_of_ble_eq_true rfl) dX9_told_118 rfl (c_X1_greatestGap hR w0) ?_
        exact x_iret rfl dX9_told_121 (ret_i w2.symm)
    | 7, _ =>
      refine ⟨_, ?_, ScC.rf σ⟩
      rw [show toldS v (σ.1 5 3) (wrF v (σ.1 6) (σ.1 7) (σ.1 8) 0 E) (σ.1 1 2) (σ.1 9 0) (nI 7) = toldN v (σ.1 5 3) (wrF v (σ.1 6) (σ.1 7) (σ.1 8) 0 E) (σ.1 1 2) (σ.1 9 0) 7 from pif_t (by decide)]
      refine ct_of (k := 0) rfl rfl rfl (Nat.le_of_ble_eq_true rfl) ?_
      refine x_iload_n (pc' := 1) rfl dX9_told_0 rfl ?_
      refine x_tswIn (off := 121) (tgt := 122) (by decide) (by decide) (by decide) (by decide) dX9_told_1 ?_
      refine x_aload_n (pc' := 123) rfl dX9_told_122 rfl ?_
      refine x_callVi (As := []) (rest := []) (ci := 8) (pc' := 126) rfl vk_X9_80 mk_X9_firstWithGreatestGap (by decide) (by first | assumption | exact ⟨by decide, rfl⟩) (by decide) rfl (Nat.le_of_ble_eq_true rfl) dX9_told_123 rfl (c_X9_firstWithGreatestGap hR) ?_
      exact x_iret rfl dX9_told_126 rfl
    | 8, _ =>
      refine ⟨_, ?_, ScC.rf σ⟩
      rw [show toldS v (σ.1 5 3) (wrF v (σ.1 6) (σ.1 7) (σ.1 8) 0 E) (σ.1 1 2) (σ.1 9 0) (nI 8) = toldN v (σ.1 5 3) (wrF v (σ.1 6) (σ.1 7) (σ.1 8) 0 E) (σ.1 1 2) (σ.1 9 0) 8 from pif_t (by decide)]
      refine ct_of (k := 0) rfl rfl rfl (Nat.le_of_ble_eq_true rfl) ?_
      refine x_iload_n (pc' := 1) rfl dX9_told_0 rfl ?_
      refine x_tswIn (off := 126) (tgt := 127) (by decide) (by decide) (by decide) (by decide) dX9_told_1 ?_
      refine x_aload_n (pc' := 128) rfl dX9_told_127 rfl ?_
      refine x_get (v := .ref 5) (pc' := 131) fk_X9_36 (by first | assumption | exact ⟨by decide, rfl⟩) rfl dX9_told_128 rfl ?_
      refine x_callVi (As := []) (rest := []) (ci := 0) (pc' := 134) rfl vk_X9_93 mk_X0_size (by decide) (by first | assumption | exact ⟨by decide, rfl⟩) (by decide) rfl (Nat.le_of_ble_eq_true rfl) dX9_told_131 rfl c_X0_size ?_
      exact x_iret rfl dX9_told_134 rfl
    | 9, _ =>
      refine ⟨_, ?_, ScC.rf σ⟩
      rw [show toldS v (σ.1 5 3) (wrF v (σ.1 6) (σ.1 7) (σ.1 8) 0 E) (σ.1 1 2) (σ.1 9 0) (nI 9) = toldN v (σ.1 5 3) (wrF v (σ.1 6) (σ.1 7) (σ.1 8) 0 E) (σ.1 1 2) (σ.1 9 0) 9 from pif_t (by decide)]
      refine ct_of (k := 0) rfl rfl rfl (Nat.le_of_ble_eq_true rfl) ?_
      refine x_iload_n (pc' := 1) rfl dX9_told_0 rfl ?_
      refine x_tswIn (off := 134) (tgt := 135) (by decide) (by decide) (by decide) (by decide) dX9_told_1 ?_
      refine x_aload_n (pc' := 136) rfl dX9_told_135 rfl ?_
      refine x_get (v := .ref 5) (pc' := 139) fk_X9_36 (by first | assumption | exact ⟨by decide, rfl⟩) rfl dX9_told_136 rfl ?_
      refine x_aload_n (pc' := 140) rfl dX9_told_139 rfl ?_
      refine x_get (v := .ref 29) (pc' := 143) fk_X9_12 (by first | assumption | exact ⟨by decide, rfl⟩) rfl dX9_told_140 rfl ?_
      refine x_callVi (As := [.ref _]) (rest := []) (ci := 0) (pc' := 146) rfl vk_X9_94 mk_X0_firstWrong (by decide) (by first | assumption | exact ⟨by decide, rfl⟩) (by decide) rfl (Nat.le_of_ble_eq_true rfl) dX9_told_143 rfl (c_X0_firstWrong hR hE hb) ?_
      exact x_iret rfl dX9_told_146 rfl
    | 10, _ =>
      refine ⟨_, ?_, ScC.rf σ⟩
      rw [show toldS v (σ.1 5 3) (wrF v (σ.1 6) (σ.1 7) (σ.1 8) 0 E) (σ.1 1 2) (σ.1 9 0) (nI 10) = toldN v (σ.1 5 3) (wrF v (σ.1 6) (σ.1 7) (σ.1 8) 0 E) (σ.1 1 2) (σ.1 9 0) 10 from pif_t (by decide)]
      refine ct_of (k := 0) rfl rfl rfl (Nat.le_of_ble_eq_true rfl) ?_
      refine x_iload_n (pc' := 1) rfl dX9_told_0 rfl ?_
      refine x_tswIn (off := 146) (tgt := 147) (by decide) (by decide) (by decide) (by decide) dX9_told_1 ?_
      refine x_aload_n (pc' := 148) rfl dX9_told_147 rfl ?_
      refine x_get (v := .ref 1) (pc' := 151) fk_X9_19 (by first | assumption | exact ⟨by decide, rfl⟩) rfl dX9_told_148 rfl ?_
      refine x_callVi (As := []) (rest := []) (ci := 4) (pc' := 154) rfl vk_X9_98 mk_X5_size (by decide) (by first | assumption | exact ⟨by decide, rfl⟩) (by decide) rfl (Nat.le_of_ble_eq_true rfl) dX9_told_151 rfl c_X5_size ?_
      exact x_iret rfl dX9_told_154 rfl
    | 11, _ =>
      refine ⟨_, ?_, ScC.rf σ⟩
      rw [show toldS v (σ.1 5 3) (wrF v (σ.1 6) (σ.1 7) (σ.1 8) 0 E) (σ.1 1 2) (σ.1 9 0) (nI 11) = toldN v (σ.1 5 3) (wrF v (σ.1 6) (σ.1 7) (σ.1 8) 0 E) (σ.1 1 2) (σ.1 9 0) 11 from pif_t (by decide)]
      refine ct_of (k := 0) rfl rfl rfl (Nat.le_of_ble_eq_true rfl) ?_
      refine x_iload_n (pc' := 1) rfl dX9_told_0 rfl ?_
      refine x_tswIn (off := 154) (tgt := 155) (by decide) (by decide) (by decide) (by decide) dX9_told_1 ?_
      refine x_aload_n (pc' := 156) rfl dX9_told_155 rfl ?_
      refine x_get (v := .ref 9) (pc' := 159) fk_X9_43 (by first | assumption | exact ⟨by decide, rfl⟩) rfl dX9_told_156 rfl ?_
      refine x_callVi (As := []) (rest := []) (ci := 2) (pc' := 162) rfl vk_X9_99 mk_X3_seedNow (by decide) (by first | assumption | exact ⟨by decide, rfl⟩) (by decide) rfl (Nat.le_of_ble_eq_true rfl) dX9_told_159 rfl c_X3_seedNow ?_
      exact x_iret rfl dX9_told_162 rfl
    | j + 12, hj => exact absurd hj (by omega)
set_option maxRecDepth 100000 in
set_option maxHeartbeats 4000000 in
theorem q_X9_gridAt {σ : St} {v : Nat → Int32} (hR : Rp σ 29 v) {g what : Int32} : ∃ σ', Ct yX9_gridAt M_X9_gridAt [.ref 0, .int g, .int what] σ (some (.int (gridAtS v g what)), σ') ∧ ScC σ σ' := by
  have hv := hR.2.2
  have h6 := hv.c6
  obtain ⟨hk0, hk1, hk2⟩ := id hR.1
  have hn := hR.n
  by_cases hg : grS v g
  · obtain ⟨G, hG, rfl⟩ := grS_nat hv hg
    obtain ⟨hq, hr, hf, hO⟩ := hR.g hG
    obtain ⟨hq0, hq1⟩ := id hq
    obtain ⟨g6, c5, r5, c2, r2, s1, s64⟩ := hv.b hG
    have ep := hr.par
    have e1 : (nI G).toNatClampNeg = G := nI_clamp (by omega)
    have out : (what < 0 ∨ nI 11 ≤ what) → ∃ σ', Ct yX9_gridAt M_X9_gridAt [.ref 0, .int (nI G), .int what] σ (some (.int (gridAtS v (nI G) what)), σ') ∧ ScC σ σ' := by
      intro h
      refine ⟨_, ?_, ScC.rf σ⟩
      rw [gridAtS, pif_t hg, pif_f (P := 0 ≤ what ∧ what < 11) (out_lt (n := 11) h)]
      refine ct_of (k := 1) rfl rfl rfl (Nat.le_of_ble_eq_true rfl) ?_
      refine x_aload_n (pc' := 1) rfl dX9_gridAt_0 rfl ?_
      refine x_get (v := .ref 29) (pc' := 4) fk_X9_12 (by first | assumption | exact ⟨by decide, rfl⟩) rfl dX9_gridAt_1 rfl ?_
      refine x_iload_n (pc' := 5) rfl dX9_gridAt_4 rfl ?_
      refine x_callVi (As := [.int _]) (rest := []) (ci := 7) (pc' := 8) rfl vk_X9_83 mk_X8_at (by decide) (by first | assumption | exact ⟨by decide, rfl⟩) (by decide) rfl (Nat.le_of_ble_eq_true rfl) dX9_gridAt_5 rfl (t_X8_at hR.1 hn h6 rfl hG) ?_
      refine x_astore_n (lv' := [_, _, _, _]) (pc' := 9) (by decide) rfl dX9_gridAt_8 rfl ?_
      refine x_aload_n (pc' := 10) rfl dX9_gridAt_9 rfl ?_
      refine x_ifnonnull (tgt := 16) (by decide) dX9_gridAt_10 ?_
      refine x_iload_n (pc' := 17) rfl dX9_gridAt_16 rfl ?_
      refine x_tswOut (tgt := 148) (h.elim (fun h => Or.inl ((sI_lt _ _).mp h)) (fun h => Or.inr (Int.lt_of_lt_of_le (by decide) ((sI_le _ _).mp h)))) (by decide) dX9_gridAt_17 ?_
      refine x_ldc (pc' := 150) kc_X9_102 dX9_gridAt_148 rfl ?_
      exact x_iret rfl dX9_gridAt_150 rfl
    rcases pk_ix what (n := 11) (by decide) with h | h | ⟨j, hj, rfl⟩
    · exact out (Or.inl h)
    · exact out (Or.inr h)
    · match j, hj with
      | 0, _ =>
        refine ⟨_, ?_, ScC.rf σ⟩
        rw [show gridAtS v (nI G) (nI 0) = gaN v G 0 by rw [gridAtS, pif_t hg, pif_t (by decide), e1]; rfl]
        refine ct_of (k := 1) rfl rfl rfl (Nat.le_of_ble_eq_true rfl) ?_
        refine x_aload_n (pc' := 1) rfl dX9_gridAt_0 rfl ?_
        refine x_get (v := .ref 29) (pc' := 4) fk_X9_12 (by first | assumption | exact ⟨by decide, rfl⟩) rfl dX9_gridAt_1 rfl ?_
        refine x_iload_n (pc' := 5) rfl dX9_gridAt_4 rfl ?_
        refine x_callVi (As := [.int _]) (rest := []) (ci := 7) (pc' := 8) rfl vk_X9_83 mk_X8_at (by decide) (by first | assumption | exact ⟨by decide, rfl⟩) (by decide) rfl (Nat.le_of_ble_eq_true rfl) dX9_gridAt_5 rfl (t_X8_at hR.1 hn h6 rfl hG) ?_
        refine x_astore_n (lv' := [_, _, _, _]) (pc' := 9) (by decide) rfl dX9_gridAt_8 rfl ?_
        refine x_aload_n (pc' := 10) rfl dX9_gridAt_9 rfl ?_
        refine x_ifnonnull (tgt := 16) (by decide) dX9_gridAt_10 ?_
        refine x_iload_n (pc' := 17) rfl dX9_gridAt_16 rfl ?_
        refine x_tswIn (off := 59) (tgt := 76) (by decide) (by decide) (by decide) (by decide) dX9_gridAt_17 ?_
        refine x_aload_n (pc' := 77) rfl dX9_gridAt_76 rfl ?_
        refine x_get (v := .int _) (pc' := 80) fk_X9_104 (by first | assumption | exact ⟨by decide, rfl⟩) rfl dX9_gridAt_77 rfl ?_
        exact x_iret rfl dX9_gridAt_80 (ret_i (hr.1 0 (by decide)))
      | 1, _ =>
        refine ⟨_, ?_, ScC.rf σ⟩
        rw [show gridAtS v (nI G) (nI 1) = gaN v G 1 by rw [gridAtS, pif_t hg, pif_t (by decide), e1]; rfl]
        refine ct_of (k := 1) rfl rfl rfl (Nat.le_of_ble_eq_true rfl) ?_
        refine x_aload_n (pc' := 1) rfl dX9_gridAt_0 rfl ?_
        refine x_get (v := .ref 29) (pc' := 4) fk_X9_12 (by first | assumption | exact ⟨by decide, rfl⟩) rfl dX9_gridAt_1 rfl ?_
        refine x_iload_n (pc' := 5) rfl dX9_gridAt_4 rfl ?_
        refine x_callVi (As := [.int _]) (rest := []) (ci := 7) (pc' := 8) rfl vk_X9_83 mk_X8_at (by decide) (by first | assumption | exact ⟨by decide, rfl⟩) (by decide) rfl (Nat.le_of_ble_eq_true rfl) dX9_gridAt_5 rfl (t_X8_at hR.1 hn h6 rfl hG) ?_
        refine x_astore_n (lv' := [_, _, _, _]) (pc' := 9) (by decide) rfl dX9_gridAt_8 rfl ?_
        refine x_aload_n (pc' := 10) rfl dX9_gridAt_9 rfl ?_
        refine x_ifnonnull (tgt := 16) (by decide) dX9_gridAt_10 ?_
        refine x_iload_n (pc' := 17) rfl dX9_gridAt_16 rfl ?_
        refine x_tswIn (off := 64) (tgt := 81) (by decide) (by decide) (by decide) (by decide) dX9_gridAt_17 ?_
        refine x_aload_n (pc' := 82) rfl dX9_gridAt_81 rfl ?_
        refine x_get (v := .int _) (pc' := 85) fk_X9_110 (by first | assumption | exact ⟨by decide, rfl⟩) rfl dX9_gridAt_82 rfl ?_
        exact x_iret rfl dX9_gridAt_85 (ret_i (hr.1 1 (by decide)))
      | 2, _ =>
        refine ⟨_, ?_, ScC.rf σ⟩
        rw [show gridAtS v (nI G) (nI 2) = gaN v G 2 by rw [gridAtS, pif_t hg, pif_t (by decide), e1]; rfl]
        refine ct_of (k := 1) rfl rfl rfl (Nat.le_of_ble_eq_true rfl) ?_
        refine x_aload_n (pc' := 1) rfl dX9_gridAt_0 rfl ?_
        refine x_get (v := .ref 29) (pc' := 4) fk_X9_12 (by first | assumption | exact ⟨by decide, rfl⟩) rfl dX9_gridAt_1 rfl ?_
        refine x_iload_n (pc' := 5) rfl dX9_gridAt_4 rfl ?_
        refine x_callVi (As := [.int _]) (rest := []) (ci := 7) (pc' := 8) rfl vk_X9_83 mk_X8_at (by decide) (by first | assumption | exact ⟨by decide, rfl⟩) (by decide) rfl (Nat.le_of_ble_eq_true rfl) dX9_gridAt_5 rfl (t_X8_at hR.1 hn h6 rfl hG) ?_
        refine x_astore_n (lv' := [_, _, _, _]) (pc' := 9) (by decide) rfl dX9_gridAt_8 rfl ?_
        refine x_aload_n (pc' := 10) rfl dX9_gridAt_9 rfl ?_
        refine x_ifnonnull (tgt := 16) (by decide) dX9_gridAt_10 ?_
        refine x_iload_n (pc' := 17) rfl dX9_gridAt_16 rfl ?_
        refine x_tswIn (off := 69) (tgt := 86) (by decide) (by decide) (by decide) (by decide) dX9_gridAt_17 ?_
        refine x_aload_n (pc' := 87) rfl dX9_gridAt_86 rfl ?_
        refine x_get (v := .int _) (pc' := 90) fk_X9_113 (by first | assumption | exact ⟨by decide, rfl⟩) rfl dX9_gridAt_87 rfl ?_
        exact x_iret rfl dX9_gridAt_90 (ret_i (hr.1 2 (by decide)))
      | 3, _ =>
        refine ⟨_, ?_, ScC.rf σ⟩
        rw [show gridAtS v (nI G) (nI 3) = gaN v G 3 by rw [gridAtS, pif_t hg, pif_t (by decide), e1]; rfl]
        refine ct_of (k := 1) rfl rfl rfl (Nat.le_of_ble_eq_true rfl) ?_
        refine x_aload_n (pc' := 1) rfl dX9_gridAt_0 rfl ?_
        refine x_get (v := .ref 29) (pc' := 4) fk_X9_12 (by first | assumption | exact ⟨by decide, rfl⟩) rfl dX9_gridAt_1 rfl ?_
        refine x_iload_n (pc' := 5) rfl dX9_gridAt_4 rfl ?_
        refine x_callVi (As := [.int _]) (rest := []) (ci := 7) (pc' := 8) rfl vk_X9_83 mk_X8_at (by decide) (by first | assumption | exact ⟨by decide, rfl⟩) (by decide) rfl (Nat.le_of_ble_eq_true rfl) dX9_gridAt_5 rfl (t_X8_at hR.1 hn h6 rfl hG) ?_
        refine x_astore_n (lv' := [_, _, _, _]) (pc' := 9) (by decide) rfl dX9_gridAt_8 rfl ?_
        refine x_aload_n (pc' := 10) rfl dX9_gridAt_9 rfl ?_
        refine x_ifnonnull (tgt := 16) (by decide) dX9_gridAt_10 ?_
        refine x_iload_n (pc' := 17) rfl dX9_gridAt_16 rfl ?_
        refine x_tswIn (off := 74) (tgt := 91) (by decide) (by decide) (by decide) (by decide) dX9_gridAt_17 ?_
        refine x_aload_n (pc' := 92) rfl dX9_gridAt_91 rfl ?_
        refine x_get (v := .int _) (pc' := 95) fk_X9_116 (by first | assumption | exact ⟨by decide, rfl⟩) rfl dX9_gridAt_92 rfl ?_
        exact x_iret rfl dX9_gridAt_95 (ret_i (hr.1 3 (by decide)))
      | 4, _ =>
        refine ⟨_, ?_, ScC.rf σ⟩
        rw [show gridAtS v (nI G) (nI 4) = gaN v G 4 by rw [gridAtS, pif_t hg, pif_t (by decide), e1]; rfl]
        refine ct_of (k := 1) rfl rfl rfl (Nat.le_of_ble_eq_true rfl) ?_
        refine x_aload_n (pc' := 1) rfl dX9_gridAt_0 rfl ?_
        refine x_get (v := .ref 29) (pc' := 4) fk_X9_12 (by first | assumption | exact ⟨by decide, rfl⟩) rfl dX9_gridAt_1 rfl ?_
        refine x_iload_n (pc' := 5) rfl dX9_gridAt_4 rfl ?_
        refine x_callVi (As := [.int _]) (rest := []) (ci := 7) (pc' := 8) rfl vk_X9_83 mk_X8_at (by decide) (by first | assumption | exact ⟨by decide, rfl⟩) (by decide) rfl (Nat.le_of_ble_eq_true rfl) dX9_gridAt_5 rfl (t_X8_at hR.1 hn h6 rfl hG) ?_
        refine x_astore_n (lv' := [_, _, _, _]) (pc' := 9) (by decide) rfl dX9_gridAt_8 rfl ?_
        refine x_aload_n (pc' := 10) rfl dX9_gridAt_9 rfl ?_
        refine x_ifnonnull (tgt := 16) (by decide) dX9_gridAt_10 ?_
        refine x_iload_n (pc' := 17) rfl dX9_gridAt_16 rfl ?_
        refine x_tswIn (off := 79) (tgt := 96) (by decide) (by decide) (by decide) (by decide) dX9_gridAt_17 ?_
        refine x_aload_n (pc' := 97) rfl dX9_gridAt_96 rfl ?_
        refine x_get (v := .int _) (pc' := 100) fk_X9_119 (by first | assumption | exact ⟨by decide, rfl⟩) rfl dX9_gridAt_97 rfl ?_
        exact x_iret rfl dX9_gridAt_100 (ret_i (hr.1 4 (by decide)))
      | 5, _ =>
        refine ⟨_, ?_, ScC.rf σ⟩
        rw [show gridAtS v (nI G) (nI 5) = gaN v G 5 by rw [gridAtS, pif_t hg, pif_t (by decide), e1]; rfl]
        refine ct_of (k := 1) rfl rfl rfl (Nat.le_of_ble_eq_true rfl) ?_
        refine x_aload_n (pc' := 1) rfl dX9_gridAt_0 rfl ?_
        refine x_get (v := .ref 29) (pc' := 4) fk_X9_12 (by first | assumption | exact ⟨by decide, rfl⟩) rfl dX9_gridAt_1 rfl ?_
        refine x_iload_n (pc' := 5) rfl dX9_gridAt_4 rfl ?_
        refine x_callVi (As := [.int _]) (rest := []) (ci := 7) (pc' := 8) rfl vk_X9_83 mk_X8_at (by decide) (by first | assumption | exact ⟨by decide, rfl⟩) (by decide) rfl (Nat.le_of_ble_eq_true rfl) dX9_gridAt_5 rfl (t_X8_at hR.1 hn h6 rfl hG) ?_
        refine x_astore_n (lv' := [_, _, _, _]) (pc' := 9) (by decide) rfl dX9_gridAt_8 rfl ?_
        refine x_aload_n (pc' := 10) rfl dX9_gridAt_9 rfl ?_
        refine x_ifnonnull (tgt := 16) (by decide) dX9_gridAt_10 ?_
        refine x_iload_n (pc' := 17) rfl dX9_gridAt_16 rfl ?_
        refine x_tswIn (off := 84) (tgt := 101) (by decide) (by decide) (by decide) (by decide) dX9_gridAt_17 ?_
        refine x_aload_n (pc' := 102) rfl dX9_gridAt_101 rfl ?_
        refine x_get (v := .int _) (pc' := 105) fk_X9_122 (by first | assumption | exact ⟨by decide, rfl⟩) rfl dX9_gridAt_102 rfl ?_
        exact x_iret rfl dX9_gridAt_105 (ret_i (hr.1 5 (by decide)))
      | 6, _ =>
        refine ⟨_, ?_, ScC.rf σ⟩
        rw [show gridAtS v (nI G) (nI 6) = gaN v G 6 by rw [gridAtS, pif_t hg, pif_t (by decide), e1]; rfl]
        refine ct_of (k := 1) rfl rfl rfl (Nat.le_of_ble_eq_true rfl) ?_
        refine x_aload_n (pc' := 1) rfl dX9_gridAt_0 rfl ?_
        refine x_get (v := .ref 29) (pc' := 4) fk_X9_12 (by first | assumption | exact ⟨by decide, rfl⟩) rfl dX9_gridAt_1 rfl ?_
        refine x_iload_n (pc' := 5) rfl dX9_gridAt_4 rfl ?_
        refine x_callVi (As := [.int _]) (rest := []) (ci := 7) (pc' := 8) rfl vk_X9_83 mk_X8_at (by decide) (by first | assumption | exact ⟨by decide, rfl⟩) (by decide) rfl (Nat.le_of_ble_eq_true rfl) dX9_gridAt_5 rfl (t_X8_at hR.1 hn h6 rfl hG) ?_
        refine x_astore_n (lv' := [_, _, _, _]) (pc' := 9) (by decide) rfl dX9_gridAt_8 rfl ?_
        refine x_aload_n (pc' := 10) rfl dX9_gridAt_9 rfl ?_
        refine x_ifnonnull (tgt := 16) (by decide) dX9_gridAt_10 ?_
        refine x_iload_n (pc' := 17) rfl dX9_gridAt_16 rfl ?_
        refine x_tswIn (off := 89) (tgt := 106) (by decide) (by decide) (by decide) (by decide) dX9_gridAt_17 ?_
        refine x_aload_n (pc' := 107) rfl dX9_gridAt_106 rfl ?_
        refine x_get (v := .ref 29) (pc' := 110) fk_X9_12 (by first | assumption | exact ⟨by decide, rfl⟩) rfl dX9_gridAt_107 rfl ?_
        refine x_iload_n (pc' := 111) rfl dX9_gridAt_110 rfl ?_
        refine x_callVi (As := [.int _]) (rest := []) (ci := 7) (pc' := 114) rfl vk_X9_125 mk_X8_children (by decide) (by first | assumption | exact ⟨by decide, rfl⟩) (by decide) rfl (Nat.le_of_ble_eq_true rfl) dX9_gridAt_111 rfl (c_X8_children hR) ?_
        exact x_iret rfl dX9_gridAt_114 rfl
      | 7, _ =>
        refine ⟨_, ?_, ScC.rf σ⟩
        rw [show gridAtS v (nI G) (nI 7) = gaN v G 7 by rw [gridAtS, pif_t hg, pif_t (by decide), e1]; rfl]
        refine ct_of (k := 1) rfl rfl rfl (Nat.le_of_ble_eq_true rfl) ?_
        refine x_aload_n (pc' := 1) rfl dX9_gridAt_0 rfl ?_
        refine x_get (v := .ref 29) (pc' := 4) fk_X9_12 (by first | assumption | exact ⟨by decide, rfl⟩) rfl dX9_gridAt_1 rfl ?_
        refine x_iload_n (pc' := 5) rfl dX9_gridAt_4 rfl ?_
        refine x_callVi (As := [.int _]) (rest := []) (ci := 7) (pc' := 8) rfl vk_X9_83 mk_X8_at (by decide) (by first | assumption | exact ⟨by decide, rfl⟩) (by decide) rfl (Nat.le_of_ble_eq_true rfl) dX9_gridAt_5 rfl (t_X8_at hR.1 hn h6 rfl hG) ?_
        refine x_astore_n (lv' := [_, _, _, _]) (pc' := 9) (by decide) rfl dX9_gridAt_8 rfl ?_
        refine x_aload_n (pc' := 10) rfl dX9_gridAt_9 rfl ?_
        refine x_ifnonnull (tgt := 16) (by decide) dX9_gridAt_10 ?_
        refine x_iload_n (pc' := 17) rfl dX9_gridAt_16 rfl ?_
        refine x_tswIn (off := 98) (tgt := 115) (by decide) (by decide) (by decide) (by decide) dX9_gridAt_17 ?_
        refine x_aload_n (pc' := 116) rfl dX9_gridAt_115 rfl ?_
        refine x_get (v := .ref 29) (pc' := 119) fk_X9_12 (by first | assumption | exact ⟨by decide, rfl⟩) rfl dX9_gridAt_116 rfl ?_
        refine x_iload_n (pc' := 120) rfl dX9_gridAt_119 rfl ?_
        refine x_callVi (As := [.int _]) (rest := []) (ci := 7) (pc' := 123) rfl vk_X9_129 mk_X8_parentsAbove (by decide) (by first | assumption | exact ⟨by decide, rfl⟩) (by decide) rfl (Nat.le_of_ble_eq_true rfl) dX9_gridAt_120 rfl (c_X8_parentsAbove hR hG) ?_
        exact x_iret rfl dX9_gridAt_123 rfl
      | 8, _ =>
        refine ⟨_, ?_, ScC.rf σ⟩
        rw [show gridAtS v (nI G) (nI 8) = gaN v G 8 by rw [gridAtS, pif_t hg, pif_t (by decide), e1]; rfl]
        refine ct_of (k := 1) rfl rfl rfl (Nat.le_of_ble_eq_true rfl) ?_
        refine x_aload_n (pc' := 1) rfl dX9_gridAt_0 rfl ?_
        refine x_get (v := .ref 29) (pc' := 4) fk_X9_12 (by first | assumption | exact ⟨by decide, rfl⟩) rfl dX9_gridAt_1 rfl ?_
        refine x_iload_n (pc' := 5) rfl dX9_gridAt_4 rfl ?_
        refine x_callVi (As := [.int _]) (rest := []) (ci := 7) (pc' := 8) rfl vk_X9_83 mk_X8_at (by decide) (by first | assumption | exact ⟨by decide, rfl⟩) (by decide) rfl (Nat.le_of_ble_eq_true rfl) dX9_gridAt_5 rfl (t_X8_at hR.1 hn h6 rfl hG) ?_
        refine x_astore_n (lv' := [_, _, _, _]) (pc' := 9) (by decide) rfl dX9_gridAt_8 rfl ?_
        refine x_aload_n (pc' := 10) rfl dX9_gridAt_9 rfl ?_
        refine x_ifnonnull (tgt := 16) (by decide) dX9_gridAt_10 ?_
        refine x_iload_n (pc' := 17) rfl dX9_gridAt_16 rfl ?_
        refine x_tswIn (off := 107) (tgt := 124) (by decide) (by decide) (by decide) (by decide) dX9_gridAt_17 ?_
        refine x_aload_n (pc' := 125) rfl dX9_gridAt_124 rfl ?_
        refine x_get (v := .ref 29) (pc' := 128) fk_X9_12 (by first | assumption | exact ⟨by decide, rfl⟩) rfl dX9_gridAt_125 rfl ?_
        refine x_aload_n (pc' := 129) rfl dX9_gridAt_128 rfl ?_
        refine x_callSi (As := [.ref _, .ref _]) (rest := []) (pc' := 132) rfl sk_X9_132 mk_X1_gaps (by decide) rfl (Nat.le_of_ble_eq_true rfl) dX9_gridAt_129 rfl (c_X1_gaps hR hG) ?_
        exact x_iret rfl dX9_gridAt_132 rfl
      | 9, _ =>
        refine ⟨_, ?_, ScC.rf σ⟩
        rw [show gridAtS v (nI G) (nI 9) = gaN v G 9 by rw [gridAtS, pif_t hg, pif_t (by decide), e1]; rfl]
        refine ct_of (k := 1) rfl rfl rfl (Nat.le_of_ble_eq_true rfl) ?_
        refine x_aload_n (pc' := 1) rfl dX9_gridAt_0 rfl ?_
        refine x_get (v := .ref 29) (pc' := 4) fk_X9_12 (by first | assumption | exact ⟨by decide, rfl⟩) rfl dX9_gridAt_1 rfl ?_
        refine x_iload_n (pc' := 5) rfl dX9_gridAt_4 rfl ?_
        refine x_callVi (As := [.int _]) (rest := []) (ci := 7) (pc' := 8) rfl vk_X9_83 mk_X8_at (by decide) (by first | assumption | exact ⟨by decide, rfl⟩) (by decide) rfl (Nat.le_of_ble_eq_true rfl) dX9_gridAt_5 rfl (t_X8_at hR.1 hn h6 rfl hG) ?_
        refine x_astore_n (lv' := [_, _, _, _]) (pc' := 9) (by decide) rfl dX9_gridAt_8 rfl ?_
        refine x_aload_n (pc' := 10) rfl dX9_gridAt_9 rfl ?_
        refine x_ifnonnull (tgt := 16) (by decide) dX9_gridAt_10 ?_
        refine x_iload_n (pc' := 17) rfl dX9_gridAt_16 rfl ?_
        refine x_tswIn (off := 116) (tgt := 133) (by decide) (by decide) (by decide) (by decide) dX9_gridAt_17 ?_
        refine x_aload_n (pc' := 134) rfl dX9_gridAt_133 rfl ?_
        refine x_get (v := .ref 29) (pc' := 137) fk_X9_12 (by first | assumption | exact ⟨by decide, rfl⟩) rfl dX9_gridAt_134 rfl ?_
        refine x_aload_n (pc' := 138) rfl dX9_gridAt_137 rfl ?_
        refine x_callSi (As := [.ref _, .ref _]) (rest := []) (pc' := 141) rfl sk_X9_87 mk_X1_greatestGap (by decide) rfl (Nat.le_of_ble_eq_true rfl) dX9_gridAt_138 rfl (c_X1_greatestGap hR hG) ?_
        exact x_iret rfl dX9_gridAt_141 rfl
      | 10, _ =>
        obtain ⟨τ, hE1, h2⟩ := c_X9_foldedCells hq hf hr
        refine ⟨_, ?_, h2⟩
        rw [show gridAtS v (nI G) (nI 10) = gaN v G 10 by rw [gridAtS, pif_t hg, pif_t (by decide), e1]; rfl]
        refine ct_of (k := 1) rfl rfl rfl (Nat.le_of_ble_eq_true rfl) ?_
        refine x_aload_n (pc' := 1) rfl dX9_gridAt_0 rfl ?_
        refine x_get (v := .ref 29) (pc' := 4) fk_X9_12 (by first | assumption | exact ⟨by decide, rfl⟩) rfl dX9_gridAt_1 rfl ?_
        refine x_iload_n (pc' := 5) rfl dX9_gridAt_4 rfl ?_
        refine x_callVi (As := [.int _]) (rest := []) (ci := 7) (pc' := 8) rfl vk_X9_83 mk_X8_at (by decide) (by first | assumption | exact ⟨by decide, rfl⟩) (by decide) rfl (Nat.le_of_ble_eq_true rfl) dX9_gridAt_5 rfl (t_X8_at hR.1 hn h6 rfl hG) ?_
        refine x_astore_n (lv' := [_, _, _, _]) (pc' := 9) (by decide) rfl dX9_gridAt_8 rfl ?_
        refine x_aload_n (pc' := 10) rfl dX9_gridAt_9 rfl ?_
        refine x_ifnonnull (tgt := 16) (by decide) dX9_gridAt_10 ?_
        refine x_iload_n (pc' := 17) rfl dX9_gridAt_16 rfl ?_
        refine x_tswIn (off := 125) (tgt := 142) (by decide) (by decide) (by decide) (by decide) dX9_gridAt_17 ?_
        refine x_aload_n (pc' := 143) rfl dX9_gridAt_142 rfl ?_
        refine x_aload_n (pc' := 144) rfl dX9_gridAt_143 rfl ?_
        refine x_callVi (As := [.ref _]) (rest := []) (ci := 8) (pc' := 147) rfl vk_X9_135 mk_X9_foldedCells (by decide) (by first | assumption | exact ⟨by decide, rfl⟩) (by decide) rfl (Nat.le_of_ble_eq_true rfl) dX9_gridAt_144 rfl hE1 ?_
        exact x_iret rfl dX9_gridAt_147 rfl
      | j + 11, hj => exact absurd hj (by omega)
  · refine ⟨_, ?_, ScC.rf σ⟩
    rw [gridAtS, pif_f hg]
    refine ct_of (k := 1) rfl rfl rfl (Nat.le_of_ble_eq_true rfl) ?_
    refine x_aload_n (pc' := 1) rfl dX9_gridAt_0 rfl ?_
    refine x_get (v := .ref 29) (pc' := 4) fk_X9_12 (by first | assumption | exact ⟨by decide, rfl⟩) rfl dX9_gridAt_1 rfl ?_
    refine x_iload_n (pc' := 5) rfl dX9_gridAt_4 rfl ?_
    refine x_callVi (As := [.int _]) (rest := []) (ci := 7) (pc' := 8) rfl vk_X9_83 mk_X8_at (by decide) (by first | assumption | exact ⟨by decide, rfl⟩) (by decide) rfl (Nat.le_of_ble_eq_true rfl) dX9_gridAt_5 rfl (f_X8_at hR.1 hn h6 (fun q => hg ((grS_iff hv).mp q))) ?_
    refine x_astore_nN (lv' := [_, _, _, _]) (pc' := 9) (by decide) rfl dX9_gridAt_8 rfl ?_
    refine x_aload_nN (pc' := 10) rfl dX9_gridAt_9 rfl ?_
    refine x_ifnonnullN (pc' := 13) dX9_gridAt_10 rfl ?_
    refine x_ldc (pc' := 15) kc_X9_103 dX9_gridAt_13 rfl ?_
    exact x_iret rfl dX9_gridAt_15 rfl
set_option maxRecDepth 100000 in
set_option maxHeartbeats 4000000 in
theorem q_X9_nodeAt {σ : St} {v : Nat → Int32} (hR : Rp σ 29 v) {g c r what : Int32} : ∃ σ', Ct yX9_nodeAt M_X9_nodeAt [.ref 0, .int g, .int c, .int r, .int what] σ (some (.int (nodeAtS v g c r what)), σ') ∧ ScC σ σ' := by
  have hv := hR.2.2
  have h6 := hv.c6
  obtain ⟨hk0, hk1, hk2⟩ := id hR.1
  have hn := hR.n
  by_cases hg : nodS v g c r
  · obtain ⟨G, K, R, hG, hK, hR0, rfl, rfl, rfl⟩ := nodS_nat hv hg
    have hT : ¬ pb ((0 ≤ nI K ∧ nI K < nI (fN v G 4)) ∧ 0 ≤ nI R ∧ nI R < nI (fN v G 5)) = 0 := by rw [pb_1 ((nod_iff hv hG).mp hg)]; decide
    obtain ⟨hq, hr, hf, hO⟩ := hR.g hG
    obtain ⟨hq0, hq1⟩ := id hq
    obtain ⟨g6, c5, r5, c2, r2, s1, s64⟩ := hv.b hG
    have ep := hr.par
    have e1 : (nI G).toNatClampNeg = G := nI_clamp (by omega)
    have e2 : (nI K).toNatClampNeg = K := nI_clamp (by omega)
    have e3 : (nI R).toNatClampNeg = R := nI_clamp (by omega)
    have out : (what < 0 ∨ nI 4 ≤ what) → ∃ σ', Ct yX9_nodeAt M_X9_nodeAt [.ref 0, .int (nI G), .int (nI K), .int (nI R), .int what] σ (some (.int (nodeAtS v (nI G) (nI K) (nI R) what)), σ') ∧ ScC σ σ' := by
      intro h
      refine ⟨_, ?_, ScC.rf σ⟩
      rw [nodeAtS, pif_t hg, pif_f (P := 0 ≤ what ∧ what < 4) (out_lt (n := 4) h)]
      refine ct_of (k := 2) rfl rfl rfl (Nat.le_of_ble_eq_true rfl) ?_
      refine x_aload_n (pc' := 1) rfl dX9_nodeAt_0 rfl ?_
      refine x_get (v := .ref 29) (pc' := 4) fk_X9_12 (by first | assumption | exact ⟨by decide, rfl⟩) rfl dX9_nodeAt_1 rfl ?_
      refine x_iload_n (pc' := 5) rfl dX9_nodeAt_4 rfl ?_
      refine x_callVi (As := [.int _]) (rest := []) (ci := 7) (pc' := 8) rfl vk_X9_83 mk_X8_at (by decide) (by first | assumption | exact ⟨by decide, rfl⟩) (by decide) rfl (Nat.le_of_ble_eq_true rfl) dX9_nodeAt_5 rfl (t_X8_at hR.1 hn h6 rfl hG) ?_
      refine x_astore (lv' := [_, _, _, _, _, _, _]) (pc' := 10) (by decide) rfl dX9_nodeAt_8 rfl ?_
      refine x_aload (pc' := 12) rfl dX9_nodeAt_10 rfl ?_
      refine x_ifnull (pc' := 15) dX9_nodeAt_12 rfl ?_
      refine x_aload (pc' := 17) rfl dX9_nodeAt_15 rfl ?_
      refine x_iload_n (pc' := 18) rfl dX9_nodeAt_17 rfl ?_
      refine x_iload_n (pc' := 19) rfl dX9_nodeAt_18 rfl ?_
      refine x_callVi (As := [.int _, .int _]) (rest := []) (ci := 3) (pc' := 22) rfl vk_X9_139 mk_X4_hasNode (by decide) (by first | assumption | exact ⟨by decide, rfl⟩) (by decide) rfl (Nat.le_of_ble_eq_true rfl) dX9_nodeAt_19 rfl (c_X4_hasNode hq hr hf) ?_
      refine x_if_ne (tgt := 28) (pc' := 25) (by decide) dX9_nodeAt_22 rfl (fun c22 => ?_) (fun c22 => absurd c22 hT)
      refine x_iload (pc' := 30) rfl dX9_nodeAt_28 rfl ?_
      refine x_iconst (v := 0) (pc' := 31) (by decide) dX9_nodeAt_30 rfl ?_
      refine x_iconst (v := 3) (pc' := 32) (by decide) dX9_nodeAt_31 rfl ?_
      refine x_callSi (As := [.int _, .int _, .int _]) (rest := []) (pc' := 35) rfl sk_X9_143 mk_X9_isWithin (by decide) rfl (Nat.le_of_ble_eq_true rfl) dX9_nodeAt_32 rfl c_X9_isWithin ?_
      refine x_if_ne (tgt := 41) (pc' := 38) (by decide) dX9_nodeAt_35 rfl (fun c35 => absurd (pb_0 (out_le (n := 4) (by decide) h)) c35) (fun c35 => ?_)
      refine x_ldc (pc' := 40) kc_X9_102 dX9_nodeAt_38 rfl ?_
      exact x_iret rfl dX9_nodeAt_40 rfl
    rcases pk_ix what (n := 4) (by decide) with h | h | ⟨j, hj, rfl⟩
    · exact out (Or.inl h)
    · exact out (Or.inr h)
    · match j, hj with
      | 0, _ =>
        refine ⟨_, ?_, ScC.rf σ⟩
        rw [show nodeAtS v (nI G) (nI K) (nI R) (nI 0) = ndN v G K R 0 by rw [nodeAtS, pif_t hg, pif_t (by decide), e1, e2, e3]; rfl]
        refine ct_of (k := 2) rfl rfl rfl (Nat.le_of_ble_eq_true rfl) ?_
        refine x_aload_n (pc' := 1) rfl dX9_nodeAt_0 rfl ?_
        refine x_get (v := .ref 29) (pc' := 4) fk_X9_12 (by first | assumption | exact ⟨by decide, rfl⟩) rfl dX9_nodeAt_1 rfl ?_
        refine x_iload_n (pc' := 5) rfl dX9_nodeAt_4 rfl ?_
        refine x_callVi (As := [.int _]) (rest := []) (ci := 7) (pc' := 8) rfl vk_X9_83 mk_X8_at (by decide) (by first | assumption | exact ⟨by decide, rfl⟩) (by decide) rfl (Nat.le_of_ble_eq_true rfl) dX9_nodeAt_5 rfl (t_X8_at hR.1 hn h6 rfl hG) ?_
        refine x_astore (lv' := [_, _, _, _, _, _, _]) (pc' := 10) (by decide) rfl dX9_nodeAt_8 rfl ?_
        refine x_aload (pc' := 12) rfl dX9_nodeAt_10 rfl ?_
        refine x_ifnull (pc' := 15) dX9_nodeAt_12 rfl ?_
        refine x_aload (pc' := 17) rfl dX9_nodeAt_15 rfl ?_
        refine x_iload_n (pc' := 18) rfl dX9_nodeAt_17 rfl ?_
        refine x_iload_n (pc' := 19) rfl dX9_nodeAt_18 rfl ?_
        refine x_callVi (As := [.int _, .int _]) (rest := []) (ci := 3) (pc' := 22) rfl vk_X9_139 mk_X4_hasNode (by decide) (by first | assumption | exact ⟨by decide, rfl⟩) (by decide) rfl (Nat.le_of_ble_eq_true rfl) dX9_nodeAt_19 rfl (c_X4_hasNode hq hr hf) ?_
        refine x_if_ne (tgt := 28) (pc' := 25) (by decide) dX9_nodeAt_22 rfl (fun c22 => ?_) (fun c22 => absurd c22 hT)
        refine x_iload (pc' := 30) rfl dX9_nodeAt_28 rfl ?_
        refine x_iconst (v := 0) (pc' := 31) (by decide) dX9_nodeAt_30 rfl ?_
        refine x_iconst (v := 3) (pc' := 32) (by decide) dX9_nodeAt_31 rfl ?_
        refine x_callSi (As := [.int _, .int _, .int _]) (rest := []) (pc' := 35) rfl sk_X9_143 mk_X9_isWithin (by decide) rfl (Nat.le_of_ble_eq_true rfl) dX9_nodeAt_32 rfl c_X9_isWithin ?_
        refine x_if_ne (tgt := 41) (pc' := 38) (by decide) dX9_nodeAt_35 rfl (fun c35 => ?_) (fun c35 => absurd c35 (by rw [pb_1 (by decide)]; decide))
        refine x_iload (pc' := 43) rfl dX9_nodeAt_41 rfl ?_
        refine x_iconst (v := 1) (pc' := 44) (by decide) dX9_nodeAt_43 rfl ?_
        refine x_icmp_gt (tgt := 68) (pc' := 47) (by decide) dX9_nodeAt_44 rfl (fun c44 => absurd c44 (by decide)) (fun c44 => ?_)
        refine x_aload (pc' := 49) rfl dX9_nodeAt_47 rfl ?_
        refine x_iload_n (pc' := 50) rfl dX9_nodeAt_49 rfl ?_
        refine x_iload_n (pc' := 51) rfl dX9_nodeAt_50 rfl ?_
        refine x_iload (pc' := 53) rfl dX9_nodeAt_51 rfl ?_
        refine x_if_ne (tgt := 60) (pc' := 56) (by decide) dX9_nodeAt_53 rfl (fun c53 => absurd rfl c53) (fun c53 => ?_)
        refine x_iconst (v := 0) (pc' := 57) (by decide) dX9_nodeAt_56 rfl ?_
        refine x_goto (tgt := 61) (by decide) dX9_nodeAt_57 ?_
        refine x_callVi (As := [.int _, .int _, .int _]) (rest := []) (ci := 3) (pc' := 64) rfl vk_X9_147 mk_X4_offset (by decide) (by first | assumption | exact ⟨by decide, rfl⟩) (by decide) rfl (Nat.le_of_ble_eq_true rfl) dX9_nodeAt_61 rfl (c_X4_offset (W := 0) hq rfl rfl rfl (by omega) (by omega) (by decide)) ?_
        refine x_top (hr.2 K R 0 hK hR0 (by decide)) ?_
        refine x_ldc (pc' := 66) kc_X9_151 dX9_nodeAt_64 rfl ?_
        refine x_iadd (pc' := 67) dX9_nodeAt_66 rfl ?_
        exact x_iret rfl dX9_nodeAt_67 rfl
      | 1, _ =>
        refine ⟨_, ?_, ScC.rf σ⟩
        rw [show nodeAtS v (nI G) (nI K) (nI R) (nI 1) = ndN v G K R 1 by rw [nodeAtS, pif_t hg, pif_t (by decide), e1, e2, e3]; rfl]
        refine ct_of (k := 2) rfl rfl rfl (Nat.le_of_ble_eq_true rfl) ?_
        refine x_aload_n (pc' := 1) rfl dX9_nodeAt_0 rfl ?_
        refine x_get (v := .ref 29) (pc' := 4) fk_X9_12 (by first | assumption | exact ⟨by decide, rfl⟩) rfl dX9_nodeAt_1 rfl ?_
        refine x_iload_n (pc' := 5) rfl dX9_nodeAt_4 rfl ?_
        refine x_callVi (As := [.int _]) (rest := []) (ci := 7) (pc' := 8) rfl vk_X9_83 mk_X8_at (by decide) (by first | assumption | exact ⟨by decide, rfl⟩) (by decide) rfl (Nat.le_of_ble_eq_true rfl) dX9_nodeAt_5 rfl (t_X8_at hR.1 hn h6 rfl hG) ?_
        refine x_astore (lv' := [_, _, _, _, _, _, _]) (pc' := 10) (by decide) rfl dX9_nodeAt_8 rfl ?_
        refine x_aload (pc' := 12) rfl dX9_nodeAt_10 rfl ?_
        refine x_ifnull (pc' := 15) dX9_nodeAt_12 rfl ?_
        refine x_aload (pc' := 17) rfl dX9_nodeAt_15 rfl ?_
        refine x_iload_n (pc' := 18) rfl dX9_nodeAt_17 rfl ?_
        refine x_iload_n (pc' := 19) rfl dX9_nodeAt_18 rfl ?_
        refine x_callVi (As := [.int _, .int _]) (rest := []) (ci := 3) (pc' := 22) rfl vk_X9_139 mk_X4_hasNode (by decide) (by first | assumption | exact ⟨by decide, rfl⟩) (by decide) rfl (Nat.le_of_ble_eq_true rfl) dX9_nodeAt_19 rfl (c_X4_hasNode hq hr hf) ?_
        refine x_if_ne (tgt := 28) (pc' := 25) (by decide) dX9_nodeAt_22 rfl (fun c22 => ?_) (fun c22 => absurd c22 hT)
        refine x_iload (pc' := 30) rfl dX9_nodeAt_28 rfl ?_
        refine x_iconst (v := 0) (pc' := 31) (by decide) dX9_nodeAt_30 rfl ?_
        refine x_iconst (v := 3) (pc' := 32) (by decide) dX9_nodeAt_31 rfl ?_
        refine x_callSi (As := [.int _, .int _, .int _]) (rest := []) (pc' := 35) rfl sk_X9_143 mk_X9_isWithin (by decide) rfl (Nat.le_of_ble_eq_true rfl) dX9_nodeAt_32 rfl c_X9_isWithin ?_
        refine x_if_ne (tgt := 41) (pc' := 38) (by decide) dX9_nodeAt_35 rfl (fun c35 => ?_) (fun c35 => absurd c35 (by rw [pb_1 (by decide)]; decide))
        refine x_iload (pc' := 43) rfl dX9_nodeAt_41 rfl ?_
        refine x_iconst (v := 1) (pc' := 44) (by decide) dX9_nodeAt_43 rfl ?_
        refine x_icmp_gt (tgt := 68) (pc' := 47) (by decide) dX9_nodeAt_44 rfl (fun c44 => absurd c44 (by decide)) (fun c44 => ?_)
        refine x_aload (pc' := 49) rfl dX9_nodeAt_47 rfl ?_
        refine x_iload_n (pc' := 50) rfl dX9_nodeAt_49 rfl ?_
        refine x_iload_n (pc' := 51) rfl dX9_nodeAt_50 rfl ?_
        refine x_iload (pc' := 53) rfl dX9_nodeAt_51 rfl ?_
        refine x_if_ne (tgt := 60) (pc' := 56) (by decide) dX9_nodeAt_53 rfl (fun c53 => ?_) (fun c53 => absurd c53 (by decide))
        refine x_iconst (v := 1) (pc' := 61) (by decide) dX9_nodeAt_60 rfl ?_
        refine x_callVi (As := [.int _, .int _, .int _]) (rest := []) (ci := 3) (pc' := 64) rfl vk_X9_147 mk_X4_offset (by decide) (by first | assumption | exact ⟨by decide, rfl⟩) (by decide) rfl (Nat.le_of_ble_eq_true rfl) dX9_nodeAt_61 rfl (c_X4_offset (W := 1) hq rfl rfl rfl (by omega) (by omega) (by decide)) ?_
        refine x_top (hr.2 K R 1 hK hR0 (by decide)) ?_
        refine x_ldc (pc' := 66) kc_X9_151 dX9_nodeAt_64 rfl ?_
        refine x_iadd (pc' := 67) dX9_nodeAt_66 rfl ?_
        exact x_iret rfl dX9_nodeAt_67 rfl
      | 2, _ =>
        refine ⟨_, ?_, ScC.rf σ⟩
        rw [show nodeAtS v (nI G) (nI K) (nI R) (nI 2) = ndN v G K R 2 by rw [nodeAtS, pif_t hg, pif_t (by decide), e1, e2, e3]; rfl]
        by_cases hp : v (2 + 6 * G) = -1
        · refine ct_of (k := 2) rfl rfl rfl (Nat.le_of_ble_eq_true rfl) ?_
          refine x_aload_n (pc' := 1) rfl dX9_nodeAt_0 rfl ?_
          refine x_get (v := .ref 29) (pc' := 4) fk_X9_12 (by first | assumption | exact ⟨by decide, rfl⟩) rfl dX9_nodeAt_1 rfl ?_
          refine x_iload_n (pc' := 5) rfl dX9_nodeAt_4 rfl ?_
          refine x_callVi (As := [.int _]) (rest := []) (ci := 7) (pc' := 8) rfl vk_X9_83 mk_X8_at (by decide) (by first | assumption | exact ⟨by decide, rfl⟩) (by decide) rfl (Nat.le_of_ble_eq_true rfl) dX9_nodeAt_5 rfl (t_X8_at hR.1 hn h6 rfl hG) ?_
          refine x_astore (lv' := [_, _, _, _, _, _, _]) (pc' := 10) (by decide) rfl dX9_nodeAt_8 rfl ?_
          refine x_aload (pc' := 12) rfl dX9_nodeAt_10 rfl ?_
          refine x_ifnull (pc' := 15) dX9_nodeAt_12 rfl ?_
          refine x_aload (pc' := 17) rfl dX9_nodeAt_15 rfl ?_
          refine x_iload_n (pc' := 18) rfl dX9_nodeAt_17 rfl ?_
          refine x_iload_n (pc' := 19) rfl dX9_nodeAt_18 rfl ?_
          refine x_callVi (As := [.int _, .int _]) (rest := []) (ci := 3) (pc' := 22) rfl vk_X9_139 mk_X4_hasNode (by decide) (by first | assumption | exact ⟨by decide, rfl⟩) (by decide) rfl (Nat.le_of_ble_eq_true rfl) dX9_nodeAt_19 rfl (c_X4_hasNode hq hr hf) ?_
          refine x_if_ne (tgt := 28) (pc' := 25) (by decide) dX9_nodeAt_22 rfl (fun c22 => ?_) (fun c22 => absurd c22 hT)
          refine x_iload (pc' := 30) rfl dX9_nodeAt_28 rfl ?_
          refine x_iconst (v := 0) (pc' := 31) (by decide) dX9_nodeAt_30 rfl ?_
          refine x_iconst (v := 3) (pc' := 32) (by decide) dX9_nodeAt_31 rfl ?_
          refine x_callSi (As := [.int _, .int _, .int _]) (rest := []) (pc' := 35) rfl sk_X9_143 mk_X9_isWithin (by decide) rfl (Nat.le_of_ble_eq_true rfl) dX9_nodeAt_32 rfl c_X9_isWithin ?_
          refine x_if_ne (tgt := 41) (pc' := 38) (by decide) dX9_nodeAt_35 rfl (fun c35 => ?_) (fun c35 => absurd c35 (by rw [pb_1 (by decide)]; decide))
          refine x_iload (pc' := 43) rfl dX9_nodeAt_41 rfl ?_
          refine x_iconst (v := 1) (pc' := 44) (by decide) dX9_nodeAt_43 rfl ?_
          refine x_icmp_gt (tgt := 68) (pc' := 47) (by decide) dX9_nodeAt_44 rfl (fun c44 => ?_) (fun c44 => absurd (by decide) c44)
          refine x_aload_n (pc' := 69) rfl dX9_nodeAt_68 rfl ?_
          refine x_get (v := .ref 29) (pc' := 72) fk_X9_12 (by first | assumption | exact ⟨by decide, rfl⟩) rfl dX9_nodeAt_69 rfl ?_
          refine x_aload (pc' := 74) rfl dX9_nodeAt_72 rfl ?_
          refine x_get (v := .int _) (pc' := 77) fk_X9_104 (by first | assumption | exact ⟨by decide, rfl⟩) rfl dX9_nodeAt_74 rfl ?_
          refine x_callVi (As := [.int _]) (rest := []) (ci := 7) (pc' := 80) rfl vk_X9_83 mk_X8_at (by decide) (by first | assumption | exact ⟨by decide, rfl⟩) (by decide) rfl (Nat.le_of_ble_eq_true rfl) dX9_nodeAt_77 rfl (f_X8_at hR.1 hn h6 (fun z => by rw [ep, hp] at z; exact absurd z.1 (by decide))) ?_
          refine x_astoreN (lv' := [_, _, _, _, _, _, _]) (pc' := 82) (by decide) rfl dX9_nodeAt_80 rfl ?_
          refine x_aloadN (pc' := 84) rfl dX9_nodeAt_82 rfl ?_
          refine x_ifnonnullN (pc' := 87) dX9_nodeAt_84 rfl ?_
          refine x_iconst (v := (-1)) (pc' := 88) (by decide) dX9_nodeAt_87 rfl ?_
          exact x_iret rfl dX9_nodeAt_88 (ret_i (pif_t hp).symm)
        · obtain ⟨p1, p2⟩ := par_ok hv hG hp
          obtain ⟨hpq, hpr, hpf, hpO⟩ := hR.g (g := pN v G) (by omega)
          obtain ⟨hpq0, hpq1⟩ := id hpq
          obtain ⟨-, -, i3⟩ := ins_on hv hG hp hK hR0
          refine ct_of (k := 2) rfl rfl rfl (Nat.le_of_ble_eq_true rfl) ?_
          refine x_aload_n (pc' := 1) rfl dX9_nodeAt_0 rfl ?_
          refine x_get (v := .ref 29) (pc' := 4) fk_X9_12 (by first | assumption | exact ⟨by decide, rfl⟩) rfl dX9_nodeAt_1 rfl ?_
          refine x_iload_n (pc' := 5) rfl dX9_nodeAt_4 rfl ?_
          refine x_callVi (As := [.int _]) (rest := []) (ci := 7) (pc' := 8) rfl vk_X9_83 mk_X8_at (by decide) (by first | assumption | exact ⟨by decide, rfl⟩) (by decide) rfl (Nat.le_of_ble_eq_true rfl) dX9_nodeAt_5 rfl (t_X8_at hR.1 hn h6 rfl hG) ?_
          refine x_astore (lv' := [_, _, _, _, _, _, _]) (pc' := 10) (by decide) rfl dX9_nodeAt_8 rfl ?_
          refine x_aload (pc' := 12) rfl dX9_nodeAt_10 rfl ?_
          refine x_ifnull (pc' := 15) dX9_nodeAt_12 rfl ?_
          refine x_aload (pc' := 17) rfl dX9_nodeAt_15 rfl ?_
          refine x_iload_n (pc' := 18) rfl dX9_nodeAt_17 rfl ?_
          refine x_iload_n (pc' := 19) rfl dX9_nodeAt_18 rfl ?_
          refine x_callVi (As := [.int _, .int _]) (rest := []) (ci := 3) (pc' := 22) rfl vk_X9_139 mk_X4_hasNode (by decide) (by first | assumption | exact ⟨by decide, rfl⟩) (by decide) rfl (Nat.le_of_ble_eq_true rfl) dX9_nodeAt_19 rfl (c_X4_hasNode hq hr hf) ?_
          refine x_if_ne (tgt := 28) (pc' := 25) (by decide) dX9_nodeAt_22 rfl (fun c22 => ?_) (fun c22 => absurd c22 hT)
          refine x_iload (pc' := 30) rfl dX9_nodeAt_28 rfl ?_
          refine x_iconst (v := 0) (pc' := 31) (by decide) dX9_nodeAt_30 rfl ?_
          refine x_iconst (v := 3) (pc' := 32) (by decide) dX9_nodeAt_31 rfl ?_
          refine x_callSi (As := [.int _, .int _, .int _]) (rest := []) (pc' := 35) rfl sk_X9_143 mk_X9_isWithin (by decide) rfl (Nat.le_of_ble_eq_true rfl) dX9_nodeAt_32 rfl c_X9_isWithin ?_
          refine x_if_ne (tgt := 41) (pc' := 38) (by decide) dX9_nodeAt_35 rfl (fun c35 => ?_) (fun c35 => absurd c35 (by rw [pb_1 (by decide)]; decide))
          refine x_iload (pc' := 43) rfl dX9_nodeAt_41 rfl ?_
          refine x_iconst (v := 1) (pc' := 44) (by decide) dX9_nodeAt_43 rfl ?_
          refine x_icmp_gt (tgt := 68) (pc' := 47) (by decide) dX9_nodeAt_44 rfl (fun c44 => ?_) (fun c44 => absurd (by decide) c44)
          refine x_aload_n (pc' := 69) rfl dX9_nodeAt_68 rfl ?_
          refine x_get (v := .ref 29) (pc' := 72) fk_X9_12 (by first | assumption | exact ⟨by decide, rfl⟩) rfl dX9_nodeAt_69 rfl ?_
          refine x_aload (pc' := 74) rfl dX9_nodeAt_72 rfl ?_
          refine x_get (v := .int _) (pc' := 77) fk_X9_104 (by first | assumption | exact ⟨by decide, rfl⟩) rfl dX9_nodeAt_74 rfl ?_
          refine x_callVi (As := [.int _]) (rest := []) (ci := 7) (pc' := 80) rfl vk_X9_83 mk_X8_at (by decide) (by first | assumption | exact ⟨by decide, rfl⟩) (by decide) rfl (Nat.le_of_ble_eq_true rfl) dX9_nodeAt_77 rfl (t_X8_at hR.1 hn h6 (ep.trans p2) (by omega)) ?_
          refine x_astore (lv' := [_, _, _, _, _, _, _]) (pc' := 82) (by decide) rfl dX9_nodeAt_80 rfl ?_
          refine x_aload (pc' := 84) rfl dX9_nodeAt_82 rfl ?_
          refine x_ifnonnull (tgt := 89) (by decide) dX9_nodeAt_84 ?_
          refine x_aload (pc' := 91) rfl dX9_nodeAt_89 rfl ?_
          refine x_aload_n (pc' := 92) rfl dX9_nodeAt_91 rfl ?_
          refine x_get (v := .ref 29) (pc' := 95) fk_X9_12 (by first | assumption | exact ⟨by decide, rfl⟩) rfl dX9_nodeAt_92 rfl ?_
          refine x_callVi (As := []) (rest := [.ref _]) (ci := 7) (pc' := 98) rfl vk_X9_65 mk_X8_ruleNow (by decide) (by first | assumption | exact ⟨by decide, rfl⟩) (by decide) rfl (Nat.le_of_ble_eq_true rfl) dX9_nodeAt_95 rfl (c_X8_ruleNow hk0) ?_
          refine x_aload (pc' := 100) rfl dX9_nodeAt_98 rfl ?_
          refine x_iload_n (pc' := 101) rfl dX9_nodeAt_100 rfl ?_
          refine x_callVi (As := [.int _]) (rest := [.int _, .ref _]) (ci := 3) (pc' := 104) rfl vk_X9_152 mk_X4_columnPlace (by decide) (by first | assumption | exact ⟨by decide, rfl⟩) (by decide) rfl (Nat.le_of_ble_eq_true rfl) dX9_nodeAt_101 rfl (c_X4_columnPlace hq hr hf rfl) ?_
          refine x_aload (pc' := 106) rfl dX9_nodeAt_104 rfl ?_
          refine x_iload_n (pc' := 107) rfl dX9_nodeAt_106 rfl ?_
          refine x_callVi (As := [.int _]) (rest := [.int _, .int _, .ref _]) (ci := 3) (pc' := 110) rfl vk_X9_155 mk_X4_rowPlace (by decide) (by first | assumption | exact ⟨by decide, rfl⟩) (by decide) rfl (Nat.le_of_ble_eq_true rfl) dX9_nodeAt_107 rfl (c_X4_rowPlace hq hr hf rfl) ?_
          refine x_iload (pc' := 112) rfl dX9_nodeAt_110 rfl ?_
          refine x_iconst (v := 2) (pc' := 113) (by decide) dX9_nodeAt_112 rfl ?_
          refine x_icmp_ne (tgt := 120) (pc' := 116) (by decide) dX9_nodeAt_113 rfl (fun c113 => absurd rfl c113) (fun c113 => ?_)
          refine x_iconst (v := 0) (pc' := 117) (by decide) dX9_nodeAt_116 rfl ?_
          refine x_goto (tgt := 121) (by decide) dX9_nodeAt_117 ?_
          refine x_callVi (As := [.int _, .int _, .int _, .int _]) (rest := []) (ci := 3) (pc' := 124) rfl vk_X9_158 mk_X4_offsetBy (by decide) (by first | assumption | exact ⟨by decide, rfl⟩) (by decide) rfl (Nat.le_of_ble_eq_true rfl) dX9_nodeAt_121 rfl (c_X4_offsetBy hpq hpr hpf hpO i3 hR.2.1.2.1 rfl rfl (W := 0) rfl (by decide)) ?_
          refine x_ldc (pc' := 126) kc_X9_151 dX9_nodeAt_124 rfl ?_
          refine x_iadd (pc' := 127) dX9_nodeAt_126 rfl ?_
          exact x_iret rfl dX9_nodeAt_127 (ret_i (pif_f hp).symm)
      | 3, _ =>
        refine ⟨_, ?_, ScC.rf σ⟩
        rw [show nodeAtS v (nI G) (nI K) (nI R) (nI 3) = ndN v G K R 3 by rw [nodeAtS, pif_t hg, pif_t (by decide), e1, e2, e3]; rfl]
        by_cases hp : v (2 + 6 * G) = -1
        · refine ct_of (k := 2) rfl rfl rfl (Nat.le_of_ble_eq_true rfl) ?_
          refine x_aload_n (pc' := 1) rfl dX9_nodeAt_0 rfl ?_
          refine x_get (v := .ref 29) (pc' := 4) fk_X9_12 (by first | assumption | exact ⟨by decide, rfl⟩) rfl dX9_nodeAt_1 rfl ?_
          refine x_iload_n (pc' := 5) rfl dX9_nodeAt_4 rfl ?_
          refine x_callVi (As := [.int _]) (rest := []) (ci := 7) (pc' := 8) rfl vk_X9_83 mk_X8_at (by decide) (by first | assumption | exact ⟨by decide, rfl⟩) (by decide) rfl (Nat.le_of_ble_eq_true rfl) dX9_nodeAt_5 rfl (t_X8_at hR.1 hn h6 rfl hG) ?_
          refine x_astore (lv' := [_, _, _, _, _, _, _]) (pc' := 10) (by decide) rfl dX9_nodeAt_8 rfl ?_
          refine x_aload (pc' := 12) rfl dX9_nodeAt_10 rfl ?_
          refine x_ifnull (pc' := 15) dX9_nodeAt_12 rfl ?_
          refine x_aload (pc' := 17) rfl dX9_nodeAt_15 rfl ?_
          refine x_iload_n (pc' := 18) rfl dX9_nodeAt_17 rfl ?_
          refine x_iload_n (pc' := 19) rfl dX9_nodeAt_18 rfl ?_
          refine x_callVi (As := [.int _, .int _]) (rest := []) (ci := 3) (pc' := 22) rfl vk_X9_139 mk_X4_hasNode (by decide) (by first | assumption | exact ⟨by decide, rfl⟩) (by decide) rfl (Nat.le_of_ble_eq_true rfl) dX9_nodeAt_19 rfl (c_X4_hasNode hq hr hf) ?_
          refine x_if_ne (tgt := 28) (pc' := 25) (by decide) dX9_nodeAt_22 rfl (fun c22 => ?_) (fun c22 => absurd c22 hT)
          refine x_iload (pc' := 30) rfl dX9_nodeAt_28 rfl ?_
          refine x_iconst (v := 0) (pc' := 31) (by decide) dX9_nodeAt_30 rfl ?_
          refine x_iconst (v := 3) (pc' := 32) (by decide) dX9_nodeAt_31 rfl ?_
          refine x_callSi (As := [.int _, .int _, .int _]) (rest := []) (pc' := 35) rfl sk_X9_143 mk_X9_isWithin (by decide) rfl (Nat.le_of_ble_eq_true rfl) dX9_nodeAt_32 rfl c_X9_isWithin ?_
          refine x_if_ne (tgt := 41) (pc' := 38) (by decide) dX9_nodeAt_35 rfl (fun c35 => ?_) (fun c35 => absurd c35 (by rw [pb_1 (by decide)]; decide))
          refine x_iload (pc' := 43) rfl dX9_nodeAt_41 rfl ?_
          refine x_iconst (v := 1) (pc' := 44) (by decide) dX9_nodeAt_43 rfl ?_
          refine x_icmp_gt (tgt := 68) (pc' := 47) (by decide) dX9_nodeAt_44 rfl (fun c44 => ?_) (fun c44 => absurd (by decide) c44)
          refine x_aload_n (pc' := 69) rfl dX9_nodeAt_68 rfl ?_
          refine x_get (v := .ref 29) (pc' := 72) fk_X9_12 (by first | assumption | exact ⟨by decide, rfl⟩) rfl dX9_nodeAt_69 rfl ?_
          refine x_aload (pc' := 74) rfl dX9_nodeAt_72 rfl ?_
          refine x_get (v := .int _) (pc' := 77) fk_X9_104 (by first | assumption | exact ⟨by decide, rfl⟩) rfl dX9_nodeAt_74 rfl ?_
          refine x_callVi (As := [.int _]) (rest := []) (ci := 7) (pc' := 80) rfl vk_X9_83 mk_X8_at (by decide) (by first | assumption | exact ⟨by decide, rfl⟩) (by decide) rfl (Nat.le_of_ble_eq_true rfl) dX9_nodeAt_77 rfl (f_X8_at hR.1 hn h6 (fun z => by rw [ep, hp] at z; exact absurd z.1 (by decide))) ?_
          refine x_astoreN (lv' := [_, _, _, _, _, _, _]) (pc' := 82) (by decide) rfl dX9_nodeAt_80 rfl ?_
          refine x_aloadN (pc' := 84) rfl dX9_nodeAt_82 rfl ?_
          refine x_ifnonnullN (pc' := 87) dX9_nodeAt_84 rfl ?_
          refine x_iconst (v := (-1)) (pc' := 88) (by decide) dX9_nodeAt_87 rfl ?_
          exact x_iret rfl dX9_nodeAt_88 (ret_i (pif_t hp).symm)
        · obtain ⟨p1, p2⟩ := par_ok hv hG hp
          obtain ⟨hpq, hpr, hpf, hpO⟩ := hR.g (g := pN v G) (by omega)
          obtain ⟨hpq0, hpq1⟩ := id hpq
          obtain ⟨-, -, i3⟩ := ins_on hv hG hp hK hR0
          refine ct_of (k := 2) rfl rfl rfl (Nat.le_of_ble_eq_true rfl) ?_
          refine x_aload_n (pc' := 1) rfl dX9_nodeAt_0 rfl ?_
          refine x_get (v := .ref 29) (pc' := 4) fk_X9_12 (by first | assumption | exact ⟨by decide, rfl⟩) rfl dX9_nodeAt_1 rfl ?_
          refine x_iload_n (pc' := 5) rfl dX9_nodeAt_4 rfl ?_
          refine x_callVi (As := [.int _]) (rest := []) (ci := 7) (pc' := 8) rfl vk_X9_83 mk_X8_at (by decide) (by first | assumption | exact ⟨by decide, rfl⟩) (by decide) rfl (Nat.le_of_ble_eq_true rfl) dX9_nodeAt_5 rfl (t_X8_at hR.1 hn h6 rfl hG) ?_
          refine x_astore (lv' := [_, _, _, _, _, _, _]) (pc' := 10) (by decide) rfl dX9_nodeAt_8 rfl ?_
          refine x_aload (pc' := 12) rfl dX9_nodeAt_10 rfl ?_
          refine x_ifnull (pc' := 15) dX9_nodeAt_12 rfl ?_
          refine x_aload (pc' := 17) rfl dX9_nodeAt_15 rfl ?_
          refine x_iload_n (pc' := 18) rfl dX9_nodeAt_17 rfl ?_
          refine x_iload_n (pc' := 19) rfl dX9_nodeAt_18 rfl ?_
          refine x_callVi (As := [.int _, .int _]) (rest := []) (ci := 3) (pc' := 22) rfl vk_X9_139 mk_X4_hasNode (by decide) (by first | assumption | exact ⟨by decide, rfl⟩) (by decide) rfl (Nat.le_of_ble_eq_true rfl) dX9_nodeAt_19 rfl (c_X4_hasNode hq hr hf) ?_
          refine x_if_ne (tgt := 28) (pc' := 25) (by decide) dX9_nodeAt_22 rfl (fun c22 => ?_) (fun c22 => absurd c22 hT)
          refine x_iload (pc' := 30) rfl dX9_nodeAt_28 rfl ?_
          refine x_iconst (v := 0) (pc' := 31) (by decide) dX9_nodeAt_30 rfl ?_
          refine x_iconst (v := 3) (pc' := 32) (by decide) dX9_nodeAt_31 rfl ?_
          refine x_callSi (As := [.int _, .int _, .int _]) (rest := []) (pc' := 35) rfl sk_X9_143 mk_X9_isWithin (by decide) rfl (Nat.le_of_ble_eq_true rfl) dX9_nodeAt_32 rfl c_X9_isWithin ?_
          refine x_if_ne (tgt := 41) (pc' := 38) (by decide) dX9_nodeAt_35 rfl (fun c35 => ?_) (fun c35 => absurd c35 (by rw [pb_1 (by decide)]; decide))
          refine x_iload (pc' := 43) rfl dX9_nodeAt_41 rfl ?_
          refine x_iconst (v := 1) (pc' := 44) (by decide) dX9_nodeAt_43 rfl ?_
          refine x_icmp_gt (tgt := 68) (pc' := 47) (by decide) dX9_nodeAt_44 rfl (fun c44 => ?_) (fun c44 => absurd (by decide) c44)
          refine x_aload_n (pc' := 69) rfl dX9_nodeAt_68 rfl ?_
          refine x_get (v := .ref 29) (pc' := 72) fk_X9_12 (by first | assumption | exact ⟨by decide, rfl⟩) rfl dX9_nodeAt_69 rfl ?_
          refine x_aload (pc' := 74) rfl dX9_nodeAt_72 rfl ?_
          refine x_get (v := .int _) (pc' := 77) fk_X9_104 (by first | assumption | exact ⟨by decide, rfl⟩) rfl dX9_nodeAt_74 rfl ?_
          refine x_callVi (As := [.int _]) (rest := []) (ci := 7) (pc' := 80) rfl vk_X9_83 mk_X8_at (by decide) (by first | assumption | exact ⟨by decide, rfl⟩) (by decide) rfl (Nat.le_of_ble_eq_true rfl) dX9_nodeAt_77 rfl (t_X8_at hR.1 hn h6 (ep.trans p2) (by omega)) ?_
          refine x_astore (lv' := [_, _, _, _, _, _, _]) (pc' := 82) (by decide) rfl dX9_nodeAt_80 rfl ?_
          refine x_aload (pc' := 84) rfl dX9_nodeAt_82 rfl ?_
          refine x_ifnonnull (tgt := 89) (by decide) dX9_nodeAt_84 ?_
          refine x_aload (pc' := 91) rfl dX9_nodeAt_89 rfl ?_
          refine x_aload_n (pc' := 92) rfl dX9_nodeAt_91 rfl ?_
          refine x_get (v := .ref 29) (pc' := 95) fk_X9_12 (by first | assumption | exact ⟨by decide, rfl⟩) rfl dX9_nodeAt_92 rfl ?_
          refine x_callVi (As := []) (rest := [.ref _]) (ci := 7) (pc' := 98) rfl vk_X9_65 mk_X8_ruleNow (by decide) (by first | assumption | exact ⟨by decide, rfl⟩) (by decide) rfl (Nat.le_of_ble_eq_true rfl) dX9_nodeAt_95 rfl (c_X8_ruleNow hk0) ?_
          refine x_aload (pc' := 100) rfl dX9_nodeAt_98 rfl ?_
          refine x_iload_n (pc' := 101) rfl dX9_nodeAt_100 rfl ?_
          refine x_callVi (As := [.int _]) (rest := [.int _, .ref _]) (ci := 3) (pc' := 104) rfl vk_X9_152 mk_X4_columnPlace (by decide) (by first | assumption | exact ⟨by decide, rfl⟩) (by decide) rfl (Nat.le_of_ble_eq_true rfl) dX9_nodeAt_101 rfl (c_X4_columnPlace hq hr hf rfl) ?_
          refine x_aload (pc' := 106) rfl dX9_nodeAt_104 rfl ?_
          refine x_iload_n (pc' := 107) rfl dX9_nodeAt_106 rfl ?_
          refine x_callVi (As := [.int _]) (rest := [.int _, .int _, .ref _]) (ci := 3) (pc' := 110) rfl vk_X9_155 mk_X4_rowPlace (by decide) (by first | assumption | exact ⟨by decide, rfl⟩) (by decide) rfl (Nat.le_of_ble_eq_true rfl) dX9_nodeAt_107 rfl (c_X4_rowPlace hq hr hf rfl) ?_
          refine x_iload (pc' := 112) rfl dX9_nodeAt_110 rfl ?_
          refine x_iconst (v := 2) (pc' := 113) (by decide) dX9_nodeAt_112 rfl ?_
          refine x_icmp_ne (tgt := 120) (pc' := 116) (by decide) dX9_nodeAt_113 rfl (fun c113 => ?_) (fun c113 => absurd c113 (by decide))
          refine x_iconst (v := 1) (pc' := 121) (by decide) dX9_nodeAt_120 rfl ?_
          refine x_callVi (As := [.int _, .int _, .int _, .int _]) (rest := []) (ci := 3) (pc' := 124) rfl vk_X9_158 mk_X4_offsetBy (by decide) (by first | assumption | exact ⟨by decide, rfl⟩) (by decide) rfl (Nat.le_of_ble_eq_true rfl) dX9_nodeAt_121 rfl (c_X4_offsetBy hpq hpr hpf hpO i3 hR.2.1.2.1 rfl rfl (W := 1) rfl (by decide)) ?_
          refine x_ldc (pc' := 126) kc_X9_151 dX9_nodeAt_124 rfl ?_
          refine x_iadd (pc' := 127) dX9_nodeAt_126 rfl ?_
          exact x_iret rfl dX9_nodeAt_127 (ret_i (pif_f hp).symm)
      | j + 4, hj => exact absurd hj (by omega)
  · refine ⟨_, ?_, ScC.rf σ⟩
    rw [nodeAtS, pif_f hg]
    by_cases hgr : grS v g
    · obtain ⟨G, hG, rfl⟩ := grS_nat hv hgr
      obtain ⟨hq, hr, hf, hO⟩ := hR.g hG
      obtain ⟨hq0, hq1⟩ := id hq
      obtain ⟨g6, c5, r5, c2, r2, s1, s64⟩ := hv.b hG
      have ep := hr.par
      have e1 : (nI G).toNatClampNeg = G := nI_clamp (by omega)
      refine ct_of (k := 2) rfl rfl rfl (Nat.le_of_ble_eq_true rfl) ?_
      refine x_aload_n (pc' := 1) rfl dX9_nodeAt_0 rfl ?_
      refine x_get (v := .ref 29) (pc' := 4) fk_X9_12 (by first | assumption | exact ⟨by decide, rfl⟩) rfl dX9_nodeAt_1 rfl ?_
      refine x_iload_n (pc' := 5) rfl dX9_nodeAt_4 rfl ?_
      refine x_callVi (As := [.int _]) (rest := []) (ci := 7) (pc' := 8) rfl vk_X9_83 mk_X8_at (by decide) (by first | assumption | exact ⟨by decide, rfl⟩) (by decide) rfl (Nat.le_of_ble_eq_true rfl) dX9_nodeAt_5 rfl (t_X8_at hR.1 hn h6 rfl hG) ?_
      refine x_astore (lv' := [_, _, _, _, _, _, _]) (pc' := 10) (by decide) rfl dX9_nodeAt_8 rfl ?_
      refine x_aload (pc' := 12) rfl dX9_nodeAt_10 rfl ?_
      refine x_ifnull (pc' := 15) dX9_nodeAt_12 rfl ?_
      refine x_aload (pc' := 17) rfl dX9_nodeAt_15 rfl ?_
      refine x_iload_n (pc' := 18) rfl dX9_nodeAt_17 rfl ?_
      refine x_iload_n (pc' := 19) rfl dX9_nodeAt_18 rfl ?_
      refine x_callVi (As := [.int _, .int _]) (rest := []) (ci := 3) (pc' := 22) rfl vk_X9_139 mk_X4_hasNode (by decide) (by first | assumption | exact ⟨by decide, rfl⟩) (by decide) rfl (Nat.le_of_ble_eq_true rfl) dX9_nodeAt_19 rfl (c_X4_hasNode hq hr hf) ?_
      refine x_if_ne (tgt := 28) (pc' := 25) (by decide) dX9_nodeAt_22 rfl (fun c22 => absurd (pb_0 (fun q => hg ((nod_iff hv hG).mpr q))) c22) (fun c22 => ?_)
      refine x_ldc (pc' := 27) kc_X9_103 dX9_nodeAt_25 rfl ?_
      exact x_iret rfl dX9_nodeAt_27 rfl
    · refine ct_of (k := 2) rfl rfl rfl (Nat.le_of_ble_eq_true rfl) ?_
      refine x_aload_n (pc' := 1) rfl dX9_nodeAt_0 rfl ?_
      refine x_get (v := .ref 29) (pc' := 4) fk_X9_12 (by first | assumption | exact ⟨by decide, rfl⟩) rfl dX9_nodeAt_1 rfl ?_
      refine x_iload_n (pc' := 5) rfl dX9_nodeAt_4 rfl ?_
      refine x_callVi (As := [.int _]) (rest := []) (ci := 7) (pc' := 8) rfl vk_X9_83 mk_X8_at (by decide) (by first | assumption | exact ⟨by decide, rfl⟩) (by decide) rfl (Nat.le_of_ble_eq_true rfl) dX9_nodeAt_5 rfl (f_X8_at hR.1 hn h6 (fun q => hgr ((grS_iff hv).mp q))) ?_
      refine x_astoreN (lv' := [_, _, _, _, _, _, _]) (pc' := 10) (by decide) rfl dX9_nodeAt_8 rfl ?_
      refine x_aloadN (pc' := 12) rfl dX9_nodeAt_10 rfl ?_
      refine x_ifnullN (tgt := 25) (by decide) dX9_nodeAt_12 ?_
      refine x_ldc (pc' := 27) kc_X9_103 dX9_nodeAt_25 rfl ?_
      exact x_iret rfl dX9_nodeAt_27 rfl
set_option maxRecDepth 100000 in
set_option maxHeartbeats 4000000 in
theorem q_X9_cellAt {σ : St} {v : Nat → Int32} (hR : Rp σ 29 v) {g c r what : Int32} : ∃ σ', Ct yX9_cellAt M_X9_cellAt [.ref 0, .int g, .int c, .int r, .int what] σ (some (.long (cellAtS v g c r what)), σ') ∧ ScC σ σ' := by
  have hv := hR.2.2
  have h6 := hv.c6
  obtain ⟨hk0, hk1, hk2⟩ := id hR.1
  have hn := hR.n
  by_cases hg : celS v g c r
  · obtain ⟨G, K, R, hG, hK, hR0, rfl, rfl, rfl⟩ := celS_nat hv hg
    have hT : ¬ pb ((0 ≤ nI K ∧ nI K < nI (fN v G 4) - 1) ∧ 0 ≤ nI R ∧ nI R < nI (fN v G 5) - 1) = 0 := by rw [pb_1 ((cel_iff hv hG).mp hg)]; decide
    obtain ⟨hq, hr, hf, hO⟩ := hR.g hG
    obtain ⟨hq0, hq1⟩ := id hq
    obtain ⟨g6, c5, r5, c2, r2, s1, s64⟩ := hv.b hG
    have ep := hr.par
    have e1 : (nI G).toNatClampNeg = G := nI_clamp (by omega)
    have e2 : (nI K).toNatClampNeg = K := nI_clamp (by omega)
    have e3 : (nI R).toNatClampNeg = R := nI_clamp (by omega)
    obtain ⟨τ, hE1, h2, hC⟩ := c_X2_look hq hf (K := K) (R := R) hK hR0 hr rfl rfl
    have out : (what < 0 ∨ nI 4 ≤ what) → ∃ σ', Ct yX9_cellAt M_X9_cellAt [.ref 0, .int (nI G), .int (nI K), .int (nI R), .int what] σ (some (.long (cellAtS v (nI G) (nI K) (nI R) what)), σ') ∧ ScC σ σ' := by
      intro h
      refine ⟨_, ?_, h2⟩
      rw [cellAtS, pif_t hg, pif_f (P := 0 ≤ what ∧ what < 4) (out_lt (n := 4) h)]
      refine ct_of (k := 1) rfl rfl rfl (Nat.le_of_ble_eq_true rfl) ?_
      refine x_aload_n (pc' := 1) rfl dX9_cellAt_0 rfl ?_
      refine x_get (v := .ref 29) (pc' := 4) fk_X9_12 (by first | assumption | exact ⟨by decide, rfl⟩) rfl dX9_cellAt_1 rfl ?_
      refine x_iload_n (pc' := 5) rfl dX9_cellAt_4 rfl ?_
      refine x_callVi (As := [.int _]) (rest := []) (ci := 7) (pc' := 8) rfl vk_X9_83 mk_X8_at (by decide) (by first | assumption | exact ⟨by decide, rfl⟩) (by decide) rfl (Nat.le_of_ble_eq_true rfl) dX9_cellAt_5 rfl (t_X8_at hR.1 hn h6 rfl hG) ?_
      refine x_astore (lv' := [_, _, _, _, _, _]) (pc' := 10) (by decide) rfl dX9_cellAt_8 rfl ?_
      refine x_aload (pc' := 12) rfl dX9_cellAt_10 rfl ?_
      refine x_ifnull (pc' := 15) dX9_cellAt_12 rfl ?_
      refine x_aload (pc' := 17) rfl dX9_cellAt_15 rfl ?_
      refine x_iload_n (pc' := 18) rfl dX9_cellAt_17 rfl ?_
      refine x_iload_n (pc' := 19) rfl dX9_cellAt_18 rfl ?_
      refine x_callVi (As := [.int _, .int _]) (rest := []) (ci := 3) (pc' := 22) rfl vk_X9_162 mk_X4_hasCell (by decide) (by first | assumption | exact ⟨by decide, rfl⟩) (by decide) rfl (Nat.le_of_ble_eq_true rfl) dX9_cellAt_19 rfl (c_X4_hasCell hq hr hf) ?_
      refine x_if_ne (tgt := 29) (pc' := 25) (by decide) dX9_cellAt_22 rfl (fun c22 => ?_) (fun c22 => absurd c22 hT)
      refine x_aload_n (pc' := 30) rfl dX9_cellAt_29 rfl ?_
      refine x_get (v := .ref 13) (pc' := 33) fk_X9_57 (by first | assumption | exact ⟨by decide, rfl⟩) rfl dX9_cellAt_30 rfl ?_
      refine x_aload (pc' := 35) rfl dX9_cellAt_33 rfl ?_
      refine x_iload_n (pc' := 36) rfl dX9_cellAt_35 rfl ?_
      refine x_iload_n (pc' := 37) rfl dX9_cellAt_36 rfl ?_
      refine x_callVv (As := [.ref _, .int _, .int _]) (rest := []) (ci := 1) (pc' := 40) rfl vk_X9_167 mk_X2_look (by decide) (by first | assumption | exact ⟨by decide, rfl⟩) (by decide) rfl (Nat.le_of_ble_eq_true rfl) dX9_cellAt_37 rfl hE1 ?_
      refine x_iload (pc' := 42) rfl dX9_cellAt_40 rfl ?_
      refine x_tswOut (tgt := 121) (h.elim (fun h => Or.inl ((sI_lt _ _).mp h)) (fun h => Or.inr (Int.lt_of_lt_of_le (by decide) ((sI_le _ _).mp h)))) (by decide) dX9_cellAt_42 ?_
      refine x_ldc2 (pc' := 124) kl_X9_185 dX9_cellAt_121 rfl ?_
      exact x_lret rfl dX9_cellAt_124 rfl
    rcases pk_ix what (n := 4) (by decide) with h | h | ⟨j, hj, rfl⟩
    · exact out (Or.inl h)
    · exact out (Or.inr h)
    · match j, hj with
      | 0, _ =>
        refine ⟨_, ?_, h2⟩
        rw [show cellAtS v (nI G) (nI K) (nI R) (nI 0) = clN v G K R 0 by rw [cellAtS, pif_t hg, pif_t (by decide), e1, e2, e3]; rfl]
        refine ct_of (k := 1) rfl rfl rfl (Nat.le_of_ble_eq_true rfl) ?_
        refine x_aload_n (pc' := 1) rfl dX9_cellAt_0 rfl ?_
        refine x_get (v := .ref 29) (pc' := 4) fk_X9_12 (by first | assumption | exact ⟨by decide, rfl⟩) rfl dX9_cellAt_1 rfl ?_
        refine x_iload_n (pc' := 5) rfl dX9_cellAt_4 rfl ?_
        refine x_callVi (As := [.int _]) (rest := []) (ci := 7) (pc' := 8) rfl vk_X9_83 mk_X8_at (by decide) (by first | assumption | exact ⟨by decide, rfl⟩) (by decide) rfl (Nat.le_of_ble_eq_true rfl) dX9_cellAt_5 rfl (t_X8_at hR.1 hn h6 rfl hG) ?_
        refine x_astore (lv' := [_, _, _, _, _, _]) (pc' := 10) (by decide) rfl dX9_cellAt_8 rfl ?_
        refine x_aload (pc' := 12) rfl dX9_cellAt_10 rfl ?_
        refine x_ifnull (pc' := 15) dX9_cellAt_12 rfl ?_
        refine x_aload (pc' := 17) rfl dX9_cellAt_15 rfl ?_
        refine x_iload_n (pc' := 18) rfl dX9_cellAt_17 rfl ?_
        refine x_iload_n (pc' := 19) rfl dX9_cellAt_18 rfl ?_
        refine x_callVi (As := [.int _, .int _]) (rest := []) (ci := 3) (pc' := 22) rfl vk_X9_162 mk_X4_hasCell (by decide) (by first | assumption | exact ⟨by decide, rfl⟩) (by decide) rfl (Nat.le_of_ble_eq_true rfl) dX9_cellAt_19 rfl (c_X4_hasCell hq hr hf) ?_
        refine x_if_ne (tgt := 29) (pc' := 25) (by decide) dX9_cellAt_22 rfl (fun c22 => ?_) (fun c22 => absurd c22 hT)
        refine x_aload_n (pc' := 30) rfl dX9_cellAt_29 rfl ?_
        refine x_get (v := .ref 13) (pc' := 33) fk_X9_57 (by first | assumption | exact ⟨by decide, rfl⟩) rfl dX9_cellAt_30 rfl ?_
        refine x_aload (pc' := 35) rfl dX9_cellAt_33 rfl ?_
        refine x_iload_n (pc' := 36) rfl dX9_cellAt_35 rfl ?_
        refine x_iload_n (pc' := 37) rfl dX9_cellAt_36 rfl ?_
        refine x_callVv (As := [.ref _, .int _, .int _]) (rest := []) (ci := 1) (pc' := 40) rfl vk_X9_167 mk_X2_look (by decide) (by first | assumption | exact ⟨by decide, rfl⟩) (by decide) rfl (Nat.le_of_ble_eq_true rfl) dX9_cellAt_37 rfl hE1 ?_
        refine x_iload (pc' := 42) rfl dX9_cellAt_40 rfl ?_
        refine x_tswIn (off := 30) (tgt := 72) (by decide) (by decide) (by decide) (by decide) dX9_cellAt_42 ?_
        refine x_aload_n (pc' := 73) rfl dX9_cellAt_72 rfl ?_
        refine x_get (v := .ref 13) (pc' := 76) fk_X9_57 (by first | assumption | exact ⟨by decide, rfl⟩) rfl dX9_cellAt_73 rfl ?_
        refine x_callVi (As := []) (rest := []) (ci := 1) (pc' := 79) rfl vk_X9_171 mk_X2_steepness (by decide) (by first | assumption | exact ⟨by decide, rfl⟩) (by decide) rfl (Nat.le_of_ble_eq_true rfl) dX9_cellAt_76 rfl (c_X2_steepness hC) ?_
        refine x_i2l (pc' := 80) dX9_cellAt_79 rfl ?_
        exact x_lret rfl dX9_cellAt_80 rfl
      | 1, _ =>
        refine ⟨_, ?_, h2⟩
        rw [show cellAtS v (nI G) (nI K) (nI R) (nI 1) = clN v G K R 1 by rw [cellAtS, pif_t hg, pif_t (by decide), e1, e2, e3]; rfl]
        refine ct_of (k := 1) rfl rfl rfl (Nat.le_of_ble_eq_true rfl) ?_
        refine x_aload_n (pc' := 1) rfl dX9_cellAt_0 rfl ?_
        refine x_get (v := .ref 29) (pc' := 4) fk_X9_12 (by first | assumption | exact ⟨by decide, rfl⟩) rfl dX9_cellAt_1 rfl ?_
        refine x_iload_n (pc' := 5) rfl dX9_cellAt_4 rfl ?_
        refine x_callVi (As := [.int _]) (rest := []) (ci := 7) (pc' := 8) rfl vk_X9_83 mk_X8_at (by decide) (by first | assumption | exact ⟨by decide, rfl⟩) (by decide) rfl (Nat.le_of_ble_eq_true rfl) dX9_cellAt_5 rfl (t_X8_at hR.1 hn h6 rfl hG) ?_
        refine x_astore (lv' := [_, _, _, _, _, _]) (pc' := 10) (by decide) rfl dX9_cellAt_8 rfl ?_
        refine x_aload (pc' := 12) rfl dX9_cellAt_10 rfl ?_
        refine x_ifnull (pc' := 15) dX9_cellAt_12 rfl ?_
        refine x_aload (pc' := 17) rfl dX9_cellAt_15 rfl ?_
        refine x_iload_n (pc' := 18) rfl dX9_cellAt_17 rfl ?_
        refine x_iload_n (pc' := 19) rfl dX9_cellAt_18 rfl ?_
        refine x_callVi (As := [.int _, .int _]) (rest := []) (ci := 3) (pc' := 22) rfl vk_X9_162 mk_X4_hasCell (by decide) (by first | assumption | exact ⟨by decide, rfl⟩) (by decide) rfl (Nat.le_of_ble_eq_true rfl) dX9_cellAt_19 rfl (c_X4_hasCell hq hr hf) ?_
        refine x_if_ne (tgt := 29) (pc' := 25) (by decide) dX9_cellAt_22 rfl (fun c22 => ?_) (fun c22 => absurd c22 hT)
        refine x_aload_n (pc' := 30) rfl dX9_cellAt_29 rfl ?_
        refine x_get (v := .ref 13) (pc' := 33) fk_X9_57 (by first | assumption | exact ⟨by decide, rfl⟩) rfl dX9_cellAt_30 rfl ?_
        refine x_aload (pc' := 35) rfl dX9_cellAt_33 rfl ?_
        refine x_iload_n (pc' := 36) rfl dX9_cellAt_35 rfl ?_
        refine x_iload_n (pc' := 37) rfl dX9_cellAt_36 rfl ?_
        refine x_callVv (As := [.ref _, .int _, .int _]) (rest := []) (ci := 1) (pc' := 40) rfl vk_X9_167 mk_X2_look (by decide) (by first | assumption | exact ⟨by decide, rfl⟩) (by decide) rfl (Nat.le_of_ble_eq_true rfl) dX9_cellAt_37 rfl hE1 ?_
        refine x_iload (pc' := 42) rfl dX9_cellAt_40 rfl ?_
        refine x_tswIn (off := 39) (tgt := 81) (by decide) (by decide) (by decide) (by decide) dX9_cellAt_42 ?_
        refine x_aload_n (pc' := 82) rfl dX9_cellAt_81 rfl ?_
        refine x_get (v := .ref 13) (pc' := 85) fk_X9_57 (by first | assumption | exact ⟨by decide, rfl⟩) rfl dX9_cellAt_82 rfl ?_
        refine x_callVi (As := []) (rest := []) (ci := 1) (pc' := 88) rfl vk_X9_174 mk_X2_isSure (by decide) (by first | assumption | exact ⟨by decide, rfl⟩) (by decide) rfl (Nat.le_of_ble_eq_true rfl) dX9_cellAt_85 rfl (c_X2_isSure hC) ?_
        refine x_if_eq (tgt := 95) (pc' := 91) (by decide) dX9_cellAt_88 rfl (fun c88 => ?_) (fun c88 => ?_)
        · refine x_lconst (v := 0) (pc' := 96) (by decide) dX9_cellAt_95 rfl ?_
          exact x_lret rfl dX9_cellAt_96 (ret_l (pif_f (pb_iff.mp c88)).symm)
        · refine x_lconst (v := 1) (pc' := 92) (by decide) dX9_cellAt_91 rfl ?_
          refine x_goto (tgt := 96) (by decide) dX9_cellAt_92 ?_
          exact x_lret rfl dX9_cellAt_96 (ret_l (pif_t (pb_n c88)).symm)
      | 2, _ =>
        refine ⟨_, ?_, h2⟩
        rw [show cellAtS v (nI G) (nI K) (nI R) (nI 2) = clN v G K R 2 by rw [cellAtS, pif_t hg, pif_t (by decide), e1, e2, e3]; rfl]
        refine ct_of (k := 1) rfl rfl rfl (Nat.le_of_ble_eq_true rfl) ?_
        refine x_aload_n (pc' := 1) rfl dX9_cellAt_0 rfl ?_
        refine x_get (v := .ref 29) (pc' := 4) fk_X9_12 (by first | assumption | exact ⟨by decide, rfl⟩) rfl dX9_cellAt_1 rfl ?_
        refine x_iload_n (pc' := 5) rfl dX9_cellAt_4 rfl ?_
        refine x_callVi (As := [.int _]) (rest := []) (ci := 7) (pc' := 8) rfl vk_X9_83 mk_X8_at (by decide) (by first | assumption | exact ⟨by decide, rfl⟩) (by decide) rfl (Nat.le_of_ble_eq_true rfl) dX9_cellAt_5 rfl (t_X8_at hR.1 hn h6 rfl hG) ?_
        refine x_astore (lv' := [_, _, _, _, _, _]) (pc' := 10) (by decide) rfl dX9_cellAt_8 rfl ?_
        refine x_aload (pc' := 12) rfl dX9_cellAt_10 rfl ?_
        refine x_ifnull (pc' := 15) dX9_cellAt_12 rfl ?_
        refine x_aload (pc' := 17) rfl dX9_cellAt_15 rfl ?_
        refine x_iload_n (pc' := 18) rfl dX9_cellAt_17 rfl ?_
        refine x_iload_n (pc' := 19) rfl dX9_cellAt_18 rfl ?_
        refine x_callVi (As := [.int _, .int _]) (rest := []) (ci := 3) (pc' := 22) rfl vk_X9_162 mk_X4_hasCell (by decide) (by first | assumption | exact ⟨by decide, rfl⟩) (by decide) rfl (Nat.le_of_ble_eq_true rfl) dX9_cellAt_19 rfl (c_X4_hasCell hq hr hf) ?_
        refine x_if_ne (tgt := 29) (pc' := 25) (by decide) dX9_cellAt_22 rfl (fun c22 => ?_) (fun c22 => absurd c22 hT)
        refine x_aload_n (pc' := 30) rfl dX9_cellAt_29 rfl ?_
        refine x_get (v := .ref 13) (pc' := 33) fk_X9_57 (by first | assumption | exact ⟨by decide, rfl⟩) rfl dX9_cellAt_30 rfl ?_
        refine x_aload (pc' := 35) rfl dX9_cellAt_33 rfl ?_
        refine x_iload_n (pc' := 36) rfl dX9_cellAt_35 rfl ?_
        refine x_iload_n (pc' := 37) rfl dX9_cellAt_36 rfl ?_
        refine x_callVv (As := [.ref _, .int _, .int _]) (rest := []) (ci := 1) (pc' := 40) rfl vk_X9_167 mk_X2_look (by decide) (by first | assumption | exact ⟨by decide, rfl⟩) (by decide) rfl (Nat.le_of_ble_eq_true rfl) dX9_cellAt_37 rfl hE1 ?_
        refine x_iload (pc' := 42) rfl dX9_cellAt_40 rfl ?_
        refine x_tswIn (off := 55) (tgt := 97) (by decide) (by decide) (by decide) (by decide) dX9_cellAt_42 ?_
        refine x_aload_n (pc' := 98) rfl dX9_cellAt_97 rfl ?_
        refine x_get (v := .ref 13) (pc' := 101) fk_X9_57 (by first | assumption | exact ⟨by decide, rfl⟩) rfl dX9_cellAt_98 rfl ?_
        refine x_callVi (As := []) (rest := []) (ci := 1) (pc' := 104) rfl vk_X9_178 mk_X2_isFolded (by decide) (by first | assumption | exact ⟨by decide, rfl⟩) (by decide) rfl (Nat.le_of_ble_eq_true rfl) dX9_cellAt_101 rfl (c_X2_isFolded hC) ?_
        refine x_if_eq (tgt := 111) (pc' := 107) (by decide) dX9_cellAt_104 rfl (fun c104 => ?_) (fun c104 => ?_)
        · refine x_lconst (v := 0) (pc' := 112) (by decide) dX9_cellAt_111 rfl ?_
          exact x_lret rfl dX9_cellAt_112 (ret_l (pif_f (pb_iff.mp c104)).symm)
        · refine x_lconst (v := 1) (pc' := 108) (by decide) dX9_cellAt_107 rfl ?_
          refine x_goto (tgt := 112) (by decide) dX9_cellAt_108 ?_
          exact x_lret rfl dX9_cellAt_112 (ret_l (pif_t (pb_n c104)).symm)
      | 3, _ =>
        refine ⟨_, ?_, h2⟩
        rw [show cellAtS v (nI G) (nI K) (nI R) (nI 3) = clN v G K R 3 by rw [cellAtS, pif_t hg, pif_t (by decide), e1, e2, e3]; rfl]
        refine ct_of (k := 1) rfl rfl rfl (Nat.le_of_ble_eq_true rfl) ?_
        refine x_aload_n (pc' := 1) rfl dX9_cellAt_0 rfl ?_
        refine x_get (v := .ref 29) (pc' := 4) fk_X9_12 (by first | assumption | exact ⟨by decide, rfl⟩) rfl dX9_cellAt_1 rfl ?_
        refine x_iload_n (pc' := 5) rfl dX9_cellAt_4 rfl ?_
        refine x_callVi (As := [.int _]) (rest := []) (ci := 7) (pc' := 8) rfl vk_X9_83 mk_X8_at (by decide) (by first | assumption | exact ⟨by decide, rfl⟩) (by decide) rfl (Nat.le_of_ble_eq_true rfl) dX9_cellAt_5 rfl (t_X8_at hR.1 hn h6 rfl hG) ?_
        refine x_astore (lv' := [_, _, _, _, _, _]) (pc' := 10) (by decide) rfl dX9_cellAt_8 rfl ?_
        refine x_aload (pc' := 12) rfl dX9_cellAt_10 rfl ?_
        refine x_ifnull (pc' := 15) dX9_cellAt_12 rfl ?_
        refine x_aload (pc' := 17) rfl dX9_cellAt_15 rfl ?_
        refine x_iload_n (pc' := 18) rfl dX9_cellAt_17 rfl ?_
        refine x_iload_n (pc' := 19) rfl dX9_cellAt_18 rfl ?_
        refine x_callVi (As := [.int _, .int _]) (rest := []) (ci := 3) (pc' := 22) rfl vk_X9_162 mk_X4_hasCell (by decide) (by first | assumption | exact ⟨by decide, rfl⟩) (by decide) rfl (Nat.le_of_ble_eq_true rfl) dX9_cellAt_19 rfl (c_X4_hasCell hq hr hf) ?_
        refine x_if_ne (tgt := 29) (pc' := 25) (by decide) dX9_cellAt_22 rfl (fun c22 => ?_) (fun c22 => absurd c22 hT)
        refine x_aload_n (pc' := 30) rfl dX9_cellAt_29 rfl ?_
        refine x_get (v := .ref 13) (pc' := 33) fk_X9_57 (by first | assumption | exact ⟨by decide, rfl⟩) rfl dX9_cellAt_30 rfl ?_
        refine x_aload (pc' := 35) rfl dX9_cellAt_33 rfl ?_
        refine x_iload_n (pc' := 36) rfl dX9_cellAt_35 rfl ?_
        refine x_iload_n (pc' := 37) rfl dX9_cellAt_36 rfl ?_
        refine x_callVv (As := [.ref _, .int _, .int _]) (rest := []) (ci := 1) (pc' := 40) rfl vk_X9_167 mk_X2_look (by decide) (by first | assumption | exact ⟨by decide, rfl⟩) (by decide) rfl (Nat.le_of_ble_eq_true rfl) dX9_cellAt_37 rfl hE1 ?_
        refine x_iload (pc' := 42) rfl dX9_cellAt_40 rfl ?_
        refine x_tswIn (off := 71) (tgt := 113) (by decide) (by decide) (by decide) (by decide) dX9_cellAt_42 ?_
        refine x_aload_n (pc' := 114) rfl dX9_cellAt_113 rfl ?_
        refine x_get (v := .ref 13) (pc' := 117) fk_X9_57 (by first | assumption | exact ⟨by decide, rfl⟩) rfl dX9_cellAt_114 rfl ?_
        refine x_callVi (As := []) (rest := []) (ci := 1) (pc' := 120) rfl vk_X9_181 mk_X2_area (by decide) (by first | assumption | exact ⟨by decide, rfl⟩) (by decide) rfl (Nat.le_of_ble_eq_true rfl) dX9_cellAt_117 rfl (c_X2_area hC) ?_
        exact x_lret rfl dX9_cellAt_120 rfl
      | j + 4, hj => exact absurd hj (by omega)
  · refine ⟨_, ?_, ScC.rf σ⟩
    rw [cellAtS, pif_f hg]
    by_cases hgr : grS v g
    · obtain ⟨G, hG, rfl⟩ := grS_nat hv hgr
      obtain ⟨hq, hr, hf, hO⟩ := hR.g hG
      obtain ⟨hq0, hq1⟩ := id hq
      obtain ⟨g6, c5, r5, c2, r2, s1, s64⟩ := hv.b hG
      have ep := hr.par
      have e1 : (nI G).toNatClampNeg = G := nI_clamp (by omega)
      refine ct_of (k := 1) rfl rfl rfl (Nat.le_of_ble_eq_true rfl) ?_
      refine x_aload_n (pc' := 1) rfl dX9_cellAt_0 rfl ?_
      refine x_get (v := .ref 29) (pc' := 4) fk_X9_12 (by first | assumption | exact ⟨by decide, rfl⟩) rfl dX9_cellAt_1 rfl ?_
      refine x_iload_n (pc' := 5) rfl dX9_cellAt_4 rfl ?_
      refine x_callVi (As := [.int _]) (rest := []) (ci := 7) (pc' := 8) rfl vk_X9_83 mk_X8_at (by decide) (by first | assumption | exact ⟨by decide, rfl⟩) (by decide) rfl (Nat.le_of_ble_eq_true rfl) dX9_cellAt_5 rfl (t_X8_at hR.1 hn h6 rfl hG) ?_
      refine x_astore (lv' := [_, _, _, _, _, _]) (pc' := 10) (by decide) rfl dX9_cellAt_8 rfl ?_
      refine x_aload (pc' := 12) rfl dX9_cellAt_10 rfl ?_
      refine x_ifnull (pc' := 15) dX9_cellAt_12 rfl ?_
      refine x_aload (pc' := 17) rfl dX9_cellAt_15 rfl ?_
      refine x_iload_n (pc' := 18) rfl dX9_cellAt_17 rfl ?_
      refine x_iload_n (pc' := 19) rfl dX9_cellAt_18 rfl ?_
      refine x_callVi (As := [.int _, .int _]) (rest := []) (ci := 3) (pc' := 22) rfl vk_X9_162 mk_X4_hasCell (by decide) (by first | assumption | exact ⟨by decide, rfl⟩) (by decide) rfl (Nat.le_of_ble_eq_true rfl) dX9_cellAt_19 rfl (c_X4_hasCell hq hr hf) ?_
      refine x_if_ne (tgt := 29) (pc' := 25) (by decide) dX9_cellAt_22 rfl (fun c22 => absurd (pb_0 (fun q => hg ((cel_iff hv hG).mpr q))) c22) (fun c22 => ?_)
      refine x_ldc2 (pc' := 28) kl_X9_165 dX9_cellAt_25 rfl ?_
      exact x_lret rfl dX9_cellAt_28 rfl
    · refine ct_of (k := 1) rfl rfl rfl (Nat.le_of_ble_eq_true rfl) ?_
      refine x_aload_n (pc' := 1) rfl dX9_cellAt_0 rfl ?_
      refine x_get (v := .ref 29) (pc' := 4) fk_X9_12 (by first | assumption | exact ⟨by decide, rfl⟩) rfl dX9_cellAt_1 rfl ?_
      refine x_iload_n (pc' := 5) rfl dX9_cellAt_4 rfl ?_
      refine x_callVi (As := [.int _]) (rest := []) (ci := 7) (pc' := 8) rfl vk_X9_83 mk_X8_at (by decide) (by first | assumption | exact ⟨by decide, rfl⟩) (by decide) rfl (Nat.le_of_ble_eq_true rfl) dX9_cellAt_5 rfl (f_X8_at hR.1 hn h6 (fun q => hgr ((grS_iff hv).mp q))) ?_
      refine x_astoreN (lv' := [_, _, _, _, _, _]) (pc' := 10) (by decide) rfl dX9_cellAt_8 rfl ?_
      refine x_aloadN (pc' := 12) rfl dX9_cellAt_10 rfl ?_
      refine x_ifnullN (tgt := 25) (by decide) dX9_cellAt_12 ?_
      refine x_ldc2 (pc' := 28) kl_X9_165 dX9_cellAt_25 rfl ?_
      exact x_lret rfl dX9_cellAt_28 rfl
set_option maxRecDepth 100000 in
set_option maxHeartbeats 4000000 in
theorem q_X9_which {σ : St} {v : Nat → Int32} (hR : Rp σ 29 v) {x y : Int32} : ∃ σ', Ct yX9_which M_X9_which [.ref 0, .int x, .int y] σ (some (.int (whichS v x y)), σ') ∧ ScC σ σ' := by
  have hv := hR.2.2
  have h6 := hv.c6
  obtain ⟨hk0, hk1, hk2⟩ := id hR.1
  have hn := hR.n
  refine ⟨_, ?_, ScC.rf σ⟩
  by_cases hp : plc x y
  · obtain ⟨p1, p2, p3, p4⟩ := plc_cl hp
    rw [whichS, pif_t hp]
    have hbl := c_X8_owner hR (px := x.toNatClampNeg) (py := y.toNatClampNeg) (by omega) (by omega)
    rw [← p1, ← p2] at hbl
    refine ct_of (k := 0) rfl rfl rfl (Nat.le_of_ble_eq_true rfl) ?_
    refine x_iload_n (pc' := 1) rfl dX9_which_0 rfl ?_
    refine x_iload_n (pc' := 2) rfl dX9_which_1 rfl ?_
    refine x_callSi (As := [.int _, .int _]) (rest := []) (pc' := 5) rfl sk_X9_187 mk_X9_isPlace (by decide) rfl (Nat.le_of_ble_eq_true rfl) dX9_which_2 rfl c_X9_isPlace ?_
    refine x_if_eq (tgt := 20) (pc' := 8) (by decide) dX9_which_5 rfl (fun c5 => absurd c5 (by rw [pb_1 hp]; decide)) (fun c5 => ?_)
    refine x_aload_n (pc' := 9) rfl dX9_which_8 rfl ?_
    refine x_get (v := .ref 29) (pc' := 12) fk_X9_12 (by first | assumption | exact ⟨by decide, rfl⟩) rfl dX9_which_9 rfl ?_
    refine x_iload_n (pc' := 13) rfl dX9_which_12 rfl ?_
    refine x_iload_n (pc' := 14) rfl dX9_which_13 rfl ?_
    refine x_callVi (As := [.int _, .int _]) (rest := []) (ci := 7) (pc' := 17) rfl vk_X9_190 mk_X8_owner (by decide) (by first | assumption | exact ⟨by decide, rfl⟩) (by decide) rfl (Nat.le_of_ble_eq_true rfl) dX9_which_14 rfl hbl ?_
    refine x_goto (tgt := 22) (by decide) dX9_which_17 ?_
    exact x_iret rfl dX9_which_22 rfl
  · rw [whichS, pif_f hp]
    refine ct_of (k := 0) rfl rfl rfl (Nat.le_of_ble_eq_true rfl) ?_
    refine x_iload_n (pc' := 1) rfl dX9_which_0 rfl ?_
    refine x_iload_n (pc' := 2) rfl dX9_which_1 rfl ?_
    refine x_callSi (As := [.int _, .int _]) (rest := []) (pc' := 5) rfl sk_X9_187 mk_X9_isPlace (by decide) rfl (Nat.le_of_ble_eq_true rfl) dX9_which_2 rfl c_X9_isPlace ?_
    refine x_if_eq (tgt := 20) (pc' := 8) (by decide) dX9_which_5 rfl (fun c5 => ?_) (fun c5 => absurd (pb_0 hp) c5)
    refine x_ldc (pc' := 22) kc_X9_102 dX9_which_20 rfl ?_
    exact x_iret rfl dX9_which_22 rfl
set_option maxRecDepth 100000 in
set_option maxHeartbeats 4000000 in
theorem q_X9_moved {σ : St} {v : Nat → Int32} (hR : Rp σ 29 v) {x y what : Int32} : ∃ σ', Ct yX9_moved M_X9_moved [.ref 0, .int x, .int y, .int what] σ (some (.int (movedS v x y what)), σ') ∧ ScC σ σ' := by
  have hv := hR.2.2
  have h6 := hv.c6
  obtain ⟨hk0, hk1, hk2⟩ := id hR.1
  have hn := hR.n
  refine ⟨_, ?_, ScC.rf σ⟩
  by_cases hp : plc x y
  · obtain ⟨p1, p2, p3, p4⟩ := plc_cl hp
    by_cases hw : 0 ≤ what ∧ what < 2
    · rw [movedS, pif_t ⟨hp, hw⟩]
      obtain ⟨j, hj, hw⟩ := i_in (n := 2) (by decide) hw.1 hw.2
      match j, hj with
      | 0, _ =>
        subst hw
        have hw : (nI 0) = 0 := rfl
        rw [pif_t hw]
        refine ct_of (k := 0) rfl rfl rfl (Nat.le_of_ble_eq_true rfl) ?_
        refine x_iload_n (pc' := 1) rfl dX9_moved_0 rfl ?_
        refine x_iload_n (pc' := 2) rfl dX9_moved_1 rfl ?_
        refine x_callSi (As := [.int _, .int _]) (rest := []) (pc' := 5) rfl sk_X9_187 mk_X9_isPlace (by decide) rfl (Nat.le_of_ble_eq_true rfl) dX9_moved_2 rfl c_X9_isPlace ?_
        refine x_if_eq (tgt := 17) (pc' := 8) (by decide) dX9_moved_5 rfl (fun c5 => absurd c5 (by rw [pb_1 hp]; decide)) (fun c5 => ?_)
        refine x_iload_n (pc' := 9) rfl dX9_moved_8 rfl ?_
        refine x_iconst (v := 0) (pc' := 10) (by decide) dX9_moved_9 rfl ?_
        refine x_iconst (v := 1) (pc' := 11) (by decide) dX9_moved_10 rfl ?_
        refine x_callSi (As := [.int _, .int _, .int _]) (rest := []) (pc' := 14) rfl sk_X9_143 mk_X9_isWithin (by decide) rfl (Nat.le_of_ble_eq_true rfl) dX9_moved_11 rfl c_X9_isWithin ?_
        refine x_if_ne (tgt := 20) (pc' := 17) (by decide) dX9_moved_14 rfl (fun c14 => ?_) (fun c14 => absurd c14 (by rw [pb_1 (by decide)]; decide))
        refine x_iload_n (pc' := 21) rfl dX9_moved_20 rfl ?_
        refine x_if_ne (tgt := 40) (pc' := 24) (by decide) dX9_moved_21 rfl (fun c21 => absurd hw c21) (fun c21 => ?_)
        refine x_iload_n (pc' := 25) rfl dX9_moved_24 rfl ?_
        refine x_aload_n (pc' := 26) rfl dX9_moved_25 rfl ?_
        refine x_get (v := .ref 29) (pc' := 29) fk_X9_12 (by first | assumption | exact ⟨by decide, rfl⟩) rfl dX9_moved_26 rfl ?_
        refine x_iload_n (pc' := 30) rfl dX9_moved_29 rfl ?_
        refine x_iload_n (pc' := 31) rfl dX9_moved_30 rfl ?_
        refine x_iconst (v := 0) (pc' := 32) (by decide) dX9_moved_31 rfl ?_
        refine x_callVi (As := [.int _, .int _, .int _]) (rest := [.int _]) (ci := 7) (pc' := 35) rfl vk_X9_194 mk_X8_placeOffset (by decide) (by first | assumption | exact ⟨by decide, rfl⟩) (by decide) rfl (Nat.le_of_ble_eq_true rfl) dX9_moved_32 rfl (c_X8_placeOffset hR p1 p2 (W := 0) rfl p3 p4 (by decide)) ?_
        refine x_iadd (pc' := 36) dX9_moved_35 rfl ?_
        refine x_ldc (pc' := 38) kc_X9_151 dX9_moved_36 rfl ?_
        refine x_iadd (pc' := 39) dX9_moved_38 rfl ?_
        exact x_iret rfl dX9_moved_39 rfl
      | 1, _ =>
        subst hw
        have hw : ¬ (nI 1) = 0 := by decide
        rw [pif_f hw]
        refine ct_of (k := 0) rfl rfl rfl (Nat.le_of_ble_eq_true rfl) ?_
        refine x_iload_n (pc' := 1) rfl dX9_moved_0 rfl ?_
        refine x_iload_n (pc' := 2) rfl dX9_moved_1 rfl ?_
        refine x_callSi (As := [.int _, .int _]) (rest := []) (pc' := 5) rfl sk_X9_187 mk_X9_isPlace (by decide) rfl (Nat.le_of_ble_eq_true rfl) dX9_moved_2 rfl c_X9_isPlace ?_
        refine x_if_eq (tgt := 17) (pc' := 8) (by decide) dX9_moved_5 rfl (fun c5 => absurd c5 (by rw [pb_1 hp]; decide)) (fun c5 => ?_)
        refine x_iload_n (pc' := 9) rfl dX9_moved_8 rfl ?_
        refine x_iconst (v := 0) (pc' := 10) (by decide) dX9_moved_9 rfl ?_
        refine x_iconst (v := 1) (pc' := 11) (by decide) dX9_moved_10 rfl ?_
        refine x_callSi (As := [.int _, .int _, .int _]) (rest := []) (pc' := 14) rfl sk_X9_143 mk_X9_isWithin (by decide) rfl (Nat.le_of_ble_eq_true rfl) dX9_moved_11 rfl c_X9_isWithin ?_
        refine x_if_ne (tgt := 20) (pc' := 17) (by decide) dX9_moved_14 rfl (fun c14 => ?_) (fun c14 => absurd c14 (by rw [pb_1 (by decide)]; decide))
        refine x_iload_n (pc' := 21) rfl dX9_moved_20 rfl ?_
        refine x_if_ne (tgt := 40) (pc' := 24) (by decide) dX9_moved_21 rfl (fun c21 => ?_) (fun c21 => absurd c21 hw)
        refine x_iload_n (pc' := 41) rfl dX9_moved_40 rfl ?_
        refine x_aload_n (pc' := 42) rfl dX9_moved_41 rfl ?_
        refine x_get (v := .ref 29) (pc' := 45) fk_X9_12 (by first | assumption | exact ⟨by decide, rfl⟩) rfl dX9_moved_42 rfl ?_
        refine x_iload_n (pc' := 46) rfl dX9_moved_45 rfl ?_
        refine x_iload_n (pc' := 47) rfl dX9_moved_46 rfl ?_
        refine x_iconst (v := 1) (pc' := 48) (by decide) dX9_moved_47 rfl ?_
        refine x_callVi (As := [.int _, .int _, .int _]) (rest := [.int _]) (ci := 7) (pc' := 51) rfl vk_X9_194 mk_X8_placeOffset (by decide) (by first | assumption | exact ⟨by decide, rfl⟩) (by decide) rfl (Nat.le_of_ble_eq_true rfl) dX9_moved_48 rfl (c_X8_placeOffset hR p1 p2 (W := 1) rfl p3 p4 (by decide)) ?_
        refine x_iadd (pc' := 52) dX9_moved_51 rfl ?_
        refine x_ldc (pc' := 54) kc_X9_151 dX9_moved_52 rfl ?_
        refine x_iadd (pc' := 55) dX9_moved_54 rfl ?_
        exact x_iret rfl dX9_moved_55 rfl
    · rw [movedS, pif_f (fun q => hw q.2)]
      refine ct_of (k := 0) rfl rfl rfl (Nat.le_of_ble_eq_true rfl) ?_
      refine x_iload_n (pc' := 1) rfl dX9_moved_0 rfl ?_
      refine x_iload_n (pc' := 2) rfl dX9_moved_1 rfl ?_
      refine x_callSi (As := [.int _, .int _]) (rest := []) (pc' := 5) rfl sk_X9_187 mk_X9_isPlace (by decide) rfl (Nat.le_of_ble_eq_true rfl) dX9_moved_2 rfl c_X9_isPlace ?_
      refine x_if_eq (tgt := 17) (pc' := 8) (by decide) dX9_moved_5 rfl (fun c5 => absurd c5 (by rw [pb_1 hp]; decide)) (fun c5 => ?_)
      refine x_iload_n (pc' := 9) rfl dX9_moved_8 rfl ?_
      refine x_iconst (v := 0) (pc' := 10) (by decide) dX9_moved_9 rfl ?_
      refine x_iconst (v := 1) (pc' := 11) (by decide) dX9_moved_10 rfl ?_
      refine x_callSi (As := [.int _, .int _, .int _]) (rest := []) (pc' := 14) rfl sk_X9_143 mk_X9_isWithin (by decide) rfl (Nat.le_of_ble_eq_true rfl) dX9_moved_11 rfl c_X9_isWithin ?_
      refine x_if_ne (tgt := 20) (pc' := 17) (by decide) dX9_moved_14 rfl (fun c14 => absurd (pb_0 (fun q => hw ⟨q.1, i_nle.mp (fun z => absurd (Int.le_trans ((sI_le _ _).mp z) ((sI_le _ _).mp q.2)) (by decide))⟩)) c14) (fun c14 => ?_)
      refine x_ldc (pc' := 19) kc_X9_102 dX9_moved_17 rfl ?_
      exact x_iret rfl dX9_moved_19 rfl
  · rw [movedS, pif_f (fun q => hp q.1)]
    refine ct_of (k := 0) rfl rfl rfl (Nat.le_of_ble_eq_true rfl) ?_
    refine x_iload_n (pc' := 1) rfl dX9_moved_0 rfl ?_
    refine x_iload_n (pc' := 2) rfl dX9_moved_1 rfl ?_
    refine x_callSi (As := [.int _, .int _]) (rest := []) (pc' := 5) rfl sk_X9_187 mk_X9_isPlace (by decide) rfl (Nat.le_of_ble_eq_true rfl) dX9_moved_2 rfl c_X9_isPlace ?_
    refine x_if_eq (tgt := 17) (pc' := 8) (by decide) dX9_moved_5 rfl (fun c5 => ?_) (fun c5 => absurd (pb_0 hp) c5)
    refine x_ldc (pc' := 19) kc_X9_102 dX9_moved_17 rfl ?_
    exact x_iret rfl dX9_moved_19 rfl
set_option maxRecDepth 100000 in
set_option maxHeartbeats 4000000 in
theorem q_X9_back {σ : St} {v : Nat → Int32} (hR : Rp σ 29 v) {x y what : Int32} : ∃ σ', Ct yX9_back M_X9_back [.ref 0, .int x, .int y, .int what] σ (some (.int (backS v x y what)), σ') ∧ ScC σ σ' := by
  have hv := hR.2.2
  have h6 := hv.c6
  obtain ⟨hk0, hk1, hk2⟩ := id hR.1
  have hn := hR.n
  by_cases hp : newP x y
  · obtain ⟨τ, hE1, h2, hA, h60⟩ := c_X7_run hR (x := x) (y := y)
    have out : (what < 0 ∨ nI 4 ≤ what) → ∃ σ', Ct yX9_back M_X9_back [.ref 0, .int x, .int y, .int what] σ (some (.int (backS v x y what)), σ') ∧ ScC σ σ' := by
      intro h
      refine ⟨_, ?_, ScC.rf σ⟩
      rw [backS, pif_f (fun q => out_lt (n := 4) h q.2)]
      refine ct_of (k := 0) rfl rfl rfl (Nat.le_of_ble_eq_true rfl) ?_
      refine x_iload_n (pc' := 1) rfl dX9_back_0 rfl ?_
      refine x_iload_n (pc' := 2) rfl dX9_back_1 rfl ?_
      refine x_callSi (As := [.int _, .int _]) (rest := []) (pc' := 5) rfl sk_X9_197 mk_X9_isNewPlace (by decide) rfl (Nat.le_of_ble_eq_true rfl) dX9_back_2 rfl c_X9_isNewPlace ?_
      refine x_if_eq (tgt := 17) (pc' := 8) (by decide) dX9_back_5 rfl (fun c5 => absurd c5 (by rw [pb_1 hp]; decide)) (fun c5 => ?_)
      refine x_iload_n (pc' := 9) rfl dX9_back_8 rfl ?_
      refine x_iconst (v := 0) (pc' := 10) (by decide) dX9_back_9 rfl ?_
      refine x_iconst (v := 3) (pc' := 11) (by decide) dX9_back_10 rfl ?_
      refine x_callSi (As := [.int _, .int _, .int _]) (rest := []) (pc' := 14) rfl sk_X9_143 mk_X9_isWithin (by decide) rfl (Nat.le_of_ble_eq_true rfl) dX9_back_11 rfl c_X9_isWithin ?_
      refine x_if_ne (tgt := 20) (pc' := 17) (by decide) dX9_back_14 rfl (fun c14 => absurd (pb_0 (out_le (n := 4) (by decide) h)) c14) (fun c14 => ?_)
      refine x_ldc (pc' := 19) kc_X9_102 dX9_back_17 rfl ?_
      exact x_iret rfl dX9_back_19 rfl
    rcases pk_ix what (n := 4) (by decide) with h | h | ⟨j, hj, rfl⟩
    · exact out (Or.inl h)
    · exact out (Or.inr h)
    · match j, hj with
      | 0, _ =>
        refine ⟨_, ?_, h2⟩
        rw [show backS v x y (nI 0) = bkN v x y 0 by rw [backS, pif_t ⟨hp, by decide⟩]; rfl]
        refine ct_of (k := 0) rfl rfl rfl (Nat.le_of_ble_eq_true rfl) ?_
        refine x_iload_n (pc' := 1) rfl dX9_back_0 rfl ?_
        refine x_iload_n (pc' := 2) rfl dX9_back_1 rfl ?_
        refine x_callSi (As := [.int _, .int _]) (rest := []) (pc' := 5) rfl sk_X9_197 mk_X9_isNewPlace (by decide) rfl (Nat.le_of_ble_eq_true rfl) dX9_back_2 rfl c_X9_isNewPlace ?_
        refine x_if_eq (tgt := 17) (pc' := 8) (by decide) dX9_back_5 rfl (fun c5 => absurd c5 (by rw [pb_1 hp]; decide)) (fun c5 => ?_)
        refine x_iload_n (pc' := 9) rfl dX9_back_8 rfl ?_
        refine x_iconst (v := 0) (pc' := 10) (by decide) dX9_back_9 rfl ?_
        refine x_iconst (v := 3) (pc' := 11) (by decide) dX9_back_10 rfl ?_
        refine x_callSi (As := [.int _, .int _, .int _]) (rest := []) (pc' := 14) rfl sk_X9_143 mk_X9_isWithin (by decide) rfl (Nat.le_of_ble_eq_true rfl) dX9_back_11 rfl c_X9_isWithin ?_
        refine x_if_ne (tgt := 20) (pc' := 17) (by decide) dX9_back_14 rfl (fun c14 => ?_) (fun c14 => absurd c14 (by rw [pb_1 (by decide)]; decide))
        refine x_aload_n (pc' := 21) rfl dX9_back_20 rfl ?_
        refine x_get (v := .ref 10) (pc' := 24) fk_X9_50 (by first | assumption | exact ⟨by decide, rfl⟩) rfl dX9_back_21 rfl ?_
        refine x_aload_n (pc' := 25) rfl dX9_back_24 rfl ?_
        refine x_get (v := .ref 29) (pc' := 28) fk_X9_12 (by first | assumption | exact ⟨by decide, rfl⟩) rfl dX9_back_25 rfl ?_
        refine x_iload_n (pc' := 29) rfl dX9_back_28 rfl ?_
        refine x_iload_n (pc' := 30) rfl dX9_back_29 rfl ?_
        refine x_callVv (As := [.ref _, .int _, .int _]) (rest := []) (ci := 6) (pc' := 33) rfl vk_X9_200 mk_X7_run (by decide) (by first | assumption | exact ⟨by decide, rfl⟩) (by decide) rfl (Nat.le_of_ble_eq_true rfl) dX9_back_30 rfl hE1 ?_
        refine x_iload_n (pc' := 34) rfl dX9_back_33 rfl ?_
        refine x_tswIn (off := 26) (tgt := 60) (by decide) (by decide) (by decide) (by decide) dX9_back_34 ?_
        refine x_aload_n (pc' := 61) rfl dX9_back_60 rfl ?_
        refine x_get (v := .ref 10) (pc' := 64) fk_X9_50 (by first | assumption | exact ⟨by decide, rfl⟩) rfl dX9_back_61 rfl ?_
        refine x_callVi (As := []) (rest := []) (ci := 6) (pc' := 67) rfl vk_X9_204 mk_X7_kindNow (by decide) (by first | assumption | exact ⟨by decide, rfl⟩) (by decide) rfl (Nat.le_of_ble_eq_true rfl) dX9_back_64 rfl c_X7_kindNow ?_
        exact x_iret rfl dX9_back_67 (ret_i hA.1)
      | 1, _ =>
        refine ⟨_, ?_, h2⟩
        rw [show backS v x y (nI 1) = bkN v x y 1 by rw [backS, pif_t ⟨hp, by decide⟩]; rfl]
        refine ct_of (k := 0) rfl rfl rfl (Nat.le_of_ble_eq_true rfl) ?_
        refine x_iload_n (pc' := 1) rfl dX9_back_0 rfl ?_
        refine x_iload_n (pc' := 2) rfl dX9_back_1 rfl ?_
        refine x_callSi (As := [.int _, .int _]) (rest := []) (pc' := 5) rfl sk_X9_197 mk_X9_isNewPlace (by decide) rfl (Nat.le_of_ble_eq_true rfl) dX9_back_2 rfl c_X9_isNewPlace ?_
        refine x_if_eq (tgt := 17) (pc' := 8) (by decide) dX9_back_5 rfl (fun c5 => absurd c5 (by rw [pb_1 hp]; decide)) (fun c5 => ?_)
        refine x_iload_n (pc' := 9) rfl dX9_back_8 rfl ?_
        refine x_iconst (v := 0) (pc' := 10) (by decide) dX9_back_9 rfl ?_
        refine x_iconst (v := 3) (pc' := 11) (by decide) dX9_back_10 rfl ?_
        refine x_callSi (As := [.int _, .int _, .int _]) (rest := []) (pc' := 14) rfl sk_X9_143 mk_X9_isWithin (by decide) rfl (Nat.le_of_ble_eq_true rfl) dX9_back_11 rfl c_X9_isWithin ?_
        refine x_if_ne (tgt := 20) (pc' := 17) (by decide) dX9_back_14 rfl (fun c14 => ?_) (fun c14 => absurd c14 (by rw [pb_1 (by decide)]; decide))
        refine x_aload_n (pc' := 21) rfl dX9_back_20 rfl ?_
        refine x_get (v := .ref 10) (pc' := 24) fk_X9_50 (by first | assumption | exact ⟨by decide, rfl⟩) rfl dX9_back_21 rfl ?_
        refine x_aload_n (pc' := 25) rfl dX9_back_24 rfl ?_
        refine x_get (v := .ref 29) (pc' := 28) fk_X9_12 (by first | assumption | exact ⟨by decide, rfl⟩) rfl dX9_back_25 rfl ?_
        refine x_iload_n (pc' := 29) rfl dX9_back_28 rfl ?_
        refine x_iload_n (pc' := 30) rfl dX9_back_29 rfl ?_
        refine x_callVv (As := [.ref _, .int _, .int _]) (rest := []) (ci := 6) (pc' := 33) rfl vk_X9_200 mk_X7_run (by decide) (by first | assumption | exact ⟨by decide, rfl⟩) (by decide) rfl (Nat.le_of_ble_eq_true rfl) dX9_back_30 rfl hE1 ?_
        refine x_iload_n (pc' := 34) rfl dX9_back_33 rfl ?_
        refine x_tswIn (off := 34) (tgt := 68) (by decide) (by decide) (by decide) (by decide) dX9_back_34 ?_
        refine x_aload_n (pc' := 69) rfl dX9_back_68 rfl ?_
        refine x_get (v := .ref 10) (pc' := 72) fk_X9_50 (by first | assumption | exact ⟨by decide, rfl⟩) rfl dX9_back_69 rfl ?_
        refine x_callVi (As := []) (rest := []) (ci := 6) (pc' := 75) rfl vk_X9_207 mk_X7_rounds (by decide) (by first | assumption | exact ⟨by decide, rfl⟩) (by decide) rfl (Nat.le_of_ble_eq_true rfl) dX9_back_72 rfl c_X7_rounds ?_
        exact x_iret rfl dX9_back_75 (ret_i hA.2.1)
      | 2, _ =>
        refine ⟨_, ?_, h2⟩
        rw [show backS v x y (nI 2) = bkN v x y 2 by rw [backS, pif_t ⟨hp, by decide⟩]; rfl]
        refine ct_of (k := 0) rfl rfl rfl (Nat.le_of_ble_eq_true rfl) ?_
        refine x_iload_n (pc' := 1) rfl dX9_back_0 rfl ?_
        refine x_iload_n (pc' := 2) rfl dX9_back_1 rfl ?_
        refine x_callSi (As := [.int _, .int _]) (rest := []) (pc' := 5) rfl sk_X9_197 mk_X9_isNewPlace (by decide) rfl (Nat.le_of_ble_eq_true rfl) dX9_back_2 rfl c_X9_isNewPlace ?_
        refine x_if_eq (tgt := 17) (pc' := 8) (by decide) dX9_back_5 rfl (fun c5 => absurd c5 (by rw [pb_1 hp]; decide)) (fun c5 => ?_)
        refine x_iload_n (pc' := 9) rfl dX9_back_8 rfl ?_
        refine x_iconst (v := 0) (pc' := 10) (by decide) dX9_back_9 rfl ?_
        refine x_iconst (v := 3) (pc' := 11) (by decide) dX9_back_10 rfl ?_
        refine x_callSi (As := [.int _, .int _, .int _]) (rest := []) (pc' := 14) rfl sk_X9_143 mk_X9_isWithin (by decide) rfl (Nat.le_of_ble_eq_true rfl) dX9_back_11 rfl c_X9_isWithin ?_
        refine x_if_ne (tgt := 20) (pc' := 17) (by decide) dX9_back_14 rfl (fun c14 => ?_) (fun c14 => absurd c14 (by rw [pb_1 (by decide)]; decide))
        refine x_aload_n (pc' := 21) rfl dX9_back_20 rfl ?_
        refine x_get (v := .ref 10) (pc' := 24) fk_X9_50 (by first | assumption | exact ⟨by decide, rfl⟩) rfl dX9_back_21 rfl ?_
        refine x_aload_n (pc' := 25) rfl dX9_back_24 rfl ?_
        refine x_get (v := .ref 29) (pc' := 28) fk_X9_12 (by first | assumption | exact ⟨by decide, rfl⟩) rfl dX9_back_25 rfl ?_
        refine x_iload_n (pc' := 29) rfl dX9_back_28 rfl ?_
        refine x_iload_n (pc' := 30) rfl dX9_back_29 rfl ?_
        refine x_callVv (As := [.ref _, .int _, .int _]) (rest := []) (ci := 6) (pc' := 33) rfl vk_X9_200 mk_X7_run (by decide) (by first | assumption | exact ⟨by decide, rfl⟩) (by decide) rfl (Nat.le_of_ble_eq_true rfl) dX9_back_30 rfl hE1 ?_
        refine x_iload_n (pc' := 34) rfl dX9_back_33 rfl ?_
        refine x_tswIn (off := 42) (tgt := 76) (by decide) (by decide) (by decide) (by decide) dX9_back_34 ?_
        refine x_aload_n (pc' := 77) rfl dX9_back_76 rfl ?_
        refine x_get (v := .ref 10) (pc' := 80) fk_X9_50 (by first | assumption | exact ⟨by decide, rfl⟩) rfl dX9_back_77 rfl ?_
        refine x_callVi (As := []) (rest := []) (ci := 6) (pc' := 83) rfl vk_X9_210 mk_X7_lastX (by decide) (by first | assumption | exact ⟨by decide, rfl⟩) (by decide) rfl (Nat.le_of_ble_eq_true rfl) dX9_back_80 rfl (c_X7_lastX hA.2.1 h60) ?_
        refine x_top (congrArg Prod.fst (hA.2.2 _ (Nat.le_refl _))) ?_
        refine x_ldc (pc' := 85) kc_X9_151 dX9_back_83 rfl ?_
        refine x_iadd (pc' := 86) dX9_back_85 rfl ?_
        exact x_iret rfl dX9_back_86 rfl
      | 3, _ =>
        refine ⟨_, ?_, h2⟩
        rw [show backS v x y (nI 3) = bkN v x y 3 by rw [backS, pif_t ⟨hp, by decide⟩]; rfl]
        refine ct_of (k := 0) rfl rfl rfl (Nat.le_of_ble_eq_true rfl) ?_
        refine x_iload_n (pc' := 1) rfl dX9_back_0 rfl ?_
        refine x_iload_n (pc' := 2) rfl dX9_back_1 rfl ?_
        refine x_callSi (As := [.int _, .int _]) (rest := []) (pc' := 5) rfl sk_X9_197 mk_X9_isNewPlace (by decide) rfl (Nat.le_of_ble_eq_true rfl) dX9_back_2 rfl c_X9_isNewPlace ?_
        refine x_if_eq (tgt := 17) (pc' := 8) (by decide) dX9_back_5 rfl (fun c5 => absurd c5 (by rw [pb_1 hp]; decide)) (fun c5 => ?_)
        refine x_iload_n (pc' := 9) rfl dX9_back_8 rfl ?_
        refine x_iconst (v := 0) (pc' := 10) (by decide) dX9_back_9 rfl ?_
        refine x_iconst (v := 3) (pc' := 11) (by decide) dX9_back_10 rfl ?_
        refine x_callSi (As := [.int _, .int _, .int _]) (rest := []) (pc' := 14) rfl sk_X9_143 mk_X9_isWithin (by decide) rfl (Nat.le_of_ble_eq_true rfl) dX9_back_11 rfl c_X9_isWithin ?_
        refine x_if_ne (tgt := 20) (pc' := 17) (by decide) dX9_back_14 rfl (fun c14 => ?_) (fun c14 => absurd c14 (by rw [pb_1 (by decide)]; decide))
        refine x_aload_n (pc' := 21) rfl dX9_back_20 rfl ?_
        refine x_get (v := .ref 10) (pc' := 24) fk_X9_50 (by first | assumption | exact ⟨by decide, rfl⟩) rfl dX9_back_21 rfl ?_
        refine x_aload_n (pc' := 25) rfl dX9_back_24 rfl ?_
        refine x_get (v := .ref 29) (pc' := 28) fk_X9_12 (by first | assumption | exact ⟨by decide, rfl⟩) rfl dX9_back_25 rfl ?_
        refine x_iload_n (pc' := 29) rfl dX9_back_28 rfl ?_
        refine x_iload_n (pc' := 30) rfl dX9_back_29 rfl ?_
        refine x_callVv (As := [.ref _, .int _, .int _]) (rest := []) (ci := 6) (pc' := 33) rfl vk_X9_200 mk_X7_run (by decide) (by first | assumption | exact ⟨by decide, rfl⟩) (by decide) rfl (Nat.le_of_ble_eq_true rfl) dX9_back_30 rfl hE1 ?_
        refine x_iload_n (pc' := 34) rfl dX9_back_33 rfl ?_
        refine x_tswOut (tgt := 87) (Or.inr (by decide)) (by decide) dX9_back_34 ?_
        refine x_aload_n (pc' := 88) rfl dX9_back_87 rfl ?_
        refine x_get (v := .ref 10) (pc' := 91) fk_X9_50 (by first | assumption | exact ⟨by decide, rfl⟩) rfl dX9_back_88 rfl ?_
        refine x_callVi (As := []) (rest := []) (ci := 6) (pc' := 94) rfl vk_X9_213 mk_X7_lastY (by decide) (by first | assumption | exact ⟨by decide, rfl⟩) (by decide) rfl (Nat.le_of_ble_eq_true rfl) dX9_back_91 rfl (c_X7_lastY hA.2.1 h60) ?_
        refine x_top (congrArg Prod.snd (hA.2.2 _ (Nat.le_refl _))) ?_
        refine x_ldc (pc' := 96) kc_X9_151 dX9_back_94 rfl ?_
        refine x_iadd (pc' := 97) dX9_back_96 rfl ?_
        exact x_iret rfl dX9_back_97 rfl
      | j + 4, hj => exact absurd hj (by omega)
  · refine ⟨_, ?_, ScC.rf σ⟩
    rw [backS, pif_f (fun q => hp q.1)]
    refine ct_of (k := 0) rfl rfl rfl (Nat.le_of_ble_eq_true rfl) ?_
    refine x_iload_n (pc' := 1) rfl dX9_back_0 rfl ?_
    refine x_iload_n (pc' := 2) rfl dX9_back_1 rfl ?_
    refine x_callSi (As := [.int _, .int _]) (rest := []) (pc' := 5) rfl sk_X9_197 mk_X9_isNewPlace (by decide) rfl (Nat.le_of_ble_eq_true rfl) dX9_back_2 rfl c_X9_isNewPlace ?_
    refine x_if_eq (tgt := 17) (pc' := 8) (by decide) dX9_back_5 rfl (fun c5 => ?_) (fun c5 => absurd (pb_0 hp) c5)
    refine x_ldc (pc' := 19) kc_X9_102 dX9_back_17 rfl ?_
    exact x_iret rfl dX9_back_19 rfl
