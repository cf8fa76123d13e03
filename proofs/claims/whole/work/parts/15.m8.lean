/-- what a question of the reference may change -/
def ScM (σ σ' : St) : Prop := (∀ k j, k ≠ 18 → k ≠ 27 → k ≠ 28 → σ'.1 k j = σ.1 k j) ∧ (∀ j, j ≠ 0 → j ≠ 12 → j ≠ 13 → σ'.1 18 j = σ.1 18 j) ∧ σ'.2 = σ.2
theorem ScM.rf (σ : St) : ScM σ σ := ⟨fun _ _ _ _ _ => rfl, fun _ _ _ _ => rfl, rfl⟩
theorem ScM.trans {a b c : St} (h : ScM a b) (h2 : ScM b c) : ScM a c := ⟨fun k j h1 h3 h4 => (h2.1 k j h1 h3 h4).trans (h.1 k j h1 h3 h4), fun j h1 h3 h4 => (h2.2.1 j h1 h3 h4).trans (h.2.1 j h1 h3 h4), h2.2.2.trans h.2.2⟩
theorem ScM.thr (σ : St) (x : Int32) : ScM σ (pI σ 18 0 x) := by
  refine ⟨fun k j h _ _ => by rw [pI_ne h], fun j h _ _ => ?_, rfl⟩
  rw [pI_app, if_neg (fun q => h q.2)]
theorem ScM.g2 (σ : St) (a b : Int32) : ScM σ (g2 σ a b) := by
  refine ⟨fun k j h _ _ => by rw [g2_n h], fun j _ h1 h2 => ?_, rfl⟩
  rw [g2_app, if_neg (fun q => h2 q.2), if_neg (fun q => h1 q.2)]
theorem ScM.row {σ σ' : St} (h : ScM σ σ') {k : Nat} (h1 : k ≠ 18) (h2 : k ≠ 27) (h3 : k ≠ 28) : σ'.1 k = σ.1 k := funext fun j => h.1 k j h1 h2 h3
noncomputable def toldN (v : Nat → Int32) (e w u s : Int32) (j : Nat) : Int32 := match j with
  | 0 => v 0
  | 1 => v 1
  | 2 => nI (nmS v)
  | 3 => tallyS v 3
  | 4 => tallyS v 4
  | 5 => tallyS v 5
  | 6 => tallyS v 6
  | 7 => tallyS v 7
  | 8 => e
  | 9 => w
  | 10 => u
  | _ => s
noncomputable def toldS (v : Nat → Int32) (e w u s what : Int32) : Int32 := pif (0 ≤ what ∧ what < 12) (toldN v e w u s what.toNatClampNeg) (-1000000002)
theorem lt_i {x : Int32} {n : Nat} (hn : n < 2 ^ 31) (h : x < 0) : x.toInt < 0 := by
  rw [sI_lt] at h; exact h
set_option maxRecDepth 100000 in
set_option maxHeartbeats 4000000 in
theorem c_X10_told {σ : St} {what : Int32} (hv : Ok (σ.1 19)) {E : Nat} (hE : σ.1 18 8 = nI E) (hb : BkOk (σ.1 24) (σ.1 25) E) : ∃ σ', Ct yX10_told M_X10_told [.ref 18, .int what] σ (some (.int (toldS (σ.1 19) (σ.1 18 8) (wrF (σ.1 19) (σ.1 24) (σ.1 25) (σ.1 26) 0 E) (σ.1 18 3) (σ.2.1 18 7).toInt32 what)), σ') ∧ ScM σ σ' := by
  have hs : (pI σ 18 0 0).1 19 = σ.1 19 := pI_ne (by decide)
  have out : (what < 0 ∨ nI 12 ≤ what) → ∃ σ', Ct yX10_told M_X10_told [.ref 18, .int what] σ (some (.int (toldS (σ.1 19) (σ.1 18 8) (wrF (σ.1 19) (σ.1 24) (σ.1 25) (σ.1 26) 0 E) (σ.1 18 3) (σ.2.1 18 7).toInt32 what)), σ') ∧ ScM σ σ' := by
    intro h
    refine ⟨_, ?_, ScM.thr σ 0⟩
    have hres : toldS (σ.1 19) (σ.1 18 8) (wrF (σ.1 19) (σ.1 24) (σ.1 25) (σ.1 26) 0 E) (σ.1 18 3) (σ.2.1 18 7).toInt32 what = -1000000002 := pif_f (fun q => h.elim (fun h => i_nlt.mpr q.1 h) (fun h => i_nlt.mpr h q.2))
    rw [hres]
    refine ct_of (k := 0) rfl rfl rfl (Nat.le_of_ble_eq_true rfl) ?_
    refine x_aload_n (pc' := 1) rfl dX10_told_0 rfl ?_
    refine x_iconst (v := 0) (pc' := 2) (by decide) dX10_told_1 rfl ?_
    refine x_puti (pc' := 5) fk_X10_46 pk_9_0 rfl (by first | assumption | exact ⟨by decide, rfl⟩) dX10_told_2 rfl ?_
    refine x_iload_n (pc' := 6) rfl dX10_told_5 rfl ?_
    refine x_tswOut (tgt := 114) (h.elim (fun h => Or.inl ((sI_lt _ _).mp h)) (fun h => Or.inr (Int.lt_of_lt_of_le (by decide) ((sI_le _ _).mp h)))) (by decide) dX10_told_6 ?_
    refine x_ldc (pc' := 116) kc_X10_169 dX10_told_114 rfl ?_
    exact x_iret rfl dX10_told_116 rfl
  rcases pk_ix what (n := 12) (by decide) with h | h | ⟨j, hj, rfl⟩
  · exact out (Or.inl h)
  · exact out (Or.inr h)
  · match j, hj with
    | 0, _ =>
      refine ⟨_, ?_, (ScM.thr σ 0)⟩
      rw [show toldS (σ.1 19) (σ.1 18 8) (wrF (σ.1 19) (σ.1 24) (σ.1 25) (σ.1 26) 0 E) (σ.1 18 3) (σ.2.1 18 7).toInt32 (nI 0) = toldN (σ.1 19) (σ.1 18 8) (wrF (σ.1 19) (σ.1 24) (σ.1 25) (σ.1 26) 0 E) (σ.1 18 3) (σ.2.1 18 7).toInt32 0 from pif_t (by decide)]
      refine ct_of (k := 0) rfl rfl rfl (Nat.le_of_ble_eq_true rfl) ?_
      refine x_aload_n (pc' := 1) rfl dX10_told_0 rfl ?_
      refine x_iconst (v := 0) (pc' := 2) (by decide) dX10_told_1 rfl ?_
      refine x_puti (pc' := 5) fk_X10_46 pk_9_0 rfl (by first | assumption | exact ⟨by decide, rfl⟩) dX10_told_2 rfl ?_
      refine x_iload_n (pc' := 6) rfl dX10_told_5 rfl ?_
      refine x_tswIn (off := 62) (tgt := 68) (by decide) (by decide) (by decide) (by decide) dX10_told_6 ?_
      refine x_aload_n (pc' := 69) rfl dX10_told_68 rfl ?_
      refine x_get (v := .ref 19) (pc' := 72) fk_X10_7 (by first | assumption | exact ⟨by decide, rfl⟩) rfl dX10_told_69 rfl ?_
      refine x_iconst (v := 0) (pc' := 73) (by decide) dX10_told_72 rfl ?_
      refine x_ialdn (N := 338) (n := 0) (pc' := 74) (by first | assumption | exact ⟨by decide, rfl⟩) (by decide) rfl (by decide) dX10_told_73 rfl ?_
      exact x_iret rfl dX10_told_74 rfl
    | 1, _ =>
      refine ⟨_, ?_, (ScM.thr σ 0)⟩
      rw [show toldS (σ.1 19) (σ.1 18 8) (wrF (σ.1 19) (σ.1 24) (σ.1 25) (σ.1 26) 0 E) (σ.1 18 3) (σ.2.1 18 7).toInt32 (nI 1) = toldN (σ.1 19) (σ.1 18 8) (wrF (σ.1 19) (σ.1 24) (σ.1 25) (σ.1 26) 0 E) (σ.1 18 3) (σ.2.1 18 7).toInt32 1 from pif_t (by decide)]
      refine ct_of (k := 0) rfl rfl rfl (Nat.le_of_ble_eq_true rfl) ?_
      refine x_aload_n (pc' := 1) rfl dX10_told_0 rfl ?_
      refine x_iconst (v := 0) (pc' := 2) (by decide) dX10_told_1 rfl ?_
      refine x_puti (pc' := 5) fk_X10_46 pk_9_0 rfl (by first | assumption | exact ⟨by decide, rfl⟩) dX10_told_2 rfl ?_
      refine x_iload_n (pc' := 6) rfl dX10_told_5 rfl ?_
      refine x_tswIn (off := 69) (tgt := 75) (by decide) (by decide) (by decide) (by decide) dX10_told_6 ?_
      refine x_aload_n (pc' := 76) rfl dX10_told_75 rfl ?_
      refine x_get (v := .ref 19) (pc' := 79) fk_X10_7 (by first | assumption | exact ⟨by decide, rfl⟩) rfl dX10_told_76 rfl ?_
      refine x_iconst (v := 1) (pc' := 80) (by decide) dX10_told_79 rfl ?_
      refine x_ialdn (N := 338) (n := 1) (pc' := 81) (by first | assumption | exact ⟨by decide, rfl⟩) (by decide) rfl (by decide) dX10_told_80 rfl ?_
      exact x_iret rfl dX10_told_81 rfl
    | 2, _ =>
      refine ⟨_, ?_, (ScM.thr σ 0)⟩
      rw [show toldS (σ.1 19) (σ.1 18 8) (wrF (σ.1 19) (σ.1 24) (σ.1 25) (σ.1 26) 0 E) (σ.1 18 3) (σ.2.1 18 7).toInt32 (nI 2) = toldN (σ.1 19) (σ.1 18 8) (wrF (σ.1 19) (σ.1 24) (σ.1 25) (σ.1 26) 0 E) (σ.1 18 3) (σ.2.1 18 7).toInt32 2 from pif_t (by decide)]
      refine ct_of (k := 0) rfl rfl rfl (Nat.le_of_ble_eq_true rfl) ?_
      refine x_aload_n (pc' := 1) rfl dX10_told_0 rfl ?_
      refine x_iconst (v := 0) (pc' := 2) (by decide) dX10_told_1 rfl ?_
      refine x_puti (pc' := 5) fk_X10_46 pk_9_0 rfl (by first | assumption | exact ⟨by decide, rfl⟩) dX10_told_2 rfl ?_
      refine x_iload_n (pc' := 6) rfl dX10_told_5 rfl ?_
      refine x_tswIn (off := 76) (tgt := 82) (by decide) (by decide) (by decide) (by decide) dX10_told_6 ?_
      refine x_aload_n (pc' := 83) rfl dX10_told_82 rfl ?_
      refine x_callVi (As := []) (rest := []) (ci := 9) (pc' := 86) rfl vk_X10_156 mk_X10_nodesMoved (by decide) (by first | assumption | exact ⟨by decide, rfl⟩) (by decide) rfl (Nat.le_of_ble_eq_true rfl) dX10_told_83 rfl (v_X10_nodesMoved hs hv) ?_
      exact x_iret rfl dX10_told_86 rfl
    | 3, _ =>
      have h89 := c_X10_tally (σ := pI σ 18 0 0) (x := nI 3) (w := 3) rfl (by decide) (by decide) hv
      rw [hs] at h89
      obtain ⟨a, b, h89⟩ : ∃ a b, Ct yX10_tally M_X10_tally [.ref 18, .int (nI 3)] (pI σ 18 0 0) (some (.int (tallyS (σ.1 19) 3)), g2 (pI σ 18 0 0) a b) := ⟨_, _, h89⟩
      refine ⟨_, ?_, (ScM.trans (ScM.thr σ 0) (ScM.g2 _ a b))⟩
      rw [show toldS (σ.1 19) (σ.1 18 8) (wrF (σ.1 19) (σ.1 24) (σ.1 25) (σ.1 26) 0 E) (σ.1 18 3) (σ.2.1 18 7).toInt32 (nI 3) = toldN (σ.1 19) (σ.1 18 8) (wrF (σ.1 19) (σ.1 24) (σ.1 25) (σ.1 26) 0 E) (σ.1 18 3) (σ.2.1 18 7).toInt32 3 from pif_t (by decide)]
      refine ct_of (k := 0) rfl rfl rfl (Nat.le_of_ble_eq_true rfl) ?_
      refine x_aload_n (pc' := 1) rfl dX10_told_0 rfl ?_
      refine x_iconst (v := 0) (pc' := 2) (by decide) dX10_told_1 rfl ?_
      refine x_puti (pc' := 5) fk_X10_46 pk_9_0 rfl (by first | assumption | exact ⟨by decide, rfl⟩) dX10_told_2 rfl ?_
      refine x_iload_n (pc' := 6) rfl dX10_told_5 rfl ?_
      refine x_tswIn (off := 81) (tgt := 87) (by decide) (by decide) (by decide) (by decide) dX10_told_6 ?_
      refine x_aload_n (pc' := 88) rfl dX10_told_87 rfl ?_
      refine x_iload_n (pc' := 89) rfl dX10_told_88 rfl ?_
      refine x_callVi (As := [.int _]) (rest := []) (ci := 9) (pc' := 92) rfl vk_X10_160 mk_X10_tally (by decide) (by first | assumption | exact ⟨by decide, rfl⟩) (by decide) rfl (Nat.le_of_ble_eq_true rfl) dX10_told_89 rfl (h89 : _) ?_
      exact x_iret rfl dX10_told_92 rfl
    | 4, _ =>
      have h89 := c_X10_tally (σ := pI σ 18 0 0) (x := nI 4) (w := 4) rfl (by decide) (by decide) hv
      rw [hs] at h89
      obtain ⟨a, b, h89⟩ : ∃ a b, Ct yX10_tally M_X10_tally [.ref 18, .int (nI 4)] (pI σ 18 0 0) (some (.int (tallyS (σ.1 19) 4)), g2 (pI σ 18 0 0) a b) := ⟨_, _, h89⟩
      refine ⟨_, ?_, (ScM.trans (ScM.thr σ 0) (ScM.g2 _ a b))⟩
      rw [show toldS (σ.1 19) (σ.1 18 8) (wrF (σ.1 19) (σ.1 24) (σ.1 25) (σ.1 26) 0 E) (σ.1 18 3) (σ.2.1 18 7).toInt32 (nI 4) = toldN (σ.1 19) (σ.1 18 8) (wrF (σ.1 19) (σ.1 24) (σ.1 25) (σ.1 26) 0 E) (σ.1 18 3) (σ.2.1 18 7).toInt32 4 from pif_t (by decide)]
      refine ct_of (k := 0) rfl rfl rfl (Nat.le_of_ble_eq_true rfl) ?_
      refine x_aload_n (pc' := 1) rfl dX10_told_0 rfl ?_
      refine x_iconst (v := 0) (pc' := 2) (by decide) dX10_told_1 rfl ?_
      refine x_puti (pc' := 5) fk_X10_46 pk_9_0 rfl (by first | assumption | exact ⟨by decide, rfl⟩) dX10_told_2 rfl ?_
      refine x_iload_n (pc' := 6) rfl dX10_told_5 rfl ?_
      refine x_tswIn (off := 81) (tgt := 87) (by decide) (by decide) (by decide) (by decide) dX10_told_6 ?_
      refine x_aload_n (pc' := 88) rfl dX10_told_87 rfl ?_
      refine x_iload_n (pc' := 89) rfl dX10_told_88 rfl ?_
      refine x_callVi (As := [.int _]) (rest := []) (ci := 9) (pc' := 92) rfl vk_X10_160 mk_X10_tally (by decide) (by first | assumption | exact ⟨by decide, rfl⟩) (by decide) rfl (Nat.le_of_ble_eq_true rfl) dX10_told_89 rfl (h89 : _) ?_
      exact x_iret rfl dX10_told_92 rfl
    | 5, _ =>
      have h89 := c_X10_tally (σ := pI σ 18 0 0) (x := nI 5) (w := 5) rfl (by decide) (by decide) hv
      rw [hs] at h89
      obtain ⟨a, b, h89⟩ : ∃ a b, Ct yX10_tally M_X10_tally [.ref 18, .int (nI 5)] (pI σ 18 0 0) (some (.int (tallyS (σ.1 19) 5)), g2 (pI σ 18 0 0) a b) := ⟨_, _, h89⟩
      refine ⟨_, ?_, (ScM.trans (ScM.thr σ 0) (ScM.g2 _ a b))⟩
      rw [show toldS (σ.1 19) (σ.1 18 8) (wrF (σ.1 19) (σ.1 24) (σ.1 25) (σ.1 26) 0 E) (σ.1 18 3) (σ.2.1 18 7).toInt32 (nI 5) = toldN (σ.1 19) (σ.1 18 8) (wrF (σ.1 19) (σ.1 24) (σ.1 25) (σ.1 26) 0 E) (σ.1 18 3) (σ.2.1 18 7).toInt32 5 from pif_t (by decide)]
      refine ct_of (k := 0) rfl rfl rfl (Nat.le_of_ble_eq_true rfl) ?_
      refine x_aload_n (pc' := 1) rfl dX10_told_0 rfl ?_
      refine x_iconst (v := 0) (pc' := 2) (by decide) dX10_told_1 rfl ?_
      refine x_puti (pc' := 5) fk_X10_46 pk_9_0 rfl (by first | assumption | exact ⟨by decide, rfl⟩) dX10_told_2 rfl ?_
      refine x_iload_n (pc' := 6) rfl dX10_told_5 rfl ?_
      refine x_tswIn (off := 81) (tgt := 87) (by decide) (by decide) (by decide) (by decide) dX10_told_6 ?_
      refine x_aload_n (pc' := 88) rfl dX10_told_87 rfl ?_
      refine x_iload_n (pc' := 89) rfl dX10_told_88 rfl ?_
      refine x_callVi (As := [.int _]) (rest := []) (ci := 9) (pc' := 92) rfl vk_X10_160 mk_X10_tally (by decide) (by first | assumption | exact ⟨by decide, rfl⟩) (by decide) rfl (Nat.le_of_ble_eq_true rfl) dX10_told_89 rfl (h89 : _) ?_
      exact x_iret rfl dX10_told_92 rfl
    | 6, _ =>
      have h89 := c_X10_tally (σ := pI σ 18 0 0) (x := nI 6) (w := 6) rfl (by decide) (by decide) hv
      rw [hs] at h89
      obtain ⟨a, b, h89⟩ : ∃ a b, Ct yX10_tally M_X10_tally [.ref 18, .int (nI 6)] (pI σ 18 0 0) (some (.int (tallyS (σ.1 19) 6)), g2 (pI σ 18 0 0) a b) := ⟨_, _, h89⟩
      refine ⟨_, ?_, (ScM.trans (ScM.thr σ 0) (ScM.g2 _ a b))⟩
      rw [show toldS (σ.1 19) (σ.1 18 8) (wrF (σ.1 19) (σ.1 24) (σ.1 25) (σ.1 26) 0 E) (σ.1 18 3) (σ.2.1 18 7).toInt32 (nI 6) = toldN (σ.1 19) (σ.1 18 8) (wrF (σ.1 19) (σ.1 24) (σ.1 25) (σ.1 26) 0 E) (σ.1 18 3) (σ.2.1 18 7).toInt32 6 from pif_t (by decide)]
      refine ct_of (k := 0) rfl rfl rfl (Nat.le_of_ble_eq_true rfl) ?_
      refine x_aload_n (pc' := 1) rfl dX10_told_0 rfl ?_
      refine x_iconst (v := 0) (pc' := 2) (by decide) dX10_told_1 rfl ?_
      refine x_puti (pc' := 5) fk_X10_46 pk_9_0 rfl (by first | assumption | exact ⟨by decide, rfl⟩) dX10_told_2 rfl ?_
      refine x_iload_n (pc' := 6) rfl dX10_told_5 rfl ?_
      refine x_tswIn (off := 81) (tgt := 87) (by decide) (by decide) (by decide) (by decide) dX10_told_6 ?_
      refine x_aload_n (pc' := 88) rfl dX10_told_87 rfl ?_
      refine x_iload_n (pc' := 89) rfl dX10_told_88 rfl ?_
      refine x_callVi (As := [.int _]) (rest := []) (ci := 9) (pc' := 92) rfl vk_X10_160 mk_X10_tally (by decide) (by first | assumption | exact ⟨by decide, rfl⟩) (by decide) rfl (Nat.le_of_ble_eq_true rfl) dX10_told_89 rfl (h89 : _) ?_
      exact x_iret rfl dX10_told_92 rfl
    | 7, _ =>
      have h89 := c_X10_tally (σ := pI σ 18 0 0) (x := nI 7) (w := 7) rfl (by decide) (by decide) hv
      rw [hs] at h89
      obtain ⟨a, b, h89⟩ : ∃ a b, Ct yX10_tally M_X10_tally [.ref 18, .int (nI 7)] (pI σ 18 0 0) (some (.int (tallyS (σ.1 19) 7)), g2 (pI σ 18 0 0) a b) := ⟨_, _, h89⟩
      refine ⟨_, ?_, (ScM.trans (ScM.thr σ 0) (ScM.g2 _ a b))⟩
      rw [show toldS (σ.1 19) (σ.1 18 8) (wrF (σ.1 19) (σ.1 24) (σ.1 25) (σ.1 26) 0 E) (σ.1 18 3) (σ.2.1 18 7).toInt32 (nI 7) = toldN (σ.1 19) (σ.1 18 8) (wrF (σ.1 19) (σ.1 24) (σ.1 25) (σ.1 26) 0 E) (σ.1 18 3) (σ.2.1 18 7).toInt32 7 from pif_t (by decide)]
      refine ct_of (k := 0) rfl rfl rfl (Nat.le_of_ble_eq_true rfl) ?_
      refine x_aload_n (pc' := 1) rfl dX10_told_0 rfl ?_
      refine x_iconst (v := 0) (pc' := 2) (by decide) dX10_told_1 rfl ?_
      refine x_puti (pc' := 5) fk_X10_46 pk_9_0 rfl (by first | assumption | exact ⟨by decide, rfl⟩) dX10_told_2 rfl ?_
      refine x_iload_n (pc' := 6) rfl dX10_told_5 rfl ?_
      refine x_tswIn (off := 81) (tgt := 87) (by decide) (by decide) (by decide) (by decide) dX10_told_6 ?_
      refine x_aload_n (pc' := 88) rfl dX10_told_87 rfl ?_
      refine x_iload_n (pc' := 89) rfl dX10_told_88 rfl ?_
      refine x_callVi (As := [.int _]) (rest := []) (ci := 9) (pc' := 92) rfl vk_X10_160 mk_X10_tally (by decide) (by first | assumption | exact ⟨by decide, rfl⟩) (by decide) rfl (Nat.le_of_ble_eq_true rfl) dX10_told_89 rfl (h89 : _) ?_
      exact x_iret rfl dX10_told_92 rfl
    | 8, _ =>
      refine ⟨_, ?_, (ScM.thr σ 0)⟩
      rw [show toldS (σ.1 19) (σ.1 18 8) (wrF (σ.1 19) (σ.1 24) (σ.1 25) (σ.1 26) 0 E) (σ.1 18 3) (σ.2.1 18 7).toInt32 (nI 8) = toldN (σ.1 19) (σ.1 18 8) (wrF (σ.1 19) (σ.1 24) (σ.1 25) (σ.1 26) 0 E) (σ.1 18 3) (σ.2.1 18 7).toInt32 8 from pif_t (by decide)]
      refine ct_of (k := 0) rfl rfl rfl (Nat.le_of_ble_eq_true rfl) ?_
      refine x_aload_n (pc' := 1) rfl dX10_told_0 rfl ?_
      refine x_iconst (v := 0) (pc' := 2) (by decide) dX10_told_1 rfl ?_
      refine x_puti (pc' := 5) fk_X10_46 pk_9_0 rfl (by first | assumption | exact ⟨by decide, rfl⟩) dX10_told_2 rfl ?_
      refine x_iload_n (pc' := 6) rfl dX10_told_5 rfl ?_
      refine x_tswIn (off := 87) (tgt := 93) (by decide) (by decide) (by decide) (by decide) dX10_told_6 ?_
      refine x_aload_n (pc' := 94) rfl dX10_told_93 rfl ?_
      refine x_get (v := .int _) (pc' := 97) fk_X10_142 (by first | assumption | exact ⟨by decide, rfl⟩) rfl dX10_told_94 rfl ?_
      exact x_iret rfl dX10_told_97 rfl
    | 9, _ =>
      have h99 := c_X10_wrong (σ := pI σ 18 0 0) hv (E := E) hE hb
      rw [hs] at h99
      refine ⟨_, ?_, (ScM.thr σ 0)⟩
      rw [show toldS (σ.1 19) (σ.1 18 8) (wrF (σ.1 19) (σ.1 24) (σ.1 25) (σ.1 26) 0 E) (σ.1 18 3) (σ.2.1 18 7).toInt32 (nI 9) = toldN (σ.1 19) (σ.1 18 8) (wrF (σ.1 19) (σ.1 24) (σ.1 25) (σ.1 26) 0 E) (σ.1 18 3) (σ.2.1 18 7).toInt32 9 from pif_t (by decide)]
      refine ct_of (k := 0) rfl rfl rfl (Nat.le_of_ble_eq_true rfl) ?_
      refine x_aload_n (pc' := 1) rfl dX10_told_0 rfl ?_
      refine x_iconst (v := 0) (pc' := 2) (by decide) dX10_told_1 rfl ?_
      refine x_puti (pc' := 5) fk_X10_46 pk_9_0 rfl (by first | assumption | exact ⟨by decide, rfl⟩) dX10_told_2 rfl ?_
      refine x_iload_n (pc' := 6) rfl dX10_told_5 rfl ?_
      refine x_tswIn (off := 92) (tgt := 98) (by decide) (by decide) (by decide) (by decide) dX10_told_6 ?_
      refine x_aload_n (pc' := 99) rfl dX10_told_98 rfl ?_
      refine x_callVi (As := []) (rest := []) (ci := 9) (pc' := 102) rfl vk_X10_163 mk_X10_wrong (by decide) (by first | assumption | exact ⟨by decide, rfl⟩) (by decide) rfl (Nat.le_of_ble_eq_true rfl) dX10_told_99 rfl h99 ?_
      exact x_iret rfl dX10_told_102 rfl
    | 10, _ =>
      refine ⟨_, ?_, (ScM.thr σ 0)⟩
      rw [show toldS (σ.1 19) (σ.1 18 8) (wrF (σ.1 19) (σ.1 24) (σ.1 25) (σ.1 26) 0 E) (σ.1 18 3) (σ.2.1 18 7).toInt32 (nI 10) = toldN (σ.1 19) (σ.1 18 8) (wrF (σ.1 19) (σ.1 24) (σ.1 25) (σ.1 26) 0 E) (σ.1 18 3) (σ.2.1 18 7).toInt32 10 from pif_t (by decide)]
      refine ct_of (k := 0) rfl rfl rfl (Nat.le_of_ble_eq_true rfl) ?_
      refine x_aload_n (pc' := 1) rfl dX10_told_0 rfl ?_
      refine x_iconst (v := 0) (pc' := 2) (by decide) dX10_told_1 rfl ?_
      refine x_puti (pc' := 5) fk_X10_46 pk_9_0 rfl (by first | assumption | exact ⟨by decide, rfl⟩) dX10_told_2 rfl ?_
      refine x_iload_n (pc' := 6) rfl dX10_told_5 rfl ?_
      refine x_tswIn (off := 97) (tgt := 103) (by decide) (by decide) (by decide) (by decide) dX10_told_6 ?_
      refine x_aload_n (pc' := 104) rfl dX10_told_103 rfl ?_
      refine x_get (v := .int _) (pc' := 107) fk_X10_166 (by first | assumption | exact ⟨by decide, rfl⟩) rfl dX10_told_104 rfl ?_
      exact x_iret rfl dX10_told_107 rfl
    | 11, _ =>
      refine ⟨_, ?_, (ScM.thr σ 0)⟩
      rw [show toldS (σ.1 19) (σ.1 18 8) (wrF (σ.1 19) (σ.1 24) (σ.1 25) (σ.1 26) 0 E) (σ.1 18 3) (σ.2.1 18 7).toInt32 (nI 11) = toldN (σ.1 19) (σ.1 18 8) (wrF (σ.1 19) (σ.1 24) (σ.1 25) (σ.1 26) 0 E) (σ.1 18 3) (σ.2.1 18 7).toInt32 11 from pif_t (by decide)]
      refine ct_of (k := 0) rfl rfl rfl (Nat.le_of_ble_eq_true rfl) ?_
      refine x_aload_n (pc' := 1) rfl dX10_told_0 rfl ?_
      refine x_iconst (v := 0) (pc' := 2) (by decide) dX10_told_1 rfl ?_
      refine x_puti (pc' := 5) fk_X10_46 pk_9_0 rfl (by first | assumption | exact ⟨by decide, rfl⟩) dX10_told_2 rfl ?_
      refine x_iload_n (pc' := 6) rfl dX10_told_5 rfl ?_
      refine x_tswIn (off := 102) (tgt := 108) (by decide) (by decide) (by decide) (by decide) dX10_told_6 ?_
      refine x_aload_n (pc' := 109) rfl dX10_told_108 rfl ?_
      refine x_get (v := .long _) (pc' := 112) fk_X10_42 (by first | assumption | exact ⟨by decide, rfl⟩) rfl dX10_told_109 rfl ?_
      refine x_l2i (pc' := 113) dX10_told_112 rfl ?_
      exact x_iret rfl dX10_told_113 rfl
    | j + 12, hj => exact absurd hj (by omega)
noncomputable def chN (v : Nat → Int32) (g : Int32) (n : Nat) : Nat := sumN (fun k => pif (v (2 + 6 * k) = g) 1 0) n
noncomputable def dpS (v : Nat → Int32) : Nat → Nat → Nat
  | 0, _ => 0
  | f + 1, g => pif (v (2 + 6 * g) = -1) 0 (1 + dpS v f (pN v g))
theorem par_ok {v : Nat → Int32} (hv : Ok v) {g : Nat} (hg : g < cN v) (hp : ¬ v (2 + 6 * g) = -1) : pN v g < g ∧ v (2 + 6 * g) = nI (pN v g) := by
  have hf := hv.F hg
  have h4 := hf.2.2.2.1
  have h5 := hf.2.2.2.2.2.1
  obtain ⟨h1, h2, -⟩ := ins_on hv hg hp (c := 0) (r := 0) (by omega) (by omega)
  exact ⟨h1, h2⟩
set_option maxRecDepth 100000 in
set_option maxHeartbeats 4000000 in
theorem l_X10_children {σ : St} {g : Int32} (hv : Ok (σ.1 19)) : ∀ (n k : Nat), k + n = cN (σ.1 19) → Ex M_X10_children (some (.int (nI (chN (σ.1 19) g (cN (σ.1 19))))), σ) 4 [some (.ref 18), some (.int g), some (.int (nI (chN (σ.1 19) g k))), some (.int (nI k))] [] σ := by
  intro n
  induction n with
  | zero =>
    intro k hk
    have h6 := hv.c6
    obtain rfl : k = cN (σ.1 19) := by omega
    refine x_iload_n (pc' := 5) rfl dX10_children_4 rfl ?_
    refine x_aload_n (pc' := 6) rfl dX10_children_5 rfl ?_
    refine x_get (v := .ref 19) (pc' := 9) fk_X10_7 (by first | assumption | exact ⟨by decide, rfl⟩) rfl dX10_children_6 rfl ?_
    refine x_iconst (v := 0) (pc' := 10) (by decide) dX10_children_9 rfl ?_
    refine x_ialdn (N := 338) (n := 0) (pc' := 11) (by first | assumption | exact ⟨by decide, rfl⟩) (by decide) rfl (by decide) dX10_children_10 rfl ?_
    refine x_icmp_ge (tgt := 38) (pc' := 14) (by decide) dX10_children_11 rfl (fun c11 => ?_) (fun c11 => absurd (by rw [hv.c0]; exact nI_le (by omega) (by omega)) c11)
    refine x_iload_n (pc' := 39) rfl dX10_children_38 rfl ?_
    exact x_iret rfl dX10_children_39 rfl
  | succ n ih =>
    intro k hk
    have h6 := hv.c6
    refine x_iload_n (pc' := 5) rfl dX10_children_4 rfl ?_
    refine x_aload_n (pc' := 6) rfl dX10_children_5 rfl ?_
    refine x_get (v := .ref 19) (pc' := 9) fk_X10_7 (by first | assumption | exact ⟨by decide, rfl⟩) rfl dX10_children_6 rfl ?_
    refine x_iconst (v := 0) (pc' := 10) (by decide) dX10_children_9 rfl ?_
    refine x_ialdn (N := 338) (n := 0) (pc' := 11) (by first | assumption | exact ⟨by decide, rfl⟩) (by decide) rfl (by decide) dX10_children_10 rfl ?_
    refine x_icmp_ge (tgt := 38) (pc' := 14) (by decide) dX10_children_11 rfl (fun c11 => absurd c11 (by rw [hv.c0]; exact nI_ge (by omega) (by omega))) (fun c11 => ?_)
    refine x_iload_n (pc' := 15) rfl dX10_children_14 rfl ?_
    refine x_aload_n (pc' := 16) rfl dX10_children_15 rfl ?_
    refine x_iload_n (pc' := 17) rfl dX10_children_16 rfl ?_
    refine x_iconst (v := 0) (pc' := 18) (by decide) dX10_children_17 rfl ?_
    refine x_callVi (As := [.int _, .int _]) (rest := [.int _]) (ci := 9) (pc' := 21) rfl vk_X10_58 mk_X10_its (by decide) (by first | assumption | exact ⟨by decide, rfl⟩) (by decide) rfl (Nat.le_of_ble_eq_true rfl) dX10_children_18 rfl (c_X10_its (E := 0) rfl rfl (by omega)) ?_
    refine x_iload_n (pc' := 22) rfl dX10_children_21 rfl ?_
    refine x_icmp_ne (tgt := 29) (pc' := 25) (by decide) dX10_children_22 rfl (fun c22 => ?_) (fun c22 => ?_)
    · refine x_iconst (v := 0) (pc' := 30) (by decide) dX10_children_29 rfl ?_
      refine x_top (y := nI (pif (σ.1 19 (2 + 6 * k) = g) 1 0)) (by rw [pif_f (P := σ.1 19 (2 + 6 * k) = g) c22]; rfl) ?_
      refine x_iadd (pc' := 31) dX10_children_30 rfl ?_
      refine x_top (y := nI (chN (σ.1 19) g (k + 1))) (nI_add _ _) ?_
      refine x_istore_n (lv' := [_, _, _, _]) (pc' := 32) (by decide) rfl dX10_children_31 rfl ?_
      refine x_iinc (lv' := [_, _, _, _]) (pc' := 35) rfl (nI_1 k) (by decide) rfl dX10_children_32 rfl ?_
      refine x_goto (tgt := 4) (by decide) dX10_children_35 ?_
      exact ih (k + 1) (by omega)
    · refine x_iconst (v := 1) (pc' := 26) (by decide) dX10_children_25 rfl ?_
      refine x_goto (tgt := 30) (by decide) dX10_children_26 ?_
      refine x_top (y := nI (pif (σ.1 19 (2 + 6 * k) = g) 1 0)) (by rw [pif_t (P := σ.1 19 (2 + 6 * k) = g) c22]; rfl) ?_
      refine x_iadd (pc' := 31) dX10_children_30 rfl ?_
      refine x_top (y := nI (chN (σ.1 19) g (k + 1))) (nI_add _ _) ?_
      refine x_istore_n (lv' := [_, _, _, _]) (pc' := 32) (by decide) rfl dX10_children_31 rfl ?_
      refine x_iinc (lv' := [_, _, _, _]) (pc' := 35) rfl (nI_1 k) (by decide) rfl dX10_children_32 rfl ?_
      refine x_goto (tgt := 4) (by decide) dX10_children_35 ?_
      exact ih (k + 1) (by omega)
set_option maxRecDepth 100000 in
set_option maxHeartbeats 4000000 in
theorem c_X10_children {σ : St} {g : Int32} (hv : Ok (σ.1 19)) : Ct yX10_children M_X10_children [.ref 18, .int g] σ (some (.int (nI (chN (σ.1 19) g (cN (σ.1 19))))), σ) := by
  refine ct_of (k := 2) rfl rfl rfl (Nat.le_of_ble_eq_true rfl) ?_
  refine x_iconst (v := 0) (pc' := 1) (by decide) dX10_children_0 rfl ?_
  refine x_istore_n (lv' := [_, _, _, _]) (pc' := 2) (by decide) rfl dX10_children_1 rfl ?_
  refine x_iconst (v := 0) (pc' := 3) (by decide) dX10_children_2 rfl ?_
  refine x_istore_n (lv' := [_, _, _, _]) (pc' := 4) (by decide) rfl dX10_children_3 rfl ?_
  exact l_X10_children hv _ 0 (Nat.zero_add _)
set_option maxRecDepth 100000 in
set_option maxHeartbeats 4000000 in
theorem v_X10_children {σ : St} {v0 : Nat → Int32} (hs : σ.1 19 = v0) {g : Int32} (hv : Ok v0) : Ct yX10_children M_X10_children [.ref 18, .int g] σ (some (.int (nI (chN v0 g (cN v0)))), σ) := by
  subst hs
  exact c_X10_children hv
set_option maxRecDepth 100000 in
set_option maxHeartbeats 4000000 in
theorem l_X10_depth {σ : St} {z : Int32} (hv : Ok (σ.1 19)) : ∀ (f j a : Nat), j < f → j < cN (σ.1 19) → Ex M_X10_depth (some (.int (nI (a + dpS (σ.1 19) f j))), σ) 9 [some (.ref 18), some (.int z), some (.int (nI a)), some (.int (σ.1 19 (2 + 6 * j)))] [] σ := by
  intro f
  induction f with
  | zero =>
    intro j a h
    exact absurd h (by omega)
  | succ f ih =>
    intro j a h hj
    have h6 := hv.c6
    by_cases hp : σ.1 19 (2 + 6 * j) = -1
    · rw [dpS, pif_t hp]
      refine x_iload_n (pc' := 10) rfl dX10_depth_9 rfl ?_
      refine x_iconst (v := (-1)) (pc' := 11) (by decide) dX10_depth_10 rfl ?_
      refine x_icmp_eq (tgt := 27) (pc' := 14) (by decide) dX10_depth_11 rfl (fun c11 => ?_) (fun c11 => absurd hp c11)
      refine x_iload_n (pc' := 28) rfl dX10_depth_27 rfl ?_
      exact x_iret rfl dX10_depth_28 rfl
    · obtain ⟨p1, p2⟩ := par_ok hv hj hp
      rw [dpS, pif_f hp]
      refine x_iload_n (pc' := 10) rfl dX10_depth_9 rfl ?_
      refine x_iconst (v := (-1)) (pc' := 11) (by decide) dX10_depth_10 rfl ?_
      refine x_icmp_eq (tgt := 27) (pc' := 14) (by decide) dX10_depth_11 rfl (fun c11 => absurd c11 hp) (fun c11 => ?_)
      refine x_aload_n (pc' := 15) rfl dX10_depth_14 rfl ?_
      refine x_iload_n (pc' := 16) rfl dX10_depth_15 rfl ?_
      refine x_iconst (v := 0) (pc' := 17) (by decide) dX10_depth_16 rfl ?_
      refine x_callVi (As := [.int _, .int _]) (rest := []) (ci := 9) (pc' := 20) rfl vk_X10_58 mk_X10_its (by decide) (by first | assumption | exact ⟨by decide, rfl⟩) (by decide) rfl (Nat.le_of_ble_eq_true rfl) dX10_depth_17 rfl (c_X10_its (E := 0) p2 rfl (by omega)) ?_
      refine x_istore_n (lv' := [_, _, _, _]) (pc' := 21) (by decide) rfl dX10_depth_20 rfl ?_
      refine x_iinc (lv' := [_, _, _, _]) (pc' := 24) rfl (nI_1 a) (by decide) rfl dX10_depth_21 rfl ?_
      refine x_goto (tgt := 9) (by decide) dX10_depth_24 ?_
      have q := ih (pN (σ.1 19) j) (a + 1) (by omega) (by omega)
      rw [show a + 1 + dpS (σ.1 19) f (pN (σ.1 19) j) = a + (1 + dpS (σ.1 19) f (pN (σ.1 19) j)) by omega] at q
      exact q
set_option maxRecDepth 100000 in
set_option maxHeartbeats 4000000 in
theorem c_X10_depth {σ : St} {g : Int32} {G : Nat} (hv : Ok (σ.1 19)) (hG : G < cN (σ.1 19)) (hg : g = nI G) : Ct yX10_depth M_X10_depth [.ref 18, .int g] σ (some (.int (nI (dpS (σ.1 19) (G + 1) G))), σ) := by
  have h6 := hv.c6
  refine ct_of (k := 2) rfl rfl rfl (Nat.le_of_ble_eq_true rfl) ?_
  refine x_iconst (v := 0) (pc' := 1) (by decide) dX10_depth_0 rfl ?_
  refine x_istore_n (lv' := [_, _, _, _]) (pc' := 2) (by decide) rfl dX10_depth_1 rfl ?_
  refine x_aload_n (pc' := 3) rfl dX10_depth_2 rfl ?_
  refine x_iload_n (pc' := 4) rfl dX10_depth_3 rfl ?_
  refine x_iconst (v := 0) (pc' := 5) (by decide) dX10_depth_4 rfl ?_
  refine x_callVi (As := [.int _, .int _]) (rest := []) (ci := 9) (pc' := 8) rfl vk_X10_58 mk_X10_its (by decide) (by first | assumption | exact ⟨by decide, rfl⟩) (by decide) rfl (Nat.le_of_ble_eq_true rfl) dX10_depth_5 rfl (c_X10_its (E := 0) hg rfl (by omega)) ?_
  refine x_istore_n (lv' := [_, _, _, _]) (pc' := 9) (by decide) rfl dX10_depth_8 rfl ?_
  have q := l_X10_depth (z := g) hv (G + 1) G 0 (by omega) hG
  rw [Nat.zero_add] at q
  exact q
set_option maxRecDepth 100000 in
set_option maxHeartbeats 4000000 in
theorem v_X10_depth {σ : St} {v0 : Nat → Int32} (hs : σ.1 19 = v0) {g : Int32} {G : Nat} (hv : Ok v0) (hG : G < cN v0) (hg : g = nI G) : Ct yX10_depth M_X10_depth [.ref 18, .int g] σ (some (.int (nI (dpS v0 (G + 1) G))), σ) := by
  subst hs
  exact c_X10_depth hv hG hg
