/-! ===== the class: deeds ===== -/
theorem Ok_rule {v : Nat → Int32} (hv : Ok v) {x : Int32} (hx : 0 ≤ x ∧ x < 3) : Ok (upd v 1 x) := by
  obtain ⟨n, hn, rfl⟩ := i_in (n := 3) (by decide) hx.1 hx.2
  have h6 := hv.c6
  have u : ∀ j, j ≠ 1 → upd v 1 (nI n) j = v j := fun j hj => by rw [upd_app, if_neg hj]
  have u1 : upd v 1 (nI n) 1 = nI n := by rw [upd_app, if_pos rfl]
  have c : cN (upd v 1 (nI n)) = cN v := by unfold cN; rw [u 0 (by decide)]
  have f : ∀ g e, fN (upd v 1 (nI n)) g e = fN v g e := fun g e => by unfold fN; rw [u _ (by omega)]
  have r : rN (upd v 1 (nI n)) = n := by unfold rN; rw [u1, nI_clamp (by omega)]
  refine ⟨by rw [c, u 0 (by decide)]; exact hv.1, by rw [c]; exact h6, by rw [r, u1], by rw [r]; omega, fun g hg => ?_⟩
  rw [c] at hg
  obtain ⟨o1, o2, o3⟩ := hv.2.2.2.2 g hg
  refine ⟨?_, ?_, ?_⟩
  · unfold OkP Ins at *
    simp only [f]
    rw [u _ (by omega)]
    exact o1
  · unfold OkF at *
    simp only [f]
    refine ⟨fun e h1 h6 => ?_, o2.2⟩
    rw [u _ (by omega)]
    exact o2.1 e h1 h6
  · intro c r w hc hr hw
    rw [f] at hc hr
    unfold oV
    rw [u _ (by omega)]
    exact o3 c r w hc hr hw
theorem SR.rule {σ : St} {v : Nat → Int32} {x : Int32} (h : SR σ 0 v) (hx : 0 ≤ x ∧ x < 3) : SR (pI σ 29 2 x) 0 (upd v 1 x) ∧ ChS σ (pI σ 29 2 x) 0 := by
  obtain ⟨hs, hF, ⟨b1, b2, b3⟩, hv⟩ := h
  have h6 := hv.c6
  have u : ∀ j, j ≠ 1 → upd v 1 x j = v j := fun j hj => by rw [upd_app, if_neg hj]
  have c : cN (upd v 1 x) = cN v := by unfold cN; rw [u 0 (by decide)]
  have f : ∀ g e, fN (upd v 1 x) g e = fN v g e := fun g e => by unfold fN; rw [u _ (by omega)]
  refine ⟨⟨hs, hF, ⟨?_, ?_, fun g hg => ?_⟩, Ok_rule hv hx⟩, (ChS.rf σ 0).pI _ _ (Or.inl rfl)⟩
  · rw [u 0 (by decide), pI_app, if_neg (by omega)]; exact b1
  · rw [upd_app, if_pos rfl, pI_app, if_pos ⟨rfl, rfl⟩]
  · rw [c] at hg
    obtain ⟨c1, c2⟩ := b3 g hg
    obtain ⟨i, hi, ei⟩ := hs.2.1 g (by omega)
    show GRep _ (σ.2.2 (29 + 2 * 0 + 1) g) _ g
    refine ⟨fun e he => ?_, fun c r w hc hr hw => ?_⟩
    · rw [pI_ne (by omega), u _ (by omega)]
      exact c1 e he
    · rw [f] at hc hr
      rw [pI_ne (by omega)]
      refine (c2 c r w hc hr hw).trans ?_
      unfold oV
      rw [u _ (by omega)]
set_option maxRecDepth 100000 in
set_option maxHeartbeats 4000000 in
theorem d_X9_node {σ : St} {v : Nat → Int32} {U : Nat} {t : Nat → Nat → Int32} (h : SR σ 0 v) (hA : ∀ s, s < 19 → Sh σ s) (ht : HistC σ U t) {G K R : Nat} {dx dy : Int32} (hG : G < cN v) (hK : K < fN v G 4) (hR0 : R < fN v G 5) (ho : ofsP dx dy) : ∃ σ', Ct yX9_node M_X9_node [.ref 0, .int (nI G), .int (nI K), .int (nI R), .int dx, .int dy] σ (some (.int (nI (chg v (ndI G K R) dx dy))), σ') ∧ SR σ' 0 (set2 v (ndI G K R) dx dy) ∧ HistC σ' (min (U + 1) 16) (pushT v t) ∧ FrD σ σ' := by
  have hR : Rp σ 29 v := h.2
  have hv := hR.2.2
  have h6 := hv.c6
  obtain ⟨hk0, hk1, hk2⟩ := id hR.1
  have hn := hR.n
  obtain ⟨hq, hr, hf, hO⟩ := hR.g hG
  obtain ⟨hq0, hq1⟩ := id hq
  obtain ⟨g6, c5, r5, c2, r2, s1, s64⟩ := hv.b hG
  have ep := hr.par
  have hT : ¬ pb ((0 ≤ nI K ∧ nI K < nI (fN v G 4)) ∧ 0 ≤ nI R ∧ nI R < nI (fN v G 5)) = 0 := by rw [pb_1 ⟨⟨nI_pos' (by omega), nI_lt hK (by omega)⟩, nI_pos' (by omega), nI_lt hR0 (by omega)⟩]; decide
  obtain ⟨τ, hE1, a1, a2, a3, a4⟩ := c_X5_push h hA ht
  have q1 : τ.2.2 30 = σ.2.2 30 := by rw [a4]
  obtain ⟨m1, m2⟩ := ho.sm
  have hnode := a1.node hG hK hR0 m1 m2
  have e := (a1.agr hG).cg hK hR0 dx dy
  have q2 : τ.2.2 (29 + 2 * 0 + 1) G = σ.2.2 (29 + 1) G := by rw [a4]
  rw [q2] at hnode e
  refine ⟨_, ?_, hnode.1, a2.ch hnode.2, a3.trans hnode.2.fr⟩
  refine ct_of (k := 1) rfl rfl rfl (Nat.le_of_ble_eq_true rfl) ?_
  refine x_aload_n (pc' := 1) rfl dX9_node_0 rfl ?_
  refine x_get (v := .ref 29) (pc' := 4) fk_X9_12 (by first | assumption | exact ⟨by decide, rfl⟩) rfl dX9_node_1 rfl ?_
  refine x_iload_n (pc' := 5) rfl dX9_node_4 rfl ?_
  refine x_callVi (As := [.int _]) (rest := []) (ci := 7) (pc' := 8) rfl vk_X9_83 mk_X8_at (by decide) (by first | assumption | exact ⟨by decide, rfl⟩) (by decide) rfl (Nat.le_of_ble_eq_true rfl) dX9_node_5 rfl (t_X8_at hR.1 hn h6 rfl hG) ?_
  refine x_astore (lv' := [_, _, _, _, _, _, _]) (pc' := 10) (by decide) rfl dX9_node_8 rfl ?_
  refine x_aload (pc' := 12) rfl dX9_node_10 rfl ?_
  refine x_ifnull (pc' := 15) dX9_node_12 rfl ?_
  refine x_aload (pc' := 17) rfl dX9_node_15 rfl ?_
  refine x_iload_n (pc' := 18) rfl dX9_node_17 rfl ?_
  refine x_iload_n (pc' := 19) rfl dX9_node_18 rfl ?_
  refine x_callVi (As := [.int _, .int _]) (rest := []) (ci := 3) (pc' := 22) rfl vk_X9_139 mk_X4_hasNode (by decide) (by first | assumption | exact ⟨by decide, rfl⟩) (by decide) rfl (Nat.le_of_ble_eq_true rfl) dX9_node_19 rfl (c_X4_hasNode hq hr hf) ?_
  refine x_if_ne (tgt := 28) (pc' := 25) (by decide) dX9_node_22 rfl (fun c22 => ?_) (fun c22 => absurd c22 hT)
  refine x_iload (pc' := 30) rfl dX9_node_28 rfl ?_
  refine x_iload (pc' := 32) rfl dX9_node_30 rfl ?_
  refine x_callSi (As := [.int _, .int _]) (rest := []) (pc' := 35) rfl sk_X9_237 mk_X9_isOffset (by decide) rfl (Nat.le_of_ble_eq_true rfl) dX9_node_32 rfl c_X9_isOffset ?_
  refine x_if_ne (tgt := 41) (pc' := 38) (by decide) dX9_node_35 rfl (fun c35 => ?_) (fun c35 => absurd c35 (by rw [pb_1 ho]; decide))
  refine x_aload_n (pc' := 42) rfl dX9_node_41 rfl ?_
  refine x_get (v := .ref 1) (pc' := 45) fk_X9_19 (by first | assumption | exact ⟨by decide, rfl⟩) rfl dX9_node_42 rfl ?_
  refine x_aload_n (pc' := 46) rfl dX9_node_45 rfl ?_
  refine x_get (v := .ref 29) (pc' := 49) fk_X9_12 (by first | assumption | exact ⟨by decide, rfl⟩) rfl dX9_node_46 rfl ?_
  refine x_callVv (As := [.ref _]) (rest := []) (ci := 4) (pc' := 52) rfl vk_X9_229 mk_X5_push (by decide) (by first | assumption | exact ⟨by decide, rfl⟩) (by decide) rfl (Nat.le_of_ble_eq_true rfl) dX9_node_49 rfl hE1 ?_
  refine x_aload (pc' := 54) rfl dX9_node_52 rfl ?_
  refine x_iload_n (pc' := 55) rfl dX9_node_54 rfl ?_
  refine x_iload_n (pc' := 56) rfl dX9_node_55 rfl ?_
  refine x_iload (pc' := 58) rfl dX9_node_56 rfl ?_
  refine x_iload (pc' := 60) rfl dX9_node_58 rfl ?_
  refine x_callVi (As := [.int _, .int _, .int _, .int _]) (rest := []) (ci := 3) (pc' := 63) rfl vk_X9_240 mk_X4_setOffset (by decide) (by first | assumption | exact ⟨by decide, rfl⟩) (by decide) rfl (Nat.le_of_ble_eq_true rfl) dX9_node_60 rfl (c_X4_setOffset hq rfl rfl (by omega) (by omega)) ?_
  refine x_if_eq (tgt := 70) (pc' := 66) (by decide) dX9_node_63 rfl (fun c63 => ?_) (fun c63 => ?_)
  · refine x_iconst (v := 0) (pc' := 71) (by decide) dX9_node_70 rfl ?_
    exact x_iret rfl dX9_node_71 (ret_i (by rw [← e]; exact c63.symm))
  · refine x_iconst (v := 1) (pc' := 67) (by decide) dX9_node_66 rfl ?_
    refine x_goto (tgt := 71) (by decide) dX9_node_67 ?_
    exact x_iret rfl dX9_node_71 (ret_i (by rw [← e, chg_1 c63]; rfl))
set_option maxRecDepth 100000 in
set_option maxHeartbeats 4000000 in
theorem f_X9_node {σ : St} {v : Nat → Int32} (hR : Rp σ 29 v) {g c r dx dy : Int32} (hno : ¬ (nodS v g c r ∧ ofsP dx dy)) : Ct yX9_node M_X9_node [.ref 0, .int g, .int c, .int r, .int dx, .int dy] σ (some (.int (pif (nodS v g c r) (-1000000002) (-1000000001))), σ) := by
  have hv := hR.2.2
  have h6 := hv.c6
  obtain ⟨hk0, hk1, hk2⟩ := id hR.1
  have hn := hR.n
  by_cases hg : nodS v g c r

  · obtain ⟨G, K, R, hG, hK, hR0, rfl, rfl, rfl⟩ := nodS_nat hv hg
    rw [pif_t hg]
    obtain ⟨hq, hr, hf, hO⟩ := hR.g hG
    obtain ⟨hq0, hq1⟩ := id hq
    obtain ⟨g6, c5, r5, c2, r2, s1, s64⟩ := hv.b hG
    have ep := hr.par
    have hT : ¬ pb ((0 ≤ nI K ∧ nI K < nI (fN v G 4)) ∧ 0 ≤ nI R ∧ nI R < nI (fN v G 5)) = 0 := by rw [pb_1 ⟨⟨nI_pos' (by omega), nI_lt hK (by omega)⟩, nI_pos' (by omega), nI_lt hR0 (by omega)⟩]; decide
    refine ct_of (k := 1) rfl rfl rfl (Nat.le_of_ble_eq_true rfl) ?_
    refine x_aload_n (pc' := 1) rfl dX9_node_0 rfl ?_
    refine x_get (v := .ref 29) (pc' := 4) fk_X9_12 (by first | assumption | exact ⟨by decide, rfl⟩) rfl dX9_node_1 rfl ?_
    refine x_iload_n (pc' := 5) rfl dX9_node_4 rfl ?_
    refine x_callVi (As := [.int _]) (rest := []) (ci := 7) (pc' := 8) rfl vk_X9_83 mk_X8_at (by decide) (by first | assumption | exact ⟨by decide, rfl⟩) (by decide) rfl (Nat.le_of_ble_eq_true rfl) dX9_node_5 rfl (t_X8_at hR.1 hn h6 rfl hG) ?_
    refine x_astore (lv' := [_, _, _, _, _, _, _]) (pc' := 10) (by decide) rfl dX9_node_8 rfl ?_
    refine x_aload (pc' := 12) rfl dX9_node_10 rfl ?_
    refine x_ifnull (pc' := 15) dX9_node_12 rfl ?_
    refine x_aload (pc' := 17) rfl dX9_node_15 rfl ?_
    refine x_iload_n (pc' := 18) rfl dX9_node_17 rfl ?_
    refine x_iload_n (pc' := 19) rfl dX9_node_18 rfl ?_
    refine x_callVi (As := [.int _, .int _]) (rest := []) (ci := 3) (pc' := 22) rfl vk_X9_139 mk_X4_hasNode (by decide) (by first | assumption | exact ⟨by decide, rfl⟩) (by decide) rfl (Nat.le_of_ble_eq_true rfl) dX9_node_19 rfl (c_X4_hasNode hq hr hf) ?_
    refine x_if_ne (tgt := 28) (pc' := 25) (by decide) dX9_node_22 rfl (fun c22 => ?_) (fun c22 => absurd c22 hT)
    refine x_iload (pc' := 30) rfl dX9_node_28 rfl ?_
    refine x_iload (pc' := 32) rfl dX9_node_30 rfl ?_
    refine x_callSi (As := [.int _, .int _]) (rest := []) (pc' := 35) rfl sk_X9_237 mk_X9_isOffset (by decide) rfl (Nat.le_of_ble_eq_true rfl) dX9_node_32 rfl c_X9_isOffset ?_
    refine x_if_ne (tgt := 41) (pc' := 38) (by decide) dX9_node_35 rfl (fun c35 => absurd (pb_0 (fun q => hno ⟨hg, q⟩)) c35) (fun c35 => ?_)
    refine x_ldc (pc' := 40) kc_X9_102 dX9_node_38 rfl ?_
    exact x_iret rfl dX9_node_40 rfl
  · rw [pif_f hg]
    by_cases hgr : grS v g
    · obtain ⟨G, hG, rfl⟩ := grS_nat hv hgr
      obtain ⟨hq, hr, hf, hO⟩ := hR.g hG
      obtain ⟨hq0, hq1⟩ := id hq
      obtain ⟨g6, c5, r5, c2, r2, s1, s64⟩ := hv.b hG
      have ep := hr.par
      refine ct_of (k := 1) rfl rfl rfl (Nat.le_of_ble_eq_true rfl) ?_
      refine x_aload_n (pc' := 1) rfl dX9_node_0 rfl ?_
      refine x_get (v := .ref 29) (pc' := 4) fk_X9_12 (by first | assumption | exact ⟨by decide, rfl⟩) rfl dX9_node_1 rfl ?_
      refine x_iload_n (pc' := 5) rfl dX9_node_4 rfl ?_
      refine x_callVi (As := [.int _]) (rest := []) (ci := 7) (pc' := 8) rfl vk_X9_83 mk_X8_at (by decide) (by first | assumption | exact ⟨by decide, rfl⟩) (by decide) rfl (Nat.le_of_ble_eq_true rfl) dX9_node_5 rfl (t_X8_at hR.1 hn h6 rfl hG) ?_
      refine x_astore (lv' := [_, _, _, _, _, _, _]) (pc' := 10) (by decide) rfl dX9_node_8 rfl ?_
      refine x_aload (pc' := 12) rfl dX9_node_10 rfl ?_
      refine x_ifnull (pc' := 15) dX9_node_12 rfl ?_
      refine x_aload (pc' := 17) rfl dX9_node_15 rfl ?_
      refine x_iload_n (pc' := 18) rfl dX9_node_17 rfl ?_
      refine x_iload_n (pc' := 19) rfl dX9_node_18 rfl ?_
      refine x_callVi (As := [.int _, .int _]) (rest := []) (ci := 3) (pc' := 22) rfl vk_X9_139 mk_X4_hasNode (by decide) (by first | assumption | exact ⟨by decide, rfl⟩) (by decide) rfl (Nat.le_of_ble_eq_true rfl) dX9_node_19 rfl (c_X4_hasNode hq hr hf) ?_
      refine x_if_ne (tgt := 28) (pc' := 25) (by decide) dX9_node_22 rfl (fun c22 => absurd (pb_0 (fun q => hg ((nod_iff hv hG).mpr q))) c22) (fun c22 => ?_)
      refine x_ldc (pc' := 27) kc_X9_103 dX9_node_25 rfl ?_
      exact x_iret rfl dX9_node_27 rfl
    · refine ct_of (k := 1) rfl rfl rfl (Nat.le_of_ble_eq_true rfl) ?_
      refine x_aload_n (pc' := 1) rfl dX9_node_0 rfl ?_
      refine x_get (v := .ref 29) (pc' := 4) fk_X9_12 (by first | assumption | exact ⟨by decide, rfl⟩) rfl dX9_node_1 rfl ?_
      refine x_iload_n (pc' := 5) rfl dX9_node_4 rfl ?_
      refine x_callVi (As := [.int _]) (rest := []) (ci := 7) (pc' := 8) rfl vk_X9_83 mk_X8_at (by decide) (by first | assumption | exact ⟨by decide, rfl⟩) (by decide) rfl (Nat.le_of_ble_eq_true rfl) dX9_node_5 rfl (f_X8_at hR.1 hn h6 (fun q => hgr ((grS_iff hv).mp q))) ?_
      refine x_astoreN (lv' := [_, _, _, _, _, _, _]) (pc' := 10) (by decide) rfl dX9_node_8 rfl ?_
      refine x_aloadN (pc' := 12) rfl dX9_node_10 rfl ?_
      refine x_ifnullN (tgt := 25) (by decide) dX9_node_12 ?_
      refine x_ldc (pc' := 27) kc_X9_103 dX9_node_25 rfl ?_
      exact x_iret rfl dX9_node_27 rfl
set_option maxRecDepth 100000 in
set_option maxHeartbeats 4000000 in
theorem d_X9_fill {σ : St} {v : Nat → Int32} {U : Nat} {t : Nat → Nat → Int32} (h : SR σ 0 v) (hA : ∀ s, s < 19 → Sh σ s) (ht : HistC σ U t) {G : Nat} {dx dy : Int32} (hG : G < cN v) (ho : ofsP dx dy) : ∃ σ', Ct yX9_fill M_X9_fill [.ref 0, .int (nI G), .int dx, .int dy] σ (some (.int (nI (flN v (fN v G 4) G dx dy (fN v G 4 * fN v G 5)))), σ') ∧ SR σ' 0 (flV v (fN v G 4) G dx dy (fN v G 4 * fN v G 5)) ∧ HistC σ' (min (U + 1) 16) (pushT v t) ∧ FrD σ σ' := by
  have hR : Rp σ 29 v := h.2
  have hv := hR.2.2
  have h6 := hv.c6
  obtain ⟨hk0, hk1, hk2⟩ := id hR.1
  have hn := hR.n
  obtain ⟨hq, hr, hf, hO⟩ := hR.g hG
  obtain ⟨hq0, hq1⟩ := id hq
  obtain ⟨g6, c5, r5, c2, r2, s1, s64⟩ := hv.b hG
  have ep := hr.par
  obtain ⟨τ, hE1, a1, a2, a3, a4⟩ := c_X5_push h hA ht
  have q1 : τ.2.2 30 = σ.2.2 30 := by rw [a4]
  obtain ⟨m1, m2⟩ := ho.sm
  have hfill := a1.fill hG m1 m2
  have e := fl_n (by omega) (a1.agr hG) dx dy (fN v G 4 * fN v G 5) (Nat.le_refl _)
  have q2 : τ.2.2 (29 + 2 * 0 + 1) G = σ.2.2 (29 + 1) G := by rw [a4]
  obtain ⟨-, hr2, -, -⟩ := a1.2.g hG
  rw [q2] at hfill e hr2
  have eC : τ.1 (σ.2.2 (29 + 1) G) 5 = nI (fN v G 4) := hr2.at hf (e := 4) (by decide) (by decide)
  have eR : τ.1 (σ.2.2 (29 + 1) G) 6 = nI (fN v G 5) := hr2.at hf (e := 5) (by decide) (by decide)
  refine ⟨_, ?_, hfill.1, a2.ch hfill.2, a3.trans hfill.2.fr⟩
  refine ct_of (k := 1) rfl rfl rfl (Nat.le_of_ble_eq_true rfl) ?_
  refine x_aload_n (pc' := 1) rfl dX9_fill_0 rfl ?_
  refine x_get (v := .ref 29) (pc' := 4) fk_X9_12 (by first | assumption | exact ⟨by decide, rfl⟩) rfl dX9_fill_1 rfl ?_
  refine x_iload_n (pc' := 5) rfl dX9_fill_4 rfl ?_
  refine x_callVi (As := [.int _]) (rest := []) (ci := 7) (pc' := 8) rfl vk_X9_83 mk_X8_at (by decide) (by first | assumption | exact ⟨by decide, rfl⟩) (by decide) rfl (Nat.le_of_ble_eq_true rfl) dX9_fill_5 rfl (t_X8_at hR.1 hn h6 rfl hG) ?_
  refine x_astore (lv' := [_, _, _, _, _]) (pc' := 10) (by decide) rfl dX9_fill_8 rfl ?_
  refine x_aload (pc' := 12) rfl dX9_fill_10 rfl ?_
  refine x_ifnonnull (tgt := 18) (by decide) dX9_fill_12 ?_
  refine x_iload_n (pc' := 19) rfl dX9_fill_18 rfl ?_
  refine x_iload_n (pc' := 20) rfl dX9_fill_19 rfl ?_
  refine x_callSi (As := [.int _, .int _]) (rest := []) (pc' := 23) rfl sk_X9_237 mk_X9_isOffset (by decide) rfl (Nat.le_of_ble_eq_true rfl) dX9_fill_20 rfl c_X9_isOffset ?_
  refine x_if_ne (tgt := 29) (pc' := 26) (by decide) dX9_fill_23 rfl (fun c23 => ?_) (fun c23 => absurd c23 (by rw [pb_1 ho]; decide))
  refine x_aload_n (pc' := 30) rfl dX9_fill_29 rfl ?_
  refine x_get (v := .ref 1) (pc' := 33) fk_X9_19 (by first | assumption | exact ⟨by decide, rfl⟩) rfl dX9_fill_30 rfl ?_
  refine x_aload_n (pc' := 34) rfl dX9_fill_33 rfl ?_
  refine x_get (v := .ref 29) (pc' := 37) fk_X9_12 (by first | assumption | exact ⟨by decide, rfl⟩) rfl dX9_fill_34 rfl ?_
  refine x_callVv (As := [.ref _]) (rest := []) (ci := 4) (pc' := 40) rfl vk_X9_229 mk_X5_push (by decide) (by first | assumption | exact ⟨by decide, rfl⟩) (by decide) rfl (Nat.le_of_ble_eq_true rfl) dX9_fill_37 rfl hE1 ?_
  refine x_aload (pc' := 42) rfl dX9_fill_40 rfl ?_
  refine x_iload_n (pc' := 43) rfl dX9_fill_42 rfl ?_
  refine x_iload_n (pc' := 44) rfl dX9_fill_43 rfl ?_
  refine x_callVi (As := [.int _, .int _]) (rest := []) (ci := 3) (pc' := 47) rfl vk_X9_244 mk_X4_setOffsets (by decide) (by first | assumption | exact ⟨by decide, rfl⟩) (by decide) rfl (Nat.le_of_ble_eq_true rfl) dX9_fill_44 rfl (c_X4_setOffsets hq eC eR c5 r5) ?_
  exact x_iret rfl dX9_fill_47 (ret_i (by rw [e]))
set_option maxRecDepth 100000 in
set_option maxHeartbeats 4000000 in
theorem f_X9_fill {σ : St} {v : Nat → Int32} (hR : Rp σ 29 v) {g dx dy : Int32} (hno : ¬ (grS v g ∧ ofsP dx dy)) : Ct yX9_fill M_X9_fill [.ref 0, .int g, .int dx, .int dy] σ (some (.int (pif (grS v g) (-1000000002) (-1000000001))), σ) := by
  have hv := hR.2.2
  have h6 := hv.c6
  obtain ⟨hk0, hk1, hk2⟩ := id hR.1
  have hn := hR.n
  by_cases hg : grS v g

  · obtain ⟨G, hG, rfl⟩ := grS_nat hv hg
    rw [pif_t hg]
    obtain ⟨hq, hr, hf, hO⟩ := hR.g hG
    obtain ⟨hq0, hq1⟩ := id hq
    obtain ⟨g6, c5, r5, c2, r2, s1, s64⟩ := hv.b hG
    have ep := hr.par
    refine ct_of (k := 1) rfl rfl rfl (Nat.le_of_ble_eq_true rfl) ?_
    refine x_aload_n (pc' := 1) rfl dX9_fill_0 rfl ?_
    refine x_get (v := .ref 29) (pc' := 4) fk_X9_12 (by first | assumption | exact ⟨by decide, rfl⟩) rfl dX9_fill_1 rfl ?_
    refine x_iload_n (pc' := 5) rfl dX9_fill_4 rfl ?_
    refine x_callVi (As := [.int _]) (rest := []) (ci := 7) (pc' := 8) rfl vk_X9_83 mk_X8_at (by decide) (by first | assumption | exact ⟨by decide, rfl⟩) (by decide) rfl (Nat.le_of_ble_eq_true rfl) dX9_fill_5 rfl (t_X8_at hR.1 hn h6 rfl hG) ?_
    refine x_astore (lv' := [_, _, _, _, _]) (pc' := 10) (by decide) rfl dX9_fill_8 rfl ?_
    refine x_aload (pc' := 12) rfl dX9_fill_10 rfl ?_
    refine x_ifnonnull (tgt := 18) (by decide) dX9_fill_12 ?_
    refine x_iload_n (pc' := 19) rfl dX9_fill_18 rfl ?_
    refine x_iload_n (pc' := 20) rfl dX9_fill_19 rfl ?_
    refine x_callSi (As := [.int _, .int _]) (rest := []) (pc' := 23) rfl sk_X9_237 mk_X9_isOffset (by decide) rfl (Nat.le_of_ble_eq_true rfl) dX9_fill_20 rfl c_X9_isOffset ?_
    refine x_if_ne (tgt := 29) (pc' := 26) (by decide) dX9_fill_23 rfl (fun c23 => absurd (pb_0 (fun q => hno ⟨hg, q⟩)) c23) (fun c23 => ?_)
    refine x_ldc (pc' := 28) kc_X9_102 dX9_fill_26 rfl ?_
    exact x_iret rfl dX9_fill_28 rfl
  · rw [pif_f hg]
    refine ct_of (k := 1) rfl rfl rfl (Nat.le_of_ble_eq_true rfl) ?_
    refine x_aload_n (pc' := 1) rfl dX9_fill_0 rfl ?_
    refine x_get (v := .ref 29) (pc' := 4) fk_X9_12 (by first | assumption | exact ⟨by decide, rfl⟩) rfl dX9_fill_1 rfl ?_
    refine x_iload_n (pc' := 5) rfl dX9_fill_4 rfl ?_
    refine x_callVi (As := [.int _]) (rest := []) (ci := 7) (pc' := 8) rfl vk_X9_83 mk_X8_at (by decide) (by first | assumption | exact ⟨by decide, rfl⟩) (by decide) rfl (Nat.le_of_ble_eq_true rfl) dX9_fill_5 rfl (f_X8_at hR.1 hn h6 (fun q => hg ((grS_iff hv).mp q))) ?_
    refine x_astoreN (lv' := [_, _, _, _, _]) (pc' := 10) (by decide) rfl dX9_fill_8 rfl ?_
    refine x_aloadN (pc' := 12) rfl dX9_fill_10 rfl ?_
    refine x_ifnonnullN (pc' := 15) dX9_fill_12 rfl ?_
    refine x_ldc (pc' := 17) kc_X9_103 dX9_fill_15 rfl ?_
    exact x_iret rfl dX9_fill_17 rfl
set_option maxRecDepth 100000 in
set_option maxHeartbeats 4000000 in
theorem d_X9_fit {σ : St} {v : Nat → Int32} {U : Nat} {t : Nat → Nat → Int32} (h : SR σ 0 v) (hA : ∀ s, s < 19 → Sh σ s) (ht : HistC σ U t) {G : Nat} (hG : G < cN v) (hp : ¬ v (2 + 6 * G) = -1) : ∃ σ', Ct yX9_fit M_X9_fit [.ref 0, .int (nI G)] σ (some (.int (nI (sumN (fitK v (fN v G 4) G) (fN v G 4 * fN v G 5)))), σ') ∧ SR σ' 0 (fitV v (fN v G 4) G (fN v G 4 * fN v G 5)) ∧ HistC σ' (min (U + 1) 16) (pushT v t) ∧ FrD σ σ' := by
  have hR : Rp σ 29 v := h.2
  have hv := hR.2.2
  have h6 := hv.c6
  obtain ⟨hk0, hk1, hk2⟩ := id hR.1
  have hn := hR.n
  obtain ⟨hq, hr, hf, hO⟩ := hR.g hG
  obtain ⟨hq0, hq1⟩ := id hq
  obtain ⟨g6, c5, r5, c2, r2, s1, s64⟩ := hv.b hG
  have ep := hr.par
  obtain ⟨τ, hE1, a1, a2, a3, a4⟩ := c_X5_push h hA ht
  have q1 : τ.2.2 30 = σ.2.2 30 := by rw [a4]
  obtain ⟨ρ, hE2, b1, b2, b3⟩ := c_X1_meet hG hp a1
  have hgp := c_X1_gaps (σ := τ) (k := 29) a1.2 hG
  rw [show τ.2.2 (29 + 1) G = σ.2.2 (29 + 1) G by rw [a4]] at hgp
  rw [show τ.2.2 30 G = σ.2.2 (29 + 1) G by rw [a4]] at hE2
  refine ⟨_, ?_, b1, a2.ch b2, a3.trans b2.fr⟩
  refine ct_of (k := 2) rfl rfl rfl (Nat.le_of_ble_eq_true rfl) ?_
  refine x_aload_n (pc' := 1) rfl dX9_fit_0 rfl ?_
  refine x_get (v := .ref 29) (pc' := 4) fk_X9_12 (by first | assumption | exact ⟨by decide, rfl⟩) rfl dX9_fit_1 rfl ?_
  refine x_iload_n (pc' := 5) rfl dX9_fit_4 rfl ?_
  refine x_callVi (As := [.int _]) (rest := []) (ci := 7) (pc' := 8) rfl vk_X9_83 mk_X8_at (by decide) (by first | assumption | exact ⟨by decide, rfl⟩) (by decide) rfl (Nat.le_of_ble_eq_true rfl) dX9_fit_5 rfl (t_X8_at hR.1 hn h6 rfl hG) ?_
  refine x_astore_n (lv' := [_, _, _, _]) (pc' := 9) (by decide) rfl dX9_fit_8 rfl ?_
  refine x_aload_n (pc' := 10) rfl dX9_fit_9 rfl ?_
  refine x_ifnonnull (tgt := 16) (by decide) dX9_fit_10 ?_
  refine x_aload_n (pc' := 17) rfl dX9_fit_16 rfl ?_
  refine x_get (v := .int _) (pc' := 20) fk_X9_104 (by first | assumption | exact ⟨by decide, rfl⟩) rfl dX9_fit_17 rfl ?_
  refine x_top ep ?_
  refine x_iconst (v := (-1)) (pc' := 21) (by decide) dX9_fit_20 rfl ?_
  refine x_icmp_ne (tgt := 27) (pc' := 24) (by decide) dX9_fit_21 rfl (fun c21 => ?_) (fun c21 => absurd c21 hp)
  refine x_aload_n (pc' := 28) rfl dX9_fit_27 rfl ?_
  refine x_get (v := .ref 1) (pc' := 31) fk_X9_19 (by first | assumption | exact ⟨by decide, rfl⟩) rfl dX9_fit_28 rfl ?_
  refine x_aload_n (pc' := 32) rfl dX9_fit_31 rfl ?_
  refine x_get (v := .ref 29) (pc' := 35) fk_X9_12 (by first | assumption | exact ⟨by decide, rfl⟩) rfl dX9_fit_32 rfl ?_
  refine x_callVv (As := [.ref _]) (rest := []) (ci := 4) (pc' := 38) rfl vk_X9_229 mk_X5_push (by decide) (by first | assumption | exact ⟨by decide, rfl⟩) (by decide) rfl (Nat.le_of_ble_eq_true rfl) dX9_fit_35 rfl hE1 ?_
  refine x_aload_n (pc' := 39) rfl dX9_fit_38 rfl ?_
  refine x_get (v := .ref 29) (pc' := 42) fk_X9_12 (by first | assumption | exact ⟨by decide, rfl⟩) rfl dX9_fit_39 rfl ?_
  refine x_aload_n (pc' := 43) rfl dX9_fit_42 rfl ?_
  refine x_callSi (As := [.ref _, .ref _]) (rest := []) (pc' := 46) rfl sk_X9_132 mk_X1_gaps (by decide) rfl (Nat.le_of_ble_eq_true rfl) dX9_fit_43 rfl hgp ?_
  refine x_istore_n (lv' := [_, _, _, _]) (pc' := 47) (by decide) rfl dX9_fit_46 rfl ?_
  refine x_aload_n (pc' := 48) rfl dX9_fit_47 rfl ?_
  refine x_get (v := .ref 29) (pc' := 51) fk_X9_12 (by first | assumption | exact ⟨by decide, rfl⟩) rfl dX9_fit_48 rfl ?_
  refine x_aload_n (pc' := 52) rfl dX9_fit_51 rfl ?_
  refine x_callSv (As := [.ref _, .ref _]) (rest := []) (pc' := 55) rfl sk_X9_247 mk_X1_meet (by decide) rfl (Nat.le_of_ble_eq_true rfl) dX9_fit_52 rfl hE2 ?_
  refine x_iload_n (pc' := 56) rfl dX9_fit_55 rfl ?_
  exact x_iret rfl dX9_fit_56 (ret_i (by rw [fit_n hv hG hp]))
set_option maxRecDepth 100000 in
set_option maxHeartbeats 4000000 in
theorem f_X9_fit {σ : St} {v : Nat → Int32} (hR : Rp σ 29 v) {g : Int32} (hno : ¬ (grS v g ∧ ¬ v (2 + 6 * g.toNatClampNeg) = -1)) : Ct yX9_fit M_X9_fit [.ref 0, .int g] σ (some (.int (pif (grS v g) (-1000000003) (-1000000001))), σ) := by
  have hv := hR.2.2
  have h6 := hv.c6
  obtain ⟨hk0, hk1, hk2⟩ := id hR.1
  have hn := hR.n
  by_cases hg : grS v g

  · obtain ⟨G, hG, rfl⟩ := grS_nat hv hg
    rw [pif_t hg]
    rw [nI_clamp (by omega)] at hno
    obtain ⟨hq, hr, hf, hO⟩ := hR.g hG
    obtain ⟨hq0, hq1⟩ := id hq
    obtain ⟨g6, c5, r5, c2, r2, s1, s64⟩ := hv.b hG
    have ep := hr.par
    refine ct_of (k := 2) rfl rfl rfl (Nat.le_of_ble_eq_true rfl) ?_
    refine x_aload_n (pc' := 1) rfl dX9_fit_0 rfl ?_
    refine x_get (v := .ref 29) (pc' := 4) fk_X9_12 (by first | assumption | exact ⟨by decide, rfl⟩) rfl dX9_fit_1 rfl ?_
    refine x_iload_n (pc' := 5) rfl dX9_fit_4 rfl ?_
    refine x_callVi (As := [.int _]) (rest := []) (ci := 7) (pc' := 8) rfl vk_X9_83 mk_X8_at (by decide) (by first | assumption | exact ⟨by decide, rfl⟩) (by decide) rfl (Nat.le_of_ble_eq_true rfl) dX9_fit_5 rfl (t_X8_at hR.1 hn h6 rfl hG) ?_
    refine x_astore_n (lv' := [_, _, _, _]) (pc' := 9) (by decide) rfl dX9_fit_8 rfl ?_
    refine x_aload_n (pc' := 10) rfl dX9_fit_9 rfl ?_
    refine x_ifnonnull (tgt := 16) (by decide) dX9_fit_10 ?_
    refine x_aload_n (pc' := 17) rfl dX9_fit_16 rfl ?_
    refine x_get (v := .int _) (pc' := 20) fk_X9_104 (by first | assumption | exact ⟨by decide, rfl⟩) rfl dX9_fit_17 rfl ?_
    refine x_top ep ?_
    refine x_iconst (v := (-1)) (pc' := 21) (by decide) dX9_fit_20 rfl ?_
    refine x_icmp_ne (tgt := 27) (pc' := 24) (by decide) dX9_fit_21 rfl (fun c21 => absurd (Classical.not_not.mp (fun q => hno ⟨hg, q⟩)) c21) (fun c21 => ?_)
    refine x_ldc (pc' := 26) kc_X9_227 dX9_fit_24 rfl ?_
    exact x_iret rfl dX9_fit_26 rfl
  · rw [pif_f hg]
    refine ct_of (k := 2) rfl rfl rfl (Nat.le_of_ble_eq_true rfl) ?_
    refine x_aload_n (pc' := 1) rfl dX9_fit_0 rfl ?_
    refine x_get (v := .ref 29) (pc' := 4) fk_X9_12 (by first | assumption | exact ⟨by decide, rfl⟩) rfl dX9_fit_1 rfl ?_
    refine x_iload_n (pc' := 5) rfl dX9_fit_4 rfl ?_
    refine x_callVi (As := [.int _]) (rest := []) (ci := 7) (pc' := 8) rfl vk_X9_83 mk_X8_at (by decide) (by first | assumption | exact ⟨by decide, rfl⟩) (by decide) rfl (Nat.le_of_ble_eq_true rfl) dX9_fit_5 rfl (f_X8_at hR.1 hn h6 (fun q => hg ((grS_iff hv).mp q))) ?_
    refine x_astore_nN (lv' := [_, _, _, _]) (pc' := 9) (by decide) rfl dX9_fit_8 rfl ?_
    refine x_aload_nN (pc' := 10) rfl dX9_fit_9 rfl ?_
    refine x_ifnonnullN (pc' := 13) dX9_fit_10 rfl ?_
    refine x_ldc (pc' := 15) kc_X9_103 dX9_fit_13 rfl ?_
    exact x_iret rfl dX9_fit_15 rfl
set_option maxRecDepth 100000 in
set_option maxHeartbeats 4000000 in
theorem d_X9_drop {σ : St} {v : Nat → Int32} {U : Nat} {t : Nat → Nat → Int32} (h : SR σ 0 v) (hA : ∀ s, s < 19 → Sh σ s) (ht : HistC σ U t) {G : Nat} (hG : G < cN v) (hch : chN v (nI G) (cN v) = 0) : ∃ σ', Ct yX9_drop M_X9_drop [.ref 0, .int (nI G)] σ (some (.int (nI (cN v - 1))), σ') ∧ SR σ' 0 (drpV v G) ∧ HistC σ' (min (U + 1) 16) (pushT v t) ∧ FrD σ σ' := by
  have hR : Rp σ 29 v := h.2
  have hv := hR.2.2
  have h6 := hv.c6
  obtain ⟨hk0, hk1, hk2⟩ := id hR.1
  have hn := hR.n
  obtain ⟨hq, hr, hf, hO⟩ := hR.g hG
  obtain ⟨hq0, hq1⟩ := id hq
  obtain ⟨g6, c5, r5, c2, r2, s1, s64⟩ := hv.b hG
  have ep := hr.par
  obtain ⟨τ, hE1, a1, a2, a3, a4⟩ := c_X5_push h hA ht
  have q1 : τ.2.2 30 = σ.2.2 30 := by rw [a4]
  obtain ⟨ρ, hE2, b1, b2⟩ := c_X8_remove a1 hG (dr_ok hv hG hch)
  refine ⟨_, ?_, b1, a2.ch b2, a3.trans b2.fr⟩
  refine ct_of (k := 0) rfl rfl rfl (Nat.le_of_ble_eq_true rfl) ?_
  refine x_aload_n (pc' := 1) rfl dX9_drop_0 rfl ?_
  refine x_get (v := .ref 29) (pc' := 4) fk_X9_12 (by first | assumption | exact ⟨by decide, rfl⟩) rfl dX9_drop_1 rfl ?_
  refine x_iload_n (pc' := 5) rfl dX9_drop_4 rfl ?_
  refine x_callVi (As := [.int _]) (rest := []) (ci := 7) (pc' := 8) rfl vk_X9_83 mk_X8_at (by decide) (by first | assumption | exact ⟨by decide, rfl⟩) (by decide) rfl (Nat.le_of_ble_eq_true rfl) dX9_drop_5 rfl (t_X8_at hR.1 hn h6 rfl hG) ?_
  refine x_ifnonnull (tgt := 14) (by decide) dX9_drop_8 ?_
  refine x_aload_n (pc' := 15) rfl dX9_drop_14 rfl ?_
  refine x_get (v := .ref 29) (pc' := 18) fk_X9_12 (by first | assumption | exact ⟨by decide, rfl⟩) rfl dX9_drop_15 rfl ?_
  refine x_iload_n (pc' := 19) rfl dX9_drop_18 rfl ?_
  refine x_callVi (As := [.int _]) (rest := []) (ci := 7) (pc' := 22) rfl vk_X9_125 mk_X8_children (by decide) (by first | assumption | exact ⟨by decide, rfl⟩) (by decide) rfl (Nat.le_of_ble_eq_true rfl) dX9_drop_19 rfl (c_X8_children hR) ?_
  refine x_if_le (tgt := 28) (pc' := 25) (by decide) dX9_drop_22 rfl (fun c22 => ?_) (fun c22 => absurd (by rw [hch]; decide) c22)
  refine x_aload_n (pc' := 29) rfl dX9_drop_28 rfl ?_
  refine x_get (v := .ref 1) (pc' := 32) fk_X9_19 (by first | assumption | exact ⟨by decide, rfl⟩) rfl dX9_drop_29 rfl ?_
  refine x_aload_n (pc' := 33) rfl dX9_drop_32 rfl ?_
  refine x_get (v := .ref 29) (pc' := 36) fk_X9_12 (by first | assumption | exact ⟨by decide, rfl⟩) rfl dX9_drop_33 rfl ?_
  refine x_callVv (As := [.ref _]) (rest := []) (ci := 4) (pc' := 39) rfl vk_X9_229 mk_X5_push (by decide) (by first | assumption | exact ⟨by decide, rfl⟩) (by decide) rfl (Nat.le_of_ble_eq_true rfl) dX9_drop_36 rfl hE1 ?_
  refine x_aload_n (pc' := 40) rfl dX9_drop_39 rfl ?_
  refine x_get (v := .ref 29) (pc' := 43) fk_X9_12 (by first | assumption | exact ⟨by decide, rfl⟩) rfl dX9_drop_40 rfl ?_
  refine x_iload_n (pc' := 44) rfl dX9_drop_43 rfl ?_
  refine x_callVv (As := [.int _]) (rest := []) (ci := 7) (pc' := 47) rfl vk_X9_251 mk_X8_remove (by decide) (by first | assumption | exact ⟨by decide, rfl⟩) (by decide) rfl (Nat.le_of_ble_eq_true rfl) dX9_drop_44 rfl hE2 ?_
  refine x_aload_n (pc' := 48) rfl dX9_drop_47 rfl ?_
  refine x_get (v := .ref 29) (pc' := 51) fk_X9_12 (by first | assumption | exact ⟨by decide, rfl⟩) rfl dX9_drop_48 rfl ?_
  refine x_callVi (As := []) (rest := []) (ci := 7) (pc' := 54) rfl vk_X9_61 mk_X8_size (by decide) (by first | assumption | exact ⟨by decide, rfl⟩) (by decide) rfl (Nat.le_of_ble_eq_true rfl) dX9_drop_51 rfl (c_X8_size hk0) ?_
  exact x_iret rfl dX9_drop_54 (ret_i (b1.2.2.1.1.trans dr_lo.1))
set_option maxRecDepth 100000 in
set_option maxHeartbeats 4000000 in
theorem f_X9_drop {σ : St} {v : Nat → Int32} (hR : Rp σ 29 v) {g : Int32} (hno : ¬ (grS v g ∧ chN v g (cN v) = 0)) : Ct yX9_drop M_X9_drop [.ref 0, .int g] σ (some (.int (pif (grS v g) (-1000000003) (-1000000001))), σ) := by
  have hv := hR.2.2
  have h6 := hv.c6
  obtain ⟨hk0, hk1, hk2⟩ := id hR.1
  have hn := hR.n
  by_cases hg : grS v g

  · have hc0 : ¬ chN v g (cN v) = 0 := fun q => hno ⟨hg, q⟩
    obtain ⟨G, hG, rfl⟩ := grS_nat hv hg
    have hle : chN v (nI G) (cN v) ≤ cN v * 1 := sumN_le _ (fun k _ => pif_le1 _)
    rw [pif_t hg]
    obtain ⟨hq, hr, hf, hO⟩ := hR.g hG
    obtain ⟨hq0, hq1⟩ := id hq
    obtain ⟨g6, c5, r5, c2, r2, s1, s64⟩ := hv.b hG
    have ep := hr.par
    refine ct_of (k := 0) rfl rfl rfl (Nat.le_of_ble_eq_true rfl) ?_
    refine x_aload_n (pc' := 1) rfl dX9_drop_0 rfl ?_
    refine x_get (v := .ref 29) (pc' := 4) fk_X9_12 (by first | assumption | exact ⟨by decide, rfl⟩) rfl dX9_drop_1 rfl ?_
    refine x_iload_n (pc' := 5) rfl dX9_drop_4 rfl ?_
    refine x_callVi (As := [.int _]) (rest := []) (ci := 7) (pc' := 8) rfl vk_X9_83 mk_X8_at (by decide) (by first | assumption | exact ⟨by decide, rfl⟩) (by decide) rfl (Nat.le_of_ble_eq_true rfl) dX9_drop_5 rfl (t_X8_at hR.1 hn h6 rfl hG) ?_
    refine x_ifnonnull (tgt := 14) (by decide) dX9_drop_8 ?_
    refine x_aload_n (pc' := 15) rfl dX9_drop_14 rfl ?_
    refine x_get (v := .ref 29) (pc' := 18) fk_X9_12 (by first | assumption | exact ⟨by decide, rfl⟩) rfl dX9_drop_15 rfl ?_
    refine x_iload_n (pc' := 19) rfl dX9_drop_18 rfl ?_
    refine x_callVi (As := [.int _]) (rest := []) (ci := 7) (pc' := 22) rfl vk_X9_125 mk_X8_children (by decide) (by first | assumption | exact ⟨by decide, rfl⟩) (by decide) rfl (Nat.le_of_ble_eq_true rfl) dX9_drop_19 rfl (c_X8_children hR) ?_
    refine x_if_le (tgt := 28) (pc' := 25) (by decide) dX9_drop_22 rfl (fun c22 => absurd c22 (nI_nle (by omega) (by omega))) (fun c22 => ?_)
    refine x_ldc (pc' := 27) kc_X9_227 dX9_drop_25 rfl ?_
    exact x_iret rfl dX9_drop_27 rfl
  · rw [pif_f hg]
    refine ct_of (k := 0) rfl rfl rfl (Nat.le_of_ble_eq_true rfl) ?_
    refine x_aload_n (pc' := 1) rfl dX9_drop_0 rfl ?_
    refine x_get (v := .ref 29) (pc' := 4) fk_X9_12 (by first | assumption | exact ⟨by decide, rfl⟩) rfl dX9_drop_1 rfl ?_
    refine x_iload_n (pc' := 5) rfl dX9_drop_4 rfl ?_
    refine x_callVi (As := [.int _]) (rest := []) (ci := 7) (pc' := 8) rfl vk_X9_83 mk_X8_at (by decide) (by first | assumption | exact ⟨by decide, rfl⟩) (by decide) rfl (Nat.le_of_ble_eq_true rfl) dX9_drop_5 rfl (f_X8_at hR.1 hn h6 (fun q => hg ((grS_iff hv).mp q))) ?_
    refine x_ifnonnullN (pc' := 11) dX9_drop_8 rfl ?_
    refine x_ldc (pc' := 13) kc_X9_103 dX9_drop_11 rfl ?_
    exact x_iret rfl dX9_drop_13 rfl
theorem lt3 {x : Int32} : (0 ≤ x ∧ x ≤ 2) ↔ (0 ≤ x ∧ x < 3) := by
  rw [sI_le x 2, sI_lt x 3]
  have a : (2 : Int32).toInt = 2 := rfl
  have b : (3 : Int32).toInt = 3 := rfl
  exact ⟨fun q => ⟨q.1, by omega⟩, fun q => ⟨q.1, by omega⟩⟩
set_option maxRecDepth 100000 in
set_option maxHeartbeats 4000000 in
theorem d_X9_rule {σ : St} {v : Nat → Int32} {U : Nat} {t : Nat → Nat → Int32} (h : SR σ 0 v) (hA : ∀ s, s < 19 → Sh σ s) (ht : HistC σ U t) {x : Int32} (hx : 0 ≤ x ∧ x < 3) : ∃ σ', Ct yX9_rule M_X9_rule [.ref 0, .int x] σ (some (.int (v 1)), σ') ∧ SR σ' 0 (upd v 1 x) ∧ HistC σ' (min (U + 1) 16) (pushT v t) ∧ FrD σ σ' := by
  have hR : Rp σ 29 v := h.2
  have hv := hR.2.2
  have h6 := hv.c6
  obtain ⟨hk0, hk1, hk2⟩ := id hR.1
  have hn := hR.n
  obtain ⟨τ, hE1, a1, a2, a3, a4⟩ := c_X5_push h hA ht
  have q1 : τ.2.2 30 = σ.2.2 30 := by rw [a4]
  obtain ⟨b1, b2⟩ := a1.rule hx
  refine ⟨_, ?_, b1, a2.ch b2, a3.trans b2.fr⟩
  refine ct_of (k := 1) rfl rfl rfl (Nat.le_of_ble_eq_true rfl) ?_
  refine x_iload_n (pc' := 1) rfl dX9_rule_0 rfl ?_
  refine x_iconst (v := 0) (pc' := 2) (by decide) dX9_rule_1 rfl ?_
  refine x_iconst (v := 2) (pc' := 3) (by decide) dX9_rule_2 rfl ?_
  refine x_callSi (As := [.int _, .int _, .int _]) (rest := []) (pc' := 6) rfl sk_X9_143 mk_X9_isWithin (by decide) rfl (Nat.le_of_ble_eq_true rfl) dX9_rule_3 rfl c_X9_isWithin ?_
  refine x_if_ne (tgt := 12) (pc' := 9) (by decide) dX9_rule_6 rfl (fun c6 => ?_) (fun c6 => absurd c6 (by rw [pb_1 (lt3.mpr hx)]; decide))
  refine x_aload_n (pc' := 13) rfl dX9_rule_12 rfl ?_
  refine x_get (v := .ref 1) (pc' := 16) fk_X9_19 (by first | assumption | exact ⟨by decide, rfl⟩) rfl dX9_rule_13 rfl ?_
  refine x_aload_n (pc' := 17) rfl dX9_rule_16 rfl ?_
  refine x_get (v := .ref 29) (pc' := 20) fk_X9_12 (by first | assumption | exact ⟨by decide, rfl⟩) rfl dX9_rule_17 rfl ?_
  refine x_callVv (As := [.ref _]) (rest := []) (ci := 4) (pc' := 23) rfl vk_X9_229 mk_X5_push (by decide) (by first | assumption | exact ⟨by decide, rfl⟩) (by decide) rfl (Nat.le_of_ble_eq_true rfl) dX9_rule_20 rfl hE1 ?_
  refine x_aload_n (pc' := 24) rfl dX9_rule_23 rfl ?_
  refine x_get (v := .ref 29) (pc' := 27) fk_X9_12 (by first | assumption | exact ⟨by decide, rfl⟩) rfl dX9_rule_24 rfl ?_
  refine x_callVi (As := []) (rest := []) (ci := 7) (pc' := 30) rfl vk_X9_65 mk_X8_ruleNow (by decide) (by first | assumption | exact ⟨by decide, rfl⟩) (by decide) rfl (Nat.le_of_ble_eq_true rfl) dX9_rule_27 rfl (c_X8_ruleNow hk0) ?_
  refine x_istore_n (lv' := [_, _, _]) (pc' := 31) (by decide) rfl dX9_rule_30 rfl ?_
  refine x_aload_n (pc' := 32) rfl dX9_rule_31 rfl ?_
  refine x_get (v := .ref 29) (pc' := 35) fk_X9_12 (by first | assumption | exact ⟨by decide, rfl⟩) rfl dX9_rule_32 rfl ?_
  refine x_iload_n (pc' := 36) rfl dX9_rule_35 rfl ?_
  refine x_callVv (As := [.int _]) (rest := []) (ci := 7) (pc' := 39) rfl vk_X9_255 mk_X8_setRule (by decide) (by first | assumption | exact ⟨by decide, rfl⟩) (by decide) rfl (Nat.le_of_ble_eq_true rfl) dX9_rule_36 rfl (c_X8_setRule hk0) ?_
  refine x_iload_n (pc' := 40) rfl dX9_rule_39 rfl ?_
  exact x_iret rfl dX9_rule_40 (ret_i a1.2.2.1.2.1)
set_option maxRecDepth 100000 in
set_option maxHeartbeats 4000000 in
theorem f_X9_rule {σ : St} {v : Nat → Int32} (hR : Rp σ 29 v) {x : Int32} (hx : ¬ (0 ≤ x ∧ x < 3)) : Ct yX9_rule M_X9_rule [.ref 0, .int x] σ (some (.int (-1000000002)), σ) := by
  have hv := hR.2.2
  have h6 := hv.c6
  obtain ⟨hk0, hk1, hk2⟩ := id hR.1
  have hn := hR.n
  refine ct_of (k := 1) rfl rfl rfl (Nat.le_of_ble_eq_true rfl) ?_
  refine x_iload_n (pc' := 1) rfl dX9_rule_0 rfl ?_
  refine x_iconst (v := 0) (pc' := 2) (by decide) dX9_rule_1 rfl ?_
  refine x_iconst (v := 2) (pc' := 3) (by decide) dX9_rule_2 rfl ?_
  refine x_callSi (As := [.int _, .int _, .int _]) (rest := []) (pc' := 6) rfl sk_X9_143 mk_X9_isWithin (by decide) rfl (Nat.le_of_ble_eq_true rfl) dX9_rule_3 rfl c_X9_isWithin ?_
  refine x_if_ne (tgt := 12) (pc' := 9) (by decide) dX9_rule_6 rfl (fun c6 => absurd (pb_0 (fun q => hx (lt3.mp q))) c6) (fun c6 => ?_)
  refine x_ldc (pc' := 11) kc_X9_102 dX9_rule_9 rfl ?_
  exact x_iret rfl dX9_rule_11 rfl
set_option maxRecDepth 100000 in
set_option maxHeartbeats 4000000 in
theorem d_X9_grid {σ : St} {v : Nat → Int32} {U : Nat} {t : Nat → Nat → Int32} (h : SR σ 0 v) (hA : ∀ s, s < 19 → Sh σ s) (ht : HistC σ U t) {p : Int32} {X Y S C R : Nat} (hp : gPar v p) (hX : X ≤ 1000) (hY : Y ≤ 1000) (hS1 : 1 ≤ S) (hS : S ≤ 64) (hC2 : 2 ≤ C) (hC5 : C ≤ 5) (hR2 : 2 ≤ R) (hR5 : R ≤ 5) (hw : X + (C - 1) * S ≤ 1000) (hh : Y + (R - 1) * S ≤ 1000) (hm : mayS v p X Y S ((C - 1) * S) ((R - 1) * S)) (hN6 : cN v < 6) : ∃ σ', Ct yX9_grid M_X9_grid [.ref 0, .int p, .int (nI X), .int (nI Y), .int (nI S), .int (nI C), .int (nI R)] σ (some (.int (nI (cN v))), σ') ∧ SR σ' 0 (adV v p X Y S C R) ∧ HistC σ' (min (U + 1) 16) (pushT v t) ∧ FrD σ σ' := by
  have hR : Rp σ 29 v := h.2
  have hv := hR.2.2
  have h6 := hv.c6
  obtain ⟨hk0, hk1, hk2⟩ := id hR.1
  have hn := hR.n
  have hp2 : p = -1 ∨ ∃ P, P < cN v ∧ p = nI P := hp.imp id (fun q => grS_nat hv q)
  have w4 : (C - 1) * S ≤ 4 * 64 := Nat.mul_le_mul (by omega) hS
  have h4 : (R - 1) * S ≤ 4 * 64 := Nat.mul_le_mul (by omega) hS
  have hgB : gB (nI X) (nI Y) (nI S) (nI C) (nI R) := by
    refine ⟨⟨⟨nI_pos' (by omega), nI_le (b := 1000) hX (by decide)⟩, ⟨nI_pos' (by omega), nI_le (b := 1000) hY (by decide)⟩, ⟨nI_le (a := 1) hS1 (by omega), nI_le (b := 64) hS (by decide)⟩, ⟨nI_le (a := 2) hC2 (by omega), nI_le (b := 5) hC5 (by decide)⟩, nI_le (a := 2) hR2 (by omega), nI_le (b := 5) hR5 (by decide)⟩, ?_, ?_⟩
    · rw [nI_lin (by omega)]; exact nI_le (b := 1000) hw (by decide)
    · rw [nI_lin (by omega)]; exact nI_le (b := 1000) hh (by decide)
  obtain ⟨τ, hE1, a1, a2, a3, a4⟩ := c_X5_push h hA ht
  have q1 : τ.2.2 30 = σ.2.2 30 := by rw [a4]
  obtain ⟨ρ, hE2, b1, b2, b3⟩ := c_X8_add a1 hN6 hC5 hR5 (ad_ok hv hp hX hY hS1 hS hC2 hC5 hR2 hR5 hw hh hm hN6)
  refine ⟨_, ?_, b1, a2.ch b2, a3.trans b2.fr⟩
  have hrest : Ex M_X9_grid (some (.int (nI (cN v))), ρ) 19 [some (.ref 0), some (.int p), some (.int (nI X)), some (.int (nI Y)), some (.int (nI S)), some (.int (nI C)), some (.int (nI R)), none, none] [] σ := by
    refine x_iload_n (pc' := 20) rfl dX9_grid_19 rfl ?_
    refine x_iload_n (pc' := 21) rfl dX9_grid_20 rfl ?_
    refine x_iload (pc' := 23) rfl dX9_grid_21 rfl ?_
    refine x_iload (pc' := 25) rfl dX9_grid_23 rfl ?_
    refine x_iload (pc' := 27) rfl dX9_grid_25 rfl ?_
    refine x_callSi (As := [.int _, .int _, .int _, .int _, .int _]) (rest := []) (pc' := 30) rfl sk_X9_216 mk_X9_isGridWithin (by decide) rfl (Nat.le_of_ble_eq_true rfl) dX9_grid_27 rfl c_X9_isGridWithin ?_
    refine x_if_ne (tgt := 36) (pc' := 33) (by decide) dX9_grid_30 rfl (fun c30 => ?_) (fun c30 => absurd c30 (by rw [pb_1 hgB]; decide))
    refine x_iload_n (pc' := 37) rfl dX9_grid_36 rfl ?_
    refine x_iload (pc' := 39) rfl dX9_grid_37 rfl ?_
    refine x_iconst (v := 1) (pc' := 40) (by decide) dX9_grid_39 rfl ?_
    refine x_isub (pc' := 41) dX9_grid_40 rfl ?_
    refine x_iload (pc' := 43) rfl dX9_grid_41 rfl ?_
    refine x_imul (pc' := 44) dX9_grid_43 rfl ?_
    refine x_iadd (pc' := 45) dX9_grid_44 rfl ?_
    refine x_top (nI_lin (by omega)) ?_
    refine x_istore (lv' := [_, _, _, _, _, _, _, _, _]) (pc' := 47) (by decide) rfl dX9_grid_45 rfl ?_
    refine x_iload_n (pc' := 48) rfl dX9_grid_47 rfl ?_
    refine x_iload (pc' := 50) rfl dX9_grid_48 rfl ?_
    refine x_iconst (v := 1) (pc' := 51) (by decide) dX9_grid_50 rfl ?_
    refine x_isub (pc' := 52) dX9_grid_51 rfl ?_
    refine x_iload (pc' := 54) rfl dX9_grid_52 rfl ?_
    refine x_imul (pc' := 55) dX9_grid_54 rfl ?_
    refine x_iadd (pc' := 56) dX9_grid_55 rfl ?_
    refine x_top (nI_lin (by omega)) ?_
    refine x_istore (lv' := [_, _, _, _, _, _, _, _, _]) (pc' := 58) (by decide) rfl dX9_grid_56 rfl ?_
    refine x_aload_n (pc' := 59) rfl dX9_grid_58 rfl ?_
    refine x_get (v := .ref 29) (pc' := 62) fk_X9_12 (by first | assumption | exact ⟨by decide, rfl⟩) rfl dX9_grid_59 rfl ?_
    refine x_iload_n (pc' := 63) rfl dX9_grid_62 rfl ?_
    refine x_iload (pc' := 65) rfl dX9_grid_63 rfl ?_
    refine x_iload_n (pc' := 66) rfl dX9_grid_65 rfl ?_
    refine x_iload_n (pc' := 67) rfl dX9_grid_66 rfl ?_
    refine x_iload (pc' := 69) rfl dX9_grid_67 rfl ?_
    refine x_iload (pc' := 71) rfl dX9_grid_69 rfl ?_
    refine x_callVi (As := [.int _, .int _, .int _, .int _, .int _, .int _]) (rest := []) (ci := 7) (pc' := 74) rfl vk_X9_220 mk_X8_fitsParent (by decide) (by first | assumption | exact ⟨by decide, rfl⟩) (by decide) rfl (Nat.le_of_ble_eq_true rfl) dX9_grid_71 rfl (c_X8_fitsParent hR hp2 hS hX hY (by omega) (by omega)) ?_
    refine x_if_eq (tgt := 94) (pc' := 77) (by decide) dX9_grid_74 rfl (fun c74 => absurd c74 (by rw [pb_1 hm.1]; decide)) (fun c74 => ?_)
    refine x_aload_n (pc' := 78) rfl dX9_grid_77 rfl ?_
    refine x_get (v := .ref 29) (pc' := 81) fk_X9_12 (by first | assumption | exact ⟨by decide, rfl⟩) rfl dX9_grid_78 rfl ?_
    refine x_iload_n (pc' := 82) rfl dX9_grid_81 rfl ?_
    refine x_iload_n (pc' := 83) rfl dX9_grid_82 rfl ?_
    refine x_iload_n (pc' := 84) rfl dX9_grid_83 rfl ?_
    refine x_iload (pc' := 86) rfl dX9_grid_84 rfl ?_
    refine x_iload (pc' := 88) rfl dX9_grid_86 rfl ?_
    refine x_callVi (As := [.int _, .int _, .int _, .int _, .int _]) (rest := []) (ci := 7) (pc' := 91) rfl vk_X9_224 mk_X8_isApart (by decide) (by first | assumption | exact ⟨by decide, rfl⟩) (by decide) rfl (Nat.le_of_ble_eq_true rfl) dX9_grid_88 rfl (c_X8_isApart hR hX hY (by omega) (by omega)) ?_
    refine x_if_ne (tgt := 97) (pc' := 94) (by decide) dX9_grid_91 rfl (fun c91 => ?_) (fun c91 => absurd c91 (by rw [pb_1 hm.2]; decide))
    refine x_aload_n (pc' := 98) rfl dX9_grid_97 rfl ?_
    refine x_get (v := .ref 29) (pc' := 101) fk_X9_12 (by first | assumption | exact ⟨by decide, rfl⟩) rfl dX9_grid_98 rfl ?_
    refine x_callVi (As := []) (rest := []) (ci := 7) (pc' := 104) rfl vk_X9_61 mk_X8_size (by decide) (by first | assumption | exact ⟨by decide, rfl⟩) (by decide) rfl (Nat.le_of_ble_eq_true rfl) dX9_grid_101 rfl (c_X8_size hk0) ?_
    refine x_bipush (v := 6) (pc' := 106) (by decide) dX9_grid_104 rfl ?_
    refine x_icmp_lt (tgt := 112) (pc' := 109) (by decide) dX9_grid_106 rfl (fun c106 => ?_) (fun c106 => absurd (by rw [hn]; exact nI_lt (b := 6) hN6 (by decide)) c106)
    refine x_aload_n (pc' := 113) rfl dX9_grid_112 rfl ?_
    refine x_get (v := .ref 1) (pc' := 116) fk_X9_19 (by first | assumption | exact ⟨by decide, rfl⟩) rfl dX9_grid_113 rfl ?_
    refine x_aload_n (pc' := 117) rfl dX9_grid_116 rfl ?_
    refine x_get (v := .ref 29) (pc' := 120) fk_X9_12 (by first | assumption | exact ⟨by decide, rfl⟩) rfl dX9_grid_117 rfl ?_
    refine x_callVv (As := [.ref _]) (rest := []) (ci := 4) (pc' := 123) rfl vk_X9_229 mk_X5_push (by decide) (by first | assumption | exact ⟨by decide, rfl⟩) (by decide) rfl (Nat.le_of_ble_eq_true rfl) dX9_grid_120 rfl hE1 ?_
    refine x_aload_n (pc' := 124) rfl dX9_grid_123 rfl ?_
    refine x_get (v := .ref 29) (pc' := 127) fk_X9_12 (by first | assumption | exact ⟨by decide, rfl⟩) rfl dX9_grid_124 rfl ?_
    refine x_iload_n (pc' := 128) rfl dX9_grid_127 rfl ?_
    refine x_iload_n (pc' := 129) rfl dX9_grid_128 rfl ?_
    refine x_iload_n (pc' := 130) rfl dX9_grid_129 rfl ?_
    refine x_iload (pc' := 132) rfl dX9_grid_130 rfl ?_
    refine x_iload (pc' := 134) rfl dX9_grid_132 rfl ?_
    refine x_iload (pc' := 136) rfl dX9_grid_134 rfl ?_
    refine x_callVi (As := [.int _, .int _, .int _, .int _, .int _, .int _]) (rest := []) (ci := 7) (pc' := 139) rfl vk_X9_233 mk_X8_add (by decide) (by first | assumption | exact ⟨by decide, rfl⟩) (by decide) rfl (Nat.le_of_ble_eq_true rfl) dX9_grid_136 rfl hE2 ?_
    exact x_iret rfl dX9_grid_139 rfl
  rcases hp2 with hpe | ⟨P, hP, hpe⟩
  · refine ct_of (k := 2) rfl rfl rfl (Nat.le_of_ble_eq_true rfl) ?_
    refine x_iload_n (pc' := 1) rfl dX9_grid_0 rfl ?_
    refine x_iconst (v := (-1)) (pc' := 2) (by decide) dX9_grid_1 rfl ?_
    refine x_icmp_eq (tgt := 19) (pc' := 5) (by decide) dX9_grid_2 rfl (fun c2 => ?_) (fun c2 => absurd hpe c2)
    exact hrest
  · refine ct_of (k := 2) rfl rfl rfl (Nat.le_of_ble_eq_true rfl) ?_
    refine x_iload_n (pc' := 1) rfl dX9_grid_0 rfl ?_
    refine x_iconst (v := (-1)) (pc' := 2) (by decide) dX9_grid_1 rfl ?_
    refine x_icmp_eq (tgt := 19) (pc' := 5) (by decide) dX9_grid_2 rfl (fun c2 => absurd c2 (fun q => m1_ne P (by omega) (q.symm.trans hpe))) (fun c2 => ?_)
    refine x_aload_n (pc' := 6) rfl dX9_grid_5 rfl ?_
    refine x_get (v := .ref 29) (pc' := 9) fk_X9_12 (by first | assumption | exact ⟨by decide, rfl⟩) rfl dX9_grid_6 rfl ?_
    refine x_iload_n (pc' := 10) rfl dX9_grid_9 rfl ?_
    refine x_callVi (As := [.int _]) (rest := []) (ci := 7) (pc' := 13) rfl vk_X9_83 mk_X8_at (by decide) (by first | assumption | exact ⟨by decide, rfl⟩) (by decide) rfl (Nat.le_of_ble_eq_true rfl) dX9_grid_10 rfl (t_X8_at hR.1 hn h6 hpe hP) ?_
    refine x_ifnonnull (tgt := 19) (by decide) dX9_grid_13 ?_
    exact hrest
set_option maxRecDepth 100000 in
set_option maxHeartbeats 4000000 in
theorem f_X9_grid1 {σ : St} {v : Nat → Int32} (hR : Rp σ 29 v) {p : Int32} {X Y S C R : Nat} (hp : gPar v p) (hX : X ≤ 1000) (hY : Y ≤ 1000) (hS1 : 1 ≤ S) (hS : S ≤ 64) (hC2 : 2 ≤ C) (hC5 : C ≤ 5) (hR2 : 2 ≤ R) (hR5 : R ≤ 5) (hw : X + (C - 1) * S ≤ 1000) (hh : Y + (R - 1) * S ≤ 1000) (hno : ¬ (mayS v p X Y S ((C - 1) * S) ((R - 1) * S) ∧ cN v < 6)) : Ct yX9_grid M_X9_grid [.ref 0, .int p, .int (nI X), .int (nI Y), .int (nI S), .int (nI C), .int (nI R)] σ (some (.int (pif (mayS v p X Y S ((C - 1) * S) ((R - 1) * S)) (-1000000004) (-1000000003))), σ) := by
  have hv := hR.2.2
  have h6 := hv.c6
  obtain ⟨hk0, hk1, hk2⟩ := id hR.1
  have hn := hR.n
  have hp2 : p = -1 ∨ ∃ P, P < cN v ∧ p = nI P := hp.imp id (fun q => grS_nat hv q)
  have w4 : (C - 1) * S ≤ 4 * 64 := Nat.mul_le_mul (by omega) hS
  have h4 : (R - 1) * S ≤ 4 * 64 := Nat.mul_le_mul (by omega) hS
  have hgB : gB (nI X) (nI Y) (nI S) (nI C) (nI R) := by
    refine ⟨⟨⟨nI_pos' (by omega), nI_le (b := 1000) hX (by decide)⟩, ⟨nI_pos' (by omega), nI_le (b := 1000) hY (by decide)⟩, ⟨nI_le (a := 1) hS1 (by omega), nI_le (b := 64) hS (by decide)⟩, ⟨nI_le (a := 2) hC2 (by omega), nI_le (b := 5) hC5 (by decide)⟩, nI_le (a := 2) hR2 (by omega), nI_le (b := 5) hR5 (by decide)⟩, ?_, ?_⟩
    · rw [nI_lin (by omega)]; exact nI_le (b := 1000) hw (by decide)
    · rw [nI_lin (by omega)]; exact nI_le (b := 1000) hh (by decide)
  have hrest : Ex M_X9_grid (some (.int (pif (mayS v p X Y S ((C - 1) * S) ((R - 1) * S)) (-1000000004) (-1000000003))), σ) 19 [some (.ref 0), some (.int p), some (.int (nI X)), some (.int (nI Y)), some (.int (nI S)), some (.int (nI C)), some (.int (nI R)), none, none] [] σ := by
    by_cases hm : mayS v p X Y S ((C - 1) * S) ((R - 1) * S)
    · rw [pif_t hm]
      refine x_iload_n (pc' := 20) rfl dX9_grid_19 rfl ?_
      refine x_iload_n (pc' := 21) rfl dX9_grid_20 rfl ?_
      refine x_iload (pc' := 23) rfl dX9_grid_21 rfl ?_
      refine x_iload (pc' := 25) rfl dX9_grid_23 rfl ?_
      refine x_iload (pc' := 27) rfl dX9_grid_25 rfl ?_
      refine x_callSi (As := [.int _, .int _, .int _, .int _, .int _]) (rest := []) (pc' := 30) rfl sk_X9_216 mk_X9_isGridWithin (by decide) rfl (Nat.le_of_ble_eq_true rfl) dX9_grid_27 rfl c_X9_isGridWithin ?_
      refine x_if_ne (tgt := 36) (pc' := 33) (by decide) dX9_grid_30 rfl (fun c30 => ?_) (fun c30 => absurd c30 (by rw [pb_1 hgB]; decide))
      refine x_iload_n (pc' := 37) rfl dX9_grid_36 rfl ?_
      refine x_iload (pc' := 39) rfl dX9_grid_37 rfl ?_
      refine x_iconst (v := 1) (pc' := 40) (by decide) dX9_grid_39 rfl ?_
      refine x_isub (pc' := 41) dX9_grid_40 rfl ?_
      refine x_iload (pc' := 43) rfl dX9_grid_41 rfl ?_
      refine x_imul (pc' := 44) dX9_grid_43 rfl ?_
      refine x_iadd (pc' := 45) dX9_grid_44 rfl ?_
      refine x_top (nI_lin (by omega)) ?_
      refine x_istore (lv' := [_, _, _, _, _, _, _, _, _]) (pc' := 47) (by decide) rfl dX9_grid_45 rfl ?_
      refine x_iload_n (pc' := 48) rfl dX9_grid_47 rfl ?_
      refine x_iload (pc' := 50) rfl dX9_grid_48 rfl ?_
      refine x_iconst (v := 1) (pc' := 51) (by decide) dX9_grid_50 rfl ?_
      refine x_isub (pc' := 52) dX9_grid_51 rfl ?_
      refine x_iload (pc' := 54) rfl dX9_grid_52 rfl ?_
      refine x_imul (pc' := 55) dX9_grid_54 rfl ?_
      refine x_iadd (pc' := 56) dX9_grid_55 rfl ?_
      refine x_top (nI_lin (by omega)) ?_
      refine x_istore (lv' := [_, _, _, _, _, _, _, _, _]) (pc' := 58) (by decide) rfl dX9_grid_56 rfl ?_
      refine x_aload_n (pc' := 59) rfl dX9_grid_58 rfl ?_
      refine x_get (v := .ref 29) (pc' := 62) fk_X9_12 (by first | assumption | exact ⟨by decide, rfl⟩) rfl dX9_grid_59 rfl ?_
      refine x_iload_n (pc' := 63) rfl dX9_grid_62 rfl ?_
      refine x_iload (pc' := 65) rfl dX9_grid_63 rfl ?_
      refine x_iload_n (pc' := 66) rfl dX9_grid_65 rfl ?_
      refine x_iload_n (pc' := 67) rfl dX9_grid_66 rfl ?_
      refine x_iload (pc' := 69) rfl dX9_grid_67 rfl ?_
      refine x_iload (pc' := 71) rfl dX9_grid_69 rfl ?_
      refine x_callVi (As := [.int _, .int _, .int _, .int _, .int _, .int _]) (rest := []) (ci := 7) (pc' := 74) rfl vk_X9_220 mk_X8_fitsParent (by decide) (by first | assumption | exact ⟨by decide, rfl⟩) (by decide) rfl (Nat.le_of_ble_eq_true rfl) dX9_grid_71 rfl (c_X8_fitsParent hR hp2 hS hX hY (by omega) (by omega)) ?_
      refine x_if_eq (tgt := 94) (pc' := 77) (by decide) dX9_grid_74 rfl (fun c74 => absurd c74 (by rw [pb_1 hm.1]; decide)) (fun c74 => ?_)
      refine x_aload_n (pc' := 78) rfl dX9_grid_77 rfl ?_
      refine x_get (v := .ref 29) (pc' := 81) fk_X9_12 (by first | assumption | exact ⟨by decide, rfl⟩) rfl dX9_grid_78 rfl ?_
      refine x_iload_n (pc' := 82) rfl dX9_grid_81 rfl ?_
      refine x_iload_n (pc' := 83) rfl dX9_grid_82 rfl ?_
      refine x_iload_n (pc' := 84) rfl dX9_grid_83 rfl ?_
      refine x_iload (pc' := 86) rfl dX9_grid_84 rfl ?_
      refine x_iload (pc' := 88) rfl dX9_grid_86 rfl ?_
      refine x_callVi (As := [.int _, .int _, .int _, .int _, .int _]) (rest := []) (ci := 7) (pc' := 91) rfl vk_X9_224 mk_X8_isApart (by decide) (by first | assumption | exact ⟨by decide, rfl⟩) (by decide) rfl (Nat.le_of_ble_eq_true rfl) dX9_grid_88 rfl (c_X8_isApart hR hX hY (by omega) (by omega)) ?_
      refine x_if_ne (tgt := 97) (pc' := 94) (by decide) dX9_grid_91 rfl (fun c91 => ?_) (fun c91 => absurd c91 (by rw [pb_1 hm.2]; decide))
      refine x_aload_n (pc' := 98) rfl dX9_grid_97 rfl ?_
      refine x_get (v := .ref 29) (pc' := 101) fk_X9_12 (by first | assumption | exact ⟨by decide, rfl⟩) rfl dX9_grid_98 rfl ?_
      refine x_callVi (As := []) (rest := []) (ci := 7) (pc' := 104) rfl vk_X9_61 mk_X8_size (by decide) (by first | assumption | exact ⟨by decide, rfl⟩) (by decide) rfl (Nat.le_of_ble_eq_true rfl) dX9_grid_101 rfl (c_X8_size hk0) ?_
      refine x_bipush (v := 6) (pc' := 106) (by decide) dX9_grid_104 rfl ?_
      refine x_icmp_lt (tgt := 112) (pc' := 109) (by decide) dX9_grid_106 rfl (fun c106 => absurd c106 (by rw [hn]; exact nI_nlt (b := 6) (Nat.le_of_not_lt (fun q => hno ⟨hm, q⟩)) (by omega))) (fun c106 => ?_)
      refine x_ldc (pc' := 111) kc_X9_228 dX9_grid_109 rfl ?_
      exact x_iret rfl dX9_grid_111 rfl
    · rw [pif_f hm]
      by_cases hm1 : p = -1 ∨ inP v p.toNatClampNeg X Y S ((C - 1) * S) ((R - 1) * S)
      · have hm2 : ¬ apF v p X Y ((C - 1) * S) ((R - 1) * S) 0 := fun q => hm ⟨hm1, q⟩
        refine x_iload_n (pc' := 20) rfl dX9_grid_19 rfl ?_
        refine x_iload_n (pc' := 21) rfl dX9_grid_20 rfl ?_
        refine x_iload (pc' := 23) rfl dX9_grid_21 rfl ?_
        refine x_iload (pc' := 25) rfl dX9_grid_23 rfl ?_
        refine x_iload (pc' := 27) rfl dX9_grid_25 rfl ?_
        refine x_callSi (As := [.int _, .int _, .int _, .int _, .int _]) (rest := []) (pc' := 30) rfl sk_X9_216 mk_X9_isGridWithin (by decide) rfl (Nat.le_of_ble_eq_true rfl) dX9_grid_27 rfl c_X9_isGridWithin ?_
        refine x_if_ne (tgt := 36) (pc' := 33) (by decide) dX9_grid_30 rfl (fun c30 => ?_) (fun c30 => absurd c30 (by rw [pb_1 hgB]; decide))
        refine x_iload_n (pc' := 37) rfl dX9_grid_36 rfl ?_
        refine x_iload (pc' := 39) rfl dX9_grid_37 rfl ?_
        refine x_iconst (v := 1) (pc' := 40) (by decide) dX9_grid_39 rfl ?_
        refine x_isub (pc' := 41) dX9_grid_40 rfl ?_
        refine x_iload (pc' := 43) rfl dX9_grid_41 rfl ?_
        refine x_imul (pc' := 44) dX9_grid_43 rfl ?_
        refine x_iadd (pc' := 45) dX9_grid_44 rfl ?_
        refine x_top (nI_lin (by omega)) ?_
        refine x_istore (lv' := [_, _, _, _, _, _, _, _, _]) (pc' := 47) (by decide) rfl dX9_grid_45 rfl ?_
        refine x_iload_n (pc' := 48) rfl dX9_grid_47 rfl ?_
        refine x_iload (pc' := 50) rfl dX9_grid_48 rfl ?_
        refine x_iconst (v := 1) (pc' := 51) (by decide) dX9_grid_50 rfl ?_
        refine x_isub (pc' := 52) dX9_grid_51 rfl ?_
        refine x_iload (pc' := 54) rfl dX9_grid_52 rfl ?_
        refine x_imul (pc' := 55) dX9_grid_54 rfl ?_
        refine x_iadd (pc' := 56) dX9_grid_55 rfl ?_
        refine x_top (nI_lin (by omega)) ?_
        refine x_istore (lv' := [_, _, _, _, _, _, _, _, _]) (pc' := 58) (by decide) rfl dX9_grid_56 rfl ?_
        refine x_aload_n (pc' := 59) rfl dX9_grid_58 rfl ?_
        refine x_get (v := .ref 29) (pc' := 62) fk_X9_12 (by first | assumption | exact ⟨by decide, rfl⟩) rfl dX9_grid_59 rfl ?_
        refine x_iload_n (pc' := 63) rfl dX9_grid_62 rfl ?_
        refine x_iload (pc' := 65) rfl dX9_grid_63 rfl ?_
        refine x_iload_n (pc' := 66) rfl dX9_grid_65 rfl ?_
        refine x_iload_n (pc' := 67) rfl dX9_grid_66 rfl ?_
        refine x_iload (pc' := 69) rfl dX9_grid_67 rfl ?_
        refine x_iload (pc' := 71) rfl dX9_grid_69 rfl ?_
        refine x_callVi (As := [.int _, .int _, .int _, .int _, .int _, .int _]) (rest := []) (ci := 7) (pc' := 74) rfl vk_X9_220 mk_X8_fitsParent (by decide) (by first | assumption | exact ⟨by decide, rfl⟩) (by decide) rfl (Nat.le_of_ble_eq_true rfl) dX9_grid_71 rfl (c_X8_fitsParent hR hp2 hS hX hY (by omega) (by omega)) ?_
        refine x_if_eq (tgt := 94) (pc' := 77) (by decide) dX9_grid_74 rfl (fun c74 => absurd c74 (by rw [pb_1 hm1]; decide)) (fun c74 => ?_)
        refine x_aload_n (pc' := 78) rfl dX9_grid_77 rfl ?_
        refine x_get (v := .ref 29) (pc' := 81) fk_X9_12 (by first | assumption | exact ⟨by decide, rfl⟩) rfl dX9_grid_78 rfl ?_
        refine x_iload_n (pc' := 82) rfl dX9_grid_81 rfl ?_
        refine x_iload_n (pc' := 83) rfl dX9_grid_82 rfl ?_
        refine x_iload_n (pc' := 84) rfl dX9_grid_83 rfl ?_
        refine x_iload (pc' := 86) rfl dX9_grid_84 rfl ?_
        refine x_iload (pc' := 88) rfl dX9_grid_86 rfl ?_
        refine x_callVi (As := [.int _, .int _, .int _, .int _, .int _]) (rest := []) (ci := 7) (pc' := 91) rfl vk_X9_224 mk_X8_isApart (by decide) (by first | assumption | exact ⟨by decide, rfl⟩) (by decide) rfl (Nat.le_of_ble_eq_true rfl) dX9_grid_88 rfl (c_X8_isApart hR hX hY (by omega) (by omega)) ?_
        refine x_if_ne (tgt := 97) (pc' := 94) (by decide) dX9_grid_91 rfl (fun c91 => absurd (pb_0 hm2) c91) (fun c91 => ?_)
        refine x_ldc (pc' := 96) kc_X9_227 dX9_grid_94 rfl ?_
        exact x_iret rfl dX9_grid_96 rfl
      · refine x_iload_n (pc' := 20) rfl dX9_grid_19 rfl ?_
        refine x_iload_n (pc' := 21) rfl dX9_grid_20 rfl ?_
        refine x_iload (pc' := 23) rfl dX9_grid_21 rfl ?_
        refine x_iload (pc' := 25) rfl dX9_grid_23 rfl ?_
        refine x_iload (pc' := 27) rfl dX9_grid_25 rfl ?_
        refine x_callSi (As := [.int _, .int _, .int _, .int _, .int _]) (rest := []) (pc' := 30) rfl sk_X9_216 mk_X9_isGridWithin (by decide) rfl (Nat.le_of_ble_eq_true rfl) dX9_grid_27 rfl c_X9_isGridWithin ?_
        refine x_if_ne (tgt := 36) (pc' := 33) (by decide) dX9_grid_30 rfl (fun c30 => ?_) (fun c30 => absurd c30 (by rw [pb_1 hgB]; decide))
        refine x_iload_n (pc' := 37) rfl dX9_grid_36 rfl ?_
        refine x_iload (pc' := 39) rfl dX9_grid_37 rfl ?_
        refine x_iconst (v := 1) (pc' := 40) (by decide) dX9_grid_39 rfl ?_
        refine x_isub (pc' := 41) dX9_grid_40 rfl ?_
        refine x_iload (pc' := 43) rfl dX9_grid_41 rfl ?_
        refine x_imul (pc' := 44) dX9_grid_43 rfl ?_
        refine x_iadd (pc' := 45) dX9_grid_44 rfl ?_
        refine x_top (nI_lin (by omega)) ?_
        refine x_istore (lv' := [_, _, _, _, _, _, _, _, _]) (pc' := 47) (by decide) rfl dX9_grid_45 rfl ?_
        refine x_iload_n (pc' := 48) rfl dX9_grid_47 rfl ?_
        refine x_iload (pc' := 50) rfl dX9_grid_48 rfl ?_
        refine x_iconst (v := 1) (pc' := 51) (by decide) dX9_grid_50 rfl ?_
        refine x_isub (pc' := 52) dX9_grid_51 rfl ?_
        refine x_iload (pc' := 54) rfl dX9_grid_52 rfl ?_
        refine x_imul (pc' := 55) dX9_grid_54 rfl ?_
        refine x_iadd (pc' := 56) dX9_grid_55 rfl ?_
        refine x_top (nI_lin (by omega)) ?_
        refine x_istore (lv' := [_, _, _, _, _, _, _, _, _]) (pc' := 58) (by decide) rfl dX9_grid_56 rfl ?_
        refine x_aload_n (pc' := 59) rfl dX9_grid_58 rfl ?_
        refine x_get (v := .ref 29) (pc' := 62) fk_X9_12 (by first | assumption | exact ⟨by decide, rfl⟩) rfl dX9_grid_59 rfl ?_
        refine x_iload_n (pc' := 63) rfl dX9_grid_62 rfl ?_
        refine x_iload (pc' := 65) rfl dX9_grid_63 rfl ?_
        refine x_iload_n (pc' := 66) rfl dX9_grid_65 rfl ?_
        refine x_iload_n (pc' := 67) rfl dX9_grid_66 rfl ?_
        refine x_iload (pc' := 69) rfl dX9_grid_67 rfl ?_
        refine x_iload (pc' := 71) rfl dX9_grid_69 rfl ?_
        refine x_callVi (As := [.int _, .int _, .int _, .int _, .int _, .int _]) (rest := []) (ci := 7) (pc' := 74) rfl vk_X9_220 mk_X8_fitsParent (by decide) (by first | assumption | exact ⟨by decide, rfl⟩) (by decide) rfl (Nat.le_of_ble_eq_true rfl) dX9_grid_71 rfl (c_X8_fitsParent hR hp2 hS hX hY (by omega) (by omega)) ?_
        refine x_if_eq (tgt := 94) (pc' := 77) (by decide) dX9_grid_74 rfl (fun c74 => ?_) (fun c74 => absurd (pb_0 hm1) c74)
        refine x_ldc (pc' := 96) kc_X9_227 dX9_grid_94 rfl ?_
        exact x_iret rfl dX9_grid_96 rfl
  rcases hp2 with hpe | ⟨P, hP, hpe⟩
  · refine ct_of (k := 2) rfl rfl rfl (Nat.le_of_ble_eq_true rfl) ?_
    refine x_iload_n (pc' := 1) rfl dX9_grid_0 rfl ?_
    refine x_iconst (v := (-1)) (pc' := 2) (by decide) dX9_grid_1 rfl ?_
    refine x_icmp_eq (tgt := 19) (pc' := 5) (by decide) dX9_grid_2 rfl (fun c2 => ?_) (fun c2 => absurd hpe c2)
    exact hrest
  · refine ct_of (k := 2) rfl rfl rfl (Nat.le_of_ble_eq_true rfl) ?_
    refine x_iload_n (pc' := 1) rfl dX9_grid_0 rfl ?_
    refine x_iconst (v := (-1)) (pc' := 2) (by decide) dX9_grid_1 rfl ?_
    refine x_icmp_eq (tgt := 19) (pc' := 5) (by decide) dX9_grid_2 rfl (fun c2 => absurd c2 (fun q => m1_ne P (by omega) (q.symm.trans hpe))) (fun c2 => ?_)
    refine x_aload_n (pc' := 6) rfl dX9_grid_5 rfl ?_
    refine x_get (v := .ref 29) (pc' := 9) fk_X9_12 (by first | assumption | exact ⟨by decide, rfl⟩) rfl dX9_grid_6 rfl ?_
    refine x_iload_n (pc' := 10) rfl dX9_grid_9 rfl ?_
    refine x_callVi (As := [.int _]) (rest := []) (ci := 7) (pc' := 13) rfl vk_X9_83 mk_X8_at (by decide) (by first | assumption | exact ⟨by decide, rfl⟩) (by decide) rfl (Nat.le_of_ble_eq_true rfl) dX9_grid_10 rfl (t_X8_at hR.1 hn h6 hpe hP) ?_
    refine x_ifnonnull (tgt := 19) (by decide) dX9_grid_13 ?_
    exact hrest
set_option maxRecDepth 100000 in
set_option maxHeartbeats 4000000 in
theorem f_X9_grid {σ : St} {v : Nat → Int32} (hR : Rp σ 29 v) {p x y s c r : Int32} (hno : ¬ (gPar v p ∧ gB x y s c r ∧ gMay v p x y s c r ∧ cN v < 6)) : Ct yX9_grid M_X9_grid [.ref 0, .int p, .int x, .int y, .int s, .int c, .int r] σ (some (.int (pif (gPar v p) (pif (gB x y s c r) (pif (gMay v p x y s c r) (-1000000004) (-1000000003)) (-1000000002)) (-1000000001))), σ) := by
  have hv := hR.2.2
  have h6 := hv.c6
  obtain ⟨hk0, hk1, hk2⟩ := id hR.1
  have hn := hR.n
  by_cases hp : gPar v p

  · rw [pif_t hp]
    by_cases hb : gB x y s c r
    · rw [pif_t hb]
      obtain ⟨X, Y, S, C, R, rfl, rfl, rfl, rfl, rfl, hX, hY, hS1, hS, hC2, hC5, hR2, hR5, hw, hh⟩ := gB_nat hb
      have e : gMay v p (nI X) (nI Y) (nI S) (nI C) (nI R) ↔ mayS v p X Y S ((C - 1) * S) ((R - 1) * S) := by
        unfold gMay
        rw [nI_clamp (by omega), nI_clamp (by omega), nI_clamp (by omega), nI_clamp (by omega), nI_clamp (by omega)]
      rw [e] at hno
      rw [propext e]
      exact f_X9_grid1 hR hp hX hY hS1 hS hC2 hC5 hR2 hR5 hw hh (fun q => hno ⟨hp, hb, q⟩)
    · rw [pif_f hb]
      have hp2 : p = -1 ∨ ∃ P, P < cN v ∧ p = nI P := hp.imp id (fun q => grS_nat hv q)
      have hrest : Ex M_X9_grid (some (.int (-1000000002)), σ) 19 [some (.ref 0), some (.int p), some (.int x), some (.int y), some (.int s), some (.int c), some (.int r), none, none] [] σ := by
        refine x_iload_n (pc' := 20) rfl dX9_grid_19 rfl ?_
        refine x_iload_n (pc' := 21) rfl dX9_grid_20 rfl ?_
        refine x_iload (pc' := 23) rfl dX9_grid_21 rfl ?_
        refine x_iload (pc' := 25) rfl dX9_grid_23 rfl ?_
        refine x_iload (pc' := 27) rfl dX9_grid_25 rfl ?_
        refine x_callSi (As := [.int _, .int _, .int _, .int _, .int _]) (rest := []) (pc' := 30) rfl sk_X9_216 mk_X9_isGridWithin (by decide) rfl (Nat.le_of_ble_eq_true rfl) dX9_grid_27 rfl c_X9_isGridWithin ?_
        refine x_if_ne (tgt := 36) (pc' := 33) (by decide) dX9_grid_30 rfl (fun c30 => absurd (pb_0 hb) c30) (fun c30 => ?_)
        refine x_ldc (pc' := 35) kc_X9_102 dX9_grid_33 rfl ?_
        exact x_iret rfl dX9_grid_35 rfl
      rcases hp2 with hpe | ⟨P, hP, hpe⟩
      · refine ct_of (k := 2) rfl rfl rfl (Nat.le_of_ble_eq_true rfl) ?_
        refine x_iload_n (pc' := 1) rfl dX9_grid_0 rfl ?_
        refine x_iconst (v := (-1)) (pc' := 2) (by decide) dX9_grid_1 rfl ?_
        refine x_icmp_eq (tgt := 19) (pc' := 5) (by decide) dX9_grid_2 rfl (fun c2 => ?_) (fun c2 => absurd hpe c2)
        exact hrest
      · refine ct_of (k := 2) rfl rfl rfl (Nat.le_of_ble_eq_true rfl) ?_
        refine x_iload_n (pc' := 1) rfl dX9_grid_0 rfl ?_
        refine x_iconst (v := (-1)) (pc' := 2) (by decide) dX9_grid_1 rfl ?_
        refine x_icmp_eq (tgt := 19) (pc' := 5) (by decide) dX9_grid_2 rfl (fun c2 => absurd c2 (fun q => m1_ne P (by omega) (q.symm.trans hpe))) (fun c2 => ?_)
        refine x_aload_n (pc' := 6) rfl dX9_grid_5 rfl ?_
        refine x_get (v := .ref 29) (pc' := 9) fk_X9_12 (by first | assumption | exact ⟨by decide, rfl⟩) rfl dX9_grid_6 rfl ?_
        refine x_iload_n (pc' := 10) rfl dX9_grid_9 rfl ?_
        refine x_callVi (As := [.int _]) (rest := []) (ci := 7) (pc' := 13) rfl vk_X9_83 mk_X8_at (by decide) (by first | assumption | exact ⟨by decide, rfl⟩) (by decide) rfl (Nat.le_of_ble_eq_true rfl) dX9_grid_10 rfl (t_X8_at hR.1 hn h6 hpe hP) ?_
        refine x_ifnonnull (tgt := 19) (by decide) dX9_grid_13 ?_
        exact hrest
  · rw [pif_f hp]
    refine ct_of (k := 2) rfl rfl rfl (Nat.le_of_ble_eq_true rfl) ?_
    refine x_iload_n (pc' := 1) rfl dX9_grid_0 rfl ?_
    refine x_iconst (v := (-1)) (pc' := 2) (by decide) dX9_grid_1 rfl ?_
    refine x_icmp_eq (tgt := 19) (pc' := 5) (by decide) dX9_grid_2 rfl (fun c2 => absurd c2 (fun q => hp (Or.inl q))) (fun c2 => ?_)
    refine x_aload_n (pc' := 6) rfl dX9_grid_5 rfl ?_
    refine x_get (v := .ref 29) (pc' := 9) fk_X9_12 (by first | assumption | exact ⟨by decide, rfl⟩) rfl dX9_grid_6 rfl ?_
    refine x_iload_n (pc' := 10) rfl dX9_grid_9 rfl ?_
    refine x_callVi (As := [.int _]) (rest := []) (ci := 7) (pc' := 13) rfl vk_X9_83 mk_X8_at (by decide) (by first | assumption | exact ⟨by decide, rfl⟩) (by decide) rfl (Nat.le_of_ble_eq_true rfl) dX9_grid_10 rfl (f_X8_at hR.1 hn h6 (fun q => (fun q => hp (Or.inr q)) ((grS_iff hv).mp q))) ?_
    refine x_ifnonnullN (pc' := 16) dX9_grid_13 rfl ?_
    refine x_ldc (pc' := 18) kc_X9_103 dX9_grid_16 rfl ?_
    exact x_iret rfl dX9_grid_18 rfl
