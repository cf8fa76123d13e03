theorem i_lt0 {x : Int32} (h : x < 0) : x.toInt < 0 := (sI_lt _ _).mp h
def grS (v : Nat → Int32) (g : Int32) : Prop := 0 ≤ g ∧ g < v 0
theorem grS_nat {v : Nat → Int32} (hv : Ok v) {g : Int32} (h : grS v g) : ∃ G, G < cN v ∧ g = nI G := by
  have h6 := hv.c6
  obtain ⟨h1, h2⟩ := h
  rw [hv.c0] at h2
  exact i_in (by omega) h1 h2
theorem grS_iff {v : Nat → Int32} (hv : Ok v) {g : Int32} : (0 ≤ g ∧ g < nI (cN v)) ↔ grS v g := by rw [grS, hv.c0]
def nodS (v : Nat → Int32) (g c r : Int32) : Prop := grS v g ∧ (0 ≤ c ∧ c < v (2 + 6 * g.toNatClampNeg + 4)) ∧ 0 ≤ r ∧ r < v (2 + 6 * g.toNatClampNeg + 5)
def celS (v : Nat → Int32) (g c r : Int32) : Prop := grS v g ∧ (0 ≤ c ∧ c < v (2 + 6 * g.toNatClampNeg + 4) - 1) ∧ 0 ≤ r ∧ r < v (2 + 6 * g.toNatClampNeg + 5) - 1
theorem nodS_nat {v : Nat → Int32} (hv : Ok v) {g c r : Int32} (h : nodS v g c r) : ∃ G K R, G < cN v ∧ K < fN v G 4 ∧ R < fN v G 5 ∧ g = nI G ∧ c = nI K ∧ r = nI R := by
  obtain ⟨hg, ⟨c1, c2⟩, r1, r2⟩ := h
  obtain ⟨G, hG, rfl⟩ := grS_nat hv hg
  have hf := hv.F hG
  obtain ⟨g6, c5, r5, -⟩ := hv.b hG
  rw [nI_clamp (by omega), hf.at (by omega) (by omega)] at c2 r2
  obtain ⟨K, hK, rfl⟩ := i_in (by omega) c1 c2
  obtain ⟨R, hR, rfl⟩ := i_in (by omega) r1 r2
  exact ⟨G, K, R, hG, hK, hR, rfl, rfl, rfl⟩
theorem celS_nat {v : Nat → Int32} (hv : Ok v) {g c r : Int32} (h : celS v g c r) : ∃ G K R, G < cN v ∧ K + 1 < fN v G 4 ∧ R + 1 < fN v G 5 ∧ g = nI G ∧ c = nI K ∧ r = nI R := by
  obtain ⟨hg, ⟨c1, c2⟩, r1, r2⟩ := h
  obtain ⟨G, hG, rfl⟩ := grS_nat hv hg
  have hf := hv.F hG
  obtain ⟨g6, c5, r5, k2, l2, -⟩ := hv.b hG
  rw [nI_clamp (by omega), hf.at (by omega) (by omega), show nI (fN v G 4) - 1 = nI (fN v G 4 - 1) from pk_sub (b := 1) (by omega)] at c2
  rw [nI_clamp (by omega), hf.at (by omega) (by omega), show nI (fN v G 5) - 1 = nI (fN v G 5 - 1) from pk_sub (b := 1) (by omega)] at r2
  obtain ⟨K, hK, rfl⟩ := i_in (by omega) c1 c2
  obtain ⟨R, hR, rfl⟩ := i_in (by omega) r1 r2
  exact ⟨G, K, R, hG, by omega, by omega, rfl, rfl, rfl⟩
theorem in_n2 (g : Int32) {N : Nat} (h : N < 2 ^ 30) (h1 : 2 ≤ N) : (0 ≤ g.toInt64 ∧ g.toInt64 ≤ (nI N - 2).toInt64) ↔ (0 ≤ g ∧ g < nI N - 1) := by
  rw [show nI N - 2 = nI (N - 2) from pk_sub (b := 2) h1, show nI N - 1 = nI (N - 1) from pk_sub (b := 1) (by omega), sL_le, sL_le, sI_le, sI_lt, Int32.toInt_toInt64, Int32.toInt_toInt64, nI_toInt (by omega), nI_toInt (by omega)]
  have h0 : (0 : Int64).toInt = 0 := rfl
  have h1 : (0 : Int32).toInt = 0 := rfl
  omega
set_option maxRecDepth 100000 in
set_option maxHeartbeats 4000000 in
theorem c_X10_isNode {σ : St} {g c r : Int32} (hv : Ok (σ.1 19)) : Ct yX10_isNode M_X10_isNode [.ref 18, .int g, .int c, .int r] σ (some (.int (pb (nodS (σ.1 19) g c r))), σ) := by
  have h6 := hv.c6
  refine ct_of (k := 0) rfl rfl rfl (Nat.le_of_ble_eq_true rfl) ?_
  by_cases hg : grS (σ.1 19) g
  · obtain ⟨G, hG, hgG⟩ := grS_nat hv hg
    obtain ⟨g6, c5, r5, k2, l2, s1, s64⟩ := hv.b hG
    have hf := hv.F hG
    have hcl : g.toNatClampNeg = G := by rw [hgG, nI_clamp (by omega)]
    have ec : (0 ≤ c.toInt64 ∧ c.toInt64 ≤ (σ.1 19 (2 + 6 * G + 4) - 1).toInt64) ↔ (0 ≤ c ∧ c < σ.1 19 (2 + 6 * G + 4)) := by rw [hf.at (by omega) (by omega)]; exact in_n _ (by omega)
    have er : (0 ≤ r.toInt64 ∧ r.toInt64 ≤ (σ.1 19 (2 + 6 * G + 5) - 1).toInt64) ↔ (0 ≤ r ∧ r < σ.1 19 (2 + 6 * G + 5)) := by rw [hf.at (by omega) (by omega)]; exact in_n _ (by omega)
    refine x_aload_n (pc' := 1) rfl dX10_isNode_0 rfl ?_
    refine x_iload_n (pc' := 2) rfl dX10_isNode_1 rfl ?_
    refine x_callVi (As := [.int _]) (rest := []) (ci := 9) (pc' := 5) rfl vk_X10_54 mk_X10_isGrid (by decide) (by first | assumption | exact ⟨by decide, rfl⟩) (by decide) rfl (Nat.le_of_ble_eq_true rfl) dX10_isNode_2 rfl (c_X10_isGrid hv.c0 hv.c6) ?_
    refine x_if_eq (tgt := 48) (pc' := 8) (by decide) dX10_isNode_5 rfl (fun c5 => absurd c5 (by rw [b1 ((grS_iff hv).mpr hg)]; decide)) (fun c5 => ?_)
    refine x_iload_n (pc' := 9) rfl dX10_isNode_8 rfl ?_
    refine x_i2l (pc' := 10) dX10_isNode_9 rfl ?_
    refine x_lconst (v := 0) (pc' := 11) (by decide) dX10_isNode_10 rfl ?_
    refine x_aload_n (pc' := 12) rfl dX10_isNode_11 rfl ?_
    refine x_iload_n (pc' := 13) rfl dX10_isNode_12 rfl ?_
    refine x_iconst (v := 4) (pc' := 14) (by decide) dX10_isNode_13 rfl ?_
    refine x_callVi (As := [.int _, .int _]) (rest := [.long _, .long _]) (ci := 9) (pc' := 17) rfl vk_X10_58 mk_X10_its (by decide) (by first | assumption | exact ⟨by decide, rfl⟩) (by decide) rfl (Nat.le_of_ble_eq_true rfl) dX10_isNode_14 rfl (c_X10_its (E := 4) hgG rfl (by omega)) ?_
    refine x_iconst (v := 1) (pc' := 18) (by decide) dX10_isNode_17 rfl ?_
    refine x_isub (pc' := 19) dX10_isNode_18 rfl ?_
    refine x_i2l (pc' := 20) dX10_isNode_19 rfl ?_
    refine x_callSi (As := [.long _, .long _, .long _]) (rest := []) (pc' := 23) rfl sk_X10_50 mk_X10_in (by decide) rfl (Nat.le_of_ble_eq_true rfl) dX10_isNode_20 rfl c_X10_in ?_
    refine x_if_eq (tgt := 48) (pc' := 26) (by decide) dX10_isNode_23 rfl (fun c23 => ?_) (fun c23 => ?_)
    · refine x_iconst (v := 0) (pc' := 49) (by decide) dX10_isNode_48 rfl ?_
      exact x_zret rfl (by first | rfl | exact b01_nar _ | exact pb_nar _) dX10_isNode_49 (ret_i (pb_0 (fun q => by rw [nodS, hcl] at q; exact b01_0.mp c23 (ec.mpr q.2.1))).symm)
    · refine x_iload_n (pc' := 27) rfl dX10_isNode_26 rfl ?_
      refine x_i2l (pc' := 28) dX10_isNode_27 rfl ?_
      refine x_lconst (v := 0) (pc' := 29) (by decide) dX10_isNode_28 rfl ?_
      refine x_aload_n (pc' := 30) rfl dX10_isNode_29 rfl ?_
      refine x_iload_n (pc' := 31) rfl dX10_isNode_30 rfl ?_
      refine x_iconst (v := 5) (pc' := 32) (by decide) dX10_isNode_31 rfl ?_
      refine x_callVi (As := [.int _, .int _]) (rest := [.long _, .long _]) (ci := 9) (pc' := 35) rfl vk_X10_58 mk_X10_its (by decide) (by first | assumption | exact ⟨by decide, rfl⟩) (by decide) rfl (Nat.le_of_ble_eq_true rfl) dX10_isNode_32 rfl (c_X10_its (E := 5) hgG rfl (by omega)) ?_
      refine x_iconst (v := 1) (pc' := 36) (by decide) dX10_isNode_35 rfl ?_
      refine x_isub (pc' := 37) dX10_isNode_36 rfl ?_
      refine x_i2l (pc' := 38) dX10_isNode_37 rfl ?_
      refine x_callSi (As := [.long _, .long _, .long _]) (rest := []) (pc' := 41) rfl sk_X10_50 mk_X10_in (by decide) rfl (Nat.le_of_ble_eq_true rfl) dX10_isNode_38 rfl c_X10_in ?_
      refine x_if_eq (tgt := 48) (pc' := 44) (by decide) dX10_isNode_41 rfl (fun c41 => ?_) (fun c41 => ?_)
      · refine x_iconst (v := 0) (pc' := 49) (by decide) dX10_isNode_48 rfl ?_
        exact x_zret rfl (by first | rfl | exact b01_nar _ | exact pb_nar _) dX10_isNode_49 (ret_i (pb_0 (fun q => by rw [nodS, hcl] at q; exact b01_0.mp c41 (er.mpr q.2.2))).symm)
      · refine x_iconst (v := 1) (pc' := 45) (by decide) dX10_isNode_44 rfl ?_
        refine x_goto (tgt := 49) (by decide) dX10_isNode_45 ?_
        exact x_zret rfl (by first | rfl | exact b01_nar _ | exact pb_nar _) dX10_isNode_49 (ret_i (pb_1 (by rw [nodS, hcl]; exact ⟨hg, ec.mp (Classical.not_not.mp (fun h => c23 (b01_0.mpr h))), er.mp (Classical.not_not.mp (fun h => c41 (b01_0.mpr h)))⟩)).symm)
  · rw [pb_0 (fun q => hg q.1)]
    refine x_aload_n (pc' := 1) rfl dX10_isNode_0 rfl ?_
    refine x_iload_n (pc' := 2) rfl dX10_isNode_1 rfl ?_
    refine x_callVi (As := [.int _]) (rest := []) (ci := 9) (pc' := 5) rfl vk_X10_54 mk_X10_isGrid (by decide) (by first | assumption | exact ⟨by decide, rfl⟩) (by decide) rfl (Nat.le_of_ble_eq_true rfl) dX10_isNode_2 rfl (c_X10_isGrid hv.c0 hv.c6) ?_
    refine x_if_eq (tgt := 48) (pc' := 8) (by decide) dX10_isNode_5 rfl (fun c5 => ?_) (fun c5 => absurd (b0 (fun q => hg ((grS_iff hv).mp q))) c5)
    refine x_iconst (v := 0) (pc' := 49) (by decide) dX10_isNode_48 rfl ?_
    exact x_zret rfl (by first | rfl | exact b01_nar _ | exact pb_nar _) dX10_isNode_49 rfl
set_option maxRecDepth 100000 in
set_option maxHeartbeats 4000000 in
theorem v_X10_isNode {σ : St} {v0 : Nat → Int32} (hs : σ.1 19 = v0) {g c r : Int32} (hv : Ok v0) : Ct yX10_isNode M_X10_isNode [.ref 18, .int g, .int c, .int r] σ (some (.int (pb (nodS v0 g c r))), σ) := by
  subst hs
  exact c_X10_isNode hv
set_option maxRecDepth 100000 in
set_option maxHeartbeats 4000000 in
theorem c_X10_isCell {σ : St} {g c r : Int32} (hv : Ok (σ.1 19)) : Ct yX10_isCell M_X10_isCell [.ref 18, .int g, .int c, .int r] σ (some (.int (pb (celS (σ.1 19) g c r))), σ) := by
  have h6 := hv.c6
  refine ct_of (k := 0) rfl rfl rfl (Nat.le_of_ble_eq_true rfl) ?_
  by_cases hg : grS (σ.1 19) g
  · obtain ⟨G, hG, hgG⟩ := grS_nat hv hg
    obtain ⟨g6, c5, r5, k2, l2, s1, s64⟩ := hv.b hG
    have hf := hv.F hG
    have hcl : g.toNatClampNeg = G := by rw [hgG, nI_clamp (by omega)]
    have ec : (0 ≤ c.toInt64 ∧ c.toInt64 ≤ (σ.1 19 (2 + 6 * G + 4) - 2).toInt64) ↔ (0 ≤ c ∧ c < σ.1 19 (2 + 6 * G + 4) - 1) := by rw [hf.at (by omega) (by omega)]; exact in_n2 _ (by omega) (by omega)
    have er : (0 ≤ r.toInt64 ∧ r.toInt64 ≤ (σ.1 19 (2 + 6 * G + 5) - 2).toInt64) ↔ (0 ≤ r ∧ r < σ.1 19 (2 + 6 * G + 5) - 1) := by rw [hf.at (by omega) (by omega)]; exact in_n2 _ (by omega) (by omega)
    refine x_aload_n (pc' := 1) rfl dX10_isCell_0 rfl ?_
    refine x_iload_n (pc' := 2) rfl dX10_isCell_1 rfl ?_
    refine x_callVi (As := [.int _]) (rest := []) (ci := 9) (pc' := 5) rfl vk_X10_54 mk_X10_isGrid (by decide) (by first | assumption | exact ⟨by decide, rfl⟩) (by decide) rfl (Nat.le_of_ble_eq_true rfl) dX10_isCell_2 rfl (c_X10_isGrid hv.c0 hv.c6) ?_
    refine x_if_eq (tgt := 48) (pc' := 8) (by decide) dX10_isCell_5 rfl (fun c5 => absurd c5 (by rw [b1 ((grS_iff hv).mpr hg)]; decide)) (fun c5 => ?_)
    refine x_iload_n (pc' := 9) rfl dX10_isCell_8 rfl ?_
    refine x_i2l (pc' := 10) dX10_isCell_9 rfl ?_
    refine x_lconst (v := 0) (pc' := 11) (by decide) dX10_isCell_10 rfl ?_
    refine x_aload_n (pc' := 12) rfl dX10_isCell_11 rfl ?_
    refine x_iload_n (pc' := 13) rfl dX10_isCell_12 rfl ?_
    refine x_iconst (v := 4) (pc' := 14) (by decide) dX10_isCell_13 rfl ?_
    refine x_callVi (As := [.int _, .int _]) (rest := [.long _, .long _]) (ci := 9) (pc' := 17) rfl vk_X10_58 mk_X10_its (by decide) (by first | assumption | exact ⟨by decide, rfl⟩) (by decide) rfl (Nat.le_of_ble_eq_true rfl) dX10_isCell_14 rfl (c_X10_its (E := 4) hgG rfl (by omega)) ?_
    refine x_iconst (v := 2) (pc' := 18) (by decide) dX10_isCell_17 rfl ?_
    refine x_isub (pc' := 19) dX10_isCell_18 rfl ?_
    refine x_i2l (pc' := 20) dX10_isCell_19 rfl ?_
    refine x_callSi (As := [.long _, .long _, .long _]) (rest := []) (pc' := 23) rfl sk_X10_50 mk_X10_in (by decide) rfl (Nat.le_of_ble_eq_true rfl) dX10_isCell_20 rfl c_X10_in ?_
    refine x_if_eq (tgt := 48) (pc' := 26) (by decide) dX10_isCell_23 rfl (fun c23 => ?_) (fun c23 => ?_)
    · refine x_iconst (v := 0) (pc' := 49) (by decide) dX10_isCell_48 rfl ?_
      exact x_zret rfl (by first | rfl | exact b01_nar _ | exact pb_nar _) dX10_isCell_49 (ret_i (pb_0 (fun q => by rw [celS, hcl] at q; exact b01_0.mp c23 (ec.mpr q.2.1))).symm)
    · refine x_iload_n (pc' := 27) rfl dX10_isCell_26 rfl ?_
      refine x_i2l (pc' := 28) dX10_isCell_27 rfl ?_
      refine x_lconst (v := 0) (pc' := 29) (by decide) dX10_isCell_28 rfl ?_
      refine x_aload_n (pc' := 30) rfl dX10_isCell_29 rfl ?_
      refine x_iload_n (pc' := 31) rfl dX10_isCell_30 rfl ?_
      refine x_iconst (v := 5) (pc' := 32) (by decide) dX10_isCell_31 rfl ?_
      refine x_callVi (As := [.int _, .int _]) (rest := [.long _, .long _]) (ci := 9) (pc' := 35) rfl vk_X10_58 mk_X10_its (by decide) (by first | assumption | exact ⟨by decide, rfl⟩) (by decide) rfl (Nat.le_of_ble_eq_true rfl) dX10_isCell_32 rfl (c_X10_its (E := 5) hgG rfl (by omega)) ?_
      refine x_iconst (v := 2) (pc' := 36) (by decide) dX10_isCell_35 rfl ?_
      refine x_isub (pc' := 37) dX10_isCell_36 rfl ?_
      refine x_i2l (pc' := 38) dX10_isCell_37 rfl ?_
      refine x_callSi (As := [.long _, .long _, .long _]) (rest := []) (pc' := 41) rfl sk_X10_50 mk_X10_in (by decide) rfl (Nat.le_of_ble_eq_true rfl) dX10_isCell_38 rfl c_X10_in ?_
      refine x_if_eq (tgt := 48) (pc' := 44) (by decide) dX10_isCell_41 rfl (fun c41 => ?_) (fun c41 => ?_)
      · refine x_iconst (v := 0) (pc' := 49) (by decide) dX10_isCell_48 rfl ?_
        exact x_zret rfl (by first | rfl | exact b01_nar _ | exact pb_nar _) dX10_isCell_49 (ret_i (pb_0 (fun q => by rw [celS, hcl] at q; exact b01_0.mp c41 (er.mpr q.2.2))).symm)
      · refine x_iconst (v := 1) (pc' := 45) (by decide) dX10_isCell_44 rfl ?_
        refine x_goto (tgt := 49) (by decide) dX10_isCell_45 ?_
        exact x_zret rfl (by first | rfl | exact b01_nar _ | exact pb_nar _) dX10_isCell_49 (ret_i (pb_1 (by rw [celS, hcl]; exact ⟨hg, ec.mp (Classical.not_not.mp (fun h => c23 (b01_0.mpr h))), er.mp (Classical.not_not.mp (fun h => c41 (b01_0.mpr h)))⟩)).symm)
  · rw [pb_0 (fun q => hg q.1)]
    refine x_aload_n (pc' := 1) rfl dX10_isCell_0 rfl ?_
    refine x_iload_n (pc' := 2) rfl dX10_isCell_1 rfl ?_
    refine x_callVi (As := [.int _]) (rest := []) (ci := 9) (pc' := 5) rfl vk_X10_54 mk_X10_isGrid (by decide) (by first | assumption | exact ⟨by decide, rfl⟩) (by decide) rfl (Nat.le_of_ble_eq_true rfl) dX10_isCell_2 rfl (c_X10_isGrid hv.c0 hv.c6) ?_
    refine x_if_eq (tgt := 48) (pc' := 8) (by decide) dX10_isCell_5 rfl (fun c5 => ?_) (fun c5 => absurd (b0 (fun q => hg ((grS_iff hv).mp q))) c5)
    refine x_iconst (v := 0) (pc' := 49) (by decide) dX10_isCell_48 rfl ?_
    exact x_zret rfl (by first | rfl | exact b01_nar _ | exact pb_nar _) dX10_isCell_49 rfl
set_option maxRecDepth 100000 in
set_option maxHeartbeats 4000000 in
theorem v_X10_isCell {σ : St} {v0 : Nat → Int32} (hs : σ.1 19 = v0) {g c r : Int32} (hv : Ok v0) : Ct yX10_isCell M_X10_isCell [.ref 18, .int g, .int c, .int r] σ (some (.int (pb (celS v0 g c r))), σ) := by
  subst hs
  exact c_X10_isCell hv
noncomputable def gaN (v : Nat → Int32) (G w : Nat) : Int32 := match w with
  | 0 => v (2 + 6 * G)
  | 1 => v (2 + 6 * G + 1)
  | 2 => v (2 + 6 * G + 2)
  | 3 => v (2 + 6 * G + 3)
  | 4 => v (2 + 6 * G + 4)
  | 5 => v (2 + 6 * G + 5)
  | 6 => nI (chN v (nI G) (cN v))
  | 7 => nI (dpS v (G + 1) G)
  | 8 => nI (gapN v G)
  | 9 => gapM v G
  | _ => nI (cellN v G 1)
noncomputable def gridAtS (v : Nat → Int32) (g what : Int32) : Int32 := pif (grS v g) (pif (0 ≤ what ∧ what < 11) (gaN v g.toNatClampNeg what.toNatClampNeg) (-1000000002)) (-1000000001)
theorem in_k (x : Int32) {N : Nat} (h : N < 2 ^ 30) {B : Int64} (hB : B = lN N) : (0 ≤ x.toInt64 ∧ x.toInt64 ≤ B) ↔ (0 ≤ x ∧ x < nI (N + 1)) := by
  rw [hB, ← nI_l (by omega), sL_le, sL_le, sI_le, sI_lt, Int32.toInt_toInt64, Int32.toInt_toInt64, nI_toInt (by omega), nI_toInt (by omega)]
  have h0 : (0 : Int64).toInt = 0 := rfl
  have h1 : (0 : Int32).toInt = 0 := rfl
  omega
set_option maxRecDepth 100000 in
set_option maxHeartbeats 4000000 in
theorem c_X10_gridAt {σ : St} {g what : Int32} (hv : Ok (σ.1 19)) : ∃ σ', Ct yX10_gridAt M_X10_gridAt [.ref 18, .int g, .int what] σ (some (.int (gridAtS (σ.1 19) g what)), σ') ∧ ScM σ σ' := by
  have hs : (pI σ 18 0 0).1 19 = σ.1 19 := pI_ne (by decide)
  have hv2 : Ok ((pI σ 18 0 0).1 19) := hv
  have h6 := hv.c6
  by_cases hg : grS (σ.1 19) g
  · obtain ⟨G, hG, rfl⟩ := grS_nat hv hg
    have hcl : (nI G).toNatClampNeg = G := nI_clamp (by omega)
    have out : (what < 0 ∨ nI 11 ≤ what) → ∃ σ', Ct yX10_gridAt M_X10_gridAt [.ref 18, .int (nI G), .int what] σ (some (.int (gridAtS (σ.1 19) (nI G) what)), σ') ∧ ScM σ σ' := by
      intro h
      refine ⟨_, ?_, ScM.thr σ 0⟩
      have hn : ¬ (0 ≤ what ∧ what < 11) := fun q => h.elim (fun h => i_nlt.mpr q.1 h) (fun h => i_nlt.mpr h q.2)
      rw [gridAtS, pif_t hg, pif_f hn]
      refine ct_of (k := 0) rfl rfl rfl (Nat.le_of_ble_eq_true rfl) ?_
      refine x_aload_n (pc' := 1) rfl dX10_gridAt_0 rfl ?_
      refine x_iconst (v := 0) (pc' := 2) (by decide) dX10_gridAt_1 rfl ?_
      refine x_puti (pc' := 5) fk_X10_46 pk_9_0 rfl (by first | assumption | exact ⟨by decide, rfl⟩) dX10_gridAt_2 rfl ?_
      refine x_aload_n (pc' := 6) rfl dX10_gridAt_5 rfl ?_
      refine x_iload_n (pc' := 7) rfl dX10_gridAt_6 rfl ?_
      refine x_callVi (As := [.int _]) (rest := []) (ci := 9) (pc' := 10) rfl vk_X10_54 mk_X10_isGrid (by decide) (by first | assumption | exact ⟨by decide, rfl⟩) (by decide) rfl (Nat.le_of_ble_eq_true rfl) dX10_gridAt_7 rfl (c_X10_isGrid (σ := pI σ 18 0 0) hv.c0 hv.c6) ?_
      refine x_if_ne (tgt := 16) (pc' := 13) (by decide) dX10_gridAt_10 rfl (fun c10 => ?_) (fun c10 => absurd c10 (by rw [b1 ((grS_iff hv).mpr hg)]; decide))
      refine x_iload_n (pc' := 17) rfl dX10_gridAt_16 rfl ?_
      refine x_i2l (pc' := 18) dX10_gridAt_17 rfl ?_
      refine x_lconst (v := 0) (pc' := 19) (by decide) dX10_gridAt_18 rfl ?_
      refine x_ldc2 (pc' := 22) kl_X10_171 dX10_gridAt_19 rfl ?_
      refine x_callSi (As := [.long _, .long _, .long _]) (rest := []) (pc' := 25) rfl sk_X10_50 mk_X10_in (by decide) rfl (Nat.le_of_ble_eq_true rfl) dX10_gridAt_22 rfl c_X10_in ?_
      refine x_if_ne (tgt := 31) (pc' := 28) (by decide) dX10_gridAt_25 rfl (fun c25 => absurd (b0 (fun q => hn ((in_k what (N := 10) (by decide) (by decide)).mp q))) c25) (fun c25 => ?_)
      refine x_ldc (pc' := 30) kc_X10_169 dX10_gridAt_28 rfl ?_
      exact x_iret rfl dX10_gridAt_30 rfl
    rcases pk_ix what (n := 11) (by decide) with h | h | ⟨j, hj, rfl⟩
    · exact out (Or.inl h)
    · exact out (Or.inr h)
    · match j, hj with
      | 0, _ =>
        refine ⟨_, ?_, ScM.thr σ 0⟩
        rw [show gridAtS (σ.1 19) (nI G) (nI 0) = gaN (σ.1 19) G 0 by rw [gridAtS, pif_t hg, pif_t (by decide), hcl]; rfl]
        refine ct_of (k := 0) rfl rfl rfl (Nat.le_of_ble_eq_true rfl) ?_
        refine x_aload_n (pc' := 1) rfl dX10_gridAt_0 rfl ?_
        refine x_iconst (v := 0) (pc' := 2) (by decide) dX10_gridAt_1 rfl ?_
        refine x_puti (pc' := 5) fk_X10_46 pk_9_0 rfl (by first | assumption | exact ⟨by decide, rfl⟩) dX10_gridAt_2 rfl ?_
        refine x_aload_n (pc' := 6) rfl dX10_gridAt_5 rfl ?_
        refine x_iload_n (pc' := 7) rfl dX10_gridAt_6 rfl ?_
        refine x_callVi (As := [.int _]) (rest := []) (ci := 9) (pc' := 10) rfl vk_X10_54 mk_X10_isGrid (by decide) (by first | assumption | exact ⟨by decide, rfl⟩) (by decide) rfl (Nat.le_of_ble_eq_true rfl) dX10_gridAt_7 rfl (c_X10_isGrid (σ := pI σ 18 0 0) hv.c0 hv.c6) ?_
        refine x_if_ne (tgt := 16) (pc' := 13) (by decide) dX10_gridAt_10 rfl (fun c10 => ?_) (fun c10 => absurd c10 (by rw [b1 ((grS_iff hv).mpr hg)]; decide))
        refine x_iload_n (pc' := 17) rfl dX10_gridAt_16 rfl ?_
        refine x_i2l (pc' := 18) dX10_gridAt_17 rfl ?_
        refine x_lconst (v := 0) (pc' := 19) (by decide) dX10_gridAt_18 rfl ?_
        refine x_ldc2 (pc' := 22) kl_X10_171 dX10_gridAt_19 rfl ?_
        refine x_callSi (As := [.long _, .long _, .long _]) (rest := []) (pc' := 25) rfl sk_X10_50 mk_X10_in (by decide) rfl (Nat.le_of_ble_eq_true rfl) dX10_gridAt_22 rfl c_X10_in ?_
        refine x_if_ne (tgt := 31) (pc' := 28) (by decide) dX10_gridAt_25 rfl (fun c25 => ?_) (fun c25 => absurd c25 (by rw [b1 (by decide)]; decide))
        refine x_iload_n (pc' := 32) rfl dX10_gridAt_31 rfl ?_
        refine x_bipush (v := 6) (pc' := 34) (by decide) dX10_gridAt_32 rfl ?_
        refine x_icmp_ge (tgt := 44) (pc' := 37) (by decide) dX10_gridAt_34 rfl (fun c34 => absurd c34 (by decide)) (fun c34 => ?_)
        refine x_aload_n (pc' := 38) rfl dX10_gridAt_37 rfl ?_
        refine x_iload_n (pc' := 39) rfl dX10_gridAt_38 rfl ?_
        refine x_iload_n (pc' := 40) rfl dX10_gridAt_39 rfl ?_
        refine x_callVi (As := [.int _, .int _]) (rest := []) (ci := 9) (pc' := 43) rfl vk_X10_58 mk_X10_its (by decide) (by first | assumption | exact ⟨by decide, rfl⟩) (by decide) rfl (Nat.le_of_ble_eq_true rfl) dX10_gridAt_40 rfl (v_X10_its hs (E := 0) rfl rfl (by omega)) ?_
        exact x_iret rfl dX10_gridAt_43 rfl
      | 1, _ =>
        refine ⟨_, ?_, ScM.thr σ 0⟩
        rw [show gridAtS (σ.1 19) (nI G) (nI 1) = gaN (σ.1 19) G 1 by rw [gridAtS, pif_t hg, pif_t (by decide), hcl]; rfl]
        refine ct_of (k := 0) rfl rfl rfl (Nat.le_of_ble_eq_true rfl) ?_
        refine x_aload_n (pc' := 1) rfl dX10_gridAt_0 rfl ?_
        refine x_iconst (v := 0) (pc' := 2) (by decide) dX10_gridAt_1 rfl ?_
        refine x_puti (pc' := 5) fk_X10_46 pk_9_0 rfl (by first | assumption | exact ⟨by decide, rfl⟩) dX10_gridAt_2 rfl ?_
        refine x_aload_n (pc' := 6) rfl dX10_gridAt_5 rfl ?_
        refine x_iload_n (pc' := 7) rfl dX10_gridAt_6 rfl ?_
        refine x_callVi (As := [.int _]) (rest := []) (ci := 9) (pc' := 10) rfl vk_X10_54 mk_X10_isGrid (by decide) (by first | assumption | exact ⟨by decide, rfl⟩) (by decide) rfl (Nat.le_of_ble_eq_true rfl) dX10_gridAt_7 rfl (c_X10_isGrid (σ := pI σ 18 0 0) hv.c0 hv.c6) ?_
        refine x_if_ne (tgt := 16) (pc' := 13) (by decide) dX10_gridAt_10 rfl (fun c10 => ?_) (fun c10 => absurd c10 (by rw [b1 ((grS_iff hv).mpr hg)]; decide))
        refine x_iload_n (pc' := 17) rfl dX10_gridAt_16 rfl ?_
        refine x_i2l (pc' := 18) dX10_gridAt_17 rfl ?_
        refine x_lconst (v := 0) (pc' := 19) (by decide) dX10_gridAt_18 rfl ?_
        refine x_ldc2 (pc' := 22) kl_X10_171 dX10_gridAt_19 rfl ?_
        refine x_callSi (As := [.long _, .long _, .long _]) (rest := []) (pc' := 25) rfl sk_X10_50 mk_X10_in (by decide) rfl (Nat.le_of_ble_eq_true rfl) dX10_gridAt_22 rfl c_X10_in ?_
        refine x_if_ne (tgt := 31) (pc' := 28) (by decide) dX10_gridAt_25 rfl (fun c25 => ?_) (fun c25 => absurd c25 (by rw [b1 (by decide)]; decide))
        refine x_iload_n (pc' := 32) rfl dX10_gridAt_31 rfl ?_
        refine x_bipush (v := 6) (pc' := 34) (by decide) dX10_gridAt_32 rfl ?_
        refine x_icmp_ge (tgt := 44) (pc' := 37) (by decide) dX10_gridAt_34 rfl (fun c34 => absurd c34 (by decide)) (fun c34 => ?_)
        refine x_aload_n (pc' := 38) rfl dX10_gridAt_37 rfl ?_
        refine x_iload_n (pc' := 39) rfl dX10_gridAt_38 rfl ?_
        refine x_iload_n (pc' := 40) rfl dX10_gridAt_39 rfl ?_
        refine x_callVi (As := [.int _, .int _]) (rest := []) (ci := 9) (pc' := 43) rfl vk_X10_58 mk_X10_its (by decide) (by first | assumption | exact ⟨by decide, rfl⟩) (by decide) rfl (Nat.le_of_ble_eq_true rfl) dX10_gridAt_40 rfl (v_X10_its hs (E := 1) rfl rfl (by omega)) ?_
        exact x_iret rfl dX10_gridAt_43 rfl
      | 2, _ =>
        refine ⟨_, ?_, ScM.thr σ 0⟩
        rw [show gridAtS (σ.1 19) (nI G) (nI 2) = gaN (σ.1 19) G 2 by rw [gridAtS, pif_t hg, pif_t (by decide), hcl]; rfl]
        refine ct_of (k := 0) rfl rfl rfl (Nat.le_of_ble_eq_true rfl) ?_
        refine x_aload_n (pc' := 1) rfl dX10_gridAt_0 rfl ?_
        refine x_iconst (v := 0) (pc' := 2) (by decide) dX10_gridAt_1 rfl ?_
        refine x_puti (pc' := 5) fk_X10_46 pk_9_0 rfl (by first | assumption | exact ⟨by decide, rfl⟩) dX10_gridAt_2 rfl ?_
        refine x_aload_n (pc' := 6) rfl dX10_gridAt_5 rfl ?_
        refine x_iload_n (pc' := 7) rfl dX10_gridAt_6 rfl ?_
        refine x_callVi (As := [.int _]) (rest := []) (ci := 9) (pc' := 10) rfl vk_X10_54 mk_X10_isGrid (by decide) (by first | assumption | exact ⟨by decide, rfl⟩) (by decide) rfl (Nat.le_of_ble_eq_true rfl) dX10_gridAt_7 rfl (c_X10_isGrid (σ := pI σ 18 0 0) hv.c0 hv.c6) ?_
        refine x_if_ne (tgt := 16) (pc' := 13) (by decide) dX10_gridAt_10 rfl (fun c10 => ?_) (fun c10 => absurd c10 (by rw [b1 ((grS_iff hv).mpr hg)]; decide))
        refine x_iload_n (pc' := 17) rfl dX10_gridAt_16 rfl ?_
        refine x_i2l (pc' := 18) dX10_gridAt_17 rfl ?_
        refine x_lconst (v := 0) (pc' := 19) (by decide) dX10_gridAt_18 rfl ?_
        refine x_ldc2 (pc' := 22) kl_X10_171 dX10_gridAt_19 rfl ?_
        refine x_callSi (As := [.long _, .long _, .long _]) (rest := []) (pc' := 25) rfl sk_X10_50 mk_X10_in (by decide) rfl (Nat.le_of_ble_eq_true rfl) dX10_gridAt_22 rfl c_X10_in ?_
        refine x_if_ne (tgt := 31) (pc' := 28) (by decide) dX10_gridAt_25 rfl (fun c25 => ?_) (fun c25 => absurd c25 (by rw [b1 (by decide)]; decide))
        refine x_iload_n (pc' := 32) rfl dX10_gridAt_31 rfl ?_
        refine x_bipush (v := 6) (pc' := 34) (by decide) dX10_gridAt_32 rfl ?_
        refine x_icmp_ge (tgt := 44) (pc' := 37) (by decide) dX10_gridAt_34 rfl (fun c34 => absurd c34 (by decide)) (fun c34 => ?_)
        refine x_aload_n (pc' := 38) rfl dX10_gridAt_37 rfl ?_
        refine x_iload_n (pc' := 39) rfl dX10_gridAt_38 rfl ?_
        refine x_iload_n (pc' := 40) rfl dX10_gridAt_39 rfl ?_
        refine x_callVi (As := [.int _, .int _]) (rest := []) (ci := 9) (pc' := 43) rfl vk_X10_58 mk_X10_its (by decide) (by first | assumption | exact ⟨by decide, rfl⟩) (by decide) rfl (Nat.le_of_ble_eq_true rfl) dX10_gridAt_40 rfl (v_X10_its hs (E := 2) rfl rfl (by omega)) ?_
        exact x_iret rfl dX10_gridAt_43 rfl
      | 3, _ =>
        refine ⟨_, ?_, ScM.thr σ 0⟩
        rw [show gridAtS (σ.1 19) (nI G) (nI 3) = gaN (σ.1 19) G 3 by rw [gridAtS, pif_t hg, pif_t (by decide), hcl]; rfl]
        refine ct_of (k := 0) rfl rfl rfl (Nat.le_of_ble_eq_true rfl) ?_
        refine x_aload_n (pc' := 1) rfl dX10_gridAt_0 rfl ?_
        refine x_iconst (v := 0) (pc' := 2) (by decide) dX10_gridAt_1 rfl ?_
        refine x_puti (pc' := 5) fk_X10_46 pk_9_0 rfl (by first | assumption | exact ⟨by decide, rfl⟩) dX10_gridAt_2 rfl ?_
        refine x_aload_n (pc' := 6) rfl dX10_gridAt_5 rfl ?_
        refine x_iload_n (pc' := 7) rfl dX10_gridAt_6 rfl ?_
        refine x_callVi (As := [.int _]) (rest := []) (ci := 9) (pc' := 10) rfl vk_X10_54 mk_X10_isGrid (by decide) (by first | assumption | exact ⟨by decide, rfl⟩) (by decide) rfl (Nat.le_of_ble_eq_true rfl) dX10_gridAt_7 rfl (c_X10_isGrid (σ := pI σ 18 0 0) hv.c0 hv.c6) ?_
        refine x_if_ne (tgt := 16) (pc' := 13) (by decide) dX10_gridAt_10 rfl (fun c10 => ?_) (fun c10 => absurd c10 (by rw [b1 ((grS_iff hv).mpr hg)]; decide))
        refine x_iload_n (pc' := 17) rfl dX10_gridAt_16 rfl ?_
        refine x_i2l (pc' := 18) dX10_gridAt_17 rfl ?_
        refine x_lconst (v := 0) (pc' := 19) (by decide) dX10_gridAt_18 rfl ?_
        refine x_ldc2 (pc' := 22) kl_X10_171 dX10_gridAt_19 rfl ?_
        refine x_callSi (As := [.long _, .long _, .long _]) (rest := []) (pc' := 25) rfl sk_X10_50 mk_X10_in (by decide) rfl (Nat.le_of_ble_eq_true rfl) dX10_gridAt_22 rfl c_X10_in ?_
        refine x_if_ne (tgt := 31) (pc' := 28) (by decide) dX10_gridAt_25 rfl (fun c25 => ?_) (fun c25 => absurd c25 (by rw [b1 (by decide)]; decide))
        refine x_iload_n (pc' := 32) rfl dX10_gridAt_31 rfl ?_
        refine x_bipush (v := 6) (pc' := 34) (by decide) dX10_gridAt_32 rfl ?_
        refine x_icmp_ge (tgt := 44) (pc' := 37) (by decide) dX10_gridAt_34 rfl (fun c34 => absurd c34 (by decide)) (fun c34 => ?_)
        refine x_aload_n (pc' := 38) rfl dX10_gridAt_37 rfl ?_
        refine x_iload_n (pc' := 39) rfl dX10_gridAt_38 rfl ?_
        refine x_iload_n (pc' := 40) rfl dX10_gridAt_39 rfl ?_
        refine x_callVi (As := [.int _, .int _]) (rest := []) (ci := 9) (pc' := 43) rfl vk_X10_58 mk_X10_its (by decide) (by first | assumption | exact ⟨by decide, rfl⟩) (by decide) rfl (Nat.le_of_ble_eq_true rfl) dX10_gridAt_40 rfl (v_X10_its hs (E := 3) rfl rfl (by omega)) ?_
        exact x_iret rfl dX10_gridAt_43 rfl
      | 4, _ =>
        refine ⟨_, ?_, ScM.thr σ 0⟩
        rw [show gridAtS (σ.1 19) (nI G) (nI 4) = gaN (σ.1 19) G 4 by rw [gridAtS, pif_t hg, pif_t (by decide), hcl]; rfl]
        refine ct_of (k := 0) rfl rfl rfl (Nat.le_of_ble_eq_true rfl) ?_
        refine x_aload_n (pc' := 1) rfl dX10_gridAt_0 rfl ?_
        refine x_iconst (v := 0) (pc' := 2) (by decide) dX10_gridAt_1 rfl ?_
        refine x_puti (pc' := 5) fk_X10_46 pk_9_0 rfl (by first | assumption | exact ⟨by decide, rfl⟩) dX10_gridAt_2 rfl ?_
        refine x_aload_n (pc' := 6) rfl dX10_gridAt_5 rfl ?_
        refine x_iload_n (pc' := 7) rfl dX10_gridAt_6 rfl ?_
        refine x_callVi (As := [.int _]) (rest := []) (ci := 9) (pc' := 10) rfl vk_X10_54 mk_X10_isGrid (by decide) (by first | assumption | exact ⟨by decide, rfl⟩) (by decide) rfl (Nat.le_of_ble_eq_true rfl) dX10_gridAt_7 rfl (c_X10_isGrid (σ := pI σ 18 0 0) hv.c0 hv.c6) ?_
        refine x_if_ne (tgt := 16) (pc' := 13) (by decide) dX10_gridAt_10 rfl (fun c10 => ?_) (fun c10 => absurd c10 (by rw [b1 ((grS_iff hv).mpr hg)]; decide))
        refine x_iload_n (pc' := 17) rfl dX10_gridAt_16 rfl ?_
        refine x_i2l (pc' := 18) dX10_gridAt_17 rfl ?_
        refine x_lconst (v := 0) (pc' := 19) (by decide) dX10_gridAt_18 rfl ?_
        refine x_ldc2 (pc' := 22) kl_X10_171 dX10_gridAt_19 rfl ?_
        refine x_callSi (As := [.long _, .long _, .long _]) (rest := []) (pc' := 25) rfl sk_X10_50 mk_X10_in (by decide) rfl (Nat.le_of_ble_eq_true rfl) dX10_gridAt_22 rfl c_X10_in ?_
        refine x_if_ne (tgt := 31) (pc' := 28) (by decide) dX10_gridAt_25 rfl (fun c25 => ?_) (fun c25 => absurd c25 (by rw [b1 (by decide)]; decide))
        refine x_iload_n (pc' := 32) rfl dX10_gridAt_31 rfl ?_
        refine x_bipush (v := 6) (pc' := 34) (by decide) dX10_gridAt_32 rfl ?_
        refine x_icmp_ge (tgt := 44) (pc' := 37) (by decide) dX10_gridAt_34 rfl (fun c34 => absurd c34 (by decide)) (fun c34 => ?_)
        refine x_aload_n (pc' := 38) rfl dX10_gridAt_37 rfl ?_
        refine x_iload_n (pc' := 39) rfl dX10_gridAt_38 rfl ?_
        refine x_iload_n (pc' := 40) rfl dX10_gridAt_39 rfl ?_
        refine x_callVi (As := [.int _, .int _]) (rest := []) (ci := 9) (pc' := 43) rfl vk_X10_58 mk_X10_its (by decide) (by first | assumption | exact ⟨by decide, rfl⟩) (by decide) rfl (Nat.le_of_ble_eq_true rfl) dX10_gridAt_40 rfl (v_X10_its hs (E := 4) rfl rfl (by omega)) ?_
        exact x_iret rfl dX10_gridAt_43 rfl
      | 5, _ =>
        refine ⟨_, ?_, ScM.thr σ 0⟩
        rw [show gridAtS (σ.1 19) (nI G) (nI 5) = gaN (σ.1 19) G 5 by rw [gridAtS, pif_t hg, pif_t (by decide), hcl]; rfl]
        refine ct_of (k := 0) rfl rfl rfl (Nat.le_of_ble_eq_true rfl) ?_
        refine x_aload_n (pc' := 1) rfl dX10_gridAt_0 rfl ?_
        refine x_iconst (v := 0) (pc' := 2) (by decide) dX10_gridAt_1 rfl ?_
        refine x_puti (pc' := 5) fk_X10_46 pk_9_0 rfl (by first | assumption | exact ⟨by decide, rfl⟩) dX10_gridAt_2 rfl ?_
        refine x_aload_n (pc' := 6) rfl dX10_gridAt_5 rfl ?_
        refine x_iload_n (pc' := 7) rfl dX10_gridAt_6 rfl ?_
        refine x_callVi (As := [.int _]) (rest := []) (ci := 9) (pc' := 10) rfl vk_X10_54 mk_X10_isGrid (by decide) (by first | assumption | exact ⟨by decide, rfl⟩) (by decide) rfl (Nat.le_of_ble_eq_true rfl) dX10_gridAt_7 rfl (c_X10_isGrid (σ := pI σ 18 0 0) hv.c0 hv.c6) ?_
        refine x_if_ne (tgt := 16) (pc' := 13) (by decide) dX10_gridAt_10 rfl (fun c10 => ?_) (fun c10 => absurd c10 (by rw [b1 ((grS_iff hv).mpr hg)]; decide))
        refine x_iload_n (pc' := 17) rfl dX10_gridAt_16 rfl ?_
        refine x_i2l (pc' := 18) dX10_gridAt_17 rfl ?_
        refine x_lconst (v := 0) (pc' := 19) (by decide) dX10_gridAt_18 rfl ?_
        refine x_ldc2 (pc' := 22) kl_X10_171 dX10_gridAt_19 rfl ?_
        refine x_callSi (As := [.long _, .long _, .long _]) (rest := []) (pc' := 25) rfl sk_X10_50 mk_X10_in (by decide) rfl (Nat.le_of_ble_eq_true rfl) dX10_gridAt_22 rfl c_X10_in ?_
        refine x_if_ne (tgt := 31) (pc' := 28) (by decide) dX10_gridAt_25 rfl (fun c25 => ?_) (fun c25 => absurd c25 (by rw [b1 (by decide)]; decide))
        refine x_iload_n (pc' := 32) rfl dX10_gridAt_31 rfl ?_
        refine x_bipush (v := 6) (pc' := 34) (by decide) dX10_gridAt_32 rfl ?_
        refine x_icmp_ge (tgt := 44) (pc' := 37) (by decide) dX10_gridAt_34 rfl (fun c34 => absurd c34 (by decide)) (fun c34 => ?_)
        refine x_aload_n (pc' := 38) rfl dX10_gridAt_37 rfl ?_
        refine x_iload_n (pc' := 39) rfl dX10_gridAt_38 rfl ?_
        refine x_iload_n (pc' := 40) rfl dX10_gridAt_39 rfl ?_
        refine x_callVi (As := [.int _, .int _]) (rest := []) (ci := 9) (pc' := 43) rfl vk_X10_58 mk_X10_its (by decide) (by first | assumption | exact ⟨by decide, rfl⟩) (by decide) rfl (Nat.le_of_ble_eq_true rfl) dX10_gridAt_40 rfl (v_X10_its hs (E := 5) rfl rfl (by omega)) ?_
        exact x_iret rfl dX10_gridAt_43 rfl
      | 6, _ =>
        refine ⟨_, ?_, (ScM.thr σ 0).trans (ScM.g2 _ (nI (gapN (σ.1 19) G)) (gapM (σ.1 19) G))⟩
        rw [show gridAtS (σ.1 19) (nI G) (nI 6) = gaN (σ.1 19) G 6 by rw [gridAtS, pif_t hg, pif_t (by decide), hcl]; rfl]
        refine ct_of (k := 0) rfl rfl rfl (Nat.le_of_ble_eq_true rfl) ?_
        refine x_aload_n (pc' := 1) rfl dX10_gridAt_0 rfl ?_
        refine x_iconst (v := 0) (pc' := 2) (by decide) dX10_gridAt_1 rfl ?_
        refine x_puti (pc' := 5) fk_X10_46 pk_9_0 rfl (by first | assumption | exact ⟨by decide, rfl⟩) dX10_gridAt_2 rfl ?_
        refine x_aload_n (pc' := 6) rfl dX10_gridAt_5 rfl ?_
        refine x_iload_n (pc' := 7) rfl dX10_gridAt_6 rfl ?_
        refine x_callVi (As := [.int _]) (rest := []) (ci := 9) (pc' := 10) rfl vk_X10_54 mk_X10_isGrid (by decide) (by first | assumption | exact ⟨by decide, rfl⟩) (by decide) rfl (Nat.le_of_ble_eq_true rfl) dX10_gridAt_7 rfl (c_X10_isGrid (σ := pI σ 18 0 0) hv.c0 hv.c6) ?_
        refine x_if_ne (tgt := 16) (pc' := 13) (by decide) dX10_gridAt_10 rfl (fun c10 => ?_) (fun c10 => absurd c10 (by rw [b1 ((grS_iff hv).mpr hg)]; decide))
        refine x_iload_n (pc' := 17) rfl dX10_gridAt_16 rfl ?_
        refine x_i2l (pc' := 18) dX10_gridAt_17 rfl ?_
        refine x_lconst (v := 0) (pc' := 19) (by decide) dX10_gridAt_18 rfl ?_
        refine x_ldc2 (pc' := 22) kl_X10_171 dX10_gridAt_19 rfl ?_
        refine x_callSi (As := [.long _, .long _, .long _]) (rest := []) (pc' := 25) rfl sk_X10_50 mk_X10_in (by decide) rfl (Nat.le_of_ble_eq_true rfl) dX10_gridAt_22 rfl c_X10_in ?_
        refine x_if_ne (tgt := 31) (pc' := 28) (by decide) dX10_gridAt_25 rfl (fun c25 => ?_) (fun c25 => absurd c25 (by rw [b1 (by decide)]; decide))
        refine x_iload_n (pc' := 32) rfl dX10_gridAt_31 rfl ?_
        refine x_bipush (v := 6) (pc' := 34) (by decide) dX10_gridAt_32 rfl ?_
        refine x_icmp_ge (tgt := 44) (pc' := 37) (by decide) dX10_gridAt_34 rfl (fun c34 => ?_) (fun c34 => absurd (by decide) c34)
        refine x_aload_n (pc' := 45) rfl dX10_gridAt_44 rfl ?_
        refine x_iload_n (pc' := 46) rfl dX10_gridAt_45 rfl ?_
        refine x_callVv (As := [.int _]) (rest := []) (ci := 9) (pc' := 49) rfl vk_X10_148 mk_X10_gaps (by decide) (by first | assumption | exact ⟨by decide, rfl⟩) (by decide) rfl (Nat.le_of_ble_eq_true rfl) dX10_gridAt_46 rfl (v_X10_gaps hs hv hG rfl) ?_
        refine x_iload_n (pc' := 50) rfl dX10_gridAt_49 rfl ?_
        refine x_tswIn (off := 30) (tgt := 80) (by decide) (by decide) (by decide) (by decide) dX10_gridAt_50 ?_
        refine x_aload_n (pc' := 81) rfl dX10_gridAt_80 rfl ?_
        refine x_iload_n (pc' := 82) rfl dX10_gridAt_81 rfl ?_
        refine x_callVi (As := [.int _]) (rest := []) (ci := 9) (pc' := 85) rfl vk_X10_173 mk_X10_children (by decide) (by first | assumption | exact ⟨by decide, rfl⟩) (by decide) rfl (Nat.le_of_ble_eq_true rfl) dX10_gridAt_82 rfl (v_X10_children (g2_n (by decide)) hv) ?_
        exact x_iret rfl dX10_gridAt_85 rfl
      | 7, _ =>
        refine ⟨_, ?_, (ScM.thr σ 0).trans (ScM.g2 _ (nI (gapN (σ.1 19) G)) (gapM (σ.1 19) G))⟩
        rw [show gridAtS (σ.1 19) (nI G) (nI 7) = gaN (σ.1 19) G 7 by rw [gridAtS, pif_t hg, pif_t (by decide), hcl]; rfl]
        refine ct_of (k := 0) rfl rfl rfl (Nat.le_of_ble_eq_true rfl) ?_
        refine x_aload_n (pc' := 1) rfl dX10_gridAt_0 rfl ?_
        refine x_iconst (v := 0) (pc' := 2) (by decide) dX10_gridAt_1 rfl ?_
        refine x_puti (pc' := 5) fk_X10_46 pk_9_0 rfl (by first | assumption | exact ⟨by decide, rfl⟩) dX10_gridAt_2 rfl ?_
        refine x_aload_n (pc' := 6) rfl dX10_gridAt_5 rfl ?_
        refine x_iload_n (pc' := 7) rfl dX10_gridAt_6 rfl ?_
        refine x_callVi (As := [.int _]) (rest := []) (ci := 9) (pc' := 10) rfl vk_X10_54 mk_X10_isGrid (by decide) (by first | assumption | exact ⟨by decide, rfl⟩) (by decide) rfl (Nat.le_of_ble_eq_true rfl) dX10_gridAt_7 rfl (c_X10_isGrid (σ := pI σ 18 0 0) hv.c0 hv.c6) ?_
        refine x_if_ne (tgt := 16) (pc' := 13) (by decide) dX10_gridAt_10 rfl (fun c10 => ?_) (fun c10 => absurd c10 (by rw [b1 ((grS_iff hv).mpr hg)]; decide))
        refine x_iload_n (pc' := 17) rfl dX10_gridAt_16 rfl ?_
        refine x_i2l (pc' := 18) dX10_gridAt_17 rfl ?_
        refine x_lconst (v := 0) (pc' := 19) (by decide) dX10_gridAt_18 rfl ?_
        refine x_ldc2 (pc' := 22) kl_X10_171 dX10_gridAt_19 rfl ?_
        refine x_callSi (As := [.long _, .long _, .long _]) (rest := []) (pc' := 25) rfl sk_X10_50 mk_X10_in (by decide) rfl (Nat.le_of_ble_eq_true rfl) dX10_gridAt_22 rfl c_X10_in ?_
        refine x_if_ne (tgt := 31) (pc' := 28) (by decide) dX10_gridAt_25 rfl (fun c25 => ?_) (fun c25 => absurd c25 (by rw [b1 (by decide)]; decide))
        refine x_iload_n (pc' := 32) rfl dX10_gridAt_31 rfl ?_
        refine x_bipush (v := 6) (pc' := 34) (by decide) dX10_gridAt_32 rfl ?_
        refine x_icmp_ge (tgt := 44) (pc' := 37) (by decide) dX10_gridAt_34 rfl (fun c34 => ?_) (fun c34 => absurd (by decide) c34)
        refine x_aload_n (pc' := 45) rfl dX10_gridAt_44 rfl ?_
        refine x_iload_n (pc' := 46) rfl dX10_gridAt_45 rfl ?_
        refine x_callVv (As := [.int _]) (rest := []) (ci := 9) (pc' := 49) rfl vk_X10_148 mk_X10_gaps (by decide) (by first | assumption | exact ⟨by decide, rfl⟩) (by decide) rfl (Nat.le_of_ble_eq_true rfl) dX10_gridAt_46 rfl (v_X10_gaps hs hv hG rfl) ?_
        refine x_iload_n (pc' := 50) rfl dX10_gridAt_49 rfl ?_
        refine x_tswIn (off := 36) (tgt := 86) (by decide) (by decide) (by decide) (by decide) dX10_gridAt_50 ?_
        refine x_aload_n (pc' := 87) rfl dX10_gridAt_86 rfl ?_
        refine x_iload_n (pc' := 88) rfl dX10_gridAt_87 rfl ?_
        refine x_callVi (As := [.int _]) (rest := []) (ci := 9) (pc' := 91) rfl vk_X10_176 mk_X10_depth (by decide) (by first | assumption | exact ⟨by decide, rfl⟩) (by decide) rfl (Nat.le_of_ble_eq_true rfl) dX10_gridAt_88 rfl (v_X10_depth (g2_n (by decide)) hv hG rfl) ?_
        exact x_iret rfl dX10_gridAt_91 rfl
      | 8, _ =>
        refine ⟨_, ?_, (ScM.thr σ 0).trans (ScM.g2 _ (nI (gapN (σ.1 19) G)) (gapM (σ.1 19) G))⟩
        rw [show gridAtS (σ.1 19) (nI G) (nI 8) = gaN (σ.1 19) G 8 by rw [gridAtS, pif_t hg, pif_t (by decide), hcl]; rfl]
        refine ct_of (k := 0) rfl rfl rfl (Nat.le_of_ble_eq_true rfl) ?_
        refine x_aload_n (pc' := 1) rfl dX10_gridAt_0 rfl ?_
        refine x_iconst (v := 0) (pc' := 2) (by decide) dX10_gridAt_1 rfl ?_
        refine x_puti (pc' := 5) fk_X10_46 pk_9_0 rfl (by first | assumption | exact ⟨by decide, rfl⟩) dX10_gridAt_2 rfl ?_
        refine x_aload_n (pc' := 6) rfl dX10_gridAt_5 rfl ?_
        refine x_iload_n (pc' := 7) rfl dX10_gridAt_6 rfl ?_
        refine x_callVi (As := [.int _]) (rest := []) (ci := 9) (pc' := 10) rfl vk_X10_54 mk_X10_isGrid (by decide) (by first | assumption | exact ⟨by decide, rfl⟩) (by decide) rfl (Nat.le_of_ble_eq_true rfl) dX10_gridAt_7 rfl (c_X10_isGrid (σ := pI σ 18 0 0) hv.c0 hv.c6) ?_
        refine x_if_ne (tgt := 16) (pc' := 13) (by decide) dX10_gridAt_10 rfl (fun c10 => ?_) (fun c10 => absurd c10 (by rw [b1 ((grS_iff hv).mpr hg)]; decide))
        refine x_iload_n (pc' := 17) rfl dX10_gridAt_16 rfl ?_
        refine x_i2l (pc' := 18) dX10_gridAt_17 rfl ?_
        refine x_lconst (v := 0) (pc' := 19) (by decide) dX10_gridAt_18 rfl ?_
        refine x_ldc2 (pc' := 22) kl_X10_171 dX10_gridAt_19 rfl ?_
        refine x_callSi (As := [.long _, .long _, .long _]) (rest := []) (pc' := 25) rfl sk_X10_50 mk_X10_in (by decide) rfl (Nat.le_of_ble_eq_true rfl) dX10_gridAt_22 rfl c_X10_in ?_
        refine x_if_ne (tgt := 31) (pc' := 28) (by decide) dX10_gridAt_25 rfl (fun c25 => ?_) (fun c25 => absurd c25 (by rw [b1 (by decide)]; decide))
        refine x_iload_n (pc' := 32) rfl dX10_gridAt_31 rfl ?_
        refine x_bipush (v := 6) (pc' := 34) (by decide) dX10_gridAt_32 rfl ?_
        refine x_icmp_ge (tgt := 44) (pc' := 37) (by decide) dX10_gridAt_34 rfl (fun c34 => ?_) (fun c34 => absurd (by decide) c34)
        refine x_aload_n (pc' := 45) rfl dX10_gridAt_44 rfl ?_
        refine x_iload_n (pc' := 46) rfl dX10_gridAt_45 rfl ?_
        refine x_callVv (As := [.int _]) (rest := []) (ci := 9) (pc' := 49) rfl vk_X10_148 mk_X10_gaps (by decide) (by first | assumption | exact ⟨by decide, rfl⟩) (by decide) rfl (Nat.le_of_ble_eq_true rfl) dX10_gridAt_46 rfl (v_X10_gaps hs hv hG rfl) ?_
        refine x_iload_n (pc' := 50) rfl dX10_gridAt_49 rfl ?_
        refine x_tswIn (off := 42) (tgt := 92) (by decide) (by decide) (by decide) (by decide) dX10_gridAt_50 ?_
        refine x_aload_n (pc' := 93) rfl dX10_gridAt_92 rfl ?_
        refine x_get (v := .int _) (pc' := 96) fk_X10_111 (by first | assumption | exact ⟨by decide, rfl⟩) rfl dX10_gridAt_93 rfl ?_
        exact x_iret rfl dX10_gridAt_96 rfl
      | 9, _ =>
        refine ⟨_, ?_, (ScM.thr σ 0).trans (ScM.g2 _ (nI (gapN (σ.1 19) G)) (gapM (σ.1 19) G))⟩
        rw [show gridAtS (σ.1 19) (nI G) (nI 9) = gaN (σ.1 19) G 9 by rw [gridAtS, pif_t hg, pif_t (by decide), hcl]; rfl]
        refine ct_of (k := 0) rfl rfl rfl (Nat.le_of_ble_eq_true rfl) ?_
        refine x_aload_n (pc' := 1) rfl dX10_gridAt_0 rfl ?_
        refine x_iconst (v := 0) (pc' := 2) (by decide) dX10_gridAt_1 rfl ?_
        refine x_puti (pc' := 5) fk_X10_46 pk_9_0 rfl (by first | assumption | exact ⟨by decide, rfl⟩) dX10_gridAt_2 rfl ?_
        refine x_aload_n (pc' := 6) rfl dX10_gridAt_5 rfl ?_
        refine x_iload_n (pc' := 7) rfl dX10_gridAt_6 rfl ?_
        refine x_callVi (As := [.int _]) (rest := []) (ci := 9) (pc' := 10) rfl vk_X10_54 mk_X10_isGrid (by decide) (by first | assumption | exact ⟨by decide, rfl⟩) (by decide) rfl (Nat.le_of_ble_eq_true rfl) dX10_gridAt_7 rfl (c_X10_isGrid (σ := pI σ 18 0 0) hv.c0 hv.c6) ?_
        refine x_if_ne (tgt := 16) (pc' := 13) (by decide) dX10_gridAt_10 rfl (fun c10 => ?_) (fun c10 => absurd c10 (by rw [b1 ((grS_iff hv).mpr hg)]; decide))
        refine x_iload_n (pc' := 17) rfl dX10_gridAt_16 rfl ?_
        refine x_i2l (pc' := 18) dX10_gridAt_17 rfl ?_
        refine x_lconst (v := 0) (pc' := 19) (by decide) dX10_gridAt_18 rfl ?_
        refine x_ldc2 (pc' := 22) kl_X10_171 dX10_gridAt_19 rfl ?_
        refine x_callSi (As := [.long _, .long _, .long _]) (rest := []) (pc' := 25) rfl sk_X10_50 mk_X10_in (by decide) rfl (Nat.le_of_ble_eq_true rfl) dX10_gridAt_22 rfl c_X10_in ?_
        refine x_if_ne (tgt := 31) (pc' := 28) (by decide) dX10_gridAt_25 rfl (fun c25 => ?_) (fun c25 => absurd c25 (by rw [b1 (by decide)]; decide))
        refine x_iload_n (pc' := 32) rfl dX10_gridAt_31 rfl ?_
        refine x_bipush (v := 6) (pc' := 34) (by decide) dX10_gridAt_32 rfl ?_
        refine x_icmp_ge (tgt := 44) (pc' := 37) (by decide) dX10_gridAt_34 rfl (fun c34 => ?_) (fun c34 => absurd (by decide) c34)
        refine x_aload_n (pc' := 45) rfl dX10_gridAt_44 rfl ?_
        refine x_iload_n (pc' := 46) rfl dX10_gridAt_45 rfl ?_
        refine x_callVv (As := [.int _]) (rest := []) (ci := 9) (pc' := 49) rfl vk_X10_148 mk_X10_gaps (by decide) (by first | assumption | exact ⟨by decide, rfl⟩) (by decide) rfl (Nat.le_of_ble_eq_true rfl) dX10_gridAt_46 rfl (v_X10_gaps hs hv hG rfl) ?_
        refine x_iload_n (pc' := 50) rfl dX10_gridAt_49 rfl ?_
        refine x_tswIn (off := 47) (tgt := 97) (by decide) (by decide) (by decide) (by decide) dX10_gridAt_50 ?_
        refine x_aload_n (pc' := 98) rfl dX10_gridAt_97 rfl ?_
        refine x_get (v := .int _) (pc' := 101) fk_X10_114 (by first | assumption | exact ⟨by decide, rfl⟩) rfl dX10_gridAt_98 rfl ?_
        exact x_iret rfl dX10_gridAt_101 rfl
      | 10, _ =>
        refine ⟨_, ?_, (ScM.thr σ 0).trans (ScM.g2 _ (nI (gapN (σ.1 19) G)) (gapM (σ.1 19) G))⟩
        rw [show gridAtS (σ.1 19) (nI G) (nI 10) = gaN (σ.1 19) G 10 by rw [gridAtS, pif_t hg, pif_t (by decide), hcl]; rfl]
        refine ct_of (k := 0) rfl rfl rfl (Nat.le_of_ble_eq_true rfl) ?_
        refine x_aload_n (pc' := 1) rfl dX10_gridAt_0 rfl ?_
        refine x_iconst (v := 0) (pc' := 2) (by decide) dX10_gridAt_1 rfl ?_
        refine x_puti (pc' := 5) fk_X10_46 pk_9_0 rfl (by first | assumption | exact ⟨by decide, rfl⟩) dX10_gridAt_2 rfl ?_
        refine x_aload_n (pc' := 6) rfl dX10_gridAt_5 rfl ?_
        refine x_iload_n (pc' := 7) rfl dX10_gridAt_6 rfl ?_
        refine x_callVi (As := [.int _]) (rest := []) (ci := 9) (pc' := 10) rfl vk_X10_54 mk_X10_isGrid (by decide) (by first | assumption | exact ⟨by decide, rfl⟩) (by decide) rfl (Nat.le_of_ble_eq_true rfl) dX10_gridAt_7 rfl (c_X10_isGrid (σ := pI σ 18 0 0) hv.c0 hv.c6) ?_
        refine x_if_ne (tgt := 16) (pc' := 13) (by decide) dX10_gridAt_10 rfl (fun c10 => ?_) (fun c10 => absurd c10 (by rw [b1 ((grS_iff hv).mpr hg)]; decide))
        refine x_iload_n (pc' := 17) rfl dX10_gridAt_16 rfl ?_
        refine x_i2l (pc' := 18) dX10_gridAt_17 rfl ?_
        refine x_lconst (v := 0) (pc' := 19) (by decide) dX10_gridAt_18 rfl ?_
        refine x_ldc2 (pc' := 22) kl_X10_171 dX10_gridAt_19 rfl ?_
        refine x_callSi (As := [.long _, .long _, .long _]) (rest := []) (pc' := 25) rfl sk_X10_50 mk_X10_in (by decide) rfl (Nat.le_of_ble_eq_true rfl) dX10_gridAt_22 rfl c_X10_in ?_
        refine x_if_ne (tgt := 31) (pc' := 28) (by decide) dX10_gridAt_25 rfl (fun c25 => ?_) (fun c25 => absurd c25 (by rw [b1 (by decide)]; decide))
        refine x_iload_n (pc' := 32) rfl dX10_gridAt_31 rfl ?_
        refine x_bipush (v := 6) (pc' := 34) (by decide) dX10_gridAt_32 rfl ?_
        refine x_icmp_ge (tgt := 44) (pc' := 37) (by decide) dX10_gridAt_34 rfl (fun c34 => ?_) (fun c34 => absurd (by decide) c34)
        refine x_aload_n (pc' := 45) rfl dX10_gridAt_44 rfl ?_
        refine x_iload_n (pc' := 46) rfl dX10_gridAt_45 rfl ?_
        refine x_callVv (As := [.int _]) (rest := []) (ci := 9) (pc' := 49) rfl vk_X10_148 mk_X10_gaps (by decide) (by first | assumption | exact ⟨by decide, rfl⟩) (by decide) rfl (Nat.le_of_ble_eq_true rfl) dX10_gridAt_46 rfl (v_X10_gaps hs hv hG rfl) ?_
        refine x_iload_n (pc' := 50) rfl dX10_gridAt_49 rfl ?_
        refine x_tswOut (tgt := 102) (Or.inr (by decide)) (by decide) dX10_gridAt_50 ?_
        refine x_aload_n (pc' := 103) rfl dX10_gridAt_102 rfl ?_
        refine x_iload_n (pc' := 104) rfl dX10_gridAt_103 rfl ?_
        refine x_iconst (v := 1) (pc' := 105) (by decide) dX10_gridAt_104 rfl ?_
        refine x_callVi (As := [.int _, .int _]) (rest := []) (ci := 9) (pc' := 108) rfl vk_X10_152 mk_X10_cells (by decide) (by first | assumption | exact ⟨by decide, rfl⟩) (by decide) rfl (Nat.le_of_ble_eq_true rfl) dX10_gridAt_105 rfl (v_X10_cells (g2_n (by decide)) hv hG rfl) ?_
        exact x_iret rfl dX10_gridAt_108 rfl
      | j + 11, hj => exact absurd hj (by omega)
  · refine ⟨_, ?_, ScM.thr σ 0⟩
    rw [gridAtS, pif_f hg]
    refine ct_of (k := 0) rfl rfl rfl (Nat.le_of_ble_eq_true rfl) ?_
    refine x_aload_n (pc' := 1) rfl dX10_gridAt_0 rfl ?_
    refine x_iconst (v := 0) (pc' := 2) (by decide) dX10_gridAt_1 rfl ?_
    refine x_puti (pc' := 5) fk_X10_46 pk_9_0 rfl (by first | assumption | exact ⟨by decide, rfl⟩) dX10_gridAt_2 rfl ?_
    refine x_aload_n (pc' := 6) rfl dX10_gridAt_5 rfl ?_
    refine x_iload_n (pc' := 7) rfl dX10_gridAt_6 rfl ?_
    refine x_callVi (As := [.int _]) (rest := []) (ci := 9) (pc' := 10) rfl vk_X10_54 mk_X10_isGrid (by decide) (by first | assumption | exact ⟨by decide, rfl⟩) (by decide) rfl (Nat.le_of_ble_eq_true rfl) dX10_gridAt_7 rfl (c_X10_isGrid (σ := pI σ 18 0 0) hv.c0 hv.c6) ?_
    refine x_if_ne (tgt := 16) (pc' := 13) (by decide) dX10_gridAt_10 rfl (fun c10 => absurd (b0 (fun q => hg ((grS_iff hv).mp q))) c10) (fun c10 => ?_)
    refine x_ldc (pc' := 15) kc_X10_170 dX10_gridAt_13 rfl ?_
    exact x_iret rfl dX10_gridAt_15 rfl
noncomputable def ndN (v : Nat → Int32) (G K R w : Nat) : Int32 := match w with
  | 0 => oV v G K R 0 + 1000000
  | 1 => oV v G K R 1 + 1000000
  | 2 => pif (v (2 + 6 * G) = -1) (-1) (ofpS v G K R 0 + 1000000)
  | _ => pif (v (2 + 6 * G) = -1) (-1) (ofpS v G K R 1 + 1000000)
noncomputable def nodeAtS (v : Nat → Int32) (g c r what : Int32) : Int32 := pif (nodS v g c r) (pif (0 ≤ what ∧ what < 4) (ndN v g.toNatClampNeg c.toNatClampNeg r.toNatClampNeg what.toNatClampNeg) (-1000000002)) (-1000000001)
noncomputable def clN (v : Nat → Int32) (G K R w : Nat) : Int64 := match w with
  | 0 => (steepS v G K R).toInt64
  | 1 => pif (sureS v G K R) 1 0
  | 2 => pif (foldS v G K R) 1 0
  | _ => areaS v G K R
noncomputable def cellAtS (v : Nat → Int32) (g c r what : Int32) : Int64 := pif (celS v g c r) (pif (0 ≤ what ∧ what < 4) (clN v g.toNatClampNeg c.toNatClampNeg r.toNatClampNeg what.toNatClampNeg) (-1000000002)) (-1000000001)
noncomputable def whichS (v : Nat → Int32) (x y : Int32) : Int32 := pif (plc x y) (owS v x.toNatClampNeg y.toNatClampNeg (cN v)) (-1000000002)
noncomputable def movedS (v : Nat → Int32) (x y what : Int32) : Int32 := pif (plc x y ∧ 0 ≤ what ∧ what < 2) (pif (what = 0) (x + mvS v x.toNatClampNeg y.toNatClampNeg 0 + 1000000) (y + mvS v x.toNatClampNeg y.toNatClampNeg 1 + 1000000)) (-1000000002)
set_option maxRecDepth 100000 in
set_option maxHeartbeats 4000000 in
theorem c_X10_nodeAt {σ : St} {g c r what : Int32} (hv : Ok (σ.1 19)) : ∃ σ', Ct yX10_nodeAt M_X10_nodeAt [.ref 18, .int g, .int c, .int r, .int what] σ (some (.int (nodeAtS (σ.1 19) g c r what)), σ') ∧ ScM σ σ' := by
  have hs : (pI σ 18 0 0).1 19 = σ.1 19 := pI_ne (by decide)
  have hv2 : Ok ((pI σ 18 0 0).1 19) := hv
  have h6 := hv.c6
  by_cases hg : nodS (σ.1 19) g c r
  · obtain ⟨G, K, R, hG, hK, hR, rfl, rfl, rfl⟩ := nodS_nat hv hg
    obtain ⟨g6, c5, r5, k2, l2, s1, s64⟩ := hv.b hG
    have e1 : (nI G).toNatClampNeg = G := nI_clamp (by omega)
    have e2 : (nI K).toNatClampNeg = K := nI_clamp (by omega)
    have e3 : (nI R).toNatClampNeg = R := nI_clamp (by omega)
    have out : (what < 0 ∨ nI 4 ≤ what) → ∃ σ', Ct yX10_nodeAt M_X10_nodeAt [.ref 18, .int (nI G), .int (nI K), .int (nI R), .int what] σ (some (.int (nodeAtS (σ.1 19) (nI G) (nI K) (nI R) what)), σ') ∧ ScM σ σ' := by
      intro h
      refine ⟨_, ?_, ScM.thr σ 0⟩
      have hn : ¬ (0 ≤ what ∧ what < 4) := fun q => h.elim (fun h => i_nlt.mpr q.1 h) (fun h => i_nlt.mpr h q.2)
      rw [nodeAtS, pif_t hg, pif_f hn]
      refine ct_of (k := 0) rfl rfl rfl (Nat.le_of_ble_eq_true rfl) ?_
      refine x_aload_n (pc' := 1) rfl dX10_nodeAt_0 rfl ?_
      refine x_iconst (v := 0) (pc' := 2) (by decide) dX10_nodeAt_1 rfl ?_
      refine x_puti (pc' := 5) fk_X10_46 pk_9_0 rfl (by first | assumption | exact ⟨by decide, rfl⟩) dX10_nodeAt_2 rfl ?_
      refine x_aload_n (pc' := 6) rfl dX10_nodeAt_5 rfl ?_
      refine x_iload_n (pc' := 7) rfl dX10_nodeAt_6 rfl ?_
      refine x_iload_n (pc' := 8) rfl dX10_nodeAt_7 rfl ?_
      refine x_iload_n (pc' := 9) rfl dX10_nodeAt_8 rfl ?_
      refine x_callVi (As := [.int _, .int _, .int _]) (rest := []) (ci := 9) (pc' := 12) rfl vk_X10_179 mk_X10_isNode (by decide) (by first | assumption | exact ⟨by decide, rfl⟩) (by decide) rfl (Nat.le_of_ble_eq_true rfl) dX10_nodeAt_9 rfl (v_X10_isNode hs hv) ?_
      refine x_if_ne (tgt := 18) (pc' := 15) (by decide) dX10_nodeAt_12 rfl (fun c12 => ?_) (fun c12 => absurd c12 (by rw [pb_1 hg]; decide))
      refine x_iload (pc' := 20) rfl dX10_nodeAt_18 rfl ?_
      refine x_i2l (pc' := 21) dX10_nodeAt_20 rfl ?_
      refine x_lconst (v := 0) (pc' := 22) (by decide) dX10_nodeAt_21 rfl ?_
      refine x_ldc2 (pc' := 25) kl_X10_182 dX10_nodeAt_22 rfl ?_
      refine x_callSi (As := [.long _, .long _, .long _]) (rest := []) (pc' := 28) rfl sk_X10_50 mk_X10_in (by decide) rfl (Nat.le_of_ble_eq_true rfl) dX10_nodeAt_25 rfl c_X10_in ?_
      refine x_if_ne (tgt := 34) (pc' := 31) (by decide) dX10_nodeAt_28 rfl (fun c28 => absurd (b0 (fun q => hn ((in_k what (N := 3) (by decide) (by decide)).mp q))) c28) (fun c28 => ?_)
      refine x_ldc (pc' := 33) kc_X10_169 dX10_nodeAt_31 rfl ?_
      exact x_iret rfl dX10_nodeAt_33 rfl
    rcases pk_ix what (n := 4) (by decide) with h | h | ⟨j, hj, rfl⟩
    · exact out (Or.inl h)
    · exact out (Or.inr h)
    · match j, hj with
      | 0, _ =>
        refine ⟨_, ?_, ScM.thr σ 0⟩
        rw [show nodeAtS (σ.1 19) (nI G) (nI K) (nI R) (nI 0) = ndN (σ.1 19) G K R 0 by rw [nodeAtS, pif_t hg, pif_t (by decide), e1, e2, e3]; rfl]
        refine ct_of (k := 0) rfl rfl rfl (Nat.le_of_ble_eq_true rfl) ?_
        refine x_aload_n (pc' := 1) rfl dX10_nodeAt_0 rfl ?_
        refine x_iconst (v := 0) (pc' := 2) (by decide) dX10_nodeAt_1 rfl ?_
        refine x_puti (pc' := 5) fk_X10_46 pk_9_0 rfl (by first | assumption | exact ⟨by decide, rfl⟩) dX10_nodeAt_2 rfl ?_
        refine x_aload_n (pc' := 6) rfl dX10_nodeAt_5 rfl ?_
        refine x_iload_n (pc' := 7) rfl dX10_nodeAt_6 rfl ?_
        refine x_iload_n (pc' := 8) rfl dX10_nodeAt_7 rfl ?_
        refine x_iload_n (pc' := 9) rfl dX10_nodeAt_8 rfl ?_
        refine x_callVi (As := [.int _, .int _, .int _]) (rest := []) (ci := 9) (pc' := 12) rfl vk_X10_179 mk_X10_isNode (by decide) (by first | assumption | exact ⟨by decide, rfl⟩) (by decide) rfl (Nat.le_of_ble_eq_true rfl) dX10_nodeAt_9 rfl (v_X10_isNode hs hv) ?_
        refine x_if_ne (tgt := 18) (pc' := 15) (by decide) dX10_nodeAt_12 rfl (fun c12 => ?_) (fun c12 => absurd c12 (by rw [pb_1 hg]; decide))
        refine x_iload (pc' := 20) rfl dX10_nodeAt_18 rfl ?_
        refine x_i2l (pc' := 21) dX10_nodeAt_20 rfl ?_
        refine x_lconst (v := 0) (pc' := 22) (by decide) dX10_nodeAt_21 rfl ?_
        refine x_ldc2 (pc' := 25) kl_X10_182 dX10_nodeAt_22 rfl ?_
        refine x_callSi (As := [.long _, .long _, .long _]) (rest := []) (pc' := 28) rfl sk_X10_50 mk_X10_in (by decide) rfl (Nat.le_of_ble_eq_true rfl) dX10_nodeAt_25 rfl c_X10_in ?_
        refine x_if_ne (tgt := 34) (pc' := 31) (by decide) dX10_nodeAt_28 rfl (fun c28 => ?_) (fun c28 => absurd c28 (by rw [b1 (by decide)]; decide))
        refine x_iload (pc' := 36) rfl dX10_nodeAt_34 rfl ?_
        refine x_iconst (v := 2) (pc' := 37) (by decide) dX10_nodeAt_36 rfl ?_
        refine x_icmp_ge (tgt := 53) (pc' := 40) (by decide) dX10_nodeAt_37 rfl (fun c37 => absurd c37 (by decide)) (fun c37 => ?_)
        refine x_aload_n (pc' := 41) rfl dX10_nodeAt_40 rfl ?_
        refine x_iload_n (pc' := 42) rfl dX10_nodeAt_41 rfl ?_
        refine x_iload_n (pc' := 43) rfl dX10_nodeAt_42 rfl ?_
        refine x_iload_n (pc' := 44) rfl dX10_nodeAt_43 rfl ?_
        refine x_iload (pc' := 46) rfl dX10_nodeAt_44 rfl ?_
        refine x_callVi (As := [.int _, .int _, .int _, .int _]) (rest := []) (ci := 9) (pc' := 49) rfl vk_X10_87 mk_X10_off (by decide) (by first | assumption | exact ⟨by decide, rfl⟩) (by decide) rfl (Nat.le_of_ble_eq_true rfl) dX10_nodeAt_46 rfl (v_X10_off hs (W := 0) rfl rfl rfl rfl (by omega)) ?_
        refine x_ldc (pc' := 51) kc_X10_184 dX10_nodeAt_49 rfl ?_
        refine x_iadd (pc' := 52) dX10_nodeAt_51 rfl ?_
        exact x_iret rfl dX10_nodeAt_52 rfl
      | 1, _ =>
        refine ⟨_, ?_, ScM.thr σ 0⟩
        rw [show nodeAtS (σ.1 19) (nI G) (nI K) (nI R) (nI 1) = ndN (σ.1 19) G K R 1 by rw [nodeAtS, pif_t hg, pif_t (by decide), e1, e2, e3]; rfl]
        refine ct_of (k := 0) rfl rfl rfl (Nat.le_of_ble_eq_true rfl) ?_
        refine x_aload_n (pc' := 1) rfl dX10_nodeAt_0 rfl ?_
        refine x_iconst (v := 0) (pc' := 2) (by decide) dX10_nodeAt_1 rfl ?_
        refine x_puti (pc' := 5) fk_X10_46 pk_9_0 rfl (by first | assumption | exact ⟨by decide, rfl⟩) dX10_nodeAt_2 rfl ?_
        refine x_aload_n (pc' := 6) rfl dX10_nodeAt_5 rfl ?_
        refine x_iload_n (pc' := 7) rfl dX10_nodeAt_6 rfl ?_
        refine x_iload_n (pc' := 8) rfl dX10_nodeAt_7 rfl ?_
        refine x_iload_n (pc' := 9) rfl dX10_nodeAt_8 rfl ?_
        refine x_callVi (As := [.int _, .int _, .int _]) (rest := []) (ci := 9) (pc' := 12) rfl vk_X10_179 mk_X10_isNode (by decide) (by first | assumption | exact ⟨by decide, rfl⟩) (by decide) rfl (Nat.le_of_ble_eq_true rfl) dX10_nodeAt_9 rfl (v_X10_isNode hs hv) ?_
        refine x_if_ne (tgt := 18) (pc' := 15) (by decide) dX10_nodeAt_12 rfl (fun c12 => ?_) (fun c12 => absurd c12 (by rw [pb_1 hg]; decide))
        refine x_iload (pc' := 20) rfl dX10_nodeAt_18 rfl ?_
        refine x_i2l (pc' := 21) dX10_nodeAt_20 rfl ?_
        refine x_lconst (v := 0) (pc' := 22) (by decide) dX10_nodeAt_21 rfl ?_
        refine x_ldc2 (pc' := 25) kl_X10_182 dX10_nodeAt_22 rfl ?_
        refine x_callSi (As := [.long _, .long _, .long _]) (rest := []) (pc' := 28) rfl sk_X10_50 mk_X10_in (by decide) rfl (Nat.le_of_ble_eq_true rfl) dX10_nodeAt_25 rfl c_X10_in ?_
        refine x_if_ne (tgt := 34) (pc' := 31) (by decide) dX10_nodeAt_28 rfl (fun c28 => ?_) (fun c28 => absurd c28 (by rw [b1 (by decide)]; decide))
        refine x_iload (pc' := 36) rfl dX10_nodeAt_34 rfl ?_
        refine x_iconst (v := 2) (pc' := 37) (by decide) dX10_nodeAt_36 rfl ?_
        refine x_icmp_ge (tgt := 53) (pc' := 40) (by decide) dX10_nodeAt_37 rfl (fun c37 => absurd c37 (by decide)) (fun c37 => ?_)
        refine x_aload_n (pc' := 41) rfl dX10_nodeAt_40 rfl ?_
        refine x_iload_n (pc' := 42) rfl dX10_nodeAt_41 rfl ?_
        refine x_iload_n (pc' := 43) rfl dX10_nodeAt_42 rfl ?_
        refine x_iload_n (pc' := 44) rfl dX10_nodeAt_43 rfl ?_
        refine x_iload (pc' := 46) rfl dX10_nodeAt_44 rfl ?_
        refine x_callVi (As := [.int _, .int _, .int _, .int _]) (rest := []) (ci := 9) (pc' := 49) rfl vk_X10_87 mk_X10_off (by decide) (by first | assumption | exact ⟨by decide, rfl⟩) (by decide) rfl (Nat.le_of_ble_eq_true rfl) dX10_nodeAt_46 rfl (v_X10_off hs (W := 1) rfl rfl rfl rfl (by omega)) ?_
        refine x_ldc (pc' := 51) kc_X10_184 dX10_nodeAt_49 rfl ?_
        refine x_iadd (pc' := 52) dX10_nodeAt_51 rfl ?_
        exact x_iret rfl dX10_nodeAt_52 rfl
      | 2, _ =>
        refine ⟨_, ?_, ScM.thr σ 0⟩
        rw [show nodeAtS (σ.1 19) (nI G) (nI K) (nI R) (nI 2) = ndN (σ.1 19) G K R 2 by rw [nodeAtS, pif_t hg, pif_t (by decide), e1, e2, e3]; rfl]
        refine ct_of (k := 0) rfl rfl rfl (Nat.le_of_ble_eq_true rfl) ?_
        refine x_aload_n (pc' := 1) rfl dX10_nodeAt_0 rfl ?_
        refine x_iconst (v := 0) (pc' := 2) (by decide) dX10_nodeAt_1 rfl ?_
        refine x_puti (pc' := 5) fk_X10_46 pk_9_0 rfl (by first | assumption | exact ⟨by decide, rfl⟩) dX10_nodeAt_2 rfl ?_
        refine x_aload_n (pc' := 6) rfl dX10_nodeAt_5 rfl ?_
        refine x_iload_n (pc' := 7) rfl dX10_nodeAt_6 rfl ?_
        refine x_iload_n (pc' := 8) rfl dX10_nodeAt_7 rfl ?_
        refine x_iload_n (pc' := 9) rfl dX10_nodeAt_8 rfl ?_
        refine x_callVi (As := [.int _, .int _, .int _]) (rest := []) (ci := 9) (pc' := 12) rfl vk_X10_179 mk_X10_isNode (by decide) (by first | assumption | exact ⟨by decide, rfl⟩) (by decide) rfl (Nat.le_of_ble_eq_true rfl) dX10_nodeAt_9 rfl (v_X10_isNode hs hv) ?_
        refine x_if_ne (tgt := 18) (pc' := 15) (by decide) dX10_nodeAt_12 rfl (fun c12 => ?_) (fun c12 => absurd c12 (by rw [pb_1 hg]; decide))
        refine x_iload (pc' := 20) rfl dX10_nodeAt_18 rfl ?_
        refine x_i2l (pc' := 21) dX10_nodeAt_20 rfl ?_
        refine x_lconst (v := 0) (pc' := 22) (by decide) dX10_nodeAt_21 rfl ?_
        refine x_ldc2 (pc' := 25) kl_X10_182 dX10_nodeAt_22 rfl ?_
        refine x_callSi (As := [.long _, .long _, .long _]) (rest := []) (pc' := 28) rfl sk_X10_50 mk_X10_in (by decide) rfl (Nat.le_of_ble_eq_true rfl) dX10_nodeAt_25 rfl c_X10_in ?_
        refine x_if_ne (tgt := 34) (pc' := 31) (by decide) dX10_nodeAt_28 rfl (fun c28 => ?_) (fun c28 => absurd c28 (by rw [b1 (by decide)]; decide))
        refine x_iload (pc' := 36) rfl dX10_nodeAt_34 rfl ?_
        refine x_iconst (v := 2) (pc' := 37) (by decide) dX10_nodeAt_36 rfl ?_
        refine x_icmp_ge (tgt := 53) (pc' := 40) (by decide) dX10_nodeAt_37 rfl (fun c37 => ?_) (fun c37 => absurd (by decide) c37)
        refine x_aload_n (pc' := 54) rfl dX10_nodeAt_53 rfl ?_
        refine x_iload_n (pc' := 55) rfl dX10_nodeAt_54 rfl ?_
        refine x_iconst (v := 0) (pc' := 56) (by decide) dX10_nodeAt_55 rfl ?_
        refine x_callVi (As := [.int _, .int _]) (rest := []) (ci := 9) (pc' := 59) rfl vk_X10_58 mk_X10_its (by decide) (by first | assumption | exact ⟨by decide, rfl⟩) (by decide) rfl (Nat.le_of_ble_eq_true rfl) dX10_nodeAt_56 rfl (v_X10_its hs (E := 0) rfl rfl (by omega)) ?_
        refine x_iconst (v := (-1)) (pc' := 60) (by decide) dX10_nodeAt_59 rfl ?_
        refine x_icmp_ne (tgt := 67) (pc' := 63) (by decide) dX10_nodeAt_60 rfl (fun c60 => ?_) (fun c60 => ?_)
        · refine x_aload_n (pc' := 68) rfl dX10_nodeAt_67 rfl ?_
          refine x_iload_n (pc' := 69) rfl dX10_nodeAt_68 rfl ?_
          refine x_iload_n (pc' := 70) rfl dX10_nodeAt_69 rfl ?_
          refine x_iload_n (pc' := 71) rfl dX10_nodeAt_70 rfl ?_
          refine x_iload (pc' := 73) rfl dX10_nodeAt_71 rfl ?_
          refine x_iconst (v := 2) (pc' := 74) (by decide) dX10_nodeAt_73 rfl ?_
          refine x_isub (pc' := 75) dX10_nodeAt_74 rfl ?_
          refine x_callVi (As := [.int _, .int _, .int _, .int _]) (rest := []) (ci := 9) (pc' := 78) rfl vk_X10_101 mk_X10_ofParent (by decide) (by first | assumption | exact ⟨by decide, rfl⟩) (by decide) rfl (Nat.le_of_ble_eq_true rfl) dX10_nodeAt_75 rfl (v_X10_ofParent hs hv hG c60 rfl rfl rfl hK hR (W := 0) (by decide) (by decide)) ?_
          refine x_ldc (pc' := 80) kc_X10_184 dX10_nodeAt_78 rfl ?_
          refine x_iadd (pc' := 81) dX10_nodeAt_80 rfl ?_
          exact x_iret rfl dX10_nodeAt_81 (ret_i (pif_f c60).symm)
        · refine x_iconst (v := (-1)) (pc' := 64) (by decide) dX10_nodeAt_63 rfl ?_
          refine x_goto (tgt := 81) (by decide) dX10_nodeAt_64 ?_
          exact x_iret rfl dX10_nodeAt_81 (ret_i (pif_t c60).symm)
      | 3, _ =>
        refine ⟨_, ?_, ScM.thr σ 0⟩
        rw [show nodeAtS (σ.1 19) (nI G) (nI K) (nI R) (nI 3) = ndN (σ.1 19) G K R 3 by rw [nodeAtS, pif_t hg, pif_t (by decide), e1, e2, e3]; rfl]
        refine ct_of (k := 0) rfl rfl rfl (Nat.le_of_ble_eq_true rfl) ?_
        refine x_aload_n (pc' := 1) rfl dX10_nodeAt_0 rfl ?_
        refine x_iconst (v := 0) (pc' := 2) (by decide) dX10_nodeAt_1 rfl ?_
        refine x_puti (pc' := 5) fk_X10_46 pk_9_0 rfl (by first | assumption | exact ⟨by decide, rfl⟩) dX10_nodeAt_2 rfl ?_
        refine x_aload_n (pc' := 6) rfl dX10_nodeAt_5 rfl ?_
        refine x_iload_n (pc' := 7) rfl dX10_nodeAt_6 rfl ?_
        refine x_iload_n (pc' := 8) rfl dX10_nodeAt_7 rfl ?_
        refine x_iload_n (pc' := 9) rfl dX10_nodeAt_8 rfl ?_
        refine x_callVi (As := [.int _, .int _, .int _]) (rest := []) (ci := 9) (pc' := 12) rfl vk_X10_179 mk_X10_isNode (by decide) (by first | assumption | exact ⟨by decide, rfl⟩) (by decide) rfl (Nat.le_of_ble_eq_true rfl) dX10_nodeAt_9 rfl (v_X10_isNode hs hv) ?_
        refine x_if_ne (tgt := 18) (pc' := 15) (by decide) dX10_nodeAt_12 rfl (fun c12 => ?_) (fun c12 => absurd c12 (by rw [pb_1 hg]; decide))
        refine x_iload (pc' := 20) rfl dX10_nodeAt_18 rfl ?_
        refine x_i2l (pc' := 21) dX10_nodeAt_20 rfl ?_
        refine x_lconst (v := 0) (pc' := 22) (by decide) dX10_nodeAt_21 rfl ?_
        refine x_ldc2 (pc' := 25) kl_X10_182 dX10_nodeAt_22 rfl ?_
        refine x_callSi (As := [.long _, .long _, .long _]) (rest := []) (pc' := 28) rfl sk_X10_50 mk_X10_in (by decide) rfl (Nat.le_of_ble_eq_true rfl) dX10_nodeAt_25 rfl c_X10_in ?_
        refine x_if_ne (tgt := 34) (pc' := 31) (by decide) dX10_nodeAt_28 rfl (fun c28 => ?_) (fun c28 => absurd c28 (by rw [b1 (by decide)]; decide))
        refine x_iload (pc' := 36) rfl dX10_nodeAt_34 rfl ?_
        refine x_iconst (v := 2) (pc' := 37) (by decide) dX10_nodeAt_36 rfl ?_
        refine x_icmp_ge (tgt := 53) (pc' := 40) (by decide) dX10_nodeAt_37 rfl (fun c37 => ?_) (fun c37 => absurd (by decide) c37)
        refine x_aload_n (pc' := 54) rfl dX10_nodeAt_53 rfl ?_
        refine x_iload_n (pc' := 55) rfl dX10_nodeAt_54 rfl ?_
        refine x_iconst (v := 0) (pc' := 56) (by decide) dX10_nodeAt_55 rfl ?_
        refine x_callVi (As := [.int _, .int _]) (rest := []) (ci := 9) (pc' := 59) rfl vk_X10_58 mk_X10_its (by decide) (by first | assumption | exact ⟨by decide, rfl⟩) (by decide) rfl (Nat.le_of_ble_eq_true rfl) dX10_nodeAt_56 rfl (v_X10_its hs (E := 0) rfl rfl (by omega)) ?_
        refine x_iconst (v := (-1)) (pc' := 60) (by decide) dX10_nodeAt_59 rfl ?_
        refine x_icmp_ne (tgt := 67) (pc' := 63) (by decide) dX10_nodeAt_60 rfl (fun c60 => ?_) (fun c60 => ?_)
        · refine x_aload_n (pc' := 68) rfl dX10_nodeAt_67 rfl ?_
          refine x_iload_n (pc' := 69) rfl dX10_nodeAt_68 rfl ?_
          refine x_iload_n (pc' := 70) rfl dX10_nodeAt_69 rfl ?_
          refine x_iload_n (pc' := 71) rfl dX10_nodeAt_70 rfl ?_
          refine x_iload (pc' := 73) rfl dX10_nodeAt_71 rfl ?_
          refine x_iconst (v := 2) (pc' := 74) (by decide) dX10_nodeAt_73 rfl ?_
          refine x_isub (pc' := 75) dX10_nodeAt_74 rfl ?_
          refine x_callVi (As := [.int _, .int _, .int _, .int _]) (rest := []) (ci := 9) (pc' := 78) rfl vk_X10_101 mk_X10_ofParent (by decide) (by first | assumption | exact ⟨by decide, rfl⟩) (by decide) rfl (Nat.le_of_ble_eq_true rfl) dX10_nodeAt_75 rfl (v_X10_ofParent hs hv hG c60 rfl rfl rfl hK hR (W := 1) (by decide) (by decide)) ?_
          refine x_ldc (pc' := 80) kc_X10_184 dX10_nodeAt_78 rfl ?_
          refine x_iadd (pc' := 81) dX10_nodeAt_80 rfl ?_
          exact x_iret rfl dX10_nodeAt_81 (ret_i (pif_f c60).symm)
        · refine x_iconst (v := (-1)) (pc' := 64) (by decide) dX10_nodeAt_63 rfl ?_
          refine x_goto (tgt := 81) (by decide) dX10_nodeAt_64 ?_
          exact x_iret rfl dX10_nodeAt_81 (ret_i (pif_t c60).symm)
      | j + 4, hj => exact absurd hj (by omega)
  · refine ⟨_, ?_, ScM.thr σ 0⟩
    rw [nodeAtS, pif_f hg]
    refine ct_of (k := 0) rfl rfl rfl (Nat.le_of_ble_eq_true rfl) ?_
    refine x_aload_n (pc' := 1) rfl dX10_nodeAt_0 rfl ?_
    refine x_iconst (v := 0) (pc' := 2) (by decide) dX10_nodeAt_1 rfl ?_
    refine x_puti (pc' := 5) fk_X10_46 pk_9_0 rfl (by first | assumption | exact ⟨by decide, rfl⟩) dX10_nodeAt_2 rfl ?_
    refine x_aload_n (pc' := 6) rfl dX10_nodeAt_5 rfl ?_
    refine x_iload_n (pc' := 7) rfl dX10_nodeAt_6 rfl ?_
    refine x_iload_n (pc' := 8) rfl dX10_nodeAt_7 rfl ?_
    refine x_iload_n (pc' := 9) rfl dX10_nodeAt_8 rfl ?_
    refine x_callVi (As := [.int _, .int _, .int _]) (rest := []) (ci := 9) (pc' := 12) rfl vk_X10_179 mk_X10_isNode (by decide) (by first | assumption | exact ⟨by decide, rfl⟩) (by decide) rfl (Nat.le_of_ble_eq_true rfl) dX10_nodeAt_9 rfl (v_X10_isNode hs hv) ?_
    refine x_if_ne (tgt := 18) (pc' := 15) (by decide) dX10_nodeAt_12 rfl (fun c12 => absurd (pb_0 hg) c12) (fun c12 => ?_)
    refine x_ldc (pc' := 17) kc_X10_170 dX10_nodeAt_15 rfl ?_
    exact x_iret rfl dX10_nodeAt_17 rfl
set_option maxRecDepth 100000 in
set_option maxHeartbeats 4000000 in
theorem c_X10_cellAt {σ : St} {g c r what : Int32} (hv : Ok (σ.1 19)) : ∃ σ', Ct yX10_cellAt M_X10_cellAt [.ref 18, .int g, .int c, .int r, .int what] σ (some (.long (cellAtS (σ.1 19) g c r what)), σ') ∧ ScM σ σ' := by
  have hs : (pI σ 18 0 0).1 19 = σ.1 19 := pI_ne (by decide)
  have hv2 : Ok ((pI σ 18 0 0).1 19) := hv
  have h6 := hv.c6
  by_cases hg : celS (σ.1 19) g c r
  · obtain ⟨G, K, R, hG, hK, hR, rfl, rfl, rfl⟩ := celS_nat hv hg
    obtain ⟨g6, c5, r5, k2, l2, s1, s64⟩ := hv.b hG
    have e1 : (nI G).toNatClampNeg = G := nI_clamp (by omega)
    have e2 : (nI K).toNatClampNeg = K := nI_clamp (by omega)
    have e3 : (nI R).toNatClampNeg = R := nI_clamp (by omega)
    have out : (what < 0 ∨ nI 4 ≤ what) → ∃ σ', Ct yX10_cellAt M_X10_cellAt [.ref 18, .int (nI G), .int (nI K), .int (nI R), .int what] σ (some (.long (cellAtS (σ.1 19) (nI G) (nI K) (nI R) what)), σ') ∧ ScM σ σ' := by
      intro h
      refine ⟨_, ?_, ScM.thr σ 0⟩
      have hn : ¬ (0 ≤ what ∧ what < 4) := fun q => h.elim (fun h => i_nlt.mpr q.1 h) (fun h => i_nlt.mpr h q.2)
      rw [cellAtS, pif_t hg, pif_f hn]
      refine ct_of (k := 0) rfl rfl rfl (Nat.le_of_ble_eq_true rfl) ?_
      refine x_aload_n (pc' := 1) rfl dX10_cellAt_0 rfl ?_
      refine x_iconst (v := 0) (pc' := 2) (by decide) dX10_cellAt_1 rfl ?_
      refine x_puti (pc' := 5) fk_X10_46 pk_9_0 rfl (by first | assumption | exact ⟨by decide, rfl⟩) dX10_cellAt_2 rfl ?_
      refine x_aload_n (pc' := 6) rfl dX10_cellAt_5 rfl ?_
      refine x_iload_n (pc' := 7) rfl dX10_cellAt_6 rfl ?_
      refine x_iload_n (pc' := 8) rfl dX10_cellAt_7 rfl ?_
      refine x_iload_n (pc' := 9) rfl dX10_cellAt_8 rfl ?_
      refine x_callVi (As := [.int _, .int _, .int _]) (rest := []) (ci := 9) (pc' := 12) rfl vk_X10_185 mk_X10_isCell (by decide) (by first | assumption | exact ⟨by decide, rfl⟩) (by decide) rfl (Nat.le_of_ble_eq_true rfl) dX10_cellAt_9 rfl (v_X10_isCell hs hv) ?_
      refine x_if_ne (tgt := 19) (pc' := 15) (by decide) dX10_cellAt_12 rfl (fun c12 => ?_) (fun c12 => absurd c12 (by rw [pb_1 hg]; decide))
      refine x_iload (pc' := 21) rfl dX10_cellAt_19 rfl ?_
      refine x_tswOut (tgt := 101) (h.elim (fun h => Or.inl ((sI_lt _ _).mp h)) (fun h => Or.inr (Int.lt_of_lt_of_le (by decide) ((sI_le _ _).mp h)))) (by decide) dX10_cellAt_21 ?_
      refine x_ldc2 (pc' := 104) kl_X10_194 dX10_cellAt_101 rfl ?_
      exact x_lret rfl dX10_cellAt_104 rfl
    rcases pk_ix what (n := 4) (by decide) with h | h | ⟨j, hj, rfl⟩
    · exact out (Or.inl h)
    · exact out (Or.inr h)
    · match j, hj with
      | 0, _ =>
        refine ⟨_, ?_, ScM.thr σ 0⟩
        rw [show cellAtS (σ.1 19) (nI G) (nI K) (nI R) (nI 0) = clN (σ.1 19) G K R 0 by rw [cellAtS, pif_t hg, pif_t (by decide), e1, e2, e3]; rfl]
        refine ct_of (k := 0) rfl rfl rfl (Nat.le_of_ble_eq_true rfl) ?_
        refine x_aload_n (pc' := 1) rfl dX10_cellAt_0 rfl ?_
        refine x_iconst (v := 0) (pc' := 2) (by decide) dX10_cellAt_1 rfl ?_
        refine x_puti (pc' := 5) fk_X10_46 pk_9_0 rfl (by first | assumption | exact ⟨by decide, rfl⟩) dX10_cellAt_2 rfl ?_
        refine x_aload_n (pc' := 6) rfl dX10_cellAt_5 rfl ?_
        refine x_iload_n (pc' := 7) rfl dX10_cellAt_6 rfl ?_
        refine x_iload_n (pc' := 8) rfl dX10_cellAt_7 rfl ?_
        refine x_iload_n (pc' := 9) rfl dX10_cellAt_8 rfl ?_
        refine x_callVi (As := [.int _, .int _, .int _]) (rest := []) (ci := 9) (pc' := 12) rfl vk_X10_185 mk_X10_isCell (by decide) (by first | assumption | exact ⟨by decide, rfl⟩) (by decide) rfl (Nat.le_of_ble_eq_true rfl) dX10_cellAt_9 rfl (v_X10_isCell hs hv) ?_
        refine x_if_ne (tgt := 19) (pc' := 15) (by decide) dX10_cellAt_12 rfl (fun c12 => ?_) (fun c12 => absurd c12 (by rw [pb_1 hg]; decide))
        refine x_iload (pc' := 21) rfl dX10_cellAt_19 rfl ?_
        refine x_tswIn (off := 31) (tgt := 52) (by decide) (by decide) (by decide) (by decide) dX10_cellAt_21 ?_
        refine x_aload_n (pc' := 53) rfl dX10_cellAt_52 rfl ?_
        refine x_iload_n (pc' := 54) rfl dX10_cellAt_53 rfl ?_
        refine x_iload_n (pc' := 55) rfl dX10_cellAt_54 rfl ?_
        refine x_iload_n (pc' := 56) rfl dX10_cellAt_55 rfl ?_
        refine x_callVi (As := [.int _, .int _, .int _]) (rest := []) (ci := 9) (pc' := 59) rfl vk_X10_126 mk_X10_steep (by decide) (by first | assumption | exact ⟨by decide, rfl⟩) (by decide) rfl (Nat.le_of_ble_eq_true rfl) dX10_cellAt_56 rfl (v_X10_steep hs hv hG rfl rfl rfl hK hR) ?_
        refine x_i2l (pc' := 60) dX10_cellAt_59 rfl ?_
        exact x_lret rfl dX10_cellAt_60 rfl
      | 1, _ =>
        refine ⟨_, ?_, ScM.thr σ 0⟩
        rw [show cellAtS (σ.1 19) (nI G) (nI K) (nI R) (nI 1) = clN (σ.1 19) G K R 1 by rw [cellAtS, pif_t hg, pif_t (by decide), e1, e2, e3]; rfl]
        refine ct_of (k := 0) rfl rfl rfl (Nat.le_of_ble_eq_true rfl) ?_
        refine x_aload_n (pc' := 1) rfl dX10_cellAt_0 rfl ?_
        refine x_iconst (v := 0) (pc' := 2) (by decide) dX10_cellAt_1 rfl ?_
        refine x_puti (pc' := 5) fk_X10_46 pk_9_0 rfl (by first | assumption | exact ⟨by decide, rfl⟩) dX10_cellAt_2 rfl ?_
        refine x_aload_n (pc' := 6) rfl dX10_cellAt_5 rfl ?_
        refine x_iload_n (pc' := 7) rfl dX10_cellAt_6 rfl ?_
        refine x_iload_n (pc' := 8) rfl dX10_cellAt_7 rfl ?_
        refine x_iload_n (pc' := 9) rfl dX10_cellAt_8 rfl ?_
        refine x_callVi (As := [.int _, .int _, .int _]) (rest := []) (ci := 9) (pc' := 12) rfl vk_X10_185 mk_X10_isCell (by decide) (by first | assumption | exact ⟨by decide, rfl⟩) (by decide) rfl (Nat.le_of_ble_eq_true rfl) dX10_cellAt_9 rfl (v_X10_isCell hs hv) ?_
        refine x_if_ne (tgt := 19) (pc' := 15) (by decide) dX10_cellAt_12 rfl (fun c12 => ?_) (fun c12 => absurd c12 (by rw [pb_1 hg]; decide))
        refine x_iload (pc' := 21) rfl dX10_cellAt_19 rfl ?_
        refine x_tswIn (off := 40) (tgt := 61) (by decide) (by decide) (by decide) (by decide) dX10_cellAt_21 ?_
        refine x_aload_n (pc' := 62) rfl dX10_cellAt_61 rfl ?_
        refine x_iload_n (pc' := 63) rfl dX10_cellAt_62 rfl ?_
        refine x_iload_n (pc' := 64) rfl dX10_cellAt_63 rfl ?_
        refine x_iload_n (pc' := 65) rfl dX10_cellAt_64 rfl ?_
        refine x_callVi (As := [.int _, .int _, .int _]) (rest := []) (ci := 9) (pc' := 68) rfl vk_X10_139 mk_X10_isSure (by decide) (by first | assumption | exact ⟨by decide, rfl⟩) (by decide) rfl (Nat.le_of_ble_eq_true rfl) dX10_cellAt_65 rfl (v_X10_isSure hs hv hG rfl rfl rfl hK hR) ?_
        refine x_if_eq (tgt := 75) (pc' := 71) (by decide) dX10_cellAt_68 rfl (fun c68 => ?_) (fun c68 => ?_)
        · refine x_lconst (v := 0) (pc' := 76) (by decide) dX10_cellAt_75 rfl ?_
          exact x_lret rfl dX10_cellAt_76 (ret_l (pif_f (pb_iff.mp c68)).symm)
        · refine x_lconst (v := 1) (pc' := 72) (by decide) dX10_cellAt_71 rfl ?_
          refine x_goto (tgt := 76) (by decide) dX10_cellAt_72 ?_
          exact x_lret rfl dX10_cellAt_76 (ret_l (pif_t (pb_n c68)).symm)
      | 2, _ =>
        refine ⟨_, ?_, ScM.thr σ 0⟩
        rw [show cellAtS (σ.1 19) (nI G) (nI K) (nI R) (nI 2) = clN (σ.1 19) G K R 2 by rw [cellAtS, pif_t hg, pif_t (by decide), e1, e2, e3]; rfl]
        refine ct_of (k := 0) rfl rfl rfl (Nat.le_of_ble_eq_true rfl) ?_
        refine x_aload_n (pc' := 1) rfl dX10_cellAt_0 rfl ?_
        refine x_iconst (v := 0) (pc' := 2) (by decide) dX10_cellAt_1 rfl ?_
        refine x_puti (pc' := 5) fk_X10_46 pk_9_0 rfl (by first | assumption | exact ⟨by decide, rfl⟩) dX10_cellAt_2 rfl ?_
        refine x_aload_n (pc' := 6) rfl dX10_cellAt_5 rfl ?_
        refine x_iload_n (pc' := 7) rfl dX10_cellAt_6 rfl ?_
        refine x_iload_n (pc' := 8) rfl dX10_cellAt_7 rfl ?_
        refine x_iload_n (pc' := 9) rfl dX10_cellAt_8 rfl ?_
        refine x_callVi (As := [.int _, .int _, .int _]) (rest := []) (ci := 9) (pc' := 12) rfl vk_X10_185 mk_X10_isCell (by decide) (by first | assumption | exact ⟨by decide, rfl⟩) (by decide) rfl (Nat.le_of_ble_eq_true rfl) dX10_cellAt_9 rfl (v_X10_isCell hs hv) ?_
        refine x_if_ne (tgt := 19) (pc' := 15) (by decide) dX10_cellAt_12 rfl (fun c12 => ?_) (fun c12 => absurd c12 (by rw [pb_1 hg]; decide))
        refine x_iload (pc' := 21) rfl dX10_cellAt_19 rfl ?_
        refine x_tswIn (off := 56) (tgt := 77) (by decide) (by decide) (by decide) (by decide) dX10_cellAt_21 ?_
        refine x_aload_n (pc' := 78) rfl dX10_cellAt_77 rfl ?_
        refine x_iload_n (pc' := 79) rfl dX10_cellAt_78 rfl ?_
        refine x_iload_n (pc' := 80) rfl dX10_cellAt_79 rfl ?_
        refine x_iload_n (pc' := 81) rfl dX10_cellAt_80 rfl ?_
        refine x_callVi (As := [.int _, .int _, .int _]) (rest := []) (ci := 9) (pc' := 84) rfl vk_X10_136 mk_X10_isFolded (by decide) (by first | assumption | exact ⟨by decide, rfl⟩) (by decide) rfl (Nat.le_of_ble_eq_true rfl) dX10_cellAt_81 rfl (v_X10_isFolded hs hv hG rfl rfl rfl hK hR) ?_
        refine x_if_eq (tgt := 91) (pc' := 87) (by decide) dX10_cellAt_84 rfl (fun c84 => ?_) (fun c84 => ?_)
        · refine x_lconst (v := 0) (pc' := 92) (by decide) dX10_cellAt_91 rfl ?_
          exact x_lret rfl dX10_cellAt_92 (ret_l (pif_f (pb_iff.mp c84)).symm)
        · refine x_lconst (v := 1) (pc' := 88) (by decide) dX10_cellAt_87 rfl ?_
          refine x_goto (tgt := 92) (by decide) dX10_cellAt_88 ?_
          exact x_lret rfl dX10_cellAt_92 (ret_l (pif_t (pb_n c84)).symm)
      | 3, _ =>
        refine ⟨_, ?_, ScM.thr σ 0⟩
        rw [show cellAtS (σ.1 19) (nI G) (nI K) (nI R) (nI 3) = clN (σ.1 19) G K R 3 by rw [cellAtS, pif_t hg, pif_t (by decide), e1, e2, e3]; rfl]
        refine ct_of (k := 0) rfl rfl rfl (Nat.le_of_ble_eq_true rfl) ?_
        refine x_aload_n (pc' := 1) rfl dX10_cellAt_0 rfl ?_
        refine x_iconst (v := 0) (pc' := 2) (by decide) dX10_cellAt_1 rfl ?_
        refine x_puti (pc' := 5) fk_X10_46 pk_9_0 rfl (by first | assumption | exact ⟨by decide, rfl⟩) dX10_cellAt_2 rfl ?_
        refine x_aload_n (pc' := 6) rfl dX10_cellAt_5 rfl ?_
        refine x_iload_n (pc' := 7) rfl dX10_cellAt_6 rfl ?_
        refine x_iload_n (pc' := 8) rfl dX10_cellAt_7 rfl ?_
        refine x_iload_n (pc' := 9) rfl dX10_cellAt_8 rfl ?_
        refine x_callVi (As := [.int _, .int _, .int _]) (rest := []) (ci := 9) (pc' := 12) rfl vk_X10_185 mk_X10_isCell (by decide) (by first | assumption | exact ⟨by decide, rfl⟩) (by decide) rfl (Nat.le_of_ble_eq_true rfl) dX10_cellAt_9 rfl (v_X10_isCell hs hv) ?_
        refine x_if_ne (tgt := 19) (pc' := 15) (by decide) dX10_cellAt_12 rfl (fun c12 => ?_) (fun c12 => absurd c12 (by rw [pb_1 hg]; decide))
        refine x_iload (pc' := 21) rfl dX10_cellAt_19 rfl ?_
        refine x_tswIn (off := 72) (tgt := 93) (by decide) (by decide) (by decide) (by decide) dX10_cellAt_21 ?_
        refine x_aload_n (pc' := 94) rfl dX10_cellAt_93 rfl ?_
        refine x_iload_n (pc' := 95) rfl dX10_cellAt_94 rfl ?_
        refine x_iload_n (pc' := 96) rfl dX10_cellAt_95 rfl ?_
        refine x_iload_n (pc' := 97) rfl dX10_cellAt_96 rfl ?_
        refine x_callVi (As := [.int _, .int _, .int _]) (rest := []) (ci := 9) (pc' := 100) rfl vk_X10_190 mk_X10_area (by decide) (by first | assumption | exact ⟨by decide, rfl⟩) (by decide) rfl (Nat.le_of_ble_eq_true rfl) dX10_cellAt_97 rfl (v_X10_area hs hv hG rfl rfl rfl hK hR) ?_
        exact x_lret rfl dX10_cellAt_100 rfl
      | j + 4, hj => exact absurd hj (by omega)
  · refine ⟨_, ?_, ScM.thr σ 0⟩
    rw [cellAtS, pif_f hg]
    refine ct_of (k := 0) rfl rfl rfl (Nat.le_of_ble_eq_true rfl) ?_
    refine x_aload_n (pc' := 1) rfl dX10_cellAt_0 rfl ?_
    refine x_iconst (v := 0) (pc' := 2) (by decide) dX10_cellAt_1 rfl ?_
    refine x_puti (pc' := 5) fk_X10_46 pk_9_0 rfl (by first | assumption | exact ⟨by decide, rfl⟩) dX10_cellAt_2 rfl ?_
    refine x_aload_n (pc' := 6) rfl dX10_cellAt_5 rfl ?_
    refine x_iload_n (pc' := 7) rfl dX10_cellAt_6 rfl ?_
    refine x_iload_n (pc' := 8) rfl dX10_cellAt_7 rfl ?_
    refine x_iload_n (pc' := 9) rfl dX10_cellAt_8 rfl ?_
    refine x_callVi (As := [.int _, .int _, .int _]) (rest := []) (ci := 9) (pc' := 12) rfl vk_X10_185 mk_X10_isCell (by decide) (by first | assumption | exact ⟨by decide, rfl⟩) (by decide) rfl (Nat.le_of_ble_eq_true rfl) dX10_cellAt_9 rfl (v_X10_isCell hs hv) ?_
    refine x_if_ne (tgt := 19) (pc' := 15) (by decide) dX10_cellAt_12 rfl (fun c12 => absurd (pb_0 hg) c12) (fun c12 => ?_)
    refine x_ldc2 (pc' := 18) kl_X10_188 dX10_cellAt_15 rfl ?_
    exact x_lret rfl dX10_cellAt_18 rfl
set_option maxRecDepth 100000 in
set_option maxHeartbeats 4000000 in
theorem c_X10_which {σ : St} {x y : Int32} (hv : Ok (σ.1 19)) : ∃ σ', Ct yX10_which M_X10_which [.ref 18, .int x, .int y] σ (some (.int (whichS (σ.1 19) x y)), σ') ∧ ScM σ σ' := by
  have hs : (pI σ 18 0 0).1 19 = σ.1 19 := pI_ne (by decide)
  have hv2 : Ok ((pI σ 18 0 0).1 19) := hv
  refine ⟨_, ?_, ScM.thr σ 0⟩
  by_cases hp : plc x y
  · obtain ⟨p1, p2, p3, p4⟩ := plc_cl hp
    rw [whichS, pif_t hp]
    have hbl := v_X10_belongs (σ := pI σ 18 0 0) hs hv (px := x.toNatClampNeg) (py := y.toNatClampNeg) (by omega) (by omega)
    rw [← p1, ← p2] at hbl
    refine ct_of (k := 0) rfl rfl rfl (Nat.le_of_ble_eq_true rfl) ?_
    refine x_aload_n (pc' := 1) rfl dX10_which_0 rfl ?_
    refine x_iconst (v := 0) (pc' := 2) (by decide) dX10_which_1 rfl ?_
    refine x_puti (pc' := 5) fk_X10_46 pk_9_0 rfl (by first | assumption | exact ⟨by decide, rfl⟩) dX10_which_2 rfl ?_
    refine x_iload_n (pc' := 6) rfl dX10_which_5 rfl ?_
    refine x_iload_n (pc' := 7) rfl dX10_which_6 rfl ?_
    refine x_callSi (As := [.int _, .int _]) (rest := []) (pc' := 10) rfl sk_X10_196 mk_X10_isPlace (by decide) rfl (Nat.le_of_ble_eq_true rfl) dX10_which_7 rfl c_X10_isPlace ?_
    refine x_if_eq (tgt := 22) (pc' := 13) (by decide) dX10_which_10 rfl (fun c10 => absurd c10 (by rw [pb_1 hp]; decide)) (fun c10 => ?_)
    refine x_aload_n (pc' := 14) rfl dX10_which_13 rfl ?_
    refine x_iload_n (pc' := 15) rfl dX10_which_14 rfl ?_
    refine x_iload_n (pc' := 16) rfl dX10_which_15 rfl ?_
    refine x_callVi (As := [.int _, .int _]) (rest := []) (ci := 9) (pc' := 19) rfl vk_X10_95 mk_X10_belongs (by decide) (by first | assumption | exact ⟨by decide, rfl⟩) (by decide) rfl (Nat.le_of_ble_eq_true rfl) dX10_which_16 rfl hbl ?_
    refine x_goto (tgt := 24) (by decide) dX10_which_19 ?_
    exact x_iret rfl dX10_which_24 rfl
  · rw [whichS, pif_f hp]
    refine ct_of (k := 0) rfl rfl rfl (Nat.le_of_ble_eq_true rfl) ?_
    refine x_aload_n (pc' := 1) rfl dX10_which_0 rfl ?_
    refine x_iconst (v := 0) (pc' := 2) (by decide) dX10_which_1 rfl ?_
    refine x_puti (pc' := 5) fk_X10_46 pk_9_0 rfl (by first | assumption | exact ⟨by decide, rfl⟩) dX10_which_2 rfl ?_
    refine x_iload_n (pc' := 6) rfl dX10_which_5 rfl ?_
    refine x_iload_n (pc' := 7) rfl dX10_which_6 rfl ?_
    refine x_callSi (As := [.int _, .int _]) (rest := []) (pc' := 10) rfl sk_X10_196 mk_X10_isPlace (by decide) rfl (Nat.le_of_ble_eq_true rfl) dX10_which_7 rfl c_X10_isPlace ?_
    refine x_if_eq (tgt := 22) (pc' := 13) (by decide) dX10_which_10 rfl (fun c10 => ?_) (fun c10 => absurd (pb_0 hp) c10)
    refine x_ldc (pc' := 24) kc_X10_169 dX10_which_22 rfl ?_
    exact x_iret rfl dX10_which_24 rfl
set_option maxRecDepth 100000 in
set_option maxHeartbeats 4000000 in
theorem c_X10_moved {σ : St} {x y what : Int32} (hv : Ok (σ.1 19)) : ∃ σ', Ct yX10_moved M_X10_moved [.ref 18, .int x, .int y, .int what] σ (some (.int (movedS (σ.1 19) x y what)), σ') ∧ ScM σ σ' := by
  have hs : (pI σ 18 0 0).1 19 = σ.1 19 := pI_ne (by decide)
  have hv2 : Ok ((pI σ 18 0 0).1 19) := hv
  refine ⟨_, ?_, ScM.thr σ 0⟩
  by_cases hp : plc x y
  · obtain ⟨p1, p2, p3, p4⟩ := plc_cl hp
    by_cases hw : 0 ≤ what ∧ what < 2
    · rw [movedS, pif_t ⟨hp, hw⟩]
      obtain ⟨j, hj, hw⟩ := i_in (n := 2) (by decide) hw.1 hw.2
      match j, hj with
      | 0, _ =>
        subst hw
        have hw : (nI 0) = 0 := rfl
        rw [pif_t hw]
        refine ct_of (k := 0) rfl rfl rfl (Nat.le_of_ble_eq_true rfl) ?_
        refine x_aload_n (pc' := 1) rfl dX10_moved_0 rfl ?_
        refine x_iconst (v := 0) (pc' := 2) (by decide) dX10_moved_1 rfl ?_
        refine x_puti (pc' := 5) fk_X10_46 pk_9_0 rfl (by first | assumption | exact ⟨by decide, rfl⟩) dX10_moved_2 rfl ?_
        refine x_iload_n (pc' := 6) rfl dX10_moved_5 rfl ?_
        refine x_iload_n (pc' := 7) rfl dX10_moved_6 rfl ?_
        refine x_callSi (As := [.int _, .int _]) (rest := []) (pc' := 10) rfl sk_X10_196 mk_X10_isPlace (by decide) rfl (Nat.le_of_ble_eq_true rfl) dX10_moved_7 rfl c_X10_isPlace ?_
        refine x_if_eq (tgt := 23) (pc' := 13) (by decide) dX10_moved_10 rfl (fun c10 => absurd c10 (by rw [pb_1 hp]; decide)) (fun c10 => ?_)
        refine x_iload_n (pc' := 14) rfl dX10_moved_13 rfl ?_
        refine x_i2l (pc' := 15) dX10_moved_14 rfl ?_
        refine x_lconst (v := 0) (pc' := 16) (by decide) dX10_moved_15 rfl ?_
        refine x_lconst (v := 1) (pc' := 17) (by decide) dX10_moved_16 rfl ?_
        refine x_callSi (As := [.long _, .long _, .long _]) (rest := []) (pc' := 20) rfl sk_X10_50 mk_X10_in (by decide) rfl (Nat.le_of_ble_eq_true rfl) dX10_moved_17 rfl c_X10_in ?_
        refine x_if_ne (tgt := 26) (pc' := 23) (by decide) dX10_moved_20 rfl (fun c20 => ?_) (fun c20 => absurd c20 (by rw [b1 (by decide)]; decide))
        refine x_iload_n (pc' := 27) rfl dX10_moved_26 rfl ?_
        refine x_if_ne (tgt := 34) (pc' := 30) (by decide) dX10_moved_27 rfl (fun c27 => absurd hw c27) (fun c27 => ?_)
        refine x_iload_n (pc' := 31) rfl dX10_moved_30 rfl ?_
        refine x_goto (tgt := 35) (by decide) dX10_moved_31 ?_
        refine x_aload_n (pc' := 36) rfl dX10_moved_35 rfl ?_
        refine x_iload_n (pc' := 37) rfl dX10_moved_36 rfl ?_
        refine x_iload_n (pc' := 38) rfl dX10_moved_37 rfl ?_
        refine x_iload_n (pc' := 39) rfl dX10_moved_38 rfl ?_
        refine x_callVi (As := [.int _, .int _, .int _]) (rest := [.int _]) (ci := 9) (pc' := 42) rfl vk_X10_145 mk_X10_movedBy (by decide) (by first | assumption | exact ⟨by decide, rfl⟩) (by decide) rfl (Nat.le_of_ble_eq_true rfl) dX10_moved_39 rfl (v_X10_movedBy hs hv p1 p2 (W := 0) rfl p3 p4 (by decide)) ?_
        refine x_iadd (pc' := 43) dX10_moved_42 rfl ?_
        refine x_ldc (pc' := 45) kc_X10_184 dX10_moved_43 rfl ?_
        refine x_iadd (pc' := 46) dX10_moved_45 rfl ?_
        exact x_iret rfl dX10_moved_46 rfl
      | 1, _ =>
        subst hw
        have hw : ¬ (nI 1) = 0 := by decide
        rw [pif_f hw]
        refine ct_of (k := 0) rfl rfl rfl (Nat.le_of_ble_eq_true rfl) ?_
        refine x_aload_n (pc' := 1) rfl dX10_moved_0 rfl ?_
        refine x_iconst (v := 0) (pc' := 2) (by decide) dX10_moved_1 rfl ?_
        refine x_puti (pc' := 5) fk_X10_46 pk_9_0 rfl (by first | assumption | exact ⟨by decide, rfl⟩) dX10_moved_2 rfl ?_
        refine x_iload_n (pc' := 6) rfl dX10_moved_5 rfl ?_
        refine x_iload_n (pc' := 7) rfl dX10_moved_6 rfl ?_
        refine x_callSi (As := [.int _, .int _]) (rest := []) (pc' := 10) rfl sk_X10_196 mk_X10_isPlace (by decide) rfl (Nat.le_of_ble_eq_true rfl) dX10_moved_7 rfl c_X10_isPlace ?_
        refine x_if_eq (tgt := 23) (pc' := 13) (by decide) dX10_moved_10 rfl (fun c10 => absurd c10 (by rw [pb_1 hp]; decide)) (fun c10 => ?_)
        refine x_iload_n (pc' := 14) rfl dX10_moved_13 rfl ?_
        refine x_i2l (pc' := 15) dX10_moved_14 rfl ?_
        refine x_lconst (v := 0) (pc' := 16) (by decide) dX10_moved_15 rfl ?_
        refine x_lconst (v := 1) (pc' := 17) (by decide) dX10_moved_16 rfl ?_
        refine x_callSi (As := [.long _, .long _, .long _]) (rest := []) (pc' := 20) rfl sk_X10_50 mk_X10_in (by decide) rfl (Nat.le_of_ble_eq_true rfl) dX10_moved_17 rfl c_X10_in ?_
        refine x_if_ne (tgt := 26) (pc' := 23) (by decide) dX10_moved_20 rfl (fun c20 => ?_) (fun c20 => absurd c20 (by rw [b1 (by decide)]; decide))
        refine x_iload_n (pc' := 27) rfl dX10_moved_26 rfl ?_
        refine x_if_ne (tgt := 34) (pc' := 30) (by decide) dX10_moved_27 rfl (fun c27 => ?_) (fun c27 => absurd c27 hw)
        refine x_iload_n (pc' := 35) rfl dX10_moved_34 rfl ?_
        refine x_aload_n (pc' := 36) rfl dX10_moved_35 rfl ?_
        refine x_iload_n (pc' := 37) rfl dX10_moved_36 rfl ?_
        refine x_iload_n (pc' := 38) rfl dX10_moved_37 rfl ?_
        refine x_iload_n (pc' := 39) rfl dX10_moved_38 rfl ?_
        refine x_callVi (As := [.int _, .int _, .int _]) (rest := [.int _]) (ci := 9) (pc' := 42) rfl vk_X10_145 mk_X10_movedBy (by decide) (by first | assumption | exact ⟨by decide, rfl⟩) (by decide) rfl (Nat.le_of_ble_eq_true rfl) dX10_moved_39 rfl (v_X10_movedBy hs hv p1 p2 (W := 1) rfl p3 p4 (by decide)) ?_
        refine x_iadd (pc' := 43) dX10_moved_42 rfl ?_
        refine x_ldc (pc' := 45) kc_X10_184 dX10_moved_43 rfl ?_
        refine x_iadd (pc' := 46) dX10_moved_45 rfl ?_
        exact x_iret rfl dX10_moved_46 rfl
    · rw [movedS, pif_f (fun q => hw q.2)]
      refine ct_of (k := 0) rfl rfl rfl (Nat.le_of_ble_eq_true rfl) ?_
      refine x_aload_n (pc' := 1) rfl dX10_moved_0 rfl ?_
      refine x_iconst (v := 0) (pc' := 2) (by decide) dX10_moved_1 rfl ?_
      refine x_puti (pc' := 5) fk_X10_46 pk_9_0 rfl (by first | assumption | exact ⟨by decide, rfl⟩) dX10_moved_2 rfl ?_
      refine x_iload_n (pc' := 6) rfl dX10_moved_5 rfl ?_
      refine x_iload_n (pc' := 7) rfl dX10_moved_6 rfl ?_
      refine x_callSi (As := [.int _, .int _]) (rest := []) (pc' := 10) rfl sk_X10_196 mk_X10_isPlace (by decide) rfl (Nat.le_of_ble_eq_true rfl) dX10_moved_7 rfl c_X10_isPlace ?_
      refine x_if_eq (tgt := 23) (pc' := 13) (by decide) dX10_moved_10 rfl (fun c10 => absurd c10 (by rw [pb_1 hp]; decide)) (fun c10 => ?_)
      refine x_iload_n (pc' := 14) rfl dX10_moved_13 rfl ?_
      refine x_i2l (pc' := 15) dX10_moved_14 rfl ?_
      refine x_lconst (v := 0) (pc' := 16) (by decide) dX10_moved_15 rfl ?_
      refine x_lconst (v := 1) (pc' := 17) (by decide) dX10_moved_16 rfl ?_
      refine x_callSi (As := [.long _, .long _, .long _]) (rest := []) (pc' := 20) rfl sk_X10_50 mk_X10_in (by decide) rfl (Nat.le_of_ble_eq_true rfl) dX10_moved_17 rfl c_X10_in ?_
      refine x_if_ne (tgt := 26) (pc' := 23) (by decide) dX10_moved_20 rfl (fun c20 => absurd (b0 (fun q => hw ((in_k what (N := 1) (by decide) (by decide)).mp q))) c20) (fun c20 => ?_)
      refine x_ldc (pc' := 25) kc_X10_169 dX10_moved_23 rfl ?_
      exact x_iret rfl dX10_moved_25 rfl
  · rw [movedS, pif_f (fun q => hp q.1)]
    refine ct_of (k := 0) rfl rfl rfl (Nat.le_of_ble_eq_true rfl) ?_
    refine x_aload_n (pc' := 1) rfl dX10_moved_0 rfl ?_
    refine x_iconst (v := 0) (pc' := 2) (by decide) dX10_moved_1 rfl ?_
    refine x_puti (pc' := 5) fk_X10_46 pk_9_0 rfl (by first | assumption | exact ⟨by decide, rfl⟩) dX10_moved_2 rfl ?_
    refine x_iload_n (pc' := 6) rfl dX10_moved_5 rfl ?_
    refine x_iload_n (pc' := 7) rfl dX10_moved_6 rfl ?_
    refine x_callSi (As := [.int _, .int _]) (rest := []) (pc' := 10) rfl sk_X10_196 mk_X10_isPlace (by decide) rfl (Nat.le_of_ble_eq_true rfl) dX10_moved_7 rfl c_X10_isPlace ?_
    refine x_if_eq (tgt := 23) (pc' := 13) (by decide) dX10_moved_10 rfl (fun c10 => ?_) (fun c10 => absurd (pb_0 hp) c10)
    refine x_ldc (pc' := 25) kc_X10_169 dX10_moved_23 rfl ?_
    exact x_iret rfl dX10_moved_25 rfl
