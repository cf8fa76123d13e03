def brd (v : Nat → Int32) (g c r : Nat) : Prop := c = 0 ∨ r = 0 ∨ c = fN v g 4 - 1 ∨ r = fN v g 5 - 1
def pN (v : Nat → Int32) (g : Nat) : Nat := (v (2 + 6 * g)).toNatClampNeg
def ofpS (v : Nat → Int32) (g c r w : Nat) : Int32 := offS v (pN v g) (stS v g c 0) (stS v g r 1) w
def gapS (v : Nat → Int32) (g c r : Nat) : Int32 := mx (ab (oV v g c r 0 - ofpS v g c r 0)) (ab (oV v g c r 1 - ofpS v g c r 1))
theorem ins_on {v : Nat → Int32} (hv : Ok v) {g c r : Nat} (hg : g < cN v) (hp : ¬ v (2 + 6 * g) = -1) (hc : c < fN v g 4) (hr : r < fN v g 5) : pN v g < g ∧ v (2 + 6 * g) = nI (pN v g) ∧ onS v (pN v g) (stS v g c 0) (stS v g r 1) := by
  rcases (hv.2.2.2.2 g hg).1 with h1 | ⟨j, h1, h2, h3⟩
  · exact absurd h1 hp
  · have h6 := hv.c6
    have e : pN v g = j := by rw [pN, h2, nI_clamp (by omega)]
    rw [e]
    refine ⟨h1, h2, ?_⟩
    obtain ⟨i1, i2, i3, i4⟩ := h3
    have m1 : c * fN v g 3 ≤ (fN v g 4 - 1) * fN v g 3 := Nat.mul_le_mul_right _ (by omega)
    have m2 : r * fN v g 3 ≤ (fN v g 5 - 1) * fN v g 3 := Nat.mul_le_mul_right _ (by omega)
    unfold onS stS
    refine ⟨⟨?_, ?_⟩, ?_, ?_⟩
    · show 64 * (fN v j 1 + 0 * fN v j 3) ≤ 64 * (fN v g 1 + c * fN v g 3)
      rw [Nat.zero_mul]; omega
    · show 64 * (fN v g 1 + c * fN v g 3) ≤ 64 * (fN v j 1 + (fN v j 4 - 1) * fN v j 3)
      omega
    · show 64 * (fN v j 2 + 0 * fN v j 3) ≤ 64 * (fN v g 2 + r * fN v g 3)
      rw [Nat.zero_mul]; omega
    · show 64 * (fN v g 2 + r * fN v g 3) ≤ 64 * (fN v j 2 + (fN v j 5 - 1) * fN v j 3)
      omega
theorem Ok.b {v : Nat → Int32} (hv : Ok v) {g : Nat} (hg : g < cN v) : g < 6 ∧ fN v g 4 ≤ 5 ∧ fN v g 5 ≤ 5 ∧ 2 ≤ fN v g 4 ∧ 2 ≤ fN v g 5 ∧ 1 ≤ fN v g 3 ∧ fN v g 3 ≤ 64 := by
  have hf := hv.F hg
  have h6 := hv.c6
  exact ⟨by omega, hf.2.2.2.2.1, hf.2.2.2.2.2.2.1, hf.2.2.2.1, hf.2.2.2.2.2.1, hf.2.1, hf.2.2.1⟩
theorem nI_eqZ {a : Nat} (h : a < 2 ^ 31) : nI a = 0 ↔ a = 0 := nI_eq (b := 0) h (by decide)
set_option maxRecDepth 100000 in
set_option maxHeartbeats 4000000 in
theorem c_X10_isBorder {σ : St} {g c r : Int32} {G K R : Nat} (hv : Ok (σ.1 19)) (hG : G < cN (σ.1 19)) (hg : g = nI G) (hc : c = nI K) (hr : r = nI R) (hK : K < fN (σ.1 19) G 4) (hR : R < fN (σ.1 19) G 5) : Ct yX10_isBorder M_X10_isBorder [.ref 18, .int g, .int c, .int r] σ (some (.int (pb (brd (σ.1 19) G K R))), σ) := by
  subst hg
  subst hc
  subst hr
  obtain ⟨g6, c5, r5, c2, r2, s1, s64⟩ := hv.b hG
  have hf := hv.F hG
  have e4 : σ.1 19 (2 + 6 * G + 4) - 1 = nI (fN (σ.1 19) G 4 - 1) := by rw [hf.at (by omega) (by omega)]; exact pk_sub (b := 1) (by omega)
  have e5 : σ.1 19 (2 + 6 * G + 5) - 1 = nI (fN (σ.1 19) G 5 - 1) := by rw [hf.at (by omega) (by omega)]; exact pk_sub (b := 1) (by omega)
  refine ct_of (k := 0) rfl rfl rfl (Nat.le_of_ble_eq_true rfl) ?_
  refine x_iload_n (pc' := 1) rfl dX10_isBorder_0 rfl ?_
  refine x_if_eq (tgt := 32) (pc' := 4) (by decide) dX10_isBorder_1 rfl (fun c1 => ?_) (fun c1 => ?_)
  · refine x_iconst (v := 1) (pc' := 33) (by decide) dX10_isBorder_32 rfl ?_
    refine x_goto (tgt := 37) (by decide) dX10_isBorder_33 ?_
    exact x_zret rfl (by first | rfl | exact b01_nar _ | exact pb_nar _) dX10_isBorder_37 (ret_i (pb_1 (Or.inl ((nI_eqZ (by omega)).mp c1))).symm)
  · refine x_iload_n (pc' := 5) rfl dX10_isBorder_4 rfl ?_
    refine x_if_eq (tgt := 32) (pc' := 8) (by decide) dX10_isBorder_5 rfl (fun c5 => ?_) (fun c5 => ?_)
    · refine x_iconst (v := 1) (pc' := 33) (by decide) dX10_isBorder_32 rfl ?_
      refine x_goto (tgt := 37) (by decide) dX10_isBorder_33 ?_
      exact x_zret rfl (by first | rfl | exact b01_nar _ | exact pb_nar _) dX10_isBorder_37 (ret_i (pb_1 (Or.inr (Or.inl ((nI_eqZ (by omega)).mp c5)))).symm)
    · refine x_iload_n (pc' := 9) rfl dX10_isBorder_8 rfl ?_
      refine x_aload_n (pc' := 10) rfl dX10_isBorder_9 rfl ?_
      refine x_iload_n (pc' := 11) rfl dX10_isBorder_10 rfl ?_
      refine x_iconst (v := 4) (pc' := 12) (by decide) dX10_isBorder_11 rfl ?_
      refine x_callVi (As := [.int _, .int _]) (rest := [.int _]) (ci := 9) (pc' := 15) rfl vk_X10_58 mk_X10_its (by decide) (by first | assumption | exact ⟨by decide, rfl⟩) (by decide) rfl (Nat.le_of_ble_eq_true rfl) dX10_isBorder_12 rfl (c_X10_its (E := 4) rfl rfl (by omega)) ?_
      refine x_iconst (v := 1) (pc' := 16) (by decide) dX10_isBorder_15 rfl ?_
      refine x_isub (pc' := 17) dX10_isBorder_16 rfl ?_
      refine x_icmp_eq (tgt := 32) (pc' := 20) (by decide) dX10_isBorder_17 rfl (fun c17 => ?_) (fun c17 => ?_)
      · refine x_iconst (v := 1) (pc' := 33) (by decide) dX10_isBorder_32 rfl ?_
        refine x_goto (tgt := 37) (by decide) dX10_isBorder_33 ?_
        exact x_zret rfl (by first | rfl | exact b01_nar _ | exact pb_nar _) dX10_isBorder_37 (ret_i (pb_1 (Or.inr (Or.inr (Or.inl ((nI_eq (by omega) (by omega)).mp (c17.trans e4)))))).symm)
      · refine x_iload_n (pc' := 21) rfl dX10_isBorder_20 rfl ?_
        refine x_aload_n (pc' := 22) rfl dX10_isBorder_21 rfl ?_
        refine x_iload_n (pc' := 23) rfl dX10_isBorder_22 rfl ?_
        refine x_iconst (v := 5) (pc' := 24) (by decide) dX10_isBorder_23 rfl ?_
        refine x_callVi (As := [.int _, .int _]) (rest := [.int _]) (ci := 9) (pc' := 27) rfl vk_X10_58 mk_X10_its (by decide) (by first | assumption | exact ⟨by decide, rfl⟩) (by decide) rfl (Nat.le_of_ble_eq_true rfl) dX10_isBorder_24 rfl (c_X10_its (E := 5) rfl rfl (by omega)) ?_
        refine x_iconst (v := 1) (pc' := 28) (by decide) dX10_isBorder_27 rfl ?_
        refine x_isub (pc' := 29) dX10_isBorder_28 rfl ?_
        refine x_icmp_ne (tgt := 36) (pc' := 32) (by decide) dX10_isBorder_29 rfl (fun c29 => ?_) (fun c29 => ?_)
        · refine x_iconst (v := 0) (pc' := 37) (by decide) dX10_isBorder_36 rfl ?_
          exact x_zret rfl (by first | rfl | exact b01_nar _ | exact pb_nar _) dX10_isBorder_37 (ret_i (pb_0 (fun q => q.elim (fun h => c1 (by rw [h]; rfl)) (fun q => q.elim (fun h => c5 (by rw [h]; rfl)) (fun q => q.elim (fun h => c17 (by rw [e4, h])) (fun h => c29 (by rw [e5, h])))))).symm)
        · refine x_iconst (v := 1) (pc' := 33) (by decide) dX10_isBorder_32 rfl ?_
          refine x_goto (tgt := 37) (by decide) dX10_isBorder_33 ?_
          exact x_zret rfl (by first | rfl | exact b01_nar _ | exact pb_nar _) dX10_isBorder_37 (ret_i (pb_1 (Or.inr (Or.inr (Or.inr ((nI_eq (by omega) (by omega)).mp (c29.trans e5)))))).symm)
set_option maxRecDepth 100000 in
set_option maxHeartbeats 4000000 in
theorem v_X10_isBorder {σ : St} {v0 : Nat → Int32} (hs : σ.1 19 = v0) {g c r : Int32} {G K R : Nat} (hv : Ok v0) (hG : G < cN v0) (hg : g = nI G) (hc : c = nI K) (hr : r = nI R) (hK : K < fN v0 G 4) (hR : R < fN v0 G 5) : Ct yX10_isBorder M_X10_isBorder [.ref 18, .int g, .int c, .int r] σ (some (.int (pb (brd v0 G K R))), σ) := by
  subst hs
  exact c_X10_isBorder hv hG hg hc hr hK hR
set_option maxRecDepth 100000 in
set_option maxHeartbeats 4000000 in
theorem c_X10_ofParent {σ : St} {g c r w : Int32} {G K R W : Nat} (hv : Ok (σ.1 19)) (hG : G < cN (σ.1 19)) (hp : ¬ σ.1 19 (2 + 6 * G) = -1) (hg : g = nI G) (hc : c = nI K) (hr : r = nI R) (hK : K < fN (σ.1 19) G 4) (hR : R < fN (σ.1 19) G 5) (hw : w = nI W) (hW : W < 2) : Ct yX10_ofParent M_X10_ofParent [.ref 18, .int g, .int c, .int r, .int w] σ (some (.int (ofpS (σ.1 19) G K R W)), σ) := by
  subst hg
  subst hc
  subst hr
  obtain ⟨g6, c5, r5, c2, r2, s1, s64⟩ := hv.b hG
  have hf := hv.F hG
  subst hw
  obtain ⟨i1, i2, i3⟩ := ins_on hv hG hp hK hR
  refine ct_of (k := 0) rfl rfl rfl (Nat.le_of_ble_eq_true rfl) ?_
  refine x_aload_n (pc' := 1) rfl dX10_ofParent_0 rfl ?_
  refine x_aload_n (pc' := 2) rfl dX10_ofParent_1 rfl ?_
  refine x_iload_n (pc' := 3) rfl dX10_ofParent_2 rfl ?_
  refine x_iconst (v := 0) (pc' := 4) (by decide) dX10_ofParent_3 rfl ?_
  refine x_callVi (As := [.int _, .int _]) (rest := [.ref _]) (ci := 9) (pc' := 7) rfl vk_X10_58 mk_X10_its (by decide) (by first | assumption | exact ⟨by decide, rfl⟩) (by decide) rfl (Nat.le_of_ble_eq_true rfl) dX10_ofParent_4 rfl (c_X10_its (E := 0) rfl rfl (by omega)) ?_
  refine x_aload_n (pc' := 8) rfl dX10_ofParent_7 rfl ?_
  refine x_iload_n (pc' := 9) rfl dX10_ofParent_8 rfl ?_
  refine x_iload_n (pc' := 10) rfl dX10_ofParent_9 rfl ?_
  refine x_iconst (v := 0) (pc' := 11) (by decide) dX10_ofParent_10 rfl ?_
  refine x_callVi (As := [.int _, .int _, .int _]) (rest := [.int _, .ref _]) (ci := 9) (pc' := 14) rfl vk_X10_66 mk_X10_stands (by decide) (by first | assumption | exact ⟨by decide, rfl⟩) (by decide) rfl (Nat.le_of_ble_eq_true rfl) dX10_ofParent_11 rfl (c_X10_stands hf rfl rfl (W := 0) rfl g6 (by decide)) ?_
  refine x_aload_n (pc' := 15) rfl dX10_ofParent_14 rfl ?_
  refine x_iload_n (pc' := 16) rfl dX10_ofParent_15 rfl ?_
  refine x_iload_n (pc' := 17) rfl dX10_ofParent_16 rfl ?_
  refine x_iconst (v := 1) (pc' := 18) (by decide) dX10_ofParent_17 rfl ?_
  refine x_callVi (As := [.int _, .int _, .int _]) (rest := [.int _, .int _, .ref _]) (ci := 9) (pc' := 21) rfl vk_X10_66 mk_X10_stands (by decide) (by first | assumption | exact ⟨by decide, rfl⟩) (by decide) rfl (Nat.le_of_ble_eq_true rfl) dX10_ofParent_18 rfl (c_X10_stands hf rfl rfl (W := 1) rfl g6 (by decide)) ?_
  refine x_iload (pc' := 23) rfl dX10_ofParent_21 rfl ?_
  refine x_callVi (As := [.int _, .int _, .int _, .int _]) (rest := []) (ci := 9) (pc' := 26) rfl vk_X10_98 mk_X10_offset (by decide) (by first | assumption | exact ⟨by decide, rfl⟩) (by decide) rfl (Nat.le_of_ble_eq_true rfl) dX10_ofParent_23 rfl (c_X10_offset hv (Nat.lt_trans i1 hG) i3 i2 rfl rfl rfl hW) ?_
  exact x_iret rfl dX10_ofParent_26 rfl
set_option maxRecDepth 100000 in
set_option maxHeartbeats 4000000 in
theorem v_X10_ofParent {σ : St} {v0 : Nat → Int32} (hs : σ.1 19 = v0) {g c r w : Int32} {G K R W : Nat} (hv : Ok v0) (hG : G < cN v0) (hp : ¬ v0 (2 + 6 * G) = -1) (hg : g = nI G) (hc : c = nI K) (hr : r = nI R) (hK : K < fN v0 G 4) (hR : R < fN v0 G 5) (hw : w = nI W) (hW : W < 2) : Ct yX10_ofParent M_X10_ofParent [.ref 18, .int g, .int c, .int r, .int w] σ (some (.int (ofpS v0 G K R W)), σ) := by
  subst hs
  exact c_X10_ofParent hv hG hp hg hc hr hK hR hw hW
set_option maxRecDepth 100000 in
set_option maxHeartbeats 4000000 in
theorem c_X10_gapAt {σ : St} {g c r : Int32} {G K R : Nat} (hv : Ok (σ.1 19)) (hG : G < cN (σ.1 19)) (hp : ¬ σ.1 19 (2 + 6 * G) = -1) (hg : g = nI G) (hc : c = nI K) (hr : r = nI R) (hK : K < fN (σ.1 19) G 4) (hR : R < fN (σ.1 19) G 5) : Ct yX10_gapAt M_X10_gapAt [.ref 18, .int g, .int c, .int r] σ (some (.int (gapS (σ.1 19) G K R)), σ) := by
  subst hg
  subst hc
  subst hr
  obtain ⟨g6, c5, r5, c2, r2, s1, s64⟩ := hv.b hG
  have hf := hv.F hG
  refine ct_of (k := 1) rfl rfl rfl (Nat.le_of_ble_eq_true rfl) ?_
  refine x_aload_n (pc' := 1) rfl dX10_gapAt_0 rfl ?_
  refine x_iload_n (pc' := 2) rfl dX10_gapAt_1 rfl ?_
  refine x_iload_n (pc' := 3) rfl dX10_gapAt_2 rfl ?_
  refine x_iload_n (pc' := 4) rfl dX10_gapAt_3 rfl ?_
  refine x_iconst (v := 0) (pc' := 5) (by decide) dX10_gapAt_4 rfl ?_
  refine x_callVi (As := [.int _, .int _, .int _, .int _]) (rest := []) (ci := 9) (pc' := 8) rfl vk_X10_87 mk_X10_off (by decide) (by first | assumption | exact ⟨by decide, rfl⟩) (by decide) rfl (Nat.le_of_ble_eq_true rfl) dX10_gapAt_5 rfl (c_X10_off (W := 0) rfl rfl rfl rfl (by omega)) ?_
  refine x_aload_n (pc' := 9) rfl dX10_gapAt_8 rfl ?_
  refine x_iload_n (pc' := 10) rfl dX10_gapAt_9 rfl ?_
  refine x_iload_n (pc' := 11) rfl dX10_gapAt_10 rfl ?_
  refine x_iload_n (pc' := 12) rfl dX10_gapAt_11 rfl ?_
  refine x_iconst (v := 0) (pc' := 13) (by decide) dX10_gapAt_12 rfl ?_
  refine x_callVi (As := [.int _, .int _, .int _, .int _]) (rest := [.int _]) (ci := 9) (pc' := 16) rfl vk_X10_101 mk_X10_ofParent (by decide) (by first | assumption | exact ⟨by decide, rfl⟩) (by decide) rfl (Nat.le_of_ble_eq_true rfl) dX10_gapAt_13 rfl (c_X10_ofParent hv hG hp rfl rfl rfl hK hR (W := 0) rfl (by decide)) ?_
  refine x_isub (pc' := 17) dX10_gapAt_16 rfl ?_
  refine x_callSi (As := [.int _]) (rest := []) (pc' := 20) rfl sk_X10_104 mk_X10_size (by decide) rfl (Nat.le_of_ble_eq_true rfl) dX10_gapAt_17 rfl c_X10_size ?_
  refine x_istore (lv' := [_, _, _, _, _]) (pc' := 22) (by decide) rfl dX10_gapAt_20 rfl ?_
  refine x_iload (pc' := 24) rfl dX10_gapAt_22 rfl ?_
  refine x_aload_n (pc' := 25) rfl dX10_gapAt_24 rfl ?_
  refine x_iload_n (pc' := 26) rfl dX10_gapAt_25 rfl ?_
  refine x_iload_n (pc' := 27) rfl dX10_gapAt_26 rfl ?_
  refine x_iload_n (pc' := 28) rfl dX10_gapAt_27 rfl ?_
  refine x_iconst (v := 1) (pc' := 29) (by decide) dX10_gapAt_28 rfl ?_
  refine x_callVi (As := [.int _, .int _, .int _, .int _]) (rest := [.int _]) (ci := 9) (pc' := 32) rfl vk_X10_87 mk_X10_off (by decide) (by first | assumption | exact ⟨by decide, rfl⟩) (by decide) rfl (Nat.le_of_ble_eq_true rfl) dX10_gapAt_29 rfl (c_X10_off (W := 1) rfl rfl rfl rfl (by omega)) ?_
  refine x_aload_n (pc' := 33) rfl dX10_gapAt_32 rfl ?_
  refine x_iload_n (pc' := 34) rfl dX10_gapAt_33 rfl ?_
  refine x_iload_n (pc' := 35) rfl dX10_gapAt_34 rfl ?_
  refine x_iload_n (pc' := 36) rfl dX10_gapAt_35 rfl ?_
  refine x_iconst (v := 1) (pc' := 37) (by decide) dX10_gapAt_36 rfl ?_
  refine x_callVi (As := [.int _, .int _, .int _, .int _]) (rest := [.int _, .int _]) (ci := 9) (pc' := 40) rfl vk_X10_101 mk_X10_ofParent (by decide) (by first | assumption | exact ⟨by decide, rfl⟩) (by decide) rfl (Nat.le_of_ble_eq_true rfl) dX10_gapAt_37 rfl (c_X10_ofParent hv hG hp rfl rfl rfl hK hR (W := 1) rfl (by decide)) ?_
  refine x_isub (pc' := 41) dX10_gapAt_40 rfl ?_
  refine x_callSi (As := [.int _]) (rest := [.int _]) (pc' := 44) rfl sk_X10_104 mk_X10_size (by decide) rfl (Nat.le_of_ble_eq_true rfl) dX10_gapAt_41 rfl c_X10_size ?_
  refine x_callSi (As := [.int _, .int _]) (rest := []) (pc' := 47) rfl sk_X10_108 mk_X10_larger (by decide) rfl (Nat.le_of_ble_eq_true rfl) dX10_gapAt_44 rfl c_X10_larger ?_
  exact x_iret rfl dX10_gapAt_47 rfl
set_option maxRecDepth 100000 in
set_option maxHeartbeats 4000000 in
theorem v_X10_gapAt {σ : St} {v0 : Nat → Int32} (hs : σ.1 19 = v0) {g c r : Int32} {G K R : Nat} (hv : Ok v0) (hG : G < cN v0) (hp : ¬ v0 (2 + 6 * G) = -1) (hg : g = nI G) (hc : c = nI K) (hr : r = nI R) (hK : K < fN v0 G 4) (hR : R < fN v0 G 5) : Ct yX10_gapAt M_X10_gapAt [.ref 18, .int g, .int c, .int r] σ (some (.int (gapS v0 G K R)), σ) := by
  subst hs
  exact c_X10_gapAt hv hG hp hg hc hr hK hR
def g2 (σ : St) (a b : Int32) : St := pI (pI σ 18 12 a) 18 13 b
theorem st_ext {σ τ : St} (h1 : ∀ k j, σ.1 k j = τ.1 k j) (h2 : σ.2 = τ.2) : σ = τ := Prod.ext (funext fun k => funext fun j => h1 k j) h2
theorem pI_app (σ : St) (k j : Nat) (v : Int32) (a b : Nat) : (pI σ k j v).1 a b = if a = k ∧ b = j then v else σ.1 a b := rfl
theorem g2_app (σ : St) (a b : Int32) (k j : Nat) : (g2 σ a b).1 k j = if k = 18 ∧ j = 13 then b else if k = 18 ∧ j = 12 then a else σ.1 k j := rfl
theorem g2_n {σ : St} {a b : Int32} {k : Nat} (h : k ≠ 18) : (g2 σ a b).1 k = σ.1 k := by
  rw [g2, pI_ne h, pI_ne h]
theorem g2_12 (σ : St) (a b : Int32) : (g2 σ a b).1 18 12 = a := rfl
theorem g2_13 (σ : St) (a b : Int32) : (g2 σ a b).1 18 13 = b := rfl
theorem g2_p12 (σ : St) (a b x : Int32) : pI (g2 σ a b) 18 12 x = g2 σ x b := by
  refine st_ext (fun k j => ?_) rfl
  rw [pI_app, g2_app, g2_app]
  by_cases h : k = 18 ∧ j = 12
  · rw [if_pos h, if_neg (by omega), if_pos h]
  · simp only [if_neg h]
theorem g2_p13 (σ : St) (a b x : Int32) : pI (g2 σ a b) 18 13 x = g2 σ a x := by
  refine st_ext (fun k j => ?_) rfl
  rw [pI_app, g2_app, g2_app]
  by_cases h : k = 18 ∧ j = 13
  · rw [if_pos h, if_pos h]
  · simp only [if_neg h]
noncomputable def gcnt (v : Nat → Int32) (g k : Nat) : Nat := pif (brd v g (k % fN v g 4) (k / fN v g 4) ∧ 0 < gapS v g (k % fN v g 4) (k / fN v g 4)) 1 0
noncomputable def gmx (v : Nat → Int32) (g k : Nat) : Int32 := pif (brd v g (k % fN v g 4) (k / fN v g 4)) (gapS v g (k % fN v g 4) (k / fN v g 4)) 0
noncomputable def gapN (v : Nat → Int32) (g : Nat) : Nat := pif (v (2 + 6 * g) = -1) 0 (sumN (gcnt v g) (fN v g 4 * fN v g 5))
noncomputable def gapM (v : Nat → Int32) (g : Nat) : Int32 := pif (v (2 + 6 * g) = -1) 0 (maxN (gmx v g) (fN v g 4 * fN v g 5))
theorem kmod {k C R : Nat} (hC : 0 < C) (h : k < C * R) : k % C < C ∧ k / C < R := ⟨Nat.mod_lt _ hC, Nat.div_lt_of_lt_mul h⟩
set_option maxRecDepth 100000 in
set_option maxHeartbeats 4000000 in
theorem l_X10_gaps {σ : St} {G : Nat} (hv : Ok (σ.1 19)) (hG : G < cN (σ.1 19)) (hp : ¬ σ.1 19 (2 + 6 * G) = -1) : ∀ (n k : Nat) (a b : Int32) (A B : Option Value), k + n = fN (σ.1 19) G 4 * fN (σ.1 19) G 5 → a = nI (sumN (gcnt (σ.1 19) G) k) → b = maxN (gmx (σ.1 19) G) k → Ex M_X10_gaps (none, g2 σ (nI (sumN (gcnt (σ.1 19) G) (fN (σ.1 19) G 4 * fN (σ.1 19) G 5))) (maxN (gmx (σ.1 19) G) (fN (σ.1 19) G 4 * fN (σ.1 19) G 5))) 12 [some (.ref 18), some (.int (nI G)), some (.int (nI k)), A, B] [] (g2 σ a b) := by
  intro n
  induction n with
  | zero =>
    intro k a b A B hk ha hb
    obtain ⟨g6, c5, r5, c2, r2, s1, s64⟩ := hv.b hG
    have hf := hv.F hG
    have hs : (g2 σ a b).1 19 = σ.1 19 := g2_n (by decide)
    obtain rfl : k = fN (σ.1 19) G 4 * fN (σ.1 19) G 5 := by omega
    have hm : fN (σ.1 19) G 4 * fN (σ.1 19) G 5 ≤ 5 * 5 := Nat.mul_le_mul c5 r5
    refine x_iload_n (pc' := 13) rfl dX10_gaps_12 rfl ?_
    refine x_aload_n (pc' := 14) rfl dX10_gaps_13 rfl ?_
    refine x_iload_n (pc' := 15) rfl dX10_gaps_14 rfl ?_
    refine x_iconst (v := 4) (pc' := 16) (by decide) dX10_gaps_15 rfl ?_
    refine x_callVi (As := [.int _, .int _]) (rest := [.int _]) (ci := 9) (pc' := 19) rfl vk_X10_58 mk_X10_its (by decide) (by first | assumption | exact ⟨by decide, rfl⟩) (by decide) rfl (Nat.le_of_ble_eq_true rfl) dX10_gaps_16 rfl (v_X10_its hs (E := 4) rfl rfl (by omega)) ?_
    refine x_aload_n (pc' := 20) rfl dX10_gaps_19 rfl ?_
    refine x_iload_n (pc' := 21) rfl dX10_gaps_20 rfl ?_
    refine x_iconst (v := 5) (pc' := 22) (by decide) dX10_gaps_21 rfl ?_
    refine x_callVi (As := [.int _, .int _]) (rest := [.int _, .int _]) (ci := 9) (pc' := 25) rfl vk_X10_58 mk_X10_its (by decide) (by first | assumption | exact ⟨by decide, rfl⟩) (by decide) rfl (Nat.le_of_ble_eq_true rfl) dX10_gaps_22 rfl (v_X10_its hs (E := 5) rfl rfl (by omega)) ?_
    refine x_imul (pc' := 26) dX10_gaps_25 rfl ?_
    refine x_icmp_ge (tgt := 119) (pc' := 29) (by decide) dX10_gaps_26 rfl (fun c26 => ?_) (fun c26 => absurd (by rw [hf.at (by omega) (by omega), hf.at (by omega) (by omega), pk_mul]; exact nI_le (by omega) (by omega)) c26)
    exact x_vret rfl dX10_gaps_119 (by rw [ha, hb])
  | succ n ih =>
    intro k a b A B hk ha hb
    obtain ⟨g6, c5, r5, c2, r2, s1, s64⟩ := hv.b hG
    have hf := hv.F hG
    have hs : (g2 σ a b).1 19 = σ.1 19 := g2_n (by decide)
    have hm : fN (σ.1 19) G 4 * fN (σ.1 19) G 5 ≤ 5 * 5 := Nat.mul_le_mul c5 r5
    obtain ⟨k1, k2⟩ := kmod (k := k) (C := fN (σ.1 19) G 4) (R := fN (σ.1 19) G 5) (by omega) (by omega)
    refine x_iload_n (pc' := 13) rfl dX10_gaps_12 rfl ?_
    refine x_aload_n (pc' := 14) rfl dX10_gaps_13 rfl ?_
    refine x_iload_n (pc' := 15) rfl dX10_gaps_14 rfl ?_
    refine x_iconst (v := 4) (pc' := 16) (by decide) dX10_gaps_15 rfl ?_
    refine x_callVi (As := [.int _, .int _]) (rest := [.int _]) (ci := 9) (pc' := 19) rfl vk_X10_58 mk_X10_its (by decide) (by first | assumption | exact ⟨by decide, rfl⟩) (by decide) rfl (Nat.le_of_ble_eq_true rfl) dX10_gaps_16 rfl (v_X10_its hs (E := 4) rfl rfl (by omega)) ?_
    refine x_aload_n (pc' := 20) rfl dX10_gaps_19 rfl ?_
    refine x_iload_n (pc' := 21) rfl dX10_gaps_20 rfl ?_
    refine x_iconst (v := 5) (pc' := 22) (by decide) dX10_gaps_21 rfl ?_
    refine x_callVi (As := [.int _, .int _]) (rest := [.int _, .int _]) (ci := 9) (pc' := 25) rfl vk_X10_58 mk_X10_its (by decide) (by first | assumption | exact ⟨by decide, rfl⟩) (by decide) rfl (Nat.le_of_ble_eq_true rfl) dX10_gaps_22 rfl (v_X10_its hs (E := 5) rfl rfl (by omega)) ?_
    refine x_imul (pc' := 26) dX10_gaps_25 rfl ?_
    refine x_icmp_ge (tgt := 119) (pc' := 29) (by decide) dX10_gaps_26 rfl (fun c26 => absurd c26 (by rw [hf.at (by omega) (by omega), hf.at (by omega) (by omega), pk_mul]; exact nI_ge (by omega) (by omega))) (fun c26 => ?_)
    refine x_aload_n (pc' := 30) rfl dX10_gaps_29 rfl ?_
    refine x_iload_n (pc' := 31) rfl dX10_gaps_30 rfl ?_
    refine x_iconst (v := 0) (pc' := 32) (by decide) dX10_gaps_31 rfl ?_
    refine x_callVi (As := [.int _, .int _]) (rest := []) (ci := 9) (pc' := 35) rfl vk_X10_58 mk_X10_its (by decide) (by first | assumption | exact ⟨by decide, rfl⟩) (by decide) rfl (Nat.le_of_ble_eq_true rfl) dX10_gaps_32 rfl (v_X10_its hs (E := 0) rfl rfl (by omega)) ?_
    refine x_iconst (v := (-1)) (pc' := 36) (by decide) dX10_gaps_35 rfl ?_
    refine x_icmp_eq (tgt := 119) (pc' := 39) (by decide) dX10_gaps_36 rfl (fun c36 => absurd c36 hp) (fun c36 => ?_)
    refine x_iload_n (pc' := 40) rfl dX10_gaps_39 rfl ?_
    refine x_aload_n (pc' := 41) rfl dX10_gaps_40 rfl ?_
    refine x_iload_n (pc' := 42) rfl dX10_gaps_41 rfl ?_
    refine x_iconst (v := 4) (pc' := 43) (by decide) dX10_gaps_42 rfl ?_
    refine x_callVi (As := [.int _, .int _]) (rest := [.int _]) (ci := 9) (pc' := 46) rfl vk_X10_58 mk_X10_its (by decide) (by first | assumption | exact ⟨by decide, rfl⟩) (by decide) rfl (Nat.le_of_ble_eq_true rfl) dX10_gaps_43 rfl (v_X10_its hs (E := 4) rfl rfl (by omega)) ?_
    refine x_irem (pc' := 47) (by rw [hf.at (by omega) (by omega)]; exact nI_ne0 (by omega) (by omega)) dX10_gaps_46 rfl ?_
    refine x_top (y := nI (k % fN (σ.1 19) G 4)) (by rw [hf.at (by omega) (by omega)]; exact pk_rem (by omega) (by omega) (by omega)) ?_
    refine x_istore_n (lv' := [_, _, _, _, _]) (pc' := 48) (by decide) rfl dX10_gaps_47 rfl ?_
    refine x_iload_n (pc' := 49) rfl dX10_gaps_48 rfl ?_
    refine x_aload_n (pc' := 50) rfl dX10_gaps_49 rfl ?_
    refine x_iload_n (pc' := 51) rfl dX10_gaps_50 rfl ?_
    refine x_iconst (v := 4) (pc' := 52) (by decide) dX10_gaps_51 rfl ?_
    refine x_callVi (As := [.int _, .int _]) (rest := [.int _]) (ci := 9) (pc' := 55) rfl vk_X10_58 mk_X10_its (by decide) (by first | assumption | exact ⟨by decide, rfl⟩) (by decide) rfl (Nat.le_of_ble_eq_true rfl) dX10_gaps_52 rfl (v_X10_its hs (E := 4) rfl rfl (by omega)) ?_
    refine x_idiv (pc' := 56) (by rw [hf.at (by omega) (by omega)]; exact nI_ne0 (by omega) (by omega)) dX10_gaps_55 rfl ?_
    refine x_top (y := nI (k / fN (σ.1 19) G 4)) (by rw [hf.at (by omega) (by omega)]; exact pk_div (by omega) (by omega) (by omega)) ?_
    refine x_istore (lv' := [_, _, _, _, _]) (pc' := 58) (by decide) rfl dX10_gaps_56 rfl ?_
    refine x_aload_n (pc' := 59) rfl dX10_gaps_58 rfl ?_
    refine x_iload_n (pc' := 60) rfl dX10_gaps_59 rfl ?_
    refine x_iload_n (pc' := 61) rfl dX10_gaps_60 rfl ?_
    refine x_iload (pc' := 63) rfl dX10_gaps_61 rfl ?_
    refine x_callVi (As := [.int _, .int _, .int _]) (rest := []) (ci := 9) (pc' := 66) rfl vk_X10_117 mk_X10_isBorder (by decide) (by first | assumption | exact ⟨by decide, rfl⟩) (by decide) rfl (Nat.le_of_ble_eq_true rfl) dX10_gaps_63 rfl (v_X10_isBorder hs hv hG rfl rfl rfl k1 k2) ?_
    refine x_if_eq (tgt := 113) (pc' := 69) (by decide) dX10_gaps_66 rfl (fun c66 => ?_) (fun c66 => ?_)
    · refine x_iinc (lv' := [_, _, _, _, _]) (pc' := 116) rfl (nI_1 k) (by decide) rfl dX10_gaps_113 rfl ?_
      refine x_goto (tgt := 12) (by decide) dX10_gaps_116 ?_
      exact ih (k + 1) a b _ _ (by omega) (by rw [ha, sumN, gcnt, pif_f (fun q => pb_iff.mp c66 q.1)]; rfl) (by rw [hb, maxN, gmx, pif_f (pb_iff.mp c66), mx_0 (maxN_ge0 _ _)])
    · refine x_aload_n (pc' := 70) rfl dX10_gaps_69 rfl ?_
      refine x_dup (pc' := 71) rfl dX10_gaps_70 rfl ?_
      refine x_get (v := .int _) (pc' := 74) fk_X10_111 (by first | assumption | exact ⟨by decide, rfl⟩) rfl dX10_gaps_71 rfl ?_
      refine x_aload_n (pc' := 75) rfl dX10_gaps_74 rfl ?_
      refine x_iload_n (pc' := 76) rfl dX10_gaps_75 rfl ?_
      refine x_iload_n (pc' := 77) rfl dX10_gaps_76 rfl ?_
      refine x_iload (pc' := 79) rfl dX10_gaps_77 rfl ?_
      refine x_callVi (As := [.int _, .int _, .int _]) (rest := [.int _, .ref _]) (ci := 9) (pc' := 82) rfl vk_X10_120 mk_X10_gapAt (by decide) (by first | assumption | exact ⟨by decide, rfl⟩) (by decide) rfl (Nat.le_of_ble_eq_true rfl) dX10_gaps_79 rfl (v_X10_gapAt hs hv hG hp rfl rfl rfl k1 k2) ?_
      refine x_if_le (tgt := 89) (pc' := 85) (by decide) dX10_gaps_82 rfl (fun c82 => ?_) (fun c82 => ?_)
      · refine x_iconst (v := 0) (pc' := 90) (by decide) dX10_gaps_89 rfl ?_
        refine x_iadd (pc' := 91) dX10_gaps_90 rfl ?_
        refine x_puti (pc' := 94) fk_X10_111 pk_9_12 rfl (by first | assumption | exact ⟨by decide, rfl⟩) dX10_gaps_91 rfl ?_
        refine x_st (g2_p12 σ a b _) ?_
        refine x_aload_n (pc' := 95) rfl dX10_gaps_94 rfl ?_
        refine x_aload_n (pc' := 96) rfl dX10_gaps_95 rfl ?_
        refine x_get (v := .int _) (pc' := 99) fk_X10_114 (by first | assumption | exact ⟨by decide, rfl⟩) rfl dX10_gaps_96 rfl ?_
        refine x_aload_n (pc' := 100) rfl dX10_gaps_99 rfl ?_
        refine x_iload_n (pc' := 101) rfl dX10_gaps_100 rfl ?_
        refine x_iload_n (pc' := 102) rfl dX10_gaps_101 rfl ?_
        refine x_iload (pc' := 104) rfl dX10_gaps_102 rfl ?_
        refine x_callVi (As := [.int _, .int _, .int _]) (rest := [.int _, .ref _]) (ci := 9) (pc' := 107) rfl vk_X10_120 mk_X10_gapAt (by decide) (by first | assumption | exact ⟨by decide, rfl⟩) (by decide) rfl (Nat.le_of_ble_eq_true rfl) dX10_gaps_104 rfl (v_X10_gapAt (g2_n (by decide)) hv hG hp rfl rfl rfl k1 k2) ?_
        refine x_callSi (As := [.int _, .int _]) (rest := [.ref _]) (pc' := 110) rfl sk_X10_108 mk_X10_larger (by decide) rfl (Nat.le_of_ble_eq_true rfl) dX10_gaps_107 rfl c_X10_larger ?_
        refine x_puti (pc' := 113) fk_X10_114 pk_9_13 rfl (by first | assumption | exact ⟨by decide, rfl⟩) dX10_gaps_110 rfl ?_
        refine x_st (g2_p13 σ _ b _) ?_
        refine x_iinc (lv' := [_, _, _, _, _]) (pc' := 116) rfl (nI_1 k) (by decide) rfl dX10_gaps_113 rfl ?_
        refine x_goto (tgt := 12) (by decide) dX10_gaps_116 ?_
        exact ih (k + 1) _ _ _ _ (by omega) (by rw [g2_12, ha, sumN, gcnt, pif_f (fun q => i_nlt.mpr c82 q.2)]; exact nI_add _ 0) (by rw [g2_13, hb, maxN, gmx, pif_t (pb_n c66)])
      · refine x_iconst (v := 1) (pc' := 86) (by decide) dX10_gaps_85 rfl ?_
        refine x_goto (tgt := 90) (by decide) dX10_gaps_86 ?_
        refine x_iadd (pc' := 91) dX10_gaps_90 rfl ?_
        refine x_puti (pc' := 94) fk_X10_111 pk_9_12 rfl (by first | assumption | exact ⟨by decide, rfl⟩) dX10_gaps_91 rfl ?_
        refine x_st (g2_p12 σ a b _) ?_
        refine x_aload_n (pc' := 95) rfl dX10_gaps_94 rfl ?_
        refine x_aload_n (pc' := 96) rfl dX10_gaps_95 rfl ?_
        refine x_get (v := .int _) (pc' := 99) fk_X10_114 (by first | assumption | exact ⟨by decide, rfl⟩) rfl dX10_gaps_96 rfl ?_
        refine x_aload_n (pc' := 100) rfl dX10_gaps_99 rfl ?_
        refine x_iload_n (pc' := 101) rfl dX10_gaps_100 rfl ?_
        refine x_iload_n (pc' := 102) rfl dX10_gaps_101 rfl ?_
        refine x_iload (pc' := 104) rfl dX10_gaps_102 rfl ?_
        refine x_callVi (As := [.int _, .int _, .int _]) (rest := [.int _, .ref _]) (ci := 9) (pc' := 107) rfl vk_X10_120 mk_X10_gapAt (by decide) (by first | assumption | exact ⟨by decide, rfl⟩) (by decide) rfl (Nat.le_of_ble_eq_true rfl) dX10_gaps_104 rfl (v_X10_gapAt (g2_n (by decide)) hv hG hp rfl rfl rfl k1 k2) ?_
        refine x_callSi (As := [.int _, .int _]) (rest := [.ref _]) (pc' := 110) rfl sk_X10_108 mk_X10_larger (by decide) rfl (Nat.le_of_ble_eq_true rfl) dX10_gaps_107 rfl c_X10_larger ?_
        refine x_puti (pc' := 113) fk_X10_114 pk_9_13 rfl (by first | assumption | exact ⟨by decide, rfl⟩) dX10_gaps_110 rfl ?_
        refine x_st (g2_p13 σ _ b _) ?_
        refine x_iinc (lv' := [_, _, _, _, _]) (pc' := 116) rfl (nI_1 k) (by decide) rfl dX10_gaps_113 rfl ?_
        refine x_goto (tgt := 12) (by decide) dX10_gaps_116 ?_
        exact ih (k + 1) _ _ _ _ (by omega) (by rw [g2_12, ha, sumN, gcnt, pif_t ⟨pb_n c66, i_nle.mp c82⟩]; exact nI_add _ 1) (by rw [g2_13, hb, maxN, gmx, pif_t (pb_n c66)])
set_option maxRecDepth 100000 in
set_option maxHeartbeats 4000000 in
theorem c_X10_gaps {σ : St} {g : Int32} {G : Nat} (hv : Ok (σ.1 19)) (hG : G < cN (σ.1 19)) (hg : g = nI G) : Ct yX10_gaps M_X10_gaps [.ref 18, .int g] σ (none, g2 σ (nI (gapN (σ.1 19) G)) (gapM (σ.1 19) G)) := by
  subst hg
  obtain ⟨g6, c5, r5, c2, r2, s1, s64⟩ := hv.b hG
  have hf := hv.F hG
  have hm : fN (σ.1 19) G 4 * fN (σ.1 19) G 5 ≤ 5 * 5 := Nat.mul_le_mul c5 r5
  have hm2 : 2 * 2 ≤ fN (σ.1 19) G 4 * fN (σ.1 19) G 5 := Nat.mul_le_mul c2 r2
  refine ct_of (k := 3) rfl rfl rfl (Nat.le_of_ble_eq_true rfl) ?_
  by_cases hp : σ.1 19 (2 + 6 * G) = -1
  · have hs : (g2 σ 0 0).1 19 = σ.1 19 := g2_n (by decide)
    rw [gapN, gapM, pif_t hp, pif_t hp]
    refine x_aload_n (pc' := 1) rfl dX10_gaps_0 rfl ?_
    refine x_iconst (v := 0) (pc' := 2) (by decide) dX10_gaps_1 rfl ?_
    refine x_puti (pc' := 5) fk_X10_111 pk_9_12 rfl (by first | assumption | exact ⟨by decide, rfl⟩) dX10_gaps_2 rfl ?_
    refine x_aload_n (pc' := 6) rfl dX10_gaps_5 rfl ?_
    refine x_iconst (v := 0) (pc' := 7) (by decide) dX10_gaps_6 rfl ?_
    refine x_puti (pc' := 10) fk_X10_114 pk_9_13 rfl (by first | assumption | exact ⟨by decide, rfl⟩) dX10_gaps_7 rfl ?_
    refine x_iconst (v := 0) (pc' := 11) (by decide) dX10_gaps_10 rfl ?_
    refine x_istore_n (lv' := [_, _, _, _, _]) (pc' := 12) (by decide) rfl dX10_gaps_11 rfl ?_
    refine x_iload_n (pc' := 13) rfl dX10_gaps_12 rfl ?_
    refine x_aload_n (pc' := 14) rfl dX10_gaps_13 rfl ?_
    refine x_iload_n (pc' := 15) rfl dX10_gaps_14 rfl ?_
    refine x_iconst (v := 4) (pc' := 16) (by decide) dX10_gaps_15 rfl ?_
    refine x_callVi (As := [.int _, .int _]) (rest := [.int _]) (ci := 9) (pc' := 19) rfl vk_X10_58 mk_X10_its (by decide) (by first | assumption | exact ⟨by decide, rfl⟩) (by decide) rfl (Nat.le_of_ble_eq_true rfl) dX10_gaps_16 rfl (v_X10_its hs (E := 4) rfl rfl (by omega)) ?_
    refine x_aload_n (pc' := 20) rfl dX10_gaps_19 rfl ?_
    refine x_iload_n (pc' := 21) rfl dX10_gaps_20 rfl ?_
    refine x_iconst (v := 5) (pc' := 22) (by decide) dX10_gaps_21 rfl ?_
    refine x_callVi (As := [.int _, .int _]) (rest := [.int _, .int _]) (ci := 9) (pc' := 25) rfl vk_X10_58 mk_X10_its (by decide) (by first | assumption | exact ⟨by decide, rfl⟩) (by decide) rfl (Nat.le_of_ble_eq_true rfl) dX10_gaps_22 rfl (v_X10_its hs (E := 5) rfl rfl (by omega)) ?_
    refine x_imul (pc' := 26) dX10_gaps_25 rfl ?_
    refine x_icmp_ge (tgt := 119) (pc' := 29) (by decide) dX10_gaps_26 rfl (fun c26 => absurd c26 (by rw [hf.at (by omega) (by omega), hf.at (by omega) (by omega), pk_mul]; exact nI_ge (a := 0) (by omega) (by omega))) (fun c26 => ?_)
    refine x_aload_n (pc' := 30) rfl dX10_gaps_29 rfl ?_
    refine x_iload_n (pc' := 31) rfl dX10_gaps_30 rfl ?_
    refine x_iconst (v := 0) (pc' := 32) (by decide) dX10_gaps_31 rfl ?_
    refine x_callVi (As := [.int _, .int _]) (rest := []) (ci := 9) (pc' := 35) rfl vk_X10_58 mk_X10_its (by decide) (by first | assumption | exact ⟨by decide, rfl⟩) (by decide) rfl (Nat.le_of_ble_eq_true rfl) dX10_gaps_32 rfl (v_X10_its hs (E := 0) rfl rfl (by omega)) ?_
    refine x_iconst (v := (-1)) (pc' := 36) (by decide) dX10_gaps_35 rfl ?_
    refine x_icmp_eq (tgt := 119) (pc' := 39) (by decide) dX10_gaps_36 rfl (fun c36 => ?_) (fun c36 => absurd hp c36)
    exact x_vret rfl dX10_gaps_119 rfl
  · rw [gapN, gapM, pif_f hp, pif_f hp]
    refine x_aload_n (pc' := 1) rfl dX10_gaps_0 rfl ?_
    refine x_iconst (v := 0) (pc' := 2) (by decide) dX10_gaps_1 rfl ?_
    refine x_puti (pc' := 5) fk_X10_111 pk_9_12 rfl (by first | assumption | exact ⟨by decide, rfl⟩) dX10_gaps_2 rfl ?_
    refine x_aload_n (pc' := 6) rfl dX10_gaps_5 rfl ?_
    refine x_iconst (v := 0) (pc' := 7) (by decide) dX10_gaps_6 rfl ?_
    refine x_puti (pc' := 10) fk_X10_114 pk_9_13 rfl (by first | assumption | exact ⟨by decide, rfl⟩) dX10_gaps_7 rfl ?_
    refine x_iconst (v := 0) (pc' := 11) (by decide) dX10_gaps_10 rfl ?_
    refine x_istore_n (lv' := [_, _, _, _, _]) (pc' := 12) (by decide) rfl dX10_gaps_11 rfl ?_
    exact l_X10_gaps hv hG hp _ 0 0 0 _ _ (Nat.zero_add _) rfl rfl
set_option maxRecDepth 100000 in
set_option maxHeartbeats 4000000 in
theorem v_X10_gaps {σ : St} {v0 : Nat → Int32} (hs : σ.1 19 = v0) {g : Int32} {G : Nat} (hv : Ok v0) (hG : G < cN v0) (hg : g = nI G) : Ct yX10_gaps M_X10_gaps [.ref 18, .int g] σ (none, g2 σ (nI (gapN v0 G)) (gapM v0 G)) := by
  subst hs
  exact c_X10_gaps hv hG hg
