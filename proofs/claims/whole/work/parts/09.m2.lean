def stS (v : Nat → Int32) (g k w : Nat) : Nat := 64 * (fN v g (1 + w) + k * fN v g 3)
def onS (v : Nat → Int32) (g px py : Nat) : Prop := (stS v g 0 0 ≤ px ∧ px ≤ stS v g (fN v g 4 - 1) 0) ∧ stS v g 0 1 ≤ py ∧ py ≤ stS v g (fN v g 5 - 1) 1
noncomputable def pb (P : Prop) : Int32 := @b01 P (Classical.propDecidable P)
theorem pb_1 {P : Prop} (h : P) : pb P = 1 := @b1 _ (Classical.propDecidable P) h
theorem pb_0 {P : Prop} (h : ¬ P) : pb P = 0 := @b0 _ (Classical.propDecidable P) h
theorem pb_iff {P : Prop} : pb P = 0 ↔ ¬ P := @b01_0 _ (Classical.propDecidable P)
theorem pb_n {P : Prop} (h : ¬ pb P = 0) : P := Classical.not_not.mp (fun q => h (pb_iff.mpr q))
theorem pb_nar (P : Prop) : narrow .boolean (.int (pb P)) = .int (pb P) := @b01_nar _ (Classical.propDecidable P)
theorem pb_c {P Q : Prop} (h : P ↔ Q) : pb P = pb Q := by rw [propext h]
theorem b01_pb {P Q : Prop} [Decidable P] (h : P ↔ Q) : b01 P = pb Q := by
  by_cases hp : P
  · rw [b1 hp, pb_1 (h.mp hp)]
  · rw [b0 hp, pb_0 (fun q => hp (h.mpr q))]
theorem OkF.at {v : Nat → Int32} {g e : Nat} (h : OkF v g) (h1 : 1 ≤ e) (h6 : e < 6) : v (2 + 6 * g + e) = nI (fN v g e) := h.1 e h1 h6
theorem stS_le {v : Nat → Int32} {g : Nat} (h : OkF v g) {k w : Nat} (hw : w < 2) (hk : k < fN v g (4 + w)) : stS v g k w ≤ 64000 := by
  obtain ⟨-, -, -, -, -, -, -, h1, h2⟩ := h
  have hm : k * fN v g 3 ≤ (fN v g (4 + w) - 1) * fN v g 3 := Nat.mul_le_mul_right _ (by omega)
  unfold stS
  match w, hw with
  | 0, _ => have e : fN v g (4 + 0) = fN v g 4 := rfl
            have e1 : fN v g (1 + 0) = fN v g 1 := rfl
            rw [e] at hm; rw [e1]; omega
  | 1, _ => have e : fN v g (4 + 1) = fN v g 5 := rfl
            have e1 : fN v g (1 + 1) = fN v g 2 := rfl
            rw [e] at hm; rw [e1]; omega

set_option maxRecDepth 100000 in
set_option maxHeartbeats 4000000 in
theorem c_X10_stands {σ : St} {g k w : Int32} {G K W : Nat} (hf : OkF (σ.1 19) G) (hg : g = nI G) (hk : k = nI K) (hw : w = nI W) (hG : G < 6) (hW : W < 2) : Ct yX10_stands M_X10_stands [.ref 18, .int g, .int k, .int w] σ (some (.int (nI (stS (σ.1 19) G K W))), σ) := by
  refine ct_of (k := 0) rfl rfl rfl (Nat.le_of_ble_eq_true rfl) ?_
  refine x_bipush (v := 64) (pc' := 2) (by decide) dX10_stands_0 rfl ?_
  refine x_aload_n (pc' := 3) rfl dX10_stands_2 rfl ?_
  refine x_iload_n (pc' := 4) rfl dX10_stands_3 rfl ?_
  refine x_iconst (v := 1) (pc' := 5) (by decide) dX10_stands_4 rfl ?_
  refine x_iload_n (pc' := 6) rfl dX10_stands_5 rfl ?_
  refine x_iadd (pc' := 7) dX10_stands_6 rfl ?_
  refine x_callVi (As := [.int _, .int _]) (rest := [.int _]) (ci := 9) (pc' := 10) rfl vk_X10_58 mk_X10_its (by decide) (by first | assumption | exact ⟨by decide, rfl⟩) (by decide) rfl (Nat.le_of_ble_eq_true rfl) dX10_stands_7 rfl (c_X10_its (E := 1 + W) hg (by rw [hw]; simp only [lit32, nI_add]) (by omega)) ?_
  refine x_iload_n (pc' := 11) rfl dX10_stands_10 rfl ?_
  refine x_aload_n (pc' := 12) rfl dX10_stands_11 rfl ?_
  refine x_iload_n (pc' := 13) rfl dX10_stands_12 rfl ?_
  refine x_iconst (v := 3) (pc' := 14) (by decide) dX10_stands_13 rfl ?_
  refine x_callVi (As := [.int _, .int _]) (rest := [.int _, .int _, .int _]) (ci := 9) (pc' := 17) rfl vk_X10_58 mk_X10_its (by decide) (by first | assumption | exact ⟨by decide, rfl⟩) (by decide) rfl (Nat.le_of_ble_eq_true rfl) dX10_stands_14 rfl (c_X10_its (E := 3) hg rfl (by omega)) ?_
  refine x_imul (pc' := 18) dX10_stands_17 rfl ?_
  refine x_iadd (pc' := 19) dX10_stands_18 rfl ?_
  refine x_imul (pc' := 20) dX10_stands_19 rfl ?_
  exact x_iret rfl dX10_stands_20 (ret_i (by rw [hf.at (by omega) (by omega), hf.at (by omega) (by omega), hk, stS]; simp only [lit32, nI_add, pk_mul]))
set_option maxRecDepth 100000 in
set_option maxHeartbeats 4000000 in
theorem v_X10_stands {σ : St} {v0 : Nat → Int32} (hs : σ.1 19 = v0) {g k w : Int32} {G K W : Nat} (hf : OkF v0 G) (hg : g = nI G) (hk : k = nI K) (hw : w = nI W) (hG : G < 6) (hW : W < 2) : Ct yX10_stands M_X10_stands [.ref 18, .int g, .int k, .int w] σ (some (.int (nI (stS v0 G K W))), σ) := by
  subst hs
  exact c_X10_stands hf hg hk hw hG hW
set_option maxRecDepth 100000 in
set_option maxHeartbeats 4000000 in
theorem c_X10_last {σ : St} {g w : Int32} {G W : Nat} (hf : OkF (σ.1 19) G) (hg : g = nI G) (hw : w = nI W) (hG : G < 6) (hW : W < 2) : Ct yX10_last M_X10_last [.ref 18, .int g, .int w] σ (some (.int (nI (stS (σ.1 19) G (fN (σ.1 19) G (4 + W) - 1) W))), σ) := by
  have hge : 1 ≤ fN (σ.1 19) G (4 + W) := by
    obtain ⟨-, -, -, h4, -, h5, -, -, -⟩ := hf
    match W, hW with
    | 0, _ => exact Nat.le_trans (by decide) h4
    | 1, _ => exact Nat.le_trans (by decide) h5
  refine ct_of (k := 0) rfl rfl rfl (Nat.le_of_ble_eq_true rfl) ?_
  refine x_aload_n (pc' := 1) rfl dX10_last_0 rfl ?_
  refine x_iload_n (pc' := 2) rfl dX10_last_1 rfl ?_
  refine x_aload_n (pc' := 3) rfl dX10_last_2 rfl ?_
  refine x_iload_n (pc' := 4) rfl dX10_last_3 rfl ?_
  refine x_iconst (v := 4) (pc' := 5) (by decide) dX10_last_4 rfl ?_
  refine x_iload_n (pc' := 6) rfl dX10_last_5 rfl ?_
  refine x_iadd (pc' := 7) dX10_last_6 rfl ?_
  refine x_callVi (As := [.int _, .int _]) (rest := [.int _, .ref _]) (ci := 9) (pc' := 10) rfl vk_X10_58 mk_X10_its (by decide) (by first | assumption | exact ⟨by decide, rfl⟩) (by decide) rfl (Nat.le_of_ble_eq_true rfl) dX10_last_7 rfl (c_X10_its (E := 4 + W) hg (by rw [hw]; simp only [lit32, nI_add]) (by omega)) ?_
  refine x_iconst (v := 1) (pc' := 11) (by decide) dX10_last_10 rfl ?_
  refine x_isub (pc' := 12) dX10_last_11 rfl ?_
  refine x_iload_n (pc' := 13) rfl dX10_last_12 rfl ?_
  refine x_callVi (As := [.int _, .int _, .int _]) (rest := []) (ci := 9) (pc' := 16) rfl vk_X10_66 mk_X10_stands (by decide) (by first | assumption | exact ⟨by decide, rfl⟩) (by decide) rfl (Nat.le_of_ble_eq_true rfl) dX10_last_13 rfl (c_X10_stands hf hg (K := fN (σ.1 19) G (4 + W) - 1) (by rw [hf.at (by omega) (by omega)]; exact pk_sub (b := 1) hge) hw hG hW) ?_
  exact x_iret rfl dX10_last_16 rfl
set_option maxRecDepth 100000 in
set_option maxHeartbeats 4000000 in
theorem v_X10_last {σ : St} {v0 : Nat → Int32} (hs : σ.1 19 = v0) {g w : Int32} {G W : Nat} (hf : OkF v0 G) (hg : g = nI G) (hw : w = nI W) (hG : G < 6) (hW : W < 2) : Ct yX10_last M_X10_last [.ref 18, .int g, .int w] σ (some (.int (nI (stS v0 G (fN v0 G (4 + W) - 1) W))), σ) := by
  subst hs
  exact c_X10_last hf hg hw hG hW
theorem in_nn {a p b : Nat} (ha : a < 2 ^ 31) (hp : p < 2 ^ 31) (hb : b < 2 ^ 31) : ((nI a).toInt64 ≤ (nI p).toInt64 ∧ (nI p).toInt64 ≤ (nI b).toInt64) ↔ (a ≤ p ∧ p ≤ b) := by
  rw [wide_le, wide_le, nI_leI ha hp, nI_leI hp hb]
theorem onS_b {v : Nat → Int32} {g : Nat} (h : OkF v g) : stS v g 0 0 ≤ 64000 ∧ stS v g (fN v g 4 - 1) 0 ≤ 64000 ∧ stS v g 0 1 ≤ 64000 ∧ stS v g (fN v g 5 - 1) 1 ≤ 64000 := by
  have h4 := h.2.2.2.1
  have h5 := h.2.2.2.2.2.1
  exact ⟨stS_le h (by decide) (by show 0 < fN v g 4; omega), stS_le h (by decide) (by show _ < fN v g 4; omega), stS_le h (by decide) (by show 0 < fN v g 5; omega), stS_le h (by decide) (by show _ < fN v g 5; omega)⟩
/-- if, over any statement -/
noncomputable def pif {α : Type} (P : Prop) (a b : α) : α := @ite α P (Classical.propDecidable P) a b
theorem pif_t {α : Type} {P : Prop} {a b : α} (h : P) : pif P a b = a := @if_pos P (Classical.propDecidable P) h α a b
theorem pif_f {α : Type} {P : Prop} {a b : α} (h : ¬ P) : pif P a b = b := @if_neg P (Classical.propDecidable P) h α a b
set_option maxRecDepth 100000 in
set_option maxHeartbeats 4000000 in
theorem c_X10_isOn {σ : St} {g x y : Int32} {G px py : Nat} (hf : OkF (σ.1 19) G) (hg : g = nI G) (hx : x = nI px) (hy : y = nI py) (hG : G < 6) (hpx : px < 2 ^ 31) (hpy : py < 2 ^ 31) : Ct yX10_isOn M_X10_isOn [.ref 18, .int g, .int x, .int y] σ (some (.int (pb (onS (σ.1 19) G px py))), σ) := by
  subst hx
  subst hy
  obtain ⟨o1, o2, o3, o4⟩ := onS_b hf
  have e1 := in_nn (a := stS (σ.1 19) G 0 0) (p := px) (b := stS (σ.1 19) G (fN (σ.1 19) G 4 - 1) 0) (by omega) hpx (by omega)
  have e2 := in_nn (a := stS (σ.1 19) G 0 1) (p := py) (b := stS (σ.1 19) G (fN (σ.1 19) G 5 - 1) 1) (by omega) hpy (by omega)
  refine ct_of (k := 0) rfl rfl rfl (Nat.le_of_ble_eq_true rfl) ?_
  refine x_iload_n (pc' := 1) rfl dX10_isOn_0 rfl ?_
  refine x_i2l (pc' := 2) dX10_isOn_1 rfl ?_
  refine x_aload_n (pc' := 3) rfl dX10_isOn_2 rfl ?_
  refine x_iload_n (pc' := 4) rfl dX10_isOn_3 rfl ?_
  refine x_iconst (v := 0) (pc' := 5) (by decide) dX10_isOn_4 rfl ?_
  refine x_iconst (v := 0) (pc' := 6) (by decide) dX10_isOn_5 rfl ?_
  refine x_callVi (As := [.int _, .int _, .int _]) (rest := [.long _]) (ci := 9) (pc' := 9) rfl vk_X10_66 mk_X10_stands (by decide) (by first | assumption | exact ⟨by decide, rfl⟩) (by decide) rfl (Nat.le_of_ble_eq_true rfl) dX10_isOn_6 rfl (c_X10_stands hf hg (K := 0) (W := 0) rfl rfl hG (by decide)) ?_
  refine x_i2l (pc' := 10) dX10_isOn_9 rfl ?_
  refine x_aload_n (pc' := 11) rfl dX10_isOn_10 rfl ?_
  refine x_iload_n (pc' := 12) rfl dX10_isOn_11 rfl ?_
  refine x_iconst (v := 0) (pc' := 13) (by decide) dX10_isOn_12 rfl ?_
  refine x_callVi (As := [.int _, .int _]) (rest := [.long _, .long _]) (ci := 9) (pc' := 16) rfl vk_X10_69 mk_X10_last (by decide) (by first | assumption | exact ⟨by decide, rfl⟩) (by decide) rfl (Nat.le_of_ble_eq_true rfl) dX10_isOn_13 rfl (c_X10_last hf hg (W := 0) rfl hG (by decide)) ?_
  refine x_i2l (pc' := 17) dX10_isOn_16 rfl ?_
  refine x_callSi (As := [.long _, .long _, .long _]) (rest := []) (pc' := 20) rfl sk_X10_50 mk_X10_in (by decide) rfl (Nat.le_of_ble_eq_true rfl) dX10_isOn_17 rfl c_X10_in ?_
  refine x_if_eq (tgt := 50) (pc' := 23) (by decide) dX10_isOn_20 rfl (fun c20 => ?_) (fun c20 => ?_)
  · refine x_iconst (v := 0) (pc' := 51) (by decide) dX10_isOn_50 rfl ?_
    exact x_zret rfl (by first | rfl | exact b01_nar _ | exact pb_nar _) dX10_isOn_51 (ret_i (pb_0 (fun h => b01_0.mp c20 (e1.mpr h.1))).symm)
  · refine x_iload_n (pc' := 24) rfl dX10_isOn_23 rfl ?_
    refine x_i2l (pc' := 25) dX10_isOn_24 rfl ?_
    refine x_aload_n (pc' := 26) rfl dX10_isOn_25 rfl ?_
    refine x_iload_n (pc' := 27) rfl dX10_isOn_26 rfl ?_
    refine x_iconst (v := 0) (pc' := 28) (by decide) dX10_isOn_27 rfl ?_
    refine x_iconst (v := 1) (pc' := 29) (by decide) dX10_isOn_28 rfl ?_
    refine x_callVi (As := [.int _, .int _, .int _]) (rest := [.long _]) (ci := 9) (pc' := 32) rfl vk_X10_66 mk_X10_stands (by decide) (by first | assumption | exact ⟨by decide, rfl⟩) (by decide) rfl (Nat.le_of_ble_eq_true rfl) dX10_isOn_29 rfl (c_X10_stands hf hg (K := 0) (W := 1) rfl rfl hG (by decide)) ?_
    refine x_i2l (pc' := 33) dX10_isOn_32 rfl ?_
    refine x_aload_n (pc' := 34) rfl dX10_isOn_33 rfl ?_
    refine x_iload_n (pc' := 35) rfl dX10_isOn_34 rfl ?_
    refine x_iconst (v := 1) (pc' := 36) (by decide) dX10_isOn_35 rfl ?_
    refine x_callVi (As := [.int _, .int _]) (rest := [.long _, .long _]) (ci := 9) (pc' := 39) rfl vk_X10_69 mk_X10_last (by decide) (by first | assumption | exact ⟨by decide, rfl⟩) (by decide) rfl (Nat.le_of_ble_eq_true rfl) dX10_isOn_36 rfl (c_X10_last hf hg (W := 1) rfl hG (by decide)) ?_
    refine x_i2l (pc' := 40) dX10_isOn_39 rfl ?_
    refine x_callSi (As := [.long _, .long _, .long _]) (rest := []) (pc' := 43) rfl sk_X10_50 mk_X10_in (by decide) rfl (Nat.le_of_ble_eq_true rfl) dX10_isOn_40 rfl c_X10_in ?_
    refine x_if_eq (tgt := 50) (pc' := 46) (by decide) dX10_isOn_43 rfl (fun c43 => ?_) (fun c43 => ?_)
    · refine x_iconst (v := 0) (pc' := 51) (by decide) dX10_isOn_50 rfl ?_
      exact x_zret rfl (by first | rfl | exact b01_nar _ | exact pb_nar _) dX10_isOn_51 (ret_i (pb_0 (fun h => b01_0.mp c43 (e2.mpr h.2))).symm)
    · refine x_iconst (v := 1) (pc' := 47) (by decide) dX10_isOn_46 rfl ?_
      refine x_goto (tgt := 51) (by decide) dX10_isOn_47 ?_
      exact x_zret rfl (by first | rfl | exact b01_nar _ | exact pb_nar _) dX10_isOn_51 (ret_i (pb_1 ⟨e1.mp (Classical.not_not.mp (fun h => c20 (b01_0.mpr h))), e2.mp (Classical.not_not.mp (fun h => c43 (b01_0.mpr h)))⟩).symm)
set_option maxRecDepth 100000 in
set_option maxHeartbeats 4000000 in
theorem v_X10_isOn {σ : St} {v0 : Nat → Int32} (hs : σ.1 19 = v0) {g x y : Int32} {G px py : Nat} (hf : OkF v0 G) (hg : g = nI G) (hx : x = nI px) (hy : y = nI py) (hG : G < 6) (hpx : px < 2 ^ 31) (hpy : py < 2 ^ 31) : Ct yX10_isOn M_X10_isOn [.ref 18, .int g, .int x, .int y] σ (some (.int (pb (onS v0 G px py))), σ) := by
  subst hs
  exact c_X10_isOn hf hg hx hy hG hpx hpy
def plc (x y : Int32) : Prop := (0 ≤ x ∧ x ≤ 64000) ∧ 0 ≤ y ∧ y ≤ 64000
theorem in_64 (x : Int32) : ((0 : Int64) ≤ x.toInt64 ∧ x.toInt64 ≤ 64000) ↔ (0 ≤ x ∧ x ≤ 64000) := in_c x 0 64000 (by decide) (by decide)
theorem plc_nat {x y : Int32} (h : plc x y) : ∃ px py : Nat, px ≤ 64000 ∧ py ≤ 64000 ∧ x = nI px ∧ y = nI py := by
  obtain ⟨px, h1, e1⟩ := nI_of2 (n := 64000) (by decide) (i_nlt.mpr h.1.1) h.1.2
  obtain ⟨py, h2, e2⟩ := nI_of2 (n := 64000) (by decide) (i_nlt.mpr h.2.1) h.2.2
  exact ⟨px, py, h1, h2, e1, e2⟩
theorem plc_of {px py : Nat} (h1 : px ≤ 64000) (h2 : py ≤ 64000) : plc (nI px) (nI py) :=
  ⟨⟨nI_pos' (by omega), (nI_leI (b := 64000) (by omega) (by decide)).mpr h1⟩, nI_pos' (by omega), (nI_leI (b := 64000) (by omega) (by decide)).mpr h2⟩

set_option maxRecDepth 100000 in
set_option maxHeartbeats 4000000 in
theorem c_X10_isPlace {σ : St} {x y : Int32} : Ct yX10_isPlace M_X10_isPlace [.int x, .int y] σ (some (.int (pb (plc x y))), σ) := by
  refine ct_of (k := 0) rfl rfl rfl (Nat.le_of_ble_eq_true rfl) ?_
  refine x_iload_n (pc' := 1) rfl dX10_isPlace_0 rfl ?_
  refine x_i2l (pc' := 2) dX10_isPlace_1 rfl ?_
  refine x_lconst (v := 0) (pc' := 3) (by decide) dX10_isPlace_2 rfl ?_
  refine x_ldc2 (pc' := 6) kl_X10_72 dX10_isPlace_3 rfl ?_
  refine x_callSi (As := [.long _, .long _, .long _]) (rest := []) (pc' := 9) rfl sk_X10_50 mk_X10_in (by decide) rfl (Nat.le_of_ble_eq_true rfl) dX10_isPlace_6 rfl c_X10_in ?_
  refine x_if_eq (tgt := 28) (pc' := 12) (by decide) dX10_isPlace_9 rfl (fun c9 => ?_) (fun c9 => ?_)
  · refine x_iconst (v := 0) (pc' := 29) (by decide) dX10_isPlace_28 rfl ?_
    exact x_zret rfl (by first | rfl | exact b01_nar _ | exact pb_nar _) dX10_isPlace_29 (ret_i (pb_0 (fun h => b01_0.mp c9 ((in_64 x).mpr h.1))).symm)
  · refine x_iload_n (pc' := 13) rfl dX10_isPlace_12 rfl ?_
    refine x_i2l (pc' := 14) dX10_isPlace_13 rfl ?_
    refine x_lconst (v := 0) (pc' := 15) (by decide) dX10_isPlace_14 rfl ?_
    refine x_ldc2 (pc' := 18) kl_X10_72 dX10_isPlace_15 rfl ?_
    refine x_callSi (As := [.long _, .long _, .long _]) (rest := []) (pc' := 21) rfl sk_X10_50 mk_X10_in (by decide) rfl (Nat.le_of_ble_eq_true rfl) dX10_isPlace_18 rfl c_X10_in ?_
    refine x_if_eq (tgt := 28) (pc' := 24) (by decide) dX10_isPlace_21 rfl (fun c21 => ?_) (fun c21 => ?_)
    · refine x_iconst (v := 0) (pc' := 29) (by decide) dX10_isPlace_28 rfl ?_
      exact x_zret rfl (by first | rfl | exact b01_nar _ | exact pb_nar _) dX10_isPlace_29 (ret_i (pb_0 (fun h => b01_0.mp c21 ((in_64 y).mpr h.2))).symm)
    · refine x_iconst (v := 1) (pc' := 25) (by decide) dX10_isPlace_24 rfl ?_
      refine x_goto (tgt := 29) (by decide) dX10_isPlace_25 ?_
      exact x_zret rfl (by first | rfl | exact b01_nar _ | exact pb_nar _) dX10_isPlace_29 (ret_i (pb_1 ⟨(in_64 x).mp (Classical.not_not.mp (fun h => c9 (b01_0.mpr h))), (in_64 y).mp (Classical.not_not.mp (fun h => c21 (b01_0.mpr h)))⟩).symm)
def mtc (v : Nat → Int32) (p : Int32) (px py i : Nat) : Prop := v (2 + 6 * i) = p ∧ onS v i px py
/-- the first grid from i on, of n, with that parent, on whose ground the place is -/
noncomputable def chF (v : Nat → Int32) (p : Int32) (px py : Nat) : Nat → Nat → Int32
  | _, 0 => -1
  | i, n + 1 => pif (mtc v p px py i) (nI i) (chF v p px py (i + 1) n)
theorem Ok.c0 {v : Nat → Int32} (h : Ok v) : v 0 = nI (cN v) := h.1
theorem Ok.c6 {v : Nat → Int32} (h : Ok v) : cN v ≤ 6 := h.2.1
theorem Ok.F {v : Nat → Int32} (h : Ok v) {g : Nat} (hg : g < cN v) : OkF v g := (h.2.2.2.2 g hg).2.1
set_option maxRecDepth 100000 in
set_option maxHeartbeats 4000000 in
theorem l_X10_child {σ : St} {p : Int32} {px py : Nat} (hv : Ok (σ.1 19)) (hpx : px < 2 ^ 31) (hpy : py < 2 ^ 31) : ∀ (n i : Nat), i + n = cN (σ.1 19) → Ex M_X10_child (some (.int (chF (σ.1 19) p px py i n)), σ) 3 [some (.ref 18), some (.int p), some (.int (nI px)), some (.int (nI py)), some (.int (nI i))] [] σ := by
  intro n
  induction n with
  | zero =>
    intro i hi
    have h6 := hv.c6
    refine x_iload (pc' := 5) rfl dX10_child_3 rfl ?_
    refine x_aload_n (pc' := 6) rfl dX10_child_5 rfl ?_
    refine x_get (v := .ref 19) (pc' := 9) fk_X10_7 (by first | assumption | exact ⟨by decide, rfl⟩) rfl dX10_child_6 rfl ?_
    refine x_iconst (v := 0) (pc' := 10) (by decide) dX10_child_9 rfl ?_
    refine x_ialdn (N := 338) (n := 0) (pc' := 11) (by first | assumption | exact ⟨by decide, rfl⟩) (by decide) rfl (by decide) dX10_child_10 rfl ?_
    refine x_icmp_ge (tgt := 45) (pc' := 14) (by decide) dX10_child_11 rfl (fun c11 => ?_) (fun c11 => absurd (show σ.1 19 0 ≤ nI i by rw [hv.c0]; exact nI_le (by omega) (by omega)) c11)
    refine x_iconst (v := (-1)) (pc' := 46) (by decide) dX10_child_45 rfl ?_
    exact x_iret rfl dX10_child_46 rfl
  | succ n ih =>
    intro i hi
    have h6 := hv.c6
    have hF := hv.F (g := i) (by omega)
    refine x_iload (pc' := 5) rfl dX10_child_3 rfl ?_
    refine x_aload_n (pc' := 6) rfl dX10_child_5 rfl ?_
    refine x_get (v := .ref 19) (pc' := 9) fk_X10_7 (by first | assumption | exact ⟨by decide, rfl⟩) rfl dX10_child_6 rfl ?_
    refine x_iconst (v := 0) (pc' := 10) (by decide) dX10_child_9 rfl ?_
    refine x_ialdn (N := 338) (n := 0) (pc' := 11) (by first | assumption | exact ⟨by decide, rfl⟩) (by decide) rfl (by decide) dX10_child_10 rfl ?_
    refine x_icmp_ge (tgt := 45) (pc' := 14) (by decide) dX10_child_11 rfl (fun c11 => absurd c11 (show ¬ σ.1 19 0 ≤ nI i by rw [hv.c0]; exact nI_ge (by omega) (by omega))) (fun c11 => ?_)
    refine x_aload_n (pc' := 15) rfl dX10_child_14 rfl ?_
    refine x_iload (pc' := 17) rfl dX10_child_15 rfl ?_
    refine x_iconst (v := 0) (pc' := 18) (by decide) dX10_child_17 rfl ?_
    refine x_callVi (As := [.int _, .int _]) (rest := []) (ci := 9) (pc' := 21) rfl vk_X10_58 mk_X10_its (by decide) (by first | assumption | exact ⟨by decide, rfl⟩) (by decide) rfl (Nat.le_of_ble_eq_true rfl) dX10_child_18 rfl (c_X10_its (G := i) (E := 0) rfl rfl (by omega)) ?_
    refine x_iload_n (pc' := 22) rfl dX10_child_21 rfl ?_
    refine x_icmp_ne (tgt := 39) (pc' := 25) (by decide) dX10_child_22 rfl (fun c22 => ?_) (fun c22 => ?_)
    · refine x_iinc (lv' := [_, _, _, _, _]) (pc' := 42) rfl rfl (by decide) rfl dX10_child_39 rfl ?_
      refine x_goto (tgt := 3) (by decide) dX10_child_42 ?_
      rw [chF, pif_f (fun q => c22 q.1)]
      exact (nI_1 i) ▸ ih (i + 1) (by omega)
    · refine x_aload_n (pc' := 26) rfl dX10_child_25 rfl ?_
      refine x_iload (pc' := 28) rfl dX10_child_26 rfl ?_
      refine x_iload_n (pc' := 29) rfl dX10_child_28 rfl ?_
      refine x_iload_n (pc' := 30) rfl dX10_child_29 rfl ?_
      refine x_callVi (As := [.int _, .int _, .int _]) (rest := []) (ci := 9) (pc' := 33) rfl vk_X10_74 mk_X10_isOn (by decide) (by first | assumption | exact ⟨by decide, rfl⟩) (by decide) rfl (Nat.le_of_ble_eq_true rfl) dX10_child_30 rfl (c_X10_isOn hF rfl rfl rfl (by omega) hpx hpy) ?_
      refine x_if_eq (tgt := 39) (pc' := 36) (by decide) dX10_child_33 rfl (fun c33 => ?_) (fun c33 => ?_)
      · refine x_iinc (lv' := [_, _, _, _, _]) (pc' := 42) rfl rfl (by decide) rfl dX10_child_39 rfl ?_
        refine x_goto (tgt := 3) (by decide) dX10_child_42 ?_
        rw [chF, pif_f (fun q => pb_iff.mp c33 q.2)]
        exact (nI_1 i) ▸ ih (i + 1) (by omega)
      · refine x_iload (pc' := 38) rfl dX10_child_36 rfl ?_
        exact x_iret rfl dX10_child_38 (ret_i (by rw [chF, pif_t ⟨c22, pb_n c33⟩]))
set_option maxRecDepth 100000 in
set_option maxHeartbeats 4000000 in
theorem c_X10_child {σ : St} {p : Int32} {px py : Nat} (hv : Ok (σ.1 19)) (hpx : px < 2 ^ 31) (hpy : py < 2 ^ 31) : Ct yX10_child M_X10_child [.ref 18, .int p, .int (nI px), .int (nI py)] σ (some (.int (chF (σ.1 19) p px py 0 (cN (σ.1 19)))), σ) := by
  refine ct_of (k := 1) rfl rfl rfl (Nat.le_of_ble_eq_true rfl) ?_
  refine x_iconst (v := 0) (pc' := 1) (by decide) dX10_child_0 rfl ?_
  refine x_istore (lv' := [_, _, _, _, _]) (pc' := 3) (by decide) rfl dX10_child_1 rfl ?_
  exact l_X10_child hv hpx hpy _ 0 (by omega)
set_option maxRecDepth 100000 in
set_option maxHeartbeats 4000000 in
theorem v_X10_child {σ : St} {v0 : Nat → Int32} (hs : σ.1 19 = v0) {p : Int32} {px py : Nat} (hv : Ok v0) (hpx : px < 2 ^ 31) (hpy : py < 2 ^ 31) : Ct yX10_child M_X10_child [.ref 18, .int p, .int (nI px), .int (nI py)] σ (some (.int (chF v0 p px py 0 (cN v0))), σ) := by
  subst hs
  exact c_X10_child hv hpx hpy
