set_option maxRecDepth 100000 in
set_option maxHeartbeats 4000000 in
theorem c_X1_gap {σ : St} {k : Nat} {v : Nat → Int32} (hR : Rp σ k v) {g : Nat} {ru c r : Int32} {K R : Nat} (hG : g < cN v) (hp : ¬ v (2 + 6 * g) = -1) (hru : ru = v 1) (hc : c = nI K) (hr0 : r = nI R) (hK : K < fN v g 4) (hR0 : R < fN v g 5) : Ct yX1_gap M_X1_gap [.ref (σ.2.2 (k + 1) g), .ref (σ.2.2 (k + 1) (pN v g)), .int ru, .int c, .int r] σ (some (.int (pif (brd v g K R) (gapS v g K R) 0)), σ) := by
  subst hc
  subst hr0
  have hv := hR.2.2
  have h6 := hv.c6
  obtain ⟨hk0, hk1, hk2⟩ := id hR.1
  have hn := hR.n
  obtain ⟨hq, hr, hf, hO⟩ := hR.g hG
  obtain ⟨hq0, hq1⟩ := id hq
  obtain ⟨g6, c5, r5, c2, r2, s1, s64⟩ := hv.b hG
  have eC : σ.1 (σ.2.2 (k + 1) g) 5 = nI (fN v g 4) := hr.at hf (e := 4) (by decide) (by decide)
  have eR : σ.1 (σ.2.2 (k + 1) g) 6 = nI (fN v g 5) := hr.at hf (e := 5) (by decide) (by decide)
  have ep := hr.par
  obtain ⟨p1, p2⟩ := par_ok hv hG hp
  obtain ⟨hpq, hpr, hpf, hpO⟩ := hR.g (g := pN v g) (by omega)
  obtain ⟨hpq0, hpq1⟩ := id hpq
  obtain ⟨-, -, i3⟩ := ins_on hv hG hp hK hR0
  refine ct_of (k := 4) rfl rfl rfl (Nat.le_of_ble_eq_true rfl) ?_
  refine x_aload_n (pc' := 1) rfl dX1_gap_0 rfl ?_
  refine x_ifnull (pc' := 4) dX1_gap_1 rfl ?_
  refine x_aload_n (pc' := 5) rfl dX1_gap_4 rfl ?_
  refine x_ifnull (pc' := 8) dX1_gap_5 rfl ?_
  refine x_aload_n (pc' := 9) rfl dX1_gap_8 rfl ?_
  refine x_iload_n (pc' := 10) rfl dX1_gap_9 rfl ?_
  refine x_iload (pc' := 12) rfl dX1_gap_10 rfl ?_
  refine x_callVi (As := [.int _, .int _]) (rest := []) (ci := 3) (pc' := 15) rfl vk_X1_9 mk_X4_isOnBorder (by decide) (by first | assumption | exact ⟨by decide, rfl⟩) (by decide) rfl (Nat.le_of_ble_eq_true rfl) dX1_gap_12 rfl (c_X4_isOnBorder hq hr hf rfl rfl hK hR0) ?_
  refine x_if_ne (tgt := 20) (pc' := 18) (by decide) dX1_gap_15 rfl (fun c15 => ?_) (fun c15 => ?_)
  · refine x_aload_n (pc' := 21) rfl dX1_gap_20 rfl ?_
    refine x_iload_n (pc' := 22) rfl dX1_gap_21 rfl ?_
    refine x_callVi (As := [.int _]) (rest := []) (ci := 3) (pc' := 25) rfl vk_X1_15 mk_X4_columnPlace (by decide) (by first | assumption | exact ⟨by decide, rfl⟩) (by decide) rfl (Nat.le_of_ble_eq_true rfl) dX1_gap_22 rfl (c_X4_columnPlace hq hr hf rfl) ?_
    refine x_istore (lv' := [_, _, _, _, _, _, _, _, _]) (pc' := 27) (by decide) rfl dX1_gap_25 rfl ?_
    refine x_aload_n (pc' := 28) rfl dX1_gap_27 rfl ?_
    refine x_iload (pc' := 30) rfl dX1_gap_28 rfl ?_
    refine x_callVi (As := [.int _]) (rest := []) (ci := 3) (pc' := 33) rfl vk_X1_19 mk_X4_rowPlace (by decide) (by first | assumption | exact ⟨by decide, rfl⟩) (by decide) rfl (Nat.le_of_ble_eq_true rfl) dX1_gap_30 rfl (c_X4_rowPlace hq hr hf rfl) ?_
    refine x_istore (lv' := [_, _, _, _, _, _, _, _, _]) (pc' := 35) (by decide) rfl dX1_gap_33 rfl ?_
    refine x_aload_n (pc' := 36) rfl dX1_gap_35 rfl ?_
    refine x_iload_n (pc' := 37) rfl dX1_gap_36 rfl ?_
    refine x_iload (pc' := 39) rfl dX1_gap_37 rfl ?_
    refine x_iconst (v := 0) (pc' := 40) (by decide) dX1_gap_39 rfl ?_
    refine x_callVi (As := [.int _, .int _, .int _]) (rest := []) (ci := 3) (pc' := 43) rfl vk_X1_22 mk_X4_offset (by decide) (by first | assumption | exact ⟨by decide, rfl⟩) (by decide) rfl (Nat.le_of_ble_eq_true rfl) dX1_gap_40 rfl (c_X4_offset (W := 0) hq rfl rfl rfl (by omega) (by omega) (by decide)) ?_
    refine x_top (hr.2 K R 0 hK hR0 (by decide)) ?_
    refine x_aload_n (pc' := 44) rfl dX1_gap_43 rfl ?_
    refine x_iload_n (pc' := 45) rfl dX1_gap_44 rfl ?_
    refine x_iload (pc' := 47) rfl dX1_gap_45 rfl ?_
    refine x_iload (pc' := 49) rfl dX1_gap_47 rfl ?_
    refine x_iconst (v := 0) (pc' := 50) (by decide) dX1_gap_49 rfl ?_
    refine x_callVi (As := [.int _, .int _, .int _, .int _]) (rest := [.int _]) (ci := 3) (pc' := 53) rfl vk_X1_26 mk_X4_offsetBy (by decide) (by first | assumption | exact ⟨by decide, rfl⟩) (by decide) rfl (Nat.le_of_ble_eq_true rfl) dX1_gap_50 rfl (c_X4_offsetBy hpq hpr hpf hpO i3 hru rfl rfl (W := 0) rfl (by decide)) ?_
    refine x_isub (pc' := 54) dX1_gap_53 rfl ?_
    refine x_callSi (As := [.int _]) (rest := []) (pc' := 57) rfl sk_X1_30 mk_J9_abs_0f7a4 (by decide) rfl (Nat.le_of_ble_eq_true rfl) dX1_gap_54 rfl c_J9_abs_0f7a4 ?_
    refine x_istore (lv' := [_, _, _, _, _, _, _, _, _]) (pc' := 59) (by decide) rfl dX1_gap_57 rfl ?_
    refine x_aload_n (pc' := 60) rfl dX1_gap_59 rfl ?_
    refine x_iload_n (pc' := 61) rfl dX1_gap_60 rfl ?_
    refine x_iload (pc' := 63) rfl dX1_gap_61 rfl ?_
    refine x_iconst (v := 1) (pc' := 64) (by decide) dX1_gap_63 rfl ?_
    refine x_callVi (As := [.int _, .int _, .int _]) (rest := []) (ci := 3) (pc' := 67) rfl vk_X1_22 mk_X4_offset (by decide) (by first | assumption | exact ⟨by decide, rfl⟩) (by decide) rfl (Nat.le_of_ble_eq_true rfl) dX1_gap_64 rfl (c_X4_offset (W := 1) hq rfl rfl rfl (by omega) (by omega) (by decide)) ?_
    refine x_top (hr.2 K R 1 hK hR0 (by decide)) ?_
    refine x_aload_n (pc' := 68) rfl dX1_gap_67 rfl ?_
    refine x_iload_n (pc' := 69) rfl dX1_gap_68 rfl ?_
    refine x_iload (pc' := 71) rfl dX1_gap_69 rfl ?_
    refine x_iload (pc' := 73) rfl dX1_gap_71 rfl ?_
    refine x_iconst (v := 1) (pc' := 74) (by decide) dX1_gap_73 rfl ?_
    refine x_callVi (As := [.int _, .int _, .int _, .int _]) (rest := [.int _]) (ci := 3) (pc' := 77) rfl vk_X1_26 mk_X4_offsetBy (by decide) (by first | assumption | exact ⟨by decide, rfl⟩) (by decide) rfl (Nat.le_of_ble_eq_true rfl) dX1_gap_74 rfl (c_X4_offsetBy hpq hpr hpf hpO i3 hru rfl rfl (W := 1) rfl (by decide)) ?_
    refine x_isub (pc' := 78) dX1_gap_77 rfl ?_
    refine x_callSi (As := [.int _]) (rest := []) (pc' := 81) rfl sk_X1_30 mk_J9_abs_0f7a4 (by decide) rfl (Nat.le_of_ble_eq_true rfl) dX1_gap_78 rfl c_J9_abs_0f7a4 ?_
    refine x_istore (lv' := [_, _, _, _, _, _, _, _, _]) (pc' := 83) (by decide) rfl dX1_gap_81 rfl ?_
    refine x_iload (pc' := 85) rfl dX1_gap_83 rfl ?_
    refine x_iload (pc' := 87) rfl dX1_gap_85 rfl ?_
    refine x_callSi (As := [.int _, .int _]) (rest := []) (pc' := 90) rfl sk_X1_35 mk_J9_max_7cf53 (by decide) rfl (Nat.le_of_ble_eq_true rfl) dX1_gap_87 rfl c_J9_max_7cf53 ?_
    exact x_iret rfl dX1_gap_90 (ret_i (pif_t (pb_n c15)).symm)
  · refine x_iconst (v := 0) (pc' := 19) (by decide) dX1_gap_18 rfl ?_
    exact x_iret rfl dX1_gap_19 (ret_i (pif_f (pb_iff.mp c15)).symm)
set_option maxRecDepth 100000 in
set_option maxHeartbeats 4000000 in
theorem n_X1_gap {σ : St} {x : Nat} {ru c r : Int32} : Ct yX1_gap M_X1_gap [.ref x, .null, .int ru, .int c, .int r] σ (some (.int 0), σ) := by
  refine ct_of (k := 4) rfl rfl rfl (Nat.le_of_ble_eq_true rfl) ?_
  refine x_aload_n (pc' := 1) rfl dX1_gap_0 rfl ?_
  refine x_ifnull (pc' := 4) dX1_gap_1 rfl ?_
  refine x_aload_nN (pc' := 5) rfl dX1_gap_4 rfl ?_
  refine x_ifnullN (tgt := 18) (by decide) dX1_gap_5 ?_
  refine x_iconst (v := 0) (pc' := 19) (by decide) dX1_gap_18 rfl ?_
  exact x_iret rfl dX1_gap_19 rfl
theorem gap_pos {B : Prop} {x : Int32} (h : ¬ pif B x 0 ≤ 0) : B ∧ 0 < x := by
  by_cases hb : B
  · rw [pif_t hb] at h
    exact ⟨hb, i_nle.mp h⟩
  · rw [pif_f hb] at h
    exact absurd (by decide) h
set_option maxRecDepth 100000 in
set_option maxHeartbeats 4000000 in
theorem l_X1_gaps1 {σ : St} {k : Nat} {v : Nat → Int32} (hR : Rp σ k v) {g : Nat} (hG : g < cN v) (hp : ¬ v (2 + 6 * g) = -1) {r : Nat} {out : Option Value × St} (hrr : r < fN v g 5) (kk : Ex M_X1_gaps out 75 [some (.ref k), some (.ref (σ.2.2 (k + 1) g)), some (.ref (σ.2.2 (k + 1) (pN v g))), some (.int (nI (sumN (gcnt v g) (fN v g 4 * (r + 1))))), some (.int (nI r)), some (.int (nI (fN v g 4)))] [] σ) : ∀ (n c : Nat), c + n = fN v g 4 → Ex M_X1_gaps out 36 [some (.ref k), some (.ref (σ.2.2 (k + 1) g)), some (.ref (σ.2.2 (k + 1) (pN v g))), some (.int (nI (sumN (gcnt v g) (fN v g 4 * r + c)))), some (.int (nI r)), some (.int (nI c))] [] σ := by
  have hv := hR.2.2
  have h6 := hv.c6
  obtain ⟨hk0, hk1, hk2⟩ := id hR.1
  have hn := hR.n
  obtain ⟨hq, hr, hf, hO⟩ := hR.g hG
  obtain ⟨hq0, hq1⟩ := id hq
  obtain ⟨g6, c5, r5, c2, r2, s1, s64⟩ := hv.b hG
  have eC : σ.1 (σ.2.2 (k + 1) g) 5 = nI (fN v g 4) := hr.at hf (e := 4) (by decide) (by decide)
  have eR : σ.1 (σ.2.2 (k + 1) g) 6 = nI (fN v g 5) := hr.at hf (e := 5) (by decide) (by decide)
  have ep := hr.par
  obtain ⟨p1, p2⟩ := par_ok hv hG hp
  obtain ⟨hpq, hpr, hpf, hpO⟩ := hR.g (g := pN v g) (by omega)
  obtain ⟨hpq0, hpq1⟩ := id hpq
  intro n
  induction n with
  | zero =>
    intro c hc
    obtain rfl : c = fN v g 4 := by omega
    rw [show fN v g 4 * r + fN v g 4 = fN v g 4 * (r + 1) from rfl]
    refine x_iload (pc' := 38) rfl dX1_gaps_36 rfl ?_
    refine x_aload_n (pc' := 39) rfl dX1_gaps_38 rfl ?_
    refine x_get (v := .int _) (pc' := 42) fk_X1_52 (by first | assumption | exact ⟨by decide, rfl⟩) rfl dX1_gaps_39 rfl ?_
    refine x_icmp_ge (tgt := 75) (pc' := 45) (by decide) dX1_gaps_42 rfl (fun c42 => ?_) (fun c42 => absurd (by rw [eC]; exact nI_le (Nat.le_refl _) (by omega)) c42)
    exact kk
  | succ n ih =>
    intro c hc
    obtain ⟨k1, k2⟩ := kdiv (C := fN v g 4) (r := r) (c := c) (by omega)
    have eK : gcnt v g (fN v g 4 * r + c) = pif (brd v g c r ∧ 0 < gapS v g c r) 1 0 := by rw [gcnt, k1, k2]
    refine x_iload (pc' := 38) rfl dX1_gaps_36 rfl ?_
    refine x_aload_n (pc' := 39) rfl dX1_gaps_38 rfl ?_
    refine x_get (v := .int _) (pc' := 42) fk_X1_52 (by first | assumption | exact ⟨by decide, rfl⟩) rfl dX1_gaps_39 rfl ?_
    refine x_icmp_ge (tgt := 75) (pc' := 45) (by decide) dX1_gaps_42 rfl (fun c42 => absurd c42 (by rw [eC]; exact nI_ge (by omega) (by omega))) (fun c42 => ?_)
    refine x_iload_n (pc' := 46) rfl dX1_gaps_45 rfl ?_
    refine x_aload_n (pc' := 47) rfl dX1_gaps_46 rfl ?_
    refine x_aload_n (pc' := 48) rfl dX1_gaps_47 rfl ?_
    refine x_aload_n (pc' := 49) rfl dX1_gaps_48 rfl ?_
    refine x_callVi (As := []) (rest := [.ref _, .ref _, .int _]) (ci := 7) (pc' := 52) rfl vk_X1_55 mk_X8_ruleNow (by decide) (by first | assumption | exact ⟨by decide, rfl⟩) (by decide) rfl (Nat.le_of_ble_eq_true rfl) dX1_gaps_49 rfl (c_X8_ruleNow hk0) ?_
    refine x_top hR.2.1.2.1 ?_
    refine x_iload (pc' := 54) rfl dX1_gaps_52 rfl ?_
    refine x_iload (pc' := 56) rfl dX1_gaps_54 rfl ?_
    refine x_callSi (As := [.ref _, .ref _, .int _, .int _, .int _]) (rest := [.int _]) (pc' := 59) rfl sk_X1_59 mk_X1_gap (by decide) rfl (Nat.le_of_ble_eq_true rfl) dX1_gaps_56 rfl (c_X1_gap hR hG hp rfl rfl rfl (by omega) (by omega)) ?_
    refine x_if_le (tgt := 66) (pc' := 62) (by decide) dX1_gaps_59 rfl (fun c59 => ?_) (fun c59 => ?_)
    · refine x_iconst (v := 0) (pc' := 67) (by decide) dX1_gaps_66 rfl ?_
      refine x_top (y := nI (gcnt v g (fN v g 4 * r + c))) (by rw [eK, pif_f (fun q => by rw [pif_t q.1] at c59; exact i_nlt.mpr c59 q.2)]; rfl) ?_
      refine x_iadd (pc' := 68) dX1_gaps_67 rfl ?_
      refine x_top (y := nI (sumN (gcnt v g) (fN v g 4 * r + (c + 1)))) (nI_add _ _) ?_
      refine x_istore_n (lv' := [_, _, _, _, _, _]) (pc' := 69) (by decide) rfl dX1_gaps_68 rfl ?_
      refine x_iinc (lv' := [_, _, _, _, _, _]) (pc' := 72) rfl (nI_1 c) (by decide) rfl dX1_gaps_69 rfl ?_
      refine x_goto (tgt := 36) (by decide) dX1_gaps_72 ?_
      exact ih (c + 1) (by omega)
    · refine x_iconst (v := 1) (pc' := 63) (by decide) dX1_gaps_62 rfl ?_
      refine x_goto (tgt := 67) (by decide) dX1_gaps_63 ?_
      refine x_top (y := nI (gcnt v g (fN v g 4 * r + c))) (by rw [eK, pif_t (gap_pos c59)]; rfl) ?_
      refine x_iadd (pc' := 68) dX1_gaps_67 rfl ?_
      refine x_top (y := nI (sumN (gcnt v g) (fN v g 4 * r + (c + 1)))) (nI_add _ _) ?_
      refine x_istore_n (lv' := [_, _, _, _, _, _]) (pc' := 69) (by decide) rfl dX1_gaps_68 rfl ?_
      refine x_iinc (lv' := [_, _, _, _, _, _]) (pc' := 72) rfl (nI_1 c) (by decide) rfl dX1_gaps_69 rfl ?_
      refine x_goto (tgt := 36) (by decide) dX1_gaps_72 ?_
      exact ih (c + 1) (by omega)
set_option maxRecDepth 100000 in
set_option maxHeartbeats 4000000 in
theorem l_X1_gaps2 {σ : St} {k : Nat} {v : Nat → Int32} (hR : Rp σ k v) {g : Nat} (hG : g < cN v) (hp : ¬ v (2 + 6 * g) = -1) : ∀ (n r : Nat) (D : Option Value), r + n = fN v g 5 → Ex M_X1_gaps (some (.int (nI (sumN (gcnt v g) (fN v g 4 * fN v g 5)))), σ) 24 [some (.ref k), some (.ref (σ.2.2 (k + 1) g)), some (.ref (σ.2.2 (k + 1) (pN v g))), some (.int (nI (sumN (gcnt v g) (fN v g 4 * r)))), some (.int (nI r)), D] [] σ := by
  have hv := hR.2.2
  have h6 := hv.c6
  obtain ⟨hk0, hk1, hk2⟩ := id hR.1
  have hn := hR.n
  obtain ⟨hq, hr, hf, hO⟩ := hR.g hG
  obtain ⟨hq0, hq1⟩ := id hq
  obtain ⟨g6, c5, r5, c2, r2, s1, s64⟩ := hv.b hG
  have eC : σ.1 (σ.2.2 (k + 1) g) 5 = nI (fN v g 4) := hr.at hf (e := 4) (by decide) (by decide)
  have eR : σ.1 (σ.2.2 (k + 1) g) 6 = nI (fN v g 5) := hr.at hf (e := 5) (by decide) (by decide)
  have ep := hr.par
  obtain ⟨p1, p2⟩ := par_ok hv hG hp
  obtain ⟨hpq, hpr, hpf, hpO⟩ := hR.g (g := pN v g) (by omega)
  obtain ⟨hpq0, hpq1⟩ := id hpq
  intro n
  induction n with
  | zero =>
    intro r D hrn
    obtain rfl : r = fN v g 5 := by omega
    refine x_iload (pc' := 26) rfl dX1_gaps_24 rfl ?_
    refine x_aload_n (pc' := 27) rfl dX1_gaps_26 rfl ?_
    refine x_get (v := .int _) (pc' := 30) fk_X1_49 (by first | assumption | exact ⟨by decide, rfl⟩) rfl dX1_gaps_27 rfl ?_
    refine x_icmp_ge (tgt := 81) (pc' := 33) (by decide) dX1_gaps_30 rfl (fun c30 => ?_) (fun c30 => absurd (by rw [eR]; exact nI_le (Nat.le_refl _) (by omega)) c30)
    refine x_iload_n (pc' := 82) rfl dX1_gaps_81 rfl ?_
    exact x_iret rfl dX1_gaps_82 rfl
  | succ n ih =>
    intro r D hrn
    refine x_iload (pc' := 26) rfl dX1_gaps_24 rfl ?_
    refine x_aload_n (pc' := 27) rfl dX1_gaps_26 rfl ?_
    refine x_get (v := .int _) (pc' := 30) fk_X1_49 (by first | assumption | exact ⟨by decide, rfl⟩) rfl dX1_gaps_27 rfl ?_
    refine x_icmp_ge (tgt := 81) (pc' := 33) (by decide) dX1_gaps_30 rfl (fun c30 => absurd c30 (by rw [eR]; exact nI_ge (by omega) (by omega))) (fun c30 => ?_)
    refine x_iconst (v := 0) (pc' := 34) (by decide) dX1_gaps_33 rfl ?_
    refine x_istore (lv' := [_, _, _, _, _, _]) (pc' := 36) (by decide) rfl dX1_gaps_34 rfl ?_
    refine l_X1_gaps1 hR hG hp (by omega) ?_ _ 0 (Nat.zero_add _)
    refine x_iinc (lv' := [_, _, _, _, _, _]) (pc' := 78) rfl (nI_1 r) (by decide) rfl dX1_gaps_75 rfl ?_
    refine x_goto (tgt := 24) (by decide) dX1_gaps_78 ?_
    exact ih (r + 1) _ (by omega)
set_option maxRecDepth 100000 in
set_option maxHeartbeats 4000000 in
theorem m_X1_gaps1 {σ : St} {k : Nat} {v : Nat → Int32} (hR : Rp σ k v) {g : Nat} (hG : g < cN v) {r : Nat} {out : Option Value × St} (hrr : r < fN v g 5) (kk : Ex M_X1_gaps out 75 [some (.ref k), some (.ref (σ.2.2 (k + 1) g)), some .null, some (.int 0), some (.int (nI r)), some (.int (nI (fN v g 4)))] [] σ) : ∀ (n c : Nat), c + n = fN v g 4 → Ex M_X1_gaps out 36 [some (.ref k), some (.ref (σ.2.2 (k + 1) g)), some .null, some (.int 0), some (.int (nI r)), some (.int (nI c))] [] σ := by
  have hv := hR.2.2
  have h6 := hv.c6
  obtain ⟨hk0, hk1, hk2⟩ := id hR.1
  have hn := hR.n
  obtain ⟨hq, hr, hf, hO⟩ := hR.g hG
  obtain ⟨hq0, hq1⟩ := id hq
  obtain ⟨g6, c5, r5, c2, r2, s1, s64⟩ := hv.b hG
  have eC : σ.1 (σ.2.2 (k + 1) g) 5 = nI (fN v g 4) := hr.at hf (e := 4) (by decide) (by decide)
  have eR : σ.1 (σ.2.2 (k + 1) g) 6 = nI (fN v g 5) := hr.at hf (e := 5) (by decide) (by decide)
  have ep := hr.par
  intro n
  induction n with
  | zero =>
    intro c hc
    obtain rfl : c = fN v g 4 := by omega
    refine x_iload (pc' := 38) rfl dX1_gaps_36 rfl ?_
    refine x_aload_n (pc' := 39) rfl dX1_gaps_38 rfl ?_
    refine x_get (v := .int _) (pc' := 42) fk_X1_52 (by first | assumption | exact ⟨by decide, rfl⟩) rfl dX1_gaps_39 rfl ?_
    refine x_icmp_ge (tgt := 75) (pc' := 45) (by decide) dX1_gaps_42 rfl (fun c42 => ?_) (fun c42 => absurd (by rw [eC]; exact nI_le (Nat.le_refl _) (by omega)) c42)
    exact kk
  | succ n ih =>
    intro c hc
    refine x_iload (pc' := 38) rfl dX1_gaps_36 rfl ?_
    refine x_aload_n (pc' := 39) rfl dX1_gaps_38 rfl ?_
    refine x_get (v := .int _) (pc' := 42) fk_X1_52 (by first | assumption | exact ⟨by decide, rfl⟩) rfl dX1_gaps_39 rfl ?_
    refine x_icmp_ge (tgt := 75) (pc' := 45) (by decide) dX1_gaps_42 rfl (fun c42 => absurd c42 (by rw [eC]; exact nI_ge (by omega) (by omega))) (fun c42 => ?_)
    refine x_iload_n (pc' := 46) rfl dX1_gaps_45 rfl ?_
    refine x_aload_n (pc' := 47) rfl dX1_gaps_46 rfl ?_
    refine x_aload_nN (pc' := 48) rfl dX1_gaps_47 rfl ?_
    refine x_aload_n (pc' := 49) rfl dX1_gaps_48 rfl ?_
    refine x_callVi (As := []) (rest := [.null, .ref _, .int _]) (ci := 7) (pc' := 52) rfl vk_X1_55 mk_X8_ruleNow (by decide) (by first | assumption | exact ⟨by decide, rfl⟩) (by decide) rfl (Nat.le_of_ble_eq_true rfl) dX1_gaps_49 rfl (c_X8_ruleNow hk0) ?_
    refine x_iload (pc' := 54) rfl dX1_gaps_52 rfl ?_
    refine x_iload (pc' := 56) rfl dX1_gaps_54 rfl ?_
    refine x_callSi (As := [.ref _, .null, .int _, .int _, .int _]) (rest := [.int _]) (pc' := 59) rfl sk_X1_59 mk_X1_gap (by decide) rfl (Nat.le_of_ble_eq_true rfl) dX1_gaps_56 rfl n_X1_gap ?_
    refine x_if_le (tgt := 66) (pc' := 62) (by decide) dX1_gaps_59 rfl (fun c59 => ?_) (fun c59 => absurd (by decide) c59)
    refine x_iconst (v := 0) (pc' := 67) (by decide) dX1_gaps_66 rfl ?_
    refine x_iadd (pc' := 68) dX1_gaps_67 rfl ?_
    refine x_top (y := 0) rfl ?_
    refine x_istore_n (lv' := [_, _, _, _, _, _]) (pc' := 69) (by decide) rfl dX1_gaps_68 rfl ?_
    refine x_iinc (lv' := [_, _, _, _, _, _]) (pc' := 72) rfl (nI_1 c) (by decide) rfl dX1_gaps_69 rfl ?_
    refine x_goto (tgt := 36) (by decide) dX1_gaps_72 ?_
    exact ih (c + 1) (by omega)
set_option maxRecDepth 100000 in
set_option maxHeartbeats 4000000 in
theorem m_X1_gaps2 {σ : St} {k : Nat} {v : Nat → Int32} (hR : Rp σ k v) {g : Nat} (hG : g < cN v) : ∀ (n r : Nat) (D : Option Value), r + n = fN v g 5 → Ex M_X1_gaps (some (.int 0), σ) 24 [some (.ref k), some (.ref (σ.2.2 (k + 1) g)), some .null, some (.int 0), some (.int (nI r)), D] [] σ := by
  have hv := hR.2.2
  have h6 := hv.c6
  obtain ⟨hk0, hk1, hk2⟩ := id hR.1
  have hn := hR.n
  obtain ⟨hq, hr, hf, hO⟩ := hR.g hG
  obtain ⟨hq0, hq1⟩ := id hq
  obtain ⟨g6, c5, r5, c2, r2, s1, s64⟩ := hv.b hG
  have eC : σ.1 (σ.2.2 (k + 1) g) 5 = nI (fN v g 4) := hr.at hf (e := 4) (by decide) (by decide)
  have eR : σ.1 (σ.2.2 (k + 1) g) 6 = nI (fN v g 5) := hr.at hf (e := 5) (by decide) (by decide)
  have ep := hr.par
  intro n
  induction n with
  | zero =>
    intro r D hrn
    obtain rfl : r = fN v g 5 := by omega
    refine x_iload (pc' := 26) rfl dX1_gaps_24 rfl ?_
    refine x_aload_n (pc' := 27) rfl dX1_gaps_26 rfl ?_
    refine x_get (v := .int _) (pc' := 30) fk_X1_49 (by first | assumption | exact ⟨by decide, rfl⟩) rfl dX1_gaps_27 rfl ?_
    refine x_icmp_ge (tgt := 81) (pc' := 33) (by decide) dX1_gaps_30 rfl (fun c30 => ?_) (fun c30 => absurd (by rw [eR]; exact nI_le (Nat.le_refl _) (by omega)) c30)
    refine x_iload_n (pc' := 82) rfl dX1_gaps_81 rfl ?_
    exact x_iret rfl dX1_gaps_82 rfl
  | succ n ih =>
    intro r D hrn
    refine x_iload (pc' := 26) rfl dX1_gaps_24 rfl ?_
    refine x_aload_n (pc' := 27) rfl dX1_gaps_26 rfl ?_
    refine x_get (v := .int _) (pc' := 30) fk_X1_49 (by first | assumption | exact ⟨by decide, rfl⟩) rfl dX1_gaps_27 rfl ?_
    refine x_icmp_ge (tgt := 81) (pc' := 33) (by decide) dX1_gaps_30 rfl (fun c30 => absurd c30 (by rw [eR]; exact nI_ge (by omega) (by omega))) (fun c30 => ?_)
    refine x_iconst (v := 0) (pc' := 34) (by decide) dX1_gaps_33 rfl ?_
    refine x_istore (lv' := [_, _, _, _, _, _]) (pc' := 36) (by decide) rfl dX1_gaps_34 rfl ?_
    refine m_X1_gaps1 hR hG (by omega) ?_ _ 0 (Nat.zero_add _)
    refine x_iinc (lv' := [_, _, _, _, _, _]) (pc' := 78) rfl (nI_1 r) (by decide) rfl dX1_gaps_75 rfl ?_
    refine x_goto (tgt := 24) (by decide) dX1_gaps_78 ?_
    exact ih (r + 1) _ (by omega)
set_option maxRecDepth 100000 in
set_option maxHeartbeats 4000000 in
theorem c_X1_gaps {σ : St} {k : Nat} {v : Nat → Int32} (hR : Rp σ k v) {g : Nat} (hG : g < cN v) : Ct yX1_gaps M_X1_gaps [.ref k, .ref (σ.2.2 (k + 1) g)] σ (some (.int (nI (gapN v g))), σ) := by
  have hv := hR.2.2
  have h6 := hv.c6
  obtain ⟨hk0, hk1, hk2⟩ := id hR.1
  have hn := hR.n
  obtain ⟨hq, hr, hf, hO⟩ := hR.g hG
  obtain ⟨hq0, hq1⟩ := id hq
  obtain ⟨g6, c5, r5, c2, r2, s1, s64⟩ := hv.b hG
  have eC : σ.1 (σ.2.2 (k + 1) g) 5 = nI (fN v g 4) := hr.at hf (e := 4) (by decide) (by decide)
  have eR : σ.1 (σ.2.2 (k + 1) g) 6 = nI (fN v g 5) := hr.at hf (e := 5) (by decide) (by decide)
  have ep := hr.par
  refine ct_of (k := 4) rfl rfl rfl (Nat.le_of_ble_eq_true rfl) ?_
  by_cases hp : v (2 + 6 * g) = -1
  · rw [gapN, pif_t hp]
    refine x_aload_n (pc' := 1) rfl dX1_gaps_0 rfl ?_
    refine x_ifnull (pc' := 4) dX1_gaps_1 rfl ?_
    refine x_aload_n (pc' := 5) rfl dX1_gaps_4 rfl ?_
    refine x_ifnonnull (tgt := 10) (by decide) dX1_gaps_5 ?_
    refine x_aload_n (pc' := 11) rfl dX1_gaps_10 rfl ?_
    refine x_aload_n (pc' := 12) rfl dX1_gaps_11 rfl ?_
    refine x_get (v := .int _) (pc' := 15) fk_X1_39 (by first | assumption | exact ⟨by decide, rfl⟩) rfl dX1_gaps_12 rfl ?_
    refine x_callVi (As := [.int _]) (rest := []) (ci := 7) (pc' := 18) rfl vk_X1_43 mk_X8_at (by decide) (by first | assumption | exact ⟨by decide, rfl⟩) (by decide) rfl (Nat.le_of_ble_eq_true rfl) dX1_gaps_15 rfl (f_X8_at hR.1 hn h6 (fun z => by rw [ep, hp] at z; exact absurd z.1 (by decide))) ?_
    refine x_astore_nN (lv' := [_, _, _, _, _, _]) (pc' := 19) (by decide) rfl dX1_gaps_18 rfl ?_
    refine x_iconst (v := 0) (pc' := 20) (by decide) dX1_gaps_19 rfl ?_
    refine x_istore_n (lv' := [_, _, _, _, _, _]) (pc' := 21) (by decide) rfl dX1_gaps_20 rfl ?_
    refine x_iconst (v := 0) (pc' := 22) (by decide) dX1_gaps_21 rfl ?_
    refine x_istore (lv' := [_, _, _, _, _, _]) (pc' := 24) (by decide) rfl dX1_gaps_22 rfl ?_
    exact m_X1_gaps2 hR hG _ 0 _ (Nat.zero_add _)
  · rw [gapN, pif_f hp]
    obtain ⟨p1, p2⟩ := par_ok hv hG hp
    obtain ⟨hpq, hpr, hpf, hpO⟩ := hR.g (g := pN v g) (by omega)
    obtain ⟨hpq0, hpq1⟩ := id hpq
    refine x_aload_n (pc' := 1) rfl dX1_gaps_0 rfl ?_
    refine x_ifnull (pc' := 4) dX1_gaps_1 rfl ?_
    refine x_aload_n (pc' := 5) rfl dX1_gaps_4 rfl ?_
    refine x_ifnonnull (tgt := 10) (by decide) dX1_gaps_5 ?_
    refine x_aload_n (pc' := 11) rfl dX1_gaps_10 rfl ?_
    refine x_aload_n (pc' := 12) rfl dX1_gaps_11 rfl ?_
    refine x_get (v := .int _) (pc' := 15) fk_X1_39 (by first | assumption | exact ⟨by decide, rfl⟩) rfl dX1_gaps_12 rfl ?_
    refine x_callVi (As := [.int _]) (rest := []) (ci := 7) (pc' := 18) rfl vk_X1_43 mk_X8_at (by decide) (by first | assumption | exact ⟨by decide, rfl⟩) (by decide) rfl (Nat.le_of_ble_eq_true rfl) dX1_gaps_15 rfl (t_X8_at hR.1 hn h6 (ep.trans p2) (by omega)) ?_
    refine x_astore_n (lv' := [_, _, _, _, _, _]) (pc' := 19) (by decide) rfl dX1_gaps_18 rfl ?_
    refine x_iconst (v := 0) (pc' := 20) (by decide) dX1_gaps_19 rfl ?_
    refine x_istore_n (lv' := [_, _, _, _, _, _]) (pc' := 21) (by decide) rfl dX1_gaps_20 rfl ?_
    refine x_iconst (v := 0) (pc' := 22) (by decide) dX1_gaps_21 rfl ?_
    refine x_istore (lv' := [_, _, _, _, _, _]) (pc' := 24) (by decide) rfl dX1_gaps_22 rfl ?_
    exact l_X1_gaps2 hR hG hp _ 0 _ (Nat.zero_add _)
set_option maxRecDepth 100000 in
set_option maxHeartbeats 4000000 in
theorem l_X1_great1 {σ : St} {k : Nat} {v : Nat → Int32} (hR : Rp σ k v) {g : Nat} (hG : g < cN v) (hp : ¬ v (2 + 6 * g) = -1) {r : Nat} {out : Option Value × St} (hrr : r < fN v g 5) (kk : Ex M_X1_greatestGap out 69 [some (.ref k), some (.ref (σ.2.2 (k + 1) g)), some (.ref (σ.2.2 (k + 1) (pN v g))), some (.int (maxN (gmx v g) (fN v g 4 * (r + 1)))), some (.int (nI r)), some (.int (nI (fN v g 4)))] [] σ) : ∀ (n c : Nat), c + n = fN v g 4 → Ex M_X1_greatestGap out 36 [some (.ref k), some (.ref (σ.2.2 (k + 1) g)), some (.ref (σ.2.2 (k + 1) (pN v g))), some (.int (maxN (gmx v g) (fN v g 4 * r + c))), some (.int (nI r)), some (.int (nI c))] [] σ := by
  have hv := hR.2.2
  have h6 := hv.c6
  obtain ⟨hk0, hk1, hk2⟩ := id hR.1
  have hn := hR.n
  obtain ⟨hq, hr, hf, hO⟩ := hR.g hG
  obtain ⟨hq0, hq1⟩ := id hq
  obtain ⟨g6, c5, r5, c2, r2, s1, s64⟩ := hv.b hG
  have eC : σ.1 (σ.2.2 (k + 1) g) 5 = nI (fN v g 4) := hr.at hf (e := 4) (by decide) (by decide)
  have eR : σ.1 (σ.2.2 (k + 1) g) 6 = nI (fN v g 5) := hr.at hf (e := 5) (by decide) (by decide)
  have ep := hr.par
  obtain ⟨p1, p2⟩ := par_ok hv hG hp
  obtain ⟨hpq, hpr, hpf, hpO⟩ := hR.g (g := pN v g) (by omega)
  obtain ⟨hpq0, hpq1⟩ := id hpq
  intro n
  induction n with
  | zero =>
    intro c hc
    obtain rfl : c = fN v g 4 := by omega
    rw [show fN v g 4 * r + fN v g 4 = fN v g 4 * (r + 1) from rfl]
    refine x_iload (pc' := 38) rfl dX1_greatestGap_36 rfl ?_
    refine x_aload_n (pc' := 39) rfl dX1_greatestGap_38 rfl ?_
    refine x_get (v := .int _) (pc' := 42) fk_X1_52 (by first | assumption | exact ⟨by decide, rfl⟩) rfl dX1_greatestGap_39 rfl ?_
    refine x_icmp_ge (tgt := 69) (pc' := 45) (by decide) dX1_greatestGap_42 rfl (fun c42 => ?_) (fun c42 => absurd (by rw [eC]; exact nI_le (Nat.le_refl _) (by omega)) c42)
    exact kk
  | succ n ih =>
    intro c hc
    obtain ⟨k1, k2⟩ := kdiv (C := fN v g 4) (r := r) (c := c) (by omega)
    have eK : gmx v g (fN v g 4 * r + c) = pif (brd v g c r) (gapS v g c r) 0 := by rw [gmx, k1, k2]
    refine x_iload (pc' := 38) rfl dX1_greatestGap_36 rfl ?_
    refine x_aload_n (pc' := 39) rfl dX1_greatestGap_38 rfl ?_
    refine x_get (v := .int _) (pc' := 42) fk_X1_52 (by first | assumption | exact ⟨by decide, rfl⟩) rfl dX1_greatestGap_39 rfl ?_
    refine x_icmp_ge (tgt := 69) (pc' := 45) (by decide) dX1_greatestGap_42 rfl (fun c42 => absurd c42 (by rw [eC]; exact nI_ge (by omega) (by omega))) (fun c42 => ?_)
    refine x_iload_n (pc' := 46) rfl dX1_greatestGap_45 rfl ?_
    refine x_aload_n (pc' := 47) rfl dX1_greatestGap_46 rfl ?_
    refine x_aload_n (pc' := 48) rfl dX1_greatestGap_47 rfl ?_
    refine x_aload_n (pc' := 49) rfl dX1_greatestGap_48 rfl ?_
    refine x_callVi (As := []) (rest := [.ref _, .ref _, .int _]) (ci := 7) (pc' := 52) rfl vk_X1_55 mk_X8_ruleNow (by decide) (by first | assumption | exact ⟨by decide, rfl⟩) (by decide) rfl (Nat.le_of_ble_eq_true rfl) dX1_greatestGap_49 rfl (c_X8_ruleNow hk0) ?_
    refine x_top hR.2.1.2.1 ?_
    refine x_iload (pc' := 54) rfl dX1_greatestGap_52 rfl ?_
    refine x_iload (pc' := 56) rfl dX1_greatestGap_54 rfl ?_
    refine x_callSi (As := [.ref _, .ref _, .int _, .int _, .int _]) (rest := [.int _]) (pc' := 59) rfl sk_X1_59 mk_X1_gap (by decide) rfl (Nat.le_of_ble_eq_true rfl) dX1_greatestGap_56 rfl (c_X1_gap hR hG hp rfl rfl rfl (by omega) (by omega)) ?_
    refine x_callSi (As := [.int _, .int _]) (rest := []) (pc' := 62) rfl sk_X1_35 mk_J9_max_7cf53 (by decide) rfl (Nat.le_of_ble_eq_true rfl) dX1_greatestGap_59 rfl c_J9_max_7cf53 ?_
    refine x_top (y := maxN (gmx v g) (fN v g 4 * r + (c + 1))) (by rw [← eK]; rfl) ?_
    refine x_istore_n (lv' := [_, _, _, _, _, _]) (pc' := 63) (by decide) rfl dX1_greatestGap_62 rfl ?_
    refine x_iinc (lv' := [_, _, _, _, _, _]) (pc' := 66) rfl (nI_1 c) (by decide) rfl dX1_greatestGap_63 rfl ?_
    refine x_goto (tgt := 36) (by decide) dX1_greatestGap_66 ?_
    exact ih (c + 1) (by omega)
set_option maxRecDepth 100000 in
set_option maxHeartbeats 4000000 in
theorem l_X1_great2 {σ : St} {k : Nat} {v : Nat → Int32} (hR : Rp σ k v) {g : Nat} (hG : g < cN v) (hp : ¬ v (2 + 6 * g) = -1) : ∀ (n r : Nat) (D : Option Value), r + n = fN v g 5 → Ex M_X1_greatestGap (some (.int (maxN (gmx v g) (fN v g 4 * fN v g 5))), σ) 24 [some (.ref k), some (.ref (σ.2.2 (k + 1) g)), some (.ref (σ.2.2 (k + 1) (pN v g))), some (.int (maxN (gmx v g) (fN v g 4 * r))), some (.int (nI r)), D] [] σ := by
  have hv := hR.2.2
  have h6 := hv.c6
  obtain ⟨hk0, hk1, hk2⟩ := id hR.1
  have hn := hR.n
  obtain ⟨hq, hr, hf, hO⟩ := hR.g hG
  obtain ⟨hq0, hq1⟩ := id hq
  obtain ⟨g6, c5, r5, c2, r2, s1, s64⟩ := hv.b hG
  have eC : σ.1 (σ.2.2 (k + 1) g) 5 = nI (fN v g 4) := hr.at hf (e := 4) (by decide) (by decide)
  have eR : σ.1 (σ.2.2 (k + 1) g) 6 = nI (fN v g 5) := hr.at hf (e := 5) (by decide) (by decide)
  have ep := hr.par
  obtain ⟨p1, p2⟩ := par_ok hv hG hp
  obtain ⟨hpq, hpr, hpf, hpO⟩ := hR.g (g := pN v g) (by omega)
  obtain ⟨hpq0, hpq1⟩ := id hpq
  intro n
  induction n with
  | zero =>
    intro r D hrn
    obtain rfl : r = fN v g 5 := by omega
    refine x_iload (pc' := 26) rfl dX1_greatestGap_24 rfl ?_
    refine x_aload_n (pc' := 27) rfl dX1_greatestGap_26 rfl ?_
    refine x_get (v := .int _) (pc' := 30) fk_X1_49 (by first | assumption | exact ⟨by decide, rfl⟩) rfl dX1_greatestGap_27 rfl ?_
    refine x_icmp_ge (tgt := 75) (pc' := 33) (by decide) dX1_greatestGap_30 rfl (fun c30 => ?_) (fun c30 => absurd (by rw [eR]; exact nI_le (Nat.le_refl _) (by omega)) c30)
    refine x_iload_n (pc' := 76) rfl dX1_greatestGap_75 rfl ?_
    exact x_iret rfl dX1_greatestGap_76 rfl
  | succ n ih =>
    intro r D hrn
    refine x_iload (pc' := 26) rfl dX1_greatestGap_24 rfl ?_
    refine x_aload_n (pc' := 27) rfl dX1_greatestGap_26 rfl ?_
    refine x_get (v := .int _) (pc' := 30) fk_X1_49 (by first | assumption | exact ⟨by decide, rfl⟩) rfl dX1_greatestGap_27 rfl ?_
    refine x_icmp_ge (tgt := 75) (pc' := 33) (by decide) dX1_greatestGap_30 rfl (fun c30 => absurd c30 (by rw [eR]; exact nI_ge (by omega) (by omega))) (fun c30 => ?_)
    refine x_iconst (v := 0) (pc' := 34) (by decide) dX1_greatestGap_33 rfl ?_
    refine x_istore (lv' := [_, _, _, _, _, _]) (pc' := 36) (by decide) rfl dX1_greatestGap_34 rfl ?_
    refine l_X1_great1 hR hG hp (by omega) ?_ _ 0 (Nat.zero_add _)
    refine x_iinc (lv' := [_, _, _, _, _, _]) (pc' := 72) rfl (nI_1 r) (by decide) rfl dX1_greatestGap_69 rfl ?_
    refine x_goto (tgt := 24) (by decide) dX1_greatestGap_72 ?_
    exact ih (r + 1) _ (by omega)
set_option maxRecDepth 100000 in
set_option maxHeartbeats 4000000 in
theorem m_X1_great1 {σ : St} {k : Nat} {v : Nat → Int32} (hR : Rp σ k v) {g : Nat} (hG : g < cN v) {r : Nat} {out : Option Value × St} (hrr : r < fN v g 5) (kk : Ex M_X1_greatestGap out 69 [some (.ref k), some (.ref (σ.2.2 (k + 1) g)), some .null, some (.int 0), some (.int (nI r)), some (.int (nI (fN v g 4)))] [] σ) : ∀ (n c : Nat), c + n = fN v g 4 → Ex M_X1_greatestGap out 36 [some (.ref k), some (.ref (σ.2.2 (k + 1) g)), some .null, some (.int 0), some (.int (nI r)), some (.int (nI c))] [] σ := by
  have hv := hR.2.2
  have h6 := hv.c6
  obtain ⟨hk0, hk1, hk2⟩ := id hR.1
  have hn := hR.n
  obtain ⟨hq, hr, hf, hO⟩ := hR.g hG
  obtain ⟨hq0, hq1⟩ := id hq
  obtain ⟨g6, c5, r5, c2, r2, s1, s64⟩ := hv.b hG
  have eC : σ.1 (σ.2.2 (k + 1) g) 5 = nI (fN v g 4) := hr.at hf (e := 4) (by decide) (by decide)
  have eR : σ.1 (σ.2.2 (k + 1) g) 6 = nI (fN v g 5) := hr.at hf (e := 5) (by decide) (by decide)
  have ep := hr.par
  intro n
  induction n with
  | zero =>
    intro c hc
    obtain rfl : c = fN v g 4 := by omega
    refine x_iload (pc' := 38) rfl dX1_greatestGap_36 rfl ?_
    refine x_aload_n (pc' := 39) rfl dX1_greatestGap_38 rfl ?_
    refine x_get (v := .int _) (pc' := 42) fk_X1_52 (by first | assumption | exact ⟨by decide, rfl⟩) rfl dX1_greatestGap_39 rfl ?_
    refine x_icmp_ge (tgt := 69) (pc' := 45) (by decide) dX1_greatestGap_42 rfl (fun c42 => ?_) (fun c42 => absurd (by rw [eC]; exact nI_le (Nat.le_refl _) (by omega)) c42)
    exact kk
  | succ n ih =>
    intro c hc
    refine x_iload (pc' := 38) rfl dX1_greatestGap_36 rfl ?_
    refine x_aload_n (pc' := 39) rfl dX1_greatestGap_38 rfl ?_
    refine x_get (v := .int _) (pc' := 42) fk_X1_52 (by first | assumption | exact ⟨by decide, rfl⟩) rfl dX1_greatestGap_39 rfl ?_
    refine x_icmp_ge (tgt := 69) (pc' := 45) (by decide) dX1_greatestGap_42 rfl (fun c42 => absurd c42 (by rw [eC]; exact nI_ge (by omega) (by omega))) (fun c42 => ?_)
    refine x_iload_n (pc' := 46) rfl dX1_greatestGap_45 rfl ?_
    refine x_aload_n (pc' := 47) rfl dX1_greatestGap_46 rfl ?_
    refine x_aload_nN (pc' := 48) rfl dX1_greatestGap_47 rfl ?_
    refine x_aload_n (pc' := 49) rfl dX1_greatestGap_48 rfl ?_
    refine x_callVi (As := []) (rest := [.null, .ref _, .int _]) (ci := 7) (pc' := 52) rfl vk_X1_55 mk_X8_ruleNow (by decide) (by first | assumption | exact ⟨by decide, rfl⟩) (by decide) rfl (Nat.le_of_ble_eq_true rfl) dX1_greatestGap_49 rfl (c_X8_ruleNow hk0) ?_
    refine x_iload (pc' := 54) rfl dX1_greatestGap_52 rfl ?_
    refine x_iload (pc' := 56) rfl dX1_greatestGap_54 rfl ?_
    refine x_callSi (As := [.ref _, .null, .int _, .int _, .int _]) (rest := [.int _]) (pc' := 59) rfl sk_X1_59 mk_X1_gap (by decide) rfl (Nat.le_of_ble_eq_true rfl) dX1_greatestGap_56 rfl n_X1_gap ?_
    refine x_callSi (As := [.int _, .int _]) (rest := []) (pc' := 62) rfl sk_X1_35 mk_J9_max_7cf53 (by decide) rfl (Nat.le_of_ble_eq_true rfl) dX1_greatestGap_59 rfl c_J9_max_7cf53 ?_
    refine x_top (y := 0) (by decide) ?_
    refine x_istore_n (lv' := [_, _, _, _, _, _]) (pc' := 63) (by decide) rfl dX1_greatestGap_62 rfl ?_
    refine x_iinc (lv' := [_, _, _, _, _, _]) (pc' := 66) rfl (nI_1 c) (by decide) rfl dX1_greatestGap_63 rfl ?_
    refine x_goto (tgt := 36) (by decide) dX1_greatestGap_66 ?_
    exact ih (c + 1) (by omega)
set_option maxRecDepth 100000 in
set_option maxHeartbeats 4000000 in
theorem m_X1_great2 {σ : St} {k : Nat} {v : Nat → Int32} (hR : Rp σ k v) {g : Nat} (hG : g < cN v) : ∀ (n r : Nat) (D : Option Value), r + n = fN v g 5 → Ex M_X1_greatestGap (some (.int 0), σ) 24 [some (.ref k), some (.ref (σ.2.2 (k + 1) g)), some .null, some (.int 0), some (.int (nI r)), D] [] σ := by
  have hv := hR.2.2
  have h6 := hv.c6
  obtain ⟨hk0, hk1, hk2⟩ := id hR.1
  have hn := hR.n
  obtain ⟨hq, hr, hf, hO⟩ := hR.g hG
  obtain ⟨hq0, hq1⟩ := id hq
  obtain ⟨g6, c5, r5, c2, r2, s1, s64⟩ := hv.b hG
  have eC : σ.1 (σ.2.2 (k + 1) g) 5 = nI (fN v g 4) := hr.at hf (e := 4) (by decide) (by decide)
  have eR : σ.1 (σ.2.2 (k + 1) g) 6 = nI (fN v g 5) := hr.at hf (e := 5) (by decide) (by decide)
  have ep := hr.par
  intro n
  induction n with
  | zero =>
    intro r D hrn
    obtain rfl : r = fN v g 5 := by omega
    refine x_iload (pc' := 26) rfl dX1_greatestGap_24 rfl ?_
    refine x_aload_n (pc' := 27) rfl dX1_greatestGap_26 rfl ?_
    refine x_get (v := .int _) (pc' := 30) fk_X1_49 (by first | assumption | exact ⟨by decide, rfl⟩) rfl dX1_greatestGap_27 rfl ?_
    refine x_icmp_ge (tgt := 75) (pc' := 33) (by decide) dX1_greatestGap_30 rfl (fun c30 => ?_) (fun c30 => absurd (by rw [eR]; exact nI_le (Nat.le_refl _) (by omega)) c30)
    refine x_iload_n (pc' := 76) rfl dX1_greatestGap_75 rfl ?_
    exact x_iret rfl dX1_greatestGap_76 rfl
  | succ n ih =>
    intro r D hrn
    refine x_iload (pc' := 26) rfl dX1_greatestGap_24 rfl ?_
    refine x_aload_n (pc' := 27) rfl dX1_greatestGap_26 rfl ?_
    refine x_get (v := .int _) (pc' := 30) fk_X1_49 (by first | assumption | exact ⟨by decide, rfl⟩) rfl dX1_greatestGap_27 rfl ?_
    refine x_icmp_ge (tgt := 75) (pc' := 33) (by decide) dX1_greatestGap_30 rfl (fun c30 => absurd c30 (by rw [eR]; exact nI_ge (by omega) (by omega))) (fun c30 => ?_)
    refine x_iconst (v := 0) (pc' := 34) (by decide) dX1_greatestGap_33 rfl ?_
    refine x_istore (lv' := [_, _, _, _, _, _]) (pc' := 36) (by decide) rfl dX1_greatestGap_34 rfl ?_
    refine m_X1_great1 hR hG (by omega) ?_ _ 0 (Nat.zero_add _)
    refine x_iinc (lv' := [_, _, _, _, _, _]) (pc' := 72) rfl (nI_1 r) (by decide) rfl dX1_greatestGap_69 rfl ?_
    refine x_goto (tgt := 24) (by decide) dX1_greatestGap_72 ?_
    exact ih (r + 1) _ (by omega)
set_option maxRecDepth 100000 in
set_option maxHeartbeats 4000000 in
theorem c_X1_greatestGap {σ : St} {k : Nat} {v : Nat → Int32} (hR : Rp σ k v) {g : Nat} (hG : g < cN v) : Ct yX1_greatestGap M_X1_greatestGap [.ref k, .ref (σ.2.2 (k + 1) g)] σ (some (.int (gapM v g)), σ) := by
  have hv := hR.2.2
  have h6 := hv.c6
  obtain ⟨hk0, hk1, hk2⟩ := id hR.1
  have hn := hR.n
  obtain ⟨hq, hr, hf, hO⟩ := hR.g hG
  obtain ⟨hq0, hq1⟩ := id hq
  obtain ⟨g6, c5, r5, c2, r2, s1, s64⟩ := hv.b hG
  have eC : σ.1 (σ.2.2 (k + 1) g) 5 = nI (fN v g 4) := hr.at hf (e := 4) (by decide) (by decide)
  have eR : σ.1 (σ.2.2 (k + 1) g) 6 = nI (fN v g 5) := hr.at hf (e := 5) (by decide) (by decide)
  have ep := hr.par
  refine ct_of (k := 4) rfl rfl rfl (Nat.le_of_ble_eq_true rfl) ?_
  by_cases hp : v (2 + 6 * g) = -1
  · rw [gapM, pif_t hp]
    refine x_aload_n (pc' := 1) rfl dX1_greatestGap_0 rfl ?_
    refine x_ifnull (pc' := 4) dX1_greatestGap_1 rfl ?_
    refine x_aload_n (pc' := 5) rfl dX1_greatestGap_4 rfl ?_
    refine x_ifnonnull (tgt := 10) (by decide) dX1_greatestGap_5 ?_
    refine x_aload_n (pc' := 11) rfl dX1_greatestGap_10 rfl ?_
    refine x_aload_n (pc' := 12) rfl dX1_greatestGap_11 rfl ?_
    refine x_get (v := .int _) (pc' := 15) fk_X1_39 (by first | assumption | exact ⟨by decide, rfl⟩) rfl dX1_greatestGap_12 rfl ?_
    refine x_callVi (As := [.int _]) (rest := []) (ci := 7) (pc' := 18) rfl vk_X1_43 mk_X8_at (by decide) (by first | assumption | exact ⟨by decide, rfl⟩) (by decide) rfl (Nat.le_of_ble_eq_true rfl) dX1_greatestGap_15 rfl (f_X8_at hR.1 hn h6 (fun z => by rw [ep, hp] at z; exact absurd z.1 (by decide))) ?_
    refine x_astore_nN (lv' := [_, _, _, _, _, _]) (pc' := 19) (by decide) rfl dX1_greatestGap_18 rfl ?_
    refine x_iconst (v := 0) (pc' := 20) (by decide) dX1_greatestGap_19 rfl ?_
    refine x_istore_n (lv' := [_, _, _, _, _, _]) (pc' := 21) (by decide) rfl dX1_greatestGap_20 rfl ?_
    refine x_iconst (v := 0) (pc' := 22) (by decide) dX1_greatestGap_21 rfl ?_
    refine x_istore (lv' := [_, _, _, _, _, _]) (pc' := 24) (by decide) rfl dX1_greatestGap_22 rfl ?_
    exact m_X1_great2 hR hG _ 0 _ (Nat.zero_add _)
  · rw [gapM, pif_f hp]
    obtain ⟨p1, p2⟩ := par_ok hv hG hp
    obtain ⟨hpq, hpr, hpf, hpO⟩ := hR.g (g := pN v g) (by omega)
    obtain ⟨hpq0, hpq1⟩ := id hpq
    refine x_aload_n (pc' := 1) rfl dX1_greatestGap_0 rfl ?_
    refine x_ifnull (pc' := 4) dX1_greatestGap_1 rfl ?_
    refine x_aload_n (pc' := 5) rfl dX1_greatestGap_4 rfl ?_
    refine x_ifnonnull (tgt := 10) (by decide) dX1_greatestGap_5 ?_
    refine x_aload_n (pc' := 11) rfl dX1_greatestGap_10 rfl ?_
    refine x_aload_n (pc' := 12) rfl dX1_greatestGap_11 rfl ?_
    refine x_get (v := .int _) (pc' := 15) fk_X1_39 (by first | assumption | exact ⟨by decide, rfl⟩) rfl dX1_greatestGap_12 rfl ?_
    refine x_callVi (As := [.int _]) (rest := []) (ci := 7) (pc' := 18) rfl vk_X1_43 mk_X8_at (by decide) (by first | assumption | exact ⟨by decide, rfl⟩) (by decide) rfl (Nat.le_of_ble_eq_true rfl) dX1_greatestGap_15 rfl (t_X8_at hR.1 hn h6 (ep.trans p2) (by omega)) ?_
    refine x_astore_n (lv' := [_, _, _, _, _, _]) (pc' := 19) (by decide) rfl dX1_greatestGap_18 rfl ?_
    refine x_iconst (v := 0) (pc' := 20) (by decide) dX1_greatestGap_19 rfl ?_
    refine x_istore_n (lv' := [_, _, _, _, _, _]) (pc' := 21) (by decide) rfl dX1_greatestGap_20 rfl ?_
    refine x_iconst (v := 0) (pc' := 22) (by decide) dX1_greatestGap_21 rfl ?_
    refine x_istore (lv' := [_, _, _, _, _, _]) (pc' := 24) (by decide) rfl dX1_greatestGap_22 rfl ?_
    exact l_X1_great2 hR hG hp _ 0 _ (Nat.zero_add _)
set_option maxRecDepth 100000 in
set_option maxHeartbeats 4000000 in
theorem n_X1_greatestGap {σ : St} {k : Nat} : Ct yX1_greatestGap M_X1_greatestGap [.ref k, .null] σ (some (.int 0), σ) := by
  refine ct_of (k := 4) rfl rfl rfl (Nat.le_of_ble_eq_true rfl) ?_
  refine x_aload_n (pc' := 1) rfl dX1_greatestGap_0 rfl ?_
  refine x_ifnull (pc' := 4) dX1_greatestGap_1 rfl ?_
  refine x_aload_nN (pc' := 5) rfl dX1_greatestGap_4 rfl ?_
  refine x_ifnonnullN (pc' := 8) dX1_greatestGap_5 rfl ?_
  refine x_iconst (v := 0) (pc' := 9) (by decide) dX1_greatestGap_8 rfl ?_
  exact x_iret rfl dX1_greatestGap_9 rfl
/-! ===== Cell ===== -/
/-- what a question of the class may change: Search and Cell -/
def ScC (σ σ' : St) : Prop := (∀ k j, ¬ (10 ≤ k ∧ k ≤ 17) → σ'.1 k j = σ.1 k j) ∧ (∀ k j, ¬ (10 ≤ k ∧ k ≤ 17) → σ'.2.1 k j = σ.2.1 k j) ∧ σ'.2.2 = σ.2.2
theorem ScC.rf (σ : St) : ScC σ σ := ⟨fun _ _ _ => rfl, fun _ _ _ => rfl, rfl⟩
theorem ScC.trans {a b c : St} (h : ScC a b) (h2 : ScC b c) : ScC a c := ⟨fun k j hk => (h2.1 k j hk).trans (h.1 k j hk), fun k j hk => (h2.2.1 k j hk).trans (h.2.1 k j hk), h2.2.2.trans h.2.2⟩
theorem ScC.pI {σ τ : St} (h : ScC σ τ) {k : Nat} (j : Nat) (x : Int32) (hk : 10 ≤ k ∧ k ≤ 17) : ScC σ (pI τ k j x) := by
  refine ⟨fun a b ha => ?_, h.2.1, h.2.2⟩
  rw [pI_ne (fun q => ha (by rw [q]; exact hk))]
  exact h.1 a b ha
theorem ScC.pL {σ τ : St} (h : ScC σ τ) {k : Nat} (j : Nat) (x : Int64) (hk : 10 ≤ k ∧ k ≤ 17) : ScC σ (pL τ k j x) := by
  refine ⟨h.1, fun a b ha => ?_, h.2.2⟩
  rw [pL_ne (fun q => ha (by rw [q]; exact hk))]
  exact h.2.1 a b ha
theorem lay_0_3 {q : Nat} (h : Is q 0 3) : 67 ≤ q := by
  by_cases h1 : q < 29
  · have : ∀ q, q < 29 → ¬ lay q = (0, 3) := by decide +kernel
    exact absurd h.2 (this q h1)
  · by_cases h2 : q < 67
    · have h3 := h.2
      unfold lay at h3
      rw [if_neg h1, if_pos h2] at h3
      split at h3 <;> simp at h3
    · omega
theorem lay_0_7 {q : Nat} (h : Is q 0 7) : 29 ≤ q := by
  by_cases h1 : q < 29
  · have : ∀ q, q < 29 → ¬ lay q = (0, 7) := by decide +kernel
    exact absurd h.2 (this q h1)
  · omega
/-- states that agree from cell 29 on hold the same sheets -/
theorem Rp.same {σ σ' : St} {k : Nat} {v : Nat → Int32} (h : Rp σ k v) (h1 : ∀ a b, 29 ≤ a → σ'.1 a b = σ.1 a b) (h2 : ∀ a b, 29 ≤ a → σ'.2.2 a b = σ.2.2 a b) : Rp σ' k v := by
  obtain ⟨⟨a1, a2, a3⟩, ⟨b1, b2, b3⟩, hv⟩ := h
  have hk := lay_0_7 a1
  have h6 := hv.c6
  refine ⟨⟨a1, a2, fun g hg => by rw [h2 _ _ (by omega)]; exact a3 g hg⟩, ⟨by rw [h1 _ _ hk]; exact b1, by rw [h1 _ _ hk]; exact b2, fun g hg => ?_⟩, hv⟩
  have hq := lay_0_3 (a3 g (by omega)).1
  obtain ⟨c1, c2⟩ := b3 g hg
  rw [h2 _ _ (by omega)]
  exact ⟨fun e he => by rw [h1 _ _ (by omega)]; exact c1 e he, fun c r w hc hr hw => by rw [h1 _ _ (by omega)]; exact c2 c r w hc hr hw⟩
theorem Rp.sc {σ σ' : St} {k : Nat} {v : Nat → Int32} (h : Rp σ k v) (hs : ScC σ σ') : Rp σ' k v := h.same (fun a b ha => hs.1 a b (by omega)) (fun a b _ => by rw [hs.2.2])
/-- the first n corners of the cell that is looked at -/
def CellK (σ : St) (v : Nat → Int32) (g c r n : Nat) : Prop := ∀ j, j < n → σ.1 14 j = oV v g (c + ik j) (r + jk j) 0 ∧ σ.1 15 j = oV v g (c + ik j) (r + jk j) 1 ∧ σ.2.1 16 j = corS v g c r j 0 ∧ σ.2.1 17 j = corS v g c r j 1
def CellAt (σ : St) (v : Nat → Int32) (g c r : Nat) : Prop := CellK σ v g c r 4 ∧ σ.1 13 4 = nI (64 * fN v g 3)
def lkS (τ : St) (k : Nat) (a b : Int32) (x y : Int64) : St := pL (pL (pI (pI τ 14 k a) 15 k b) 16 k x) 17 k y
theorem lk_sc {σ τ : St} (h : ScC σ τ) (k : Nat) (a b : Int32) (x y : Int64) : ScC σ (lkS τ k a b x y) := (((h.pI k a (by decide)).pI k b (by decide)).pL k x (by decide)).pL k y (by decide)
theorem lk_at {τ : St} {v : Nat → Int32} {g c r n : Nat} (h : CellK τ v g c r n) {a b : Int32} {x y : Int64} (ha : a = oV v g (c + ik n) (r + jk n) 0) (hb : b = oV v g (c + ik n) (r + jk n) 1) (hx : x = corS v g c r n 0) (hy : y = corS v g c r n 1) : CellK (lkS τ n a b x y) v g c r (n + 1) := by
  intro j hj
  show (if 14 = 15 ∧ j = n then b else if 14 = 14 ∧ j = n then a else τ.1 14 j) = _ ∧ (if 15 = 15 ∧ j = n then b else if 15 = 14 ∧ j = n then a else τ.1 15 j) = _ ∧ (if 16 = 17 ∧ j = n then y else if 16 = 16 ∧ j = n then x else τ.2.1 16 j) = _ ∧ (if 17 = 17 ∧ j = n then y else if 17 = 16 ∧ j = n then x else τ.2.1 17 j) = _
  rw [if_neg (by omega), if_neg (c := 15 = 14 ∧ j = n) (by omega), if_neg (c := 16 = 17 ∧ j = n) (by omega), if_neg (c := 17 = 16 ∧ j = n) (by omega)]
  by_cases e : j = n
  · subst e
    rw [if_pos ⟨rfl, rfl⟩, if_pos ⟨rfl, rfl⟩, if_pos ⟨rfl, rfl⟩, if_pos ⟨rfl, rfl⟩]
    exact ⟨ha, hb, hx, hy⟩
  · rw [if_neg (fun z => e z.2), if_neg (fun z => e z.2), if_neg (fun z => e z.2), if_neg (fun z => e z.2)]
    exact h j (by omega)
set_option maxRecDepth 100000 in
set_option maxHeartbeats 4000000 in
theorem l_X2_look {σ : St} {q g K R : Nat} {v : Nat → Int32} (hq : isG q) (hf : OkF v g) (hK : K + 1 < fN v g 4) (hRr : R + 1 < fN v g 5) (hr0 : GRep σ q v g) : ∀ (n k : Nat) (τ : St) (A B : Option Value), k + n = 4 → ScC σ τ → CellK τ v g K R k → τ.1 13 4 = nI (64 * fN v g 3) → ∃ τ', Ex M_X2_look (none, τ') 16 [some (.ref 13), some (.ref q), some (.int (nI K)), some (.int (nI R)), some (.int (nI k)), A, B] [] τ ∧ ScC σ τ' ∧ CellAt τ' v g K R := by
  obtain ⟨hq0, hq1⟩ := id hq
  have hq67 := lay_0_3 hq0
  have grep : ∀ {ρ : St}, ScC σ ρ → GRep ρ q v g := fun h => ⟨fun e he => by rw [h.1 _ _ (by omega)]; exact hr0.1 e he, fun c r w hc hr hw => by rw [h.1 _ _ (by omega)]; exact hr0.2 c r w hc hr hw⟩
  obtain ⟨-, s1, s64, c2, c5, r2, r5, b1, b2⟩ := id hf
  intro n
  induction n with
  | zero =>
    intro k τ A B hk hs hc h4
    obtain rfl : k = 4 := by omega
    refine ⟨τ, ?_, hs, hc, h4⟩
    refine x_iload (pc' := 18) rfl dX2_look_16 rfl ?_
    refine x_iconst (v := 4) (pc' := 19) (by decide) dX2_look_18 rfl ?_
    refine x_icmp_ge (tgt := 140) (pc' := 22) (by decide) dX2_look_19 rfl (fun c19 => ?_) (fun c19 => absurd (by decide) c19)
    exact x_vret rfl dX2_look_140 rfl
  | succ n ih =>
    intro k τ A B hk hs hc h4
    have hr := grep hs
    match k, hk with
    | 0, hk =>
      have hs2 := lk_sc hs 0 (oV v g (K) (R) 0) (oV v g (K) (R) 1) (nI (stS v g (K) 0) + oV v g (K) (R) 0).toInt64 (nI (stS v g (R) 1) + oV v g (K) (R) 1).toInt64
      have hr2 : GRep (pI (pI τ 14 0 (oV v g (K) (R) 0)) 15 0 (oV v g (K) (R) 1)) q v g := grep ((hs.pI _ _ (by decide)).pI _ _ (by decide))
      have hr3 : GRep (pL (pI (pI τ 14 0 (oV v g (K) (R) 0)) 15 0 (oV v g (K) (R) 1)) 16 0 (nI (stS v g (K) 0) + oV v g (K) (R) 0).toInt64) q v g := grep (((hs.pI _ _ (by decide)).pI _ _ (by decide)).pL _ _ (by decide))
      obtain ⟨τ', hE, r1⟩ := ih 1 (lkS τ 0 (oV v g (K) (R) 0) (oV v g (K) (R) 1) (nI (stS v g (K) 0) + oV v g (K) (R) 0).toInt64 (nI (stS v g (R) 1) + oV v g (K) (R) 1).toInt64) (some (.int (nI (K)))) (some (.int (nI (R)))) (by omega) hs2 (lk_at hc rfl rfl rfl rfl) h4
      refine ⟨τ', ?_, r1⟩
      refine x_iload (pc' := 18) rfl dX2_look_16 rfl ?_
      refine x_iconst (v := 4) (pc' := 19) (by decide) dX2_look_18 rfl ?_
      refine x_icmp_ge (tgt := 140) (pc' := 22) (by decide) dX2_look_19 rfl (fun c19 => absurd c19 (by decide)) (fun c19 => ?_)
      refine x_iload (pc' := 24) rfl dX2_look_22 rfl ?_
      refine x_iconst (v := 1) (pc' := 25) (by decide) dX2_look_24 rfl ?_
      refine x_icmp_eq (tgt := 34) (pc' := 28) (by decide) dX2_look_25 rfl (fun c25 => absurd c25 (by decide)) (fun c25 => ?_)
      refine x_iload (pc' := 30) rfl dX2_look_28 rfl ?_
      refine x_iconst (v := 2) (pc' := 31) (by decide) dX2_look_30 rfl ?_
      refine x_icmp_ne (tgt := 40) (pc' := 34) (by decide) dX2_look_31 rfl (fun c31 => ?_) (fun c31 => absurd c31 (by decide))
      refine x_iload_n (pc' := 41) rfl dX2_look_40 rfl ?_
      refine x_top (y := nI (K)) rfl ?_
      refine x_istore (lv' := [_, _, _, _, _, _, _]) (pc' := 43) (by decide) rfl dX2_look_41 rfl ?_
      refine x_iload (pc' := 45) rfl dX2_look_43 rfl ?_
      refine x_iconst (v := 2) (pc' := 46) (by decide) dX2_look_45 rfl ?_
      refine x_icmp_lt (tgt := 55) (pc' := 49) (by decide) dX2_look_46 rfl (fun c46 => ?_) (fun c46 => absurd (by decide) c46)
      refine x_iload_n (pc' := 56) rfl dX2_look_55 rfl ?_
      refine x_top (y := nI (R)) rfl ?_
      refine x_istore (lv' := [_, _, _, _, _, _, _]) (pc' := 58) (by decide) rfl dX2_look_56 rfl ?_
      refine x_aload_n (pc' := 59) rfl dX2_look_58 rfl ?_
      refine x_get (v := .ref 14) (pc' := 62) fk_X2_11 (by first | assumption | exact ⟨by decide, rfl⟩) rfl dX2_look_59 rfl ?_
      refine x_iload (pc' := 64) rfl dX2_look_62 rfl ?_
      refine x_aload_n (pc' := 65) rfl dX2_look_64 rfl ?_
      refine x_iload (pc' := 67) rfl dX2_look_65 rfl ?_
      refine x_iload (pc' := 69) rfl dX2_look_67 rfl ?_
      refine x_iconst (v := 0) (pc' := 70) (by decide) dX2_look_69 rfl ?_
      refine x_callVi (As := [.int _, .int _, .int _]) (rest := [.int _, .ref _]) (ci := 3) (pc' := 73) rfl vk_X2_34 mk_X4_offset (by decide) (by first | assumption | exact ⟨by decide, rfl⟩) (by decide) rfl (Nat.le_of_ble_eq_true rfl) dX2_look_70 rfl (c_X4_offset (K := K) (R := R) (W := 0) hq rfl rfl rfl (by omega) (by omega) (by decide)) ?_
      refine x_iastn (N := 4) (n := 0) (pc' := 74) (by first | assumption | exact ⟨by decide, rfl⟩) (by decide) rfl (by decide) dX2_look_73 rfl ?_
      refine x_st (σ' := pI τ 14 0 (oV v g (K) (R) 0)) (by rw [hr.2 _ _ 0 (by omega) (by omega) (by decide)]) ?_
      refine x_aload_n (pc' := 75) rfl dX2_look_74 rfl ?_
      refine x_get (v := .ref 15) (pc' := 78) fk_X2_15 (by first | assumption | exact ⟨by decide, rfl⟩) rfl dX2_look_75 rfl ?_
      refine x_iload (pc' := 80) rfl dX2_look_78 rfl ?_
      refine x_aload_n (pc' := 81) rfl dX2_look_80 rfl ?_
      refine x_iload (pc' := 83) rfl dX2_look_81 rfl ?_
      refine x_iload (pc' := 85) rfl dX2_look_83 rfl ?_
      refine x_iconst (v := 1) (pc' := 86) (by decide) dX2_look_85 rfl ?_
      refine x_callVi (As := [.int _, .int _, .int _]) (rest := [.int _, .ref _]) (ci := 3) (pc' := 89) rfl vk_X2_34 mk_X4_offset (by decide) (by first | assumption | exact ⟨by decide, rfl⟩) (by decide) rfl (Nat.le_of_ble_eq_true rfl) dX2_look_86 rfl (c_X4_offset (K := K) (R := R) (W := 1) hq rfl rfl rfl (by omega) (by omega) (by decide)) ?_
      refine x_iastn (N := 4) (n := 0) (pc' := 90) (by first | assumption | exact ⟨by decide, rfl⟩) (by decide) rfl (by decide) dX2_look_89 rfl ?_
      refine x_st (σ' := pI (pI τ 14 0 (oV v g (K) (R) 0)) 15 0 (oV v g (K) (R) 1)) (by rw [show (pI τ 14 0 (oV v g (K) (R) 0)).1 (q + 1) = τ.1 (q + 1) from pI_ne (by omega), hr.2 _ _ 1 (by omega) (by omega) (by decide)]) ?_
      refine x_aload_n (pc' := 91) rfl dX2_look_90 rfl ?_
      refine x_get (v := .ref 16) (pc' := 94) fk_X2_18 (by first | assumption | exact ⟨by decide, rfl⟩) rfl dX2_look_91 rfl ?_
      refine x_iload (pc' := 96) rfl dX2_look_94 rfl ?_
      refine x_aload_n (pc' := 97) rfl dX2_look_96 rfl ?_
      refine x_iload (pc' := 99) rfl dX2_look_97 rfl ?_
      refine x_callVi (As := [.int _]) (rest := [.int _, .ref _]) (ci := 3) (pc' := 102) rfl vk_X2_38 mk_X4_columnPlace (by decide) (by first | assumption | exact ⟨by decide, rfl⟩) (by decide) rfl (Nat.le_of_ble_eq_true rfl) dX2_look_99 rfl (c_X4_columnPlace hq hr2 hf rfl) ?_
      refine x_aload_n (pc' := 103) rfl dX2_look_102 rfl ?_
      refine x_get (v := .ref 14) (pc' := 106) fk_X2_11 (by first | assumption | exact ⟨by decide, rfl⟩) rfl dX2_look_103 rfl ?_
      refine x_iload (pc' := 108) rfl dX2_look_106 rfl ?_
      refine x_ialdn (N := 4) (n := 0) (pc' := 109) (by first | assumption | exact ⟨by decide, rfl⟩) (by decide) rfl (by decide) dX2_look_108 rfl ?_
      refine x_iadd (pc' := 110) dX2_look_109 rfl ?_
      refine x_i2l (pc' := 111) dX2_look_110 rfl ?_
      refine x_lastn (N := 4) (n := 0) (pc' := 112) (by first | assumption | exact ⟨by decide, rfl⟩) (by decide) rfl (by decide) dX2_look_111 rfl ?_
      refine x_aload_n (pc' := 113) rfl dX2_look_112 rfl ?_
      refine x_get (v := .ref 17) (pc' := 116) fk_X2_22 (by first | assumption | exact ⟨by decide, rfl⟩) rfl dX2_look_113 rfl ?_
      refine x_iload (pc' := 118) rfl dX2_look_116 rfl ?_
      refine x_aload_n (pc' := 119) rfl dX2_look_118 rfl ?_
      refine x_iload (pc' := 121) rfl dX2_look_119 rfl ?_
      refine x_callVi (As := [.int _]) (rest := [.int _, .ref _]) (ci := 3) (pc' := 124) rfl vk_X2_42 mk_X4_rowPlace (by decide) (by first | assumption | exact ⟨by decide, rfl⟩) (by decide) rfl (Nat.le_of_ble_eq_true rfl) dX2_look_121 rfl (c_X4_rowPlace hq hr3 hf rfl) ?_
      refine x_aload_n (pc' := 125) rfl dX2_look_124 rfl ?_
      refine x_get (v := .ref 15) (pc' := 128) fk_X2_15 (by first | assumption | exact ⟨by decide, rfl⟩) rfl dX2_look_125 rfl ?_
      refine x_iload (pc' := 130) rfl dX2_look_128 rfl ?_
      refine x_ialdn (N := 4) (n := 0) (pc' := 131) (by first | assumption | exact ⟨by decide, rfl⟩) (by decide) rfl (by decide) dX2_look_130 rfl ?_
      refine x_iadd (pc' := 132) dX2_look_131 rfl ?_
      refine x_i2l (pc' := 133) dX2_look_132 rfl ?_
      refine x_lastn (N := 4) (n := 0) (pc' := 134) (by first | assumption | exact ⟨by decide, rfl⟩) (by decide) rfl (by decide) dX2_look_133 rfl ?_
      refine x_iinc (lv' := [_, _, _, _, _, _, _]) (pc' := 137) rfl rfl (by decide) rfl dX2_look_134 rfl ?_
      refine x_goto (tgt := 16) (by decide) dX2_look_137 ?_
      exact hE
    | 1, hk =>
      have hs2 := lk_sc hs 1 (oV v g (K + 1) (R) 0) (oV v g (K + 1) (R) 1) (nI (stS v g (K + 1) 0) + oV v g (K + 1) (R) 0).toInt64 (nI (stS v g (R) 1) + oV v g (K + 1) (R) 1).toInt64
      have hr2 : GRep (pI (pI τ 14 1 (oV v g (K + 1) (R) 0)) 15 1 (oV v g (K + 1) (R) 1)) q v g := grep ((hs.pI _ _ (by decide)).pI _ _ (by decide))
      have hr3 : GRep (pL (pI (pI τ 14 1 (oV v g (K + 1) (R) 0)) 15 1 (oV v g (K + 1) (R) 1)) 16 1 (nI (stS v g (K + 1) 0) + oV v g (K + 1) (R) 0).toInt64) q v g := grep (((hs.pI _ _ (by decide)).pI _ _ (by decide)).pL _ _ (by decide))
      obtain ⟨τ', hE, r1⟩ := ih 2 (lkS τ 1 (oV v g (K + 1) (R) 0) (oV v g (K + 1) (R) 1) (nI (stS v g (K + 1) 0) + oV v g (K + 1) (R) 0).toInt64 (nI (stS v g (R) 1) + oV v g (K + 1) (R) 1).toInt64) (some (.int (nI (K + 1)))) (some (.int (nI (R)))) (by omega) hs2 (lk_at hc rfl rfl rfl rfl) h4
      refine ⟨τ', ?_, r1⟩
      refine x_iload (pc' := 18) rfl dX2_look_16 rfl ?_
      refine x_iconst (v := 4) (pc' := 19) (by decide) dX2_look_18 rfl ?_
      refine x_icmp_ge (tgt := 140) (pc' := 22) (by decide) dX2_look_19 rfl (fun c19 => absurd c19 (by decide)) (fun c19 => ?_)
      refine x_iload (pc' := 24) rfl dX2_look_22 rfl ?_
      refine x_iconst (v := 1) (pc' := 25) (by decide) dX2_look_24 rfl ?_
      refine x_icmp_eq (tgt := 34) (pc' := 28) (by decide) dX2_look_25 rfl (fun c25 => ?_) (fun c25 => absurd (by decide) c25)
      refine x_iload_n (pc' := 35) rfl dX2_look_34 rfl ?_
      refine x_iconst (v := 1) (pc' := 36) (by decide) dX2_look_35 rfl ?_
      refine x_iadd (pc' := 37) dX2_look_36 rfl ?_
      refine x_goto (tgt := 41) (by decide) dX2_look_37 ?_
      refine x_top (y := nI (K + 1)) (nI_1 K) ?_
      refine x_istore (lv' := [_, _, _, _, _, _, _]) (pc' := 43) (by decide) rfl dX2_look_41 rfl ?_
      refine x_iload (pc' := 45) rfl dX2_look_43 rfl ?_
      refine x_iconst (v := 2) (pc' := 46) (by decide) dX2_look_45 rfl ?_
      refine x_icmp_lt (tgt := 55) (pc' := 49) (by decide) dX2_look_46 rfl (fun c46 => ?_) (fun c46 => absurd (by decide) c46)
      refine x_iload_n (pc' := 56) rfl dX2_look_55 rfl ?_
      refine x_top (y := nI (R)) rfl ?_
      refine x_istore (lv' := [_, _, _, _, _, _, _]) (pc' := 58) (by decide) rfl dX2_look_56 rfl ?_
      refine x_aload_n (pc' := 59) rfl dX2_look_58 rfl ?_
      refine x_get (v := .ref 14) (pc' := 62) fk_X2_11 (by first | assumption | exact ⟨by decide, rfl⟩) rfl dX2_look_59 rfl ?_
      refine x_iload (pc' := 64) rfl dX2_look_62 rfl ?_
      refine x_aload_n (pc' := 65) rfl dX2_look_64 rfl ?_
      refine x_iload (pc' := 67) rfl dX2_look_65 rfl ?_
      refine x_iload (pc' := 69) rfl dX2_look_67 rfl ?_
      refine x_iconst (v := 0) (pc' := 70) (by decide) dX2_look_69 rfl ?_
      refine x_callVi (As := [.int _, .int _, .int _]) (rest := [.int _, .ref _]) (ci := 3) (pc' := 73) rfl vk_X2_34 mk_X4_offset (by decide) (by first | assumption | exact ⟨by decide, rfl⟩) (by decide) rfl (Nat.le_of_ble_eq_true rfl) dX2_look_70 rfl (c_X4_offset (K := K + 1) (R := R) (W := 0) hq rfl rfl rfl (by omega) (by omega) (by decide)) ?_
      refine x_iastn (N := 4) (n := 1) (pc' := 74) (by first | assumption | exact ⟨by decide, rfl⟩) (by decide) rfl (by decide) dX2_look_73 rfl ?_
      refine x_st (σ' := pI τ 14 1 (oV v g (K + 1) (R) 0)) (by rw [hr.2 _ _ 0 (by omega) (by omega) (by decide)]) ?_
      refine x_aload_n (pc' := 75) rfl dX2_look_74 rfl ?_
      refine x_get (v := .ref 15) (pc' := 78) fk_X2_15 (by first | assumption | exact ⟨by decide, rfl⟩) rfl dX2_look_75 rfl ?_
      refine x_iload (pc' := 80) rfl dX2_look_78 rfl ?_
      refine x_aload_n (pc' := 81) rfl dX2_look_80 rfl ?_
      refine x_iload (pc' := 83) rfl dX2_look_81 rfl ?_
      refine x_iload (pc' := 85) rfl dX2_look_83 rfl ?_
      refine x_iconst (v := 1) (pc' := 86) (by decide) dX2_look_85 rfl ?_
      refine x_callVi (As := [.int _, .int _, .int _]) (rest := [.int _, .ref _]) (ci := 3) (pc' := 89) rfl vk_X2_34 mk_X4_offset (by decide) (by first | assumption | exact ⟨by decide, rfl⟩) (by decide) rfl (Nat.le_of_ble_eq_true rfl) dX2_look_86 rfl (c_X4_offset (K := K + 1) (R := R) (W := 1) hq rfl rfl rfl (by omega) (by omega) (by decide)) ?_
      refine x_iastn (N := 4) (n := 1) (pc' := 90) (by first | assumption | exact ⟨by decide, rfl⟩) (by decide) rfl (by decide) dX2_look_89 rfl ?_
      refine x_st (σ' := pI (pI τ 14 1 (oV v g (K + 1) (R) 0)) 15 1 (oV v g (K + 1) (R) 1)) (by rw [show (pI τ 14 1 (oV v g (K + 1) (R) 0)).1 (q + 1) = τ.1 (q + 1) from pI_ne (by omega), hr.2 _ _ 1 (by omega) (by omega) (by decide)]) ?_
      refine x_aload_n (pc' := 91) rfl dX2_look_90 rfl ?_
      refine x_get (v := .ref 16) (pc' := 94) fk_X2_18 (by first | assumption | exact ⟨by decide, rfl⟩) rfl dX2_look_91 rfl ?_
      refine x_iload (pc' := 96) rfl dX2_look_94 rfl ?_
      refine x_aload_n (pc' := 97) rfl dX2_look_96 rfl ?_
      refine x_iload (pc' := 99) rfl dX2_look_97 rfl ?_
      refine x_callVi (As := [.int _]) (rest := [.int _, .ref _]) (ci := 3) (pc' := 102) rfl vk_X2_38 mk_X4_columnPlace (by decide) (by first | assumption | exact ⟨by decide, rfl⟩) (by decide) rfl (Nat.le_of_ble_eq_true rfl) dX2_look_99 rfl (c_X4_columnPlace hq hr2 hf rfl) ?_
      refine x_aload_n (pc' := 103) rfl dX2_look_102 rfl ?_
      refine x_get (v := .ref 14) (pc' := 106) fk_X2_11 (by first | assumption | exact ⟨by decide, rfl⟩) rfl dX2_look_103 rfl ?_
      refine x_iload (pc' := 108) rfl dX2_look_106 rfl ?_
      refine x_ialdn (N := 4) (n := 1) (pc' := 109) (by first | assumption | exact ⟨by decide, rfl⟩) (by decide) rfl (by decide) dX2_look_108 rfl ?_
      refine x_iadd (pc' := 110) dX2_look_109 rfl ?_
      refine x_i2l (pc' := 111) dX2_look_110 rfl ?_
      refine x_lastn (N := 4) (n := 1) (pc' := 112) (by first | assumption | exact ⟨by decide, rfl⟩) (by decide) rfl (by decide) dX2_look_111 rfl ?_
      refine x_aload_n (pc' := 113) rfl dX2_look_112 rfl ?_
      refine x_get (v := .ref 17) (pc' := 116) fk_X2_22 (by first | assumption | exact ⟨by decide, rfl⟩) rfl dX2_look_113 rfl ?_
      refine x_iload (pc' := 118) rfl dX2_look_116 rfl ?_
      refine x_aload_n (pc' := 119) rfl dX2_look_118 rfl ?_
      refine x_iload (pc' := 121) rfl dX2_look_119 rfl ?_
      refine x_callVi (As := [.int _]) (rest := [.int _, .ref _]) (ci := 3) (pc' := 124) rfl vk_X2_42 mk_X4_rowPlace (by decide) (by first | assumption | exact ⟨by decide, rfl⟩) (by decide) rfl (Nat.le_of_ble_eq_true rfl) dX2_look_121 rfl (c_X4_rowPlace hq hr3 hf rfl) ?_
      refine x_aload_n (pc' := 125) rfl dX2_look_124 rfl ?_
      refine x_get (v := .ref 15) (pc' := 128) fk_X2_15 (by first | assumption | exact ⟨by decide, rfl⟩) rfl dX2_look_125 rfl ?_
      refine x_iload (pc' := 130) rfl dX2_look_128 rfl ?_
      refine x_ialdn (N := 4) (n := 1) (pc' := 131) (by first | assumption | exact ⟨by decide, rfl⟩) (by decide) rfl (by decide) dX2_look_130 rfl ?_
      refine x_iadd (pc' := 132) dX2_look_131 rfl ?_
      refine x_i2l (pc' := 133) dX2_look_132 rfl ?_
      refine x_lastn (N := 4) (n := 1) (pc' := 134) (by first | assumption | exact ⟨by decide, rfl⟩) (by decide) rfl (by decide) dX2_look_133 rfl ?_
      refine x_iinc (lv' := [_, _, _, _, _, _, _]) (pc' := 137) rfl rfl (by decide) rfl dX2_look_134 rfl ?_
      refine x_goto (tgt := 16) (by decide) dX2_look_137 ?_
      exact hE
    | 2, hk =>
      have hs2 := lk_sc hs 2 (oV v g (K + 1) (R + 1) 0) (oV v g (K + 1) (R + 1) 1) (nI (stS v g (K + 1) 0) + oV v g (K + 1) (R + 1) 0).toInt64 (nI (stS v g (R + 1) 1) + oV v g (K + 1) (R + 1) 1).toInt64
      have hr2 : GRep (pI (pI τ 14 2 (oV v g (K + 1) (R + 1) 0)) 15 2 (oV v g (K + 1) (R + 1) 1)) q v g := grep ((hs.pI _ _ (by decide)).pI _ _ (by decide))
      have hr3 : GRep (pL (pI (pI τ 14 2 (oV v g (K + 1) (R + 1) 0)) 15 2 (oV v g (K + 1) (R + 1) 1)) 16 2 (nI (stS v g (K + 1) 0) + oV v g (K + 1) (R + 1) 0).toInt64) q v g := grep (((hs.pI _ _ (by decide)).pI _ _ (by decide)).pL _ _ (by decide))
      obtain ⟨τ', hE, r1⟩ := ih 3 (lkS τ 2 (oV v g (K + 1) (R + 1) 0) (oV v g (K + 1) (R + 1) 1) (nI (stS v g (K + 1) 0) + oV v g (K + 1) (R + 1) 0).toInt64 (nI (stS v g (R + 1) 1) + oV v g (K + 1) (R + 1) 1).toInt64) (some (.int (nI (K + 1)))) (some (.int (nI (R + 1)))) (by omega) hs2 (lk_at hc rfl rfl rfl rfl) h4
      refine ⟨τ', ?_, r1⟩
      refine x_iload (pc' := 18) rfl dX2_look_16 rfl ?_
      refine x_iconst (v := 4) (pc' := 19) (by decide) dX2_look_18 rfl ?_
      refine x_icmp_ge (tgt := 140) (pc' := 22) (by decide) dX2_look_19 rfl (fun c19 => absurd c19 (by decide)) (fun c19 => ?_)
      refine x_iload (pc' := 24) rfl dX2_look_22 rfl ?_
      refine x_iconst (v := 1) (pc' := 25) (by decide) dX2_look_24 rfl ?_
      refine x_icmp_eq (tgt := 34) (pc' := 28) (by decide) dX2_look_25 rfl (fun c25 => absurd c25 (by decide)) (fun c25 => ?_)
      refine x_iload (pc' := 30) rfl dX2_look_28 rfl ?_
      refine x_iconst (v := 2) (pc' := 31) (by decide) dX2_look_30 rfl ?_
      refine x_icmp_ne (tgt := 40) (pc' := 34) (by decide) dX2_look_31 rfl (fun c31 => absurd (by decide) c31) (fun c31 => ?_)
      refine x_iload_n (pc' := 35) rfl dX2_look_34 rfl ?_
      refine x_iconst (v := 1) (pc' := 36) (by decide) dX2_look_35 rfl ?_
      refine x_iadd (pc' := 37) dX2_look_36 rfl ?_
      refine x_goto (tgt := 41) (by decide) dX2_look_37 ?_
      refine x_top (y := nI (K + 1)) (nI_1 K) ?_
      refine x_istore (lv' := [_, _, _, _, _, _, _]) (pc' := 43) (by decide) rfl dX2_look_41 rfl ?_
      refine x_iload (pc' := 45) rfl dX2_look_43 rfl ?_
      refine x_iconst (v := 2) (pc' := 46) (by decide) dX2_look_45 rfl ?_
      refine x_icmp_lt (tgt := 55) (pc' := 49) (by decide) dX2_look_46 rfl (fun c46 => absurd c46 (by decide)) (fun c46 => ?_)
      refine x_iload_n (pc' := 50) rfl dX2_look_49 rfl ?_
      refine x_iconst (v := 1) (pc' := 51) (by decide) dX2_look_50 rfl ?_
      refine x_iadd (pc' := 52) dX2_look_51 rfl ?_
      refine x_goto (tgt := 56) (by decide) dX2_look_52 ?_
      refine x_top (y := nI (R + 1)) (nI_1 R) ?_
      refine x_istore (lv' := [_, _, _, _, _, _, _]) (pc' := 58) (by decide) rfl dX2_look_56 rfl ?_
      refine x_aload_n (pc' := 59) rfl dX2_look_58 rfl ?_
      refine x_get (v := .ref 14) (pc' := 62) fk_X2_11 (by first | assumption | exact ⟨by decide, rfl⟩) rfl dX2_look_59 rfl ?_
      refine x_iload (pc' := 64) rfl dX2_look_62 rfl ?_
      refine x_aload_n (pc' := 65) rfl dX2_look_64 rfl ?_
      refine x_iload (pc' := 67) rfl dX2_look_65 rfl ?_
      refine x_iload (pc' := 69) rfl dX2_look_67 rfl ?_
      refine x_iconst (v := 0) (pc' := 70) (by decide) dX2_look_69 rfl ?_
      refine x_callVi (As := [.int _, .int _, .int _]) (rest := [.int _, .ref _]) (ci := 3) (pc' := 73) rfl vk_X2_34 mk_X4_offset (by decide) (by first | assumption | exact ⟨by decide, rfl⟩) (by decide) rfl (Nat.le_of_ble_eq_true rfl) dX2_look_70 rfl (c_X4_offset (K := K + 1) (R := R + 1) (W := 0) hq rfl rfl rfl (by omega) (by omega) (by decide)) ?_
      refine x_iastn (N := 4) (n := 2) (pc' := 74) (by first | assumption | exact ⟨by decide, rfl⟩) (by decide) rfl (by decide) dX2_look_73 rfl ?_
      refine x_st (σ' := pI τ 14 2 (oV v g (K + 1) (R + 1) 0)) (by rw [hr.2 _ _ 0 (by omega) (by omega) (by decide)]) ?_
      refine x_aload_n (pc' := 75) rfl dX2_look_74 rfl ?_
      refine x_get (v := .ref 15) (pc' := 78) fk_X2_15 (by first | assumption | exact ⟨by decide, rfl⟩) rfl dX2_look_75 rfl ?_
      refine x_iload (pc' := 80) rfl dX2_look_78 rfl ?_
      refine x_aload_n (pc' := 81) rfl dX2_look_80 rfl ?_
      refine x_iload (pc' := 83) rfl dX2_look_81 rfl ?_
      refine x_iload (pc' := 85) rfl dX2_look_83 rfl ?_
      refine x_iconst (v := 1) (pc' := 86) (by decide) dX2_look_85 rfl ?_
      refine x_callVi (As := [.int _, .int _, .int _]) (rest := [.int _, .ref _]) (ci := 3) (pc' := 89) rfl vk_X2_34 mk_X4_offset (by decide) (by first | assumption | exact ⟨by decide, rfl⟩) (by decide) rfl (Nat.le_of_ble_eq_true rfl) dX2_look_86 rfl (c_X4_offset (K := K + 1) (R := R + 1) (W := 1) hq rfl rfl rfl (by omega) (by omega) (by decide)) ?_
      refine x_iastn (N := 4) (n := 2) (pc' := 90) (by first | assumption | exact ⟨by decide, rfl⟩) (by decide) rfl (by decide) dX2_look_89 rfl ?_
      refine x_st (σ' := pI (pI τ 14 2 (oV v g (K + 1) (R + 1) 0)) 15 2 (oV v g (K + 1) (R + 1) 1)) (by rw [show (pI τ 14 2 (oV v g (K + 1) (R + 1) 0)).1 (q + 1) = τ.1 (q + 1) from pI_ne (by omega), hr.2 _ _ 1 (by omega) (by omega) (by decide)]) ?_
      refine x_aload_n (pc' := 91) rfl dX2_look_90 rfl ?_
      refine x_get (v := .ref 16) (pc' := 94) fk_X2_18 (by first | assumption | exact ⟨by decide, rfl⟩) rfl dX2_look_91 rfl ?_
      refine x_iload (pc' := 96) rfl dX2_look_94 rfl ?_
      refine x_aload_n (pc' := 97) rfl dX2_look_96 rfl ?_
      refine x_iload (pc' := 99) rfl dX2_look_97 rfl ?_
      refine x_callVi (As := [.int _]) (rest := [.int _, .ref _]) (ci := 3) (pc' := 102) rfl vk_X2_38 mk_X4_columnPlace (by decide) (by first | assumption | exact ⟨by decide, rfl⟩) (by decide) rfl (Nat.le_of_ble_eq_true rfl) dX2_look_99 rfl (c_X4_columnPlace hq hr2 hf rfl) ?_
      refine x_aload_n (pc' := 103) rfl dX2_look_102 rfl ?_
      refine x_get (v := .ref 14) (pc' := 106) fk_X2_11 (by first | assumption | exact ⟨by decide, rfl⟩) rfl dX2_look_103 rfl ?_
      refine x_iload (pc' := 108) rfl dX2_look_106 rfl ?_
      refine x_ialdn (N := 4) (n := 2) (pc' := 109) (by first | assumption | exact ⟨by decide, rfl⟩) (by decide) rfl (by decide) dX2_look_108 rfl ?_
      refine x_iadd (pc' := 110) dX2_look_109 rfl ?_
      refine x_i2l (pc' := 111) dX2_look_110 rfl ?_
      refine x_lastn (N := 4) (n := 2) (pc' := 112) (by first | assumption | exact ⟨by decide, rfl⟩) (by decide) rfl (by decide) dX2_look_111 rfl ?_
      refine x_aload_n (pc' := 113) rfl dX2_look_112 rfl ?_
      refine x_get (v := .ref 17) (pc' := 116) fk_X2_22 (by first | assumption | exact ⟨by decide, rfl⟩) rfl dX2_look_113 rfl ?_
      refine x_iload (pc' := 118) rfl dX2_look_116 rfl ?_
      refine x_aload_n (pc' := 119) rfl dX2_look_118 rfl ?_
      refine x_iload (pc' := 121) rfl dX2_look_119 rfl ?_
      refine x_callVi (As := [.int _]) (rest := [.int _, .ref _]) (ci := 3) (pc' := 124) rfl vk_X2_42 mk_X4_rowPlace (by decide) (by first | assumption | exact ⟨by decide, rfl⟩) (by decide) rfl (Nat.le_of_ble_eq_true rfl) dX2_look_121 rfl (c_X4_rowPlace hq hr3 hf rfl) ?_
      refine x_aload_n (pc' := 125) rfl dX2_look_124 rfl ?_
      refine x_get (v := .ref 15) (pc' := 128) fk_X2_15 (by first | assumption | exact ⟨by decide, rfl⟩) rfl dX2_look_125 rfl ?_
      refine x_iload (pc' := 130) rfl dX2_look_128 rfl ?_
      refine x_ialdn (N := 4) (n := 2) (pc' := 131) (by first | assumption | exact ⟨by decide, rfl⟩) (by decide) rfl (by decide) dX2_look_130 rfl ?_
      refine x_iadd (pc' := 132) dX2_look_131 rfl ?_
      refine x_i2l (pc' := 133) dX2_look_132 rfl ?_
      refine x_lastn (N := 4) (n := 2) (pc' := 134) (by first | assumption | exact ⟨by decide, rfl⟩) (by decide) rfl (by decide) dX2_look_133 rfl ?_
      refine x_iinc (lv' := [_, _, _, _, _, _, _]) (pc' := 137) rfl rfl (by decide) rfl dX2_look_134 rfl ?_
      refine x_goto (tgt := 16) (by decide) dX2_look_137 ?_
      exact hE
    | 3, hk =>
      have hs2 := lk_sc hs 3 (oV v g (K) (R + 1) 0) (oV v g (K) (R + 1) 1) (nI (stS v g (K) 0) + oV v g (K) (R + 1) 0).toInt64 (nI (stS v g (R + 1) 1) + oV v g (K) (R + 1) 1).toInt64
      have hr2 : GRep (pI (pI τ 14 3 (oV v g (K) (R + 1) 0)) 15 3 (oV v g (K) (R + 1) 1)) q v g := grep ((hs.pI _ _ (by decide)).pI _ _ (by decide))
      have hr3 : GRep (pL (pI (pI τ 14 3 (oV v g (K) (R + 1) 0)) 15 3 (oV v g (K) (R + 1) 1)) 16 3 (nI (stS v g (K) 0) + oV v g (K) (R + 1) 0).toInt64) q v g := grep (((hs.pI _ _ (by decide)).pI _ _ (by decide)).pL _ _ (by decide))
      obtain ⟨τ', hE, r1⟩ := ih 4 (lkS τ 3 (oV v g (K) (R + 1) 0) (oV v g (K) (R + 1) 1) (nI (stS v g (K) 0) + oV v g (K) (R + 1) 0).toInt64 (nI (stS v g (R + 1) 1) + oV v g (K) (R + 1) 1).toInt64) (some (.int (nI (K)))) (some (.int (nI (R + 1)))) (by omega) hs2 (lk_at hc rfl rfl rfl rfl) h4
      refine ⟨τ', ?_, r1⟩
      refine x_iload (pc' := 18) rfl dX2_look_16 rfl ?_
      refine x_iconst (v := 4) (pc' := 19) (by decide) dX2_look_18 rfl ?_
      refine x_icmp_ge (tgt := 140) (pc' := 22) (by decide) dX2_look_19 rfl (fun c19 => absurd c19 (by decide)) (fun c19 => ?_)
      refine x_iload (pc' := 24) rfl dX2_look_22 rfl ?_
      refine x_iconst (v := 1) (pc' := 25) (by decide) dX2_look_24 rfl ?_
      refine x_icmp_eq (tgt := 34) (pc' := 28) (by decide) dX2_look_25 rfl (fun c25 => absurd c25 (by decide)) (fun c25 => ?_)
      refine x_iload (pc' := 30) rfl dX2_look_28 rfl ?_
      refine x_iconst (v := 2) (pc' := 31) (by decide) dX2_look_30 rfl ?_
      refine x_icmp_ne (tgt := 40) (pc' := 34) (by decide) dX2_look_31 rfl (fun c31 => ?_) (fun c31 => absurd c31 (by decide))
      refine x_iload_n (pc' := 41) rfl dX2_look_40 rfl ?_
      refine x_top (y := nI (K)) rfl ?_
      refine x_istore (lv' := [_, _, _, _, _, _, _]) (pc' := 43) (by decide) rfl dX2_look_41 rfl ?_
      refine x_iload (pc' := 45) rfl dX2_look_43 rfl ?_
      refine x_iconst (v := 2) (pc' := 46) (by decide) dX2_look_45 rfl ?_
      refine x_icmp_lt (tgt := 55) (pc' := 49) (by decide) dX2_look_46 rfl (fun c46 => absurd c46 (by decide)) (fun c46 => ?_)
      refine x_iload_n (pc' := 50) rfl dX2_look_49 rfl ?_
      refine x_iconst (v := 1) (pc' := 51) (by decide) dX2_look_50 rfl ?_
      refine x_iadd (pc' := 52) dX2_look_51 rfl ?_
      refine x_goto (tgt := 56) (by decide) dX2_look_52 ?_
      refine x_top (y := nI (R + 1)) (nI_1 R) ?_
      refine x_istore (lv' := [_, _, _, _, _, _, _]) (pc' := 58) (by decide) rfl dX2_look_56 rfl ?_
      refine x_aload_n (pc' := 59) rfl dX2_look_58 rfl ?_
      refine x_get (v := .ref 14) (pc' := 62) fk_X2_11 (by first | assumption | exact ⟨by decide, rfl⟩) rfl dX2_look_59 rfl ?_
      refine x_iload (pc' := 64) rfl dX2_look_62 rfl ?_
      refine x_aload_n (pc' := 65) rfl dX2_look_64 rfl ?_
      refine x_iload (pc' := 67) rfl dX2_look_65 rfl ?_
      refine x_iload (pc' := 69) rfl dX2_look_67 rfl ?_
      refine x_iconst (v := 0) (pc' := 70) (by decide) dX2_look_69 rfl ?_
      refine x_callVi (As := [.int _, .int _, .int _]) (rest := [.int _, .ref _]) (ci := 3) (pc' := 73) rfl vk_X2_34 mk_X4_offset (by decide) (by first | assumption | exact ⟨by decide, rfl⟩) (by decide) rfl (Nat.le_of_ble_eq_true rfl) dX2_look_70 rfl (c_X4_offset (K := K) (R := R + 1) (W := 0) hq rfl rfl rfl (by omega) (by omega) (by decide)) ?_
      refine x_iastn (N := 4) (n := 3) (pc' := 74) (by first | assumption | exact ⟨by decide, rfl⟩) (by decide) rfl (by decide) dX2_look_73 rfl ?_
      refine x_st (σ' := pI τ 14 3 (oV v g (K) (R + 1) 0)) (by rw [hr.2 _ _ 0 (by omega) (by omega) (by decide)]) ?_
      refine x_aload_n (pc' := 75) rfl dX2_look_74 rfl ?_
      refine x_get (v := .ref 15) (pc' := 78) fk_X2_15 (by first | assumption | exact ⟨by decide, rfl⟩) rfl dX2_look_75 rfl ?_
      refine x_iload (pc' := 80) rfl dX2_look_78 rfl ?_
      refine x_aload_n (pc' := 81) rfl dX2_look_80 rfl ?_
      refine x_iload (pc' := 83) rfl dX2_look_81 rfl ?_
      refine x_iload (pc' := 85) rfl dX2_look_83 rfl ?_
      refine x_iconst (v := 1) (pc' := 86) (by decide) dX2_look_85 rfl ?_
      refine x_callVi (As := [.int _, .int _, .int _]) (rest := [.int _, .ref _]) (ci := 3) (pc' := 89) rfl vk_X2_34 mk_X4_offset (by decide) (by first | assumption | exact ⟨by decide, rfl⟩) (by decide) rfl (Nat.le_of_ble_eq_true rfl) dX2_look_86 rfl (c_X4_offset (K := K) (R := R + 1) (W := 1) hq rfl rfl rfl (by omega) (by omega) (by decide)) ?_
      refine x_iastn (N := 4) (n := 3) (pc' := 90) (by first | assumption | exact ⟨by decide, rfl⟩) (by decide) rfl (by decide) dX2_look_89 rfl ?_
      refine x_st (σ' := pI (pI τ 14 3 (oV v g (K) (R + 1) 0)) 15 3 (oV v g (K) (R + 1) 1)) (by rw [show (pI τ 14 3 (oV v g (K) (R + 1) 0)).1 (q + 1) = τ.1 (q + 1) from pI_ne (by omega), hr.2 _ _ 1 (by omega) (by omega) (by decide)]) ?_
      refine x_aload_n (pc' := 91) rfl dX2_look_90 rfl ?_
      refine x_get (v := .ref 16) (pc' := 94) fk_X2_18 (by first | assumption | exact ⟨by decide, rfl⟩) rfl dX2_look_91 rfl ?_
      refine x_iload (pc' := 96) rfl dX2_look_94 rfl ?_
      refine x_aload_n (pc' := 97) rfl dX2_look_96 rfl ?_
      refine x_iload (pc' := 99) rfl dX2_look_97 rfl ?_
      refine x_callVi (As := [.int _]) (rest := [.int _, .ref _]) (ci := 3) (pc' := 102) rfl vk_X2_38 mk_X4_columnPlace (by decide) (by first | assumption | exact ⟨by decide, rfl⟩) (by decide) rfl (Nat.le_of_ble_eq_true rfl) dX2_look_99 rfl (c_X4_columnPlace hq hr2 hf rfl) ?_
      refine x_aload_n (pc' := 103) rfl dX2_look_102 rfl ?_
      refine x_get (v := .ref 14) (pc' := 106) fk_X2_11 (by first | assumption | exact ⟨by decide, rfl⟩) rfl dX2_look_103 rfl ?_
      refine x_iload (pc' := 108) rfl dX2_look_106 rfl ?_
      refine x_ialdn (N := 4) (n := 3) (pc' := 109) (by first | assumption | exact ⟨by decide, rfl⟩) (by decide) rfl (by decide) dX2_look_108 rfl ?_
      refine x_iadd (pc' := 110) dX2_look_109 rfl ?_
      refine x_i2l (pc' := 111) dX2_look_110 rfl ?_
      refine x_lastn (N := 4) (n := 3) (pc' := 112) (by first | assumption | exact ⟨by decide, rfl⟩) (by decide) rfl (by decide) dX2_look_111 rfl ?_
      refine x_aload_n (pc' := 113) rfl dX2_look_112 rfl ?_
      refine x_get (v := .ref 17) (pc' := 116) fk_X2_22 (by first | assumption | exact ⟨by decide, rfl⟩) rfl dX2_look_113 rfl ?_
      refine x_iload (pc' := 118) rfl dX2_look_116 rfl ?_
      refine x_aload_n (pc' := 119) rfl dX2_look_118 rfl ?_
      refine x_iload (pc' := 121) rfl dX2_look_119 rfl ?_
      refine x_callVi (As := [.int _]) (rest := [.int _, .ref _]) (ci := 3) (pc' := 124) rfl vk_X2_42 mk_X4_rowPlace (by decide) (by first | assumption | exact ⟨by decide, rfl⟩) (by decide) rfl (Nat.le_of_ble_eq_true rfl) dX2_look_121 rfl (c_X4_rowPlace hq hr3 hf rfl) ?_
      refine x_aload_n (pc' := 125) rfl dX2_look_124 rfl ?_
      refine x_get (v := .ref 15) (pc' := 128) fk_X2_15 (by first | assumption | exact ⟨by decide, rfl⟩) rfl dX2_look_125 rfl ?_
      refine x_iload (pc' := 130) rfl dX2_look_128 rfl ?_
      refine x_ialdn (N := 4) (n := 3) (pc' := 131) (by first | assumption | exact ⟨by decide, rfl⟩) (by decide) rfl (by decide) dX2_look_130 rfl ?_
      refine x_iadd (pc' := 132) dX2_look_131 rfl ?_
      refine x_i2l (pc' := 133) dX2_look_132 rfl ?_
      refine x_lastn (N := 4) (n := 3) (pc' := 134) (by first | assumption | exact ⟨by decide, rfl⟩) (by decide) rfl (by decide) dX2_look_133 rfl ?_
      refine x_iinc (lv' := [_, _, _, _, _, _, _]) (pc' := 137) rfl rfl (by decide) rfl dX2_look_134 rfl ?_
      refine x_goto (tgt := 16) (by decide) dX2_look_137 ?_
      exact hE
    | k + 4, hk => exact absurd hk (by omega)
set_option maxRecDepth 100000 in
set_option maxHeartbeats 4000000 in
theorem c_X2_look {σ : St} {q g K R : Nat} {v : Nat → Int32} (hq : isG q) (hf : OkF v g) (hK : K + 1 < fN v g 4) (hRr : R + 1 < fN v g 5) (hr : GRep σ q v g) {c r : Int32} (hc : c = nI K) (hr0 : r = nI R) : ∃ τ', Ct yX2_look M_X2_look [.ref 13, .ref q, .int c, .int r] σ (none, τ') ∧ ScC σ τ' ∧ CellAt τ' v g K R := by
  subst hc
  subst hr0
  obtain ⟨hq0, hq1⟩ := id hq
  obtain ⟨τ', hE, r1⟩ := l_X2_look hq hf hK hRr hr 4 0 (pI σ 13 4 (nI (64 * fN v g 3))) none none rfl ((ScC.rf σ).pI _ _ (by decide)) (fun j hj => absurd hj (by omega)) rfl
  refine ⟨τ', ?_, r1⟩
  refine ct_of (k := 3) rfl rfl rfl (Nat.le_of_ble_eq_true rfl) ?_
  refine x_aload_n (pc' := 1) rfl dX2_look_0 rfl ?_
  refine x_ifnonnull (tgt := 5) (by decide) dX2_look_1 ?_
  refine x_aload_n (pc' := 6) rfl dX2_look_5 rfl ?_
  refine x_aload_n (pc' := 7) rfl dX2_look_6 rfl ?_
  refine x_callVi (As := []) (rest := [.ref _]) (ci := 3) (pc' := 10) rfl vk_X2_25 mk_X4_side (by decide) (by first | assumption | exact ⟨by decide, rfl⟩) (by decide) rfl (Nat.le_of_ble_eq_true rfl) dX2_look_7 rfl (c_X4_side hq hr hf) ?_
  refine x_puti (pc' := 13) fk_X2_31 pk_1_4 rfl (by first | assumption | exact ⟨by decide, rfl⟩) dX2_look_10 rfl ?_
  refine x_iconst (v := 0) (pc' := 14) (by decide) dX2_look_13 rfl ?_
  refine x_istore (lv' := [_, _, _, _, _, _, _]) (pc' := 16) (by decide) rfl dX2_look_14 rfl ?_
  exact hE
set_option maxRecDepth 100000 in
set_option maxHeartbeats 4000000 in
theorem c_X2_steepnessOf {σ : St} {a : Nat} (ha : Is a 1 4) : Ct yX2_steepnessOf M_X2_steepnessOf [.ref a] σ (some (.int (mx (ab (σ.1 a 1 - σ.1 a 0)) (ab (σ.1 a 2 - σ.1 a 3)) + mx (ab (σ.1 a 3 - σ.1 a 0)) (ab (σ.1 a 2 - σ.1 a 1)))), σ) := by
  refine ct_of (k := 2) rfl rfl rfl (Nat.le_of_ble_eq_true rfl) ?_
  refine x_aload_n (pc' := 1) rfl dX2_steepnessOf_0 rfl ?_
  refine x_ifnull (pc' := 4) dX2_steepnessOf_1 rfl ?_
  refine x_aload_n (pc' := 5) rfl dX2_steepnessOf_4 rfl ?_
  refine x_alen (a := 1) (n := 4) (v := 4) (pc' := 6) (by decide) (by first | assumption | exact ⟨by decide, rfl⟩) (by decide) dX2_steepnessOf_5 rfl ?_
  refine x_iconst (v := 4) (pc' := 7) (by decide) dX2_steepnessOf_6 rfl ?_
  refine x_icmp_eq (tgt := 12) (pc' := 10) (by decide) dX2_steepnessOf_7 rfl (fun c7 => ?_) (fun c7 => absurd rfl c7)
  refine x_aload_n (pc' := 13) rfl dX2_steepnessOf_12 rfl ?_
  refine x_iconst (v := 1) (pc' := 14) (by decide) dX2_steepnessOf_13 rfl ?_
  refine x_ialdn (N := 4) (n := 1) (pc' := 15) (by first | assumption | exact ⟨by decide, rfl⟩) (by decide) rfl (by decide) dX2_steepnessOf_14 rfl ?_
  refine x_aload_n (pc' := 16) rfl dX2_steepnessOf_15 rfl ?_
  refine x_iconst (v := 0) (pc' := 17) (by decide) dX2_steepnessOf_16 rfl ?_
  refine x_ialdn (N := 4) (n := 0) (pc' := 18) (by first | assumption | exact ⟨by decide, rfl⟩) (by decide) rfl (by decide) dX2_steepnessOf_17 rfl ?_
  refine x_isub (pc' := 19) dX2_steepnessOf_18 rfl ?_
  refine x_callSi (As := [.int _]) (rest := []) (pc' := 22) rfl sk_X2_45 mk_J9_abs_0f7a4 (by decide) rfl (Nat.le_of_ble_eq_true rfl) dX2_steepnessOf_19 rfl c_J9_abs_0f7a4 ?_
  refine x_aload_n (pc' := 23) rfl dX2_steepnessOf_22 rfl ?_
  refine x_iconst (v := 2) (pc' := 24) (by decide) dX2_steepnessOf_23 rfl ?_
  refine x_ialdn (N := 4) (n := 2) (pc' := 25) (by first | assumption | exact ⟨by decide, rfl⟩) (by decide) rfl (by decide) dX2_steepnessOf_24 rfl ?_
  refine x_aload_n (pc' := 26) rfl dX2_steepnessOf_25 rfl ?_
  refine x_iconst (v := 3) (pc' := 27) (by decide) dX2_steepnessOf_26 rfl ?_
  refine x_ialdn (N := 4) (n := 3) (pc' := 28) (by first | assumption | exact ⟨by decide, rfl⟩) (by decide) rfl (by decide) dX2_steepnessOf_27 rfl ?_
  refine x_isub (pc' := 29) dX2_steepnessOf_28 rfl ?_
  refine x_callSi (As := [.int _]) (rest := [.int _]) (pc' := 32) rfl sk_X2_45 mk_J9_abs_0f7a4 (by decide) rfl (Nat.le_of_ble_eq_true rfl) dX2_steepnessOf_29 rfl c_J9_abs_0f7a4 ?_
  refine x_callSi (As := [.int _, .int _]) (rest := []) (pc' := 35) rfl sk_X2_50 mk_J9_max_7cf53 (by decide) rfl (Nat.le_of_ble_eq_true rfl) dX2_steepnessOf_32 rfl c_J9_max_7cf53 ?_
  refine x_istore_n (lv' := [_, _, _]) (pc' := 36) (by decide) rfl dX2_steepnessOf_35 rfl ?_
  refine x_aload_n (pc' := 37) rfl dX2_steepnessOf_36 rfl ?_
  refine x_iconst (v := 3) (pc' := 38) (by decide) dX2_steepnessOf_37 rfl ?_
  refine x_ialdn (N := 4) (n := 3) (pc' := 39) (by first | assumption | exact ⟨by decide, rfl⟩) (by decide) rfl (by decide) dX2_steepnessOf_38 rfl ?_
  refine x_aload_n (pc' := 40) rfl dX2_steepnessOf_39 rfl ?_
  refine x_iconst (v := 0) (pc' := 41) (by decide) dX2_steepnessOf_40 rfl ?_
  refine x_ialdn (N := 4) (n := 0) (pc' := 42) (by first | assumption | exact ⟨by decide, rfl⟩) (by decide) rfl (by decide) dX2_steepnessOf_41 rfl ?_
  refine x_isub (pc' := 43) dX2_steepnessOf_42 rfl ?_
  refine x_callSi (As := [.int _]) (rest := []) (pc' := 46) rfl sk_X2_45 mk_J9_abs_0f7a4 (by decide) rfl (Nat.le_of_ble_eq_true rfl) dX2_steepnessOf_43 rfl c_J9_abs_0f7a4 ?_
  refine x_aload_n (pc' := 47) rfl dX2_steepnessOf_46 rfl ?_
  refine x_iconst (v := 2) (pc' := 48) (by decide) dX2_steepnessOf_47 rfl ?_
  refine x_ialdn (N := 4) (n := 2) (pc' := 49) (by first | assumption | exact ⟨by decide, rfl⟩) (by decide) rfl (by decide) dX2_steepnessOf_48 rfl ?_
  refine x_aload_n (pc' := 50) rfl dX2_steepnessOf_49 rfl ?_
  refine x_iconst (v := 1) (pc' := 51) (by decide) dX2_steepnessOf_50 rfl ?_
  refine x_ialdn (N := 4) (n := 1) (pc' := 52) (by first | assumption | exact ⟨by decide, rfl⟩) (by decide) rfl (by decide) dX2_steepnessOf_51 rfl ?_
  refine x_isub (pc' := 53) dX2_steepnessOf_52 rfl ?_
  refine x_callSi (As := [.int _]) (rest := [.int _]) (pc' := 56) rfl sk_X2_45 mk_J9_abs_0f7a4 (by decide) rfl (Nat.le_of_ble_eq_true rfl) dX2_steepnessOf_53 rfl c_J9_abs_0f7a4 ?_
  refine x_callSi (As := [.int _, .int _]) (rest := []) (pc' := 59) rfl sk_X2_50 mk_J9_max_7cf53 (by decide) rfl (Nat.le_of_ble_eq_true rfl) dX2_steepnessOf_56 rfl c_J9_max_7cf53 ?_
  refine x_istore_n (lv' := [_, _, _]) (pc' := 60) (by decide) rfl dX2_steepnessOf_59 rfl ?_
  refine x_iload_n (pc' := 61) rfl dX2_steepnessOf_60 rfl ?_
  refine x_iload_n (pc' := 62) rfl dX2_steepnessOf_61 rfl ?_
  refine x_iadd (pc' := 63) dX2_steepnessOf_62 rfl ?_
  exact x_iret rfl dX2_steepnessOf_63 rfl
set_option maxRecDepth 100000 in
set_option maxHeartbeats 4000000 in
theorem c_X2_steepness {σ : St} {v : Nat → Int32} {g c r : Nat} (hC : CellAt σ v g c r) : Ct yX2_steepness M_X2_steepness [.ref 13] σ (some (.int (steepS v g c r)), σ) := by
  have k0 := hC.1 0 (by decide)
  have k1 := hC.1 1 (by decide)
  have k2 := hC.1 2 (by decide)
  have k3 := hC.1 3 (by decide)
  refine ct_of (k := 0) rfl rfl rfl (Nat.le_of_ble_eq_true rfl) ?_
  refine x_aload_n (pc' := 1) rfl dX2_steepness_0 rfl ?_
  refine x_get (v := .ref 14) (pc' := 4) fk_X2_11 (by first | assumption | exact ⟨by decide, rfl⟩) rfl dX2_steepness_1 rfl ?_
  refine x_callSi (As := [.ref _]) (rest := []) (pc' := 7) rfl sk_X2_54 mk_X2_steepnessOf (by decide) rfl (Nat.le_of_ble_eq_true rfl) dX2_steepness_4 rfl (c_X2_steepnessOf ⟨by decide, rfl⟩) ?_
  refine x_aload_n (pc' := 8) rfl dX2_steepness_7 rfl ?_
  refine x_get (v := .ref 15) (pc' := 11) fk_X2_15 (by first | assumption | exact ⟨by decide, rfl⟩) rfl dX2_steepness_8 rfl ?_
  refine x_callSi (As := [.ref _]) (rest := [.int _]) (pc' := 14) rfl sk_X2_54 mk_X2_steepnessOf (by decide) rfl (Nat.le_of_ble_eq_true rfl) dX2_steepness_11 rfl (c_X2_steepnessOf ⟨by decide, rfl⟩) ?_
  refine x_callSi (As := [.int _, .int _]) (rest := []) (pc' := 17) rfl sk_X2_50 mk_J9_max_7cf53 (by decide) rfl (Nat.le_of_ble_eq_true rfl) dX2_steepness_14 rfl c_J9_max_7cf53 ?_
  exact x_iret rfl dX2_steepness_17 (ret_i (by rw [k0.1, k1.1, k2.1, k3.1, k0.2.1, k1.2.1, k2.2.1, k3.2.1]; rfl))
set_option maxRecDepth 100000 in
set_option maxHeartbeats 4000000 in
theorem c_X2_isSure {σ : St} {v : Nat → Int32} {g c r : Nat} (hC : CellAt σ v g c r) : Ct yX2_isSure M_X2_isSure [.ref 13] σ (some (.int (pb (sureS v g c r))), σ) := by
  refine ct_of (k := 0) rfl rfl rfl (Nat.le_of_ble_eq_true rfl) ?_
  refine x_iconst (v := 2) (pc' := 1) (by decide) dX2_isSure_0 rfl ?_
  refine x_aload_n (pc' := 2) rfl dX2_isSure_1 rfl ?_
  refine x_callVi (As := []) (rest := [.int _]) (ci := 1) (pc' := 5) rfl vk_X2_58 mk_X2_steepness (by decide) (by first | assumption | exact ⟨by decide, rfl⟩) (by decide) rfl (Nat.le_of_ble_eq_true rfl) dX2_isSure_2 rfl (c_X2_steepness hC) ?_
  refine x_imul (pc' := 6) dX2_isSure_5 rfl ?_
  refine x_aload_n (pc' := 7) rfl dX2_isSure_6 rfl ?_
  refine x_get (v := .int _) (pc' := 10) fk_X2_31 (by first | assumption | exact ⟨by decide, rfl⟩) rfl dX2_isSure_7 rfl ?_
  refine x_top hC.2 ?_
  refine x_icmp_ge (tgt := 17) (pc' := 13) (by decide) dX2_isSure_10 rfl (fun c10 => ?_) (fun c10 => ?_)
  · refine x_iconst (v := 0) (pc' := 18) (by decide) dX2_isSure_17 rfl ?_
    exact x_zret rfl (by first | rfl | exact b01_nar _ | exact pb_nar _ | exact chg_nar _ _ _ _) dX2_isSure_18 (ret_i (pb_0 (fun z => i_nlt.mpr c10 z)).symm)
  · refine x_iconst (v := 1) (pc' := 14) (by decide) dX2_isSure_13 rfl ?_
    refine x_goto (tgt := 18) (by decide) dX2_isSure_14 ?_
    exact x_zret rfl (by first | rfl | exact b01_nar _ | exact pb_nar _ | exact chg_nar _ _ _ _) dX2_isSure_18 (ret_i (pb_1 (i_nle.mp c10)).symm)
set_option maxRecDepth 100000 in
set_option maxHeartbeats 4000000 in
theorem c_X2_crossed {σ : St} {v : Nat → Int32} {g c r : Nat} (hC : CellAt σ v g c r) {x y : Int32} {a b : Nat} (hx : fmd x 4 = nI a) (hy : fmd y 4 = nI b) (ha : a < 4) (hb : b < 4) : Ct yX2_crossed M_X2_crossed [.ref 13, .int x, .int y] σ (some (.long (crossS v g c r a b)), σ) := by
  refine ct_of (k := 2) rfl rfl rfl (Nat.le_of_ble_eq_true rfl) ?_
  refine x_iload_n (pc' := 1) rfl dX2_crossed_0 rfl ?_
  refine x_iconst (v := 4) (pc' := 2) (by decide) dX2_crossed_1 rfl ?_
  refine x_callSi (As := [.int _, .int _]) (rest := []) (pc' := 5) rfl sk_X2_61 mk_J9_floorMod_7cf53 (by decide) rfl (Nat.le_of_ble_eq_true rfl) dX2_crossed_2 rfl (c_J9_floorMod_7cf53 (by decide)) ?_
  refine x_top hx ?_
  refine x_istore_n (lv' := [_, _, _, _, _]) (pc' := 6) (by decide) rfl dX2_crossed_5 rfl ?_
  refine x_iload_n (pc' := 7) rfl dX2_crossed_6 rfl ?_
  refine x_iconst (v := 4) (pc' := 8) (by decide) dX2_crossed_7 rfl ?_
  refine x_callSi (As := [.int _, .int _]) (rest := []) (pc' := 11) rfl sk_X2_61 mk_J9_floorMod_7cf53 (by decide) rfl (Nat.le_of_ble_eq_true rfl) dX2_crossed_8 rfl (c_J9_floorMod_7cf53 (by decide)) ?_
  refine x_top hy ?_
  refine x_istore (lv' := [_, _, _, _, _]) (pc' := 13) (by decide) rfl dX2_crossed_11 rfl ?_
  refine x_aload_n (pc' := 14) rfl dX2_crossed_13 rfl ?_
  refine x_get (v := .ref 16) (pc' := 17) fk_X2_18 (by first | assumption | exact ⟨by decide, rfl⟩) rfl dX2_crossed_14 rfl ?_
  refine x_iload_n (pc' := 18) rfl dX2_crossed_17 rfl ?_
  refine x_laldn (N := 4) (n := a) (pc' := 19) (by first | assumption | exact ⟨by decide, rfl⟩) (by decide) rfl ha dX2_crossed_18 rfl ?_
  refine x_aload_n (pc' := 20) rfl dX2_crossed_19 rfl ?_
  refine x_get (v := .ref 17) (pc' := 23) fk_X2_22 (by first | assumption | exact ⟨by decide, rfl⟩) rfl dX2_crossed_20 rfl ?_
  refine x_iload (pc' := 25) rfl dX2_crossed_23 rfl ?_
  refine x_laldn (N := 4) (n := b) (pc' := 26) (by first | assumption | exact ⟨by decide, rfl⟩) (by decide) rfl hb dX2_crossed_25 rfl ?_
  refine x_lmul (pc' := 27) dX2_crossed_26 rfl ?_
  refine x_aload_n (pc' := 28) rfl dX2_crossed_27 rfl ?_
  refine x_get (v := .ref 16) (pc' := 31) fk_X2_18 (by first | assumption | exact ⟨by decide, rfl⟩) rfl dX2_crossed_28 rfl ?_
  refine x_iload (pc' := 33) rfl dX2_crossed_31 rfl ?_
  refine x_laldn (N := 4) (n := b) (pc' := 34) (by first | assumption | exact ⟨by decide, rfl⟩) (by decide) rfl hb dX2_crossed_33 rfl ?_
  refine x_aload_n (pc' := 35) rfl dX2_crossed_34 rfl ?_
  refine x_get (v := .ref 17) (pc' := 38) fk_X2_22 (by first | assumption | exact ⟨by decide, rfl⟩) rfl dX2_crossed_35 rfl ?_
  refine x_iload_n (pc' := 39) rfl dX2_crossed_38 rfl ?_
  refine x_laldn (N := 4) (n := a) (pc' := 40) (by first | assumption | exact ⟨by decide, rfl⟩) (by decide) rfl ha dX2_crossed_39 rfl ?_
  refine x_lmul (pc' := 41) dX2_crossed_40 rfl ?_
  refine x_lsub (pc' := 42) dX2_crossed_41 rfl ?_
  exact x_lret rfl dX2_crossed_42 (ret_l (by rw [(hC.1 a ha).2.2.1, (hC.1 b hb).2.2.2, (hC.1 b hb).2.2.1, (hC.1 a ha).2.2.2]; rfl))
set_option maxRecDepth 100000 in
set_option maxHeartbeats 4000000 in
theorem c_X2_area {σ : St} {v : Nat → Int32} {g c r : Nat} (hC : CellAt σ v g c r) : Ct yX2_area M_X2_area [.ref 13] σ (some (.long (areaS v g c r)), σ) := by
  refine ct_of (k := 3) rfl rfl rfl (Nat.le_of_ble_eq_true rfl) ?_
  refine x_lconst (v := 0) (pc' := 1) (by decide) dX2_area_0 rfl ?_
  refine x_lstore_n (lv' := [_, _, _, _]) (pc' := 2) (by decide) rfl dX2_area_1 rfl ?_
  refine x_iconst (v := 0) (pc' := 3) (by decide) dX2_area_2 rfl ?_
  refine x_istore_n (lv' := [_, _, _, _]) (pc' := 4) (by decide) rfl dX2_area_3 rfl ?_
  refine x_iload_n (pc' := 5) rfl dX2_area_4 rfl ?_
  refine x_iconst (v := 4) (pc' := 6) (by decide) dX2_area_5 rfl ?_
  refine x_icmp_ge (tgt := 26) (pc' := 9) (by decide) dX2_area_6 rfl (fun c6 => absurd c6 (by decide +kernel)) (fun c6 => ?_)
  refine x_lload_n (pc' := 10) rfl dX2_area_9 rfl ?_
  refine x_aload_n (pc' := 11) rfl dX2_area_10 rfl ?_
  refine x_iload_n (pc' := 12) rfl dX2_area_11 rfl ?_
  refine x_iload_n (pc' := 13) rfl dX2_area_12 rfl ?_
  refine x_iconst (v := 1) (pc' := 14) (by decide) dX2_area_13 rfl ?_
  refine x_iadd (pc' := 15) dX2_area_14 rfl ?_
  refine x_callVi (As := [.int _, .int _]) (rest := [.long _]) (ci := 1) (pc' := 18) rfl vk_X2_64 mk_X2_crossed (by decide) (by first | assumption | exact ⟨by decide, rfl⟩) (by decide) rfl (Nat.le_of_ble_eq_true rfl) dX2_area_15 rfl (c_X2_crossed (a := 0) (b := 1) hC (by decide +kernel) (by decide +kernel) (by decide) (by decide)) ?_
  refine x_ladd (pc' := 19) dX2_area_18 rfl ?_
  refine x_lstore_n (lv' := [_, _, _, _]) (pc' := 20) (by decide) rfl dX2_area_19 rfl ?_
  refine x_iinc (lv' := [_, _, _, _]) (pc' := 23) rfl rfl (by decide) rfl dX2_area_20 rfl ?_
  refine x_goto (tgt := 4) (by decide) dX2_area_23 ?_
  refine x_iload_n (pc' := 5) rfl dX2_area_4 rfl ?_
  refine x_iconst (v := 4) (pc' := 6) (by decide) dX2_area_5 rfl ?_
  refine x_icmp_ge (tgt := 26) (pc' := 9) (by decide) dX2_area_6 rfl (fun c6 => absurd c6 (by decide +kernel)) (fun c6 => ?_)
  refine x_lload_n (pc' := 10) rfl dX2_area_9 rfl ?_
  refine x_aload_n (pc' := 11) rfl dX2_area_10 rfl ?_
  refine x_iload_n (pc' := 12) rfl dX2_area_11 rfl ?_
  refine x_iload_n (pc' := 13) rfl dX2_area_12 rfl ?_
  refine x_iconst (v := 1) (pc' := 14) (by decide) dX2_area_13 rfl ?_
  refine x_iadd (pc' := 15) dX2_area_14 rfl ?_
  refine x_callVi (As := [.int _, .int _]) (rest := [.long _]) (ci := 1) (pc' := 18) rfl vk_X2_64 mk_X2_crossed (by decide) (by first | assumption | exact ⟨by decide, rfl⟩) (by decide) rfl (Nat.le_of_ble_eq_true rfl) dX2_area_15 rfl (c_X2_crossed (a := 1) (b := 2) hC (by decide +kernel) (by decide +kernel) (by decide) (by decide)) ?_
  refine x_ladd (pc' := 19) dX2_area_18 rfl ?_
  refine x_lstore_n (lv' := [_, _, _, _]) (pc' := 20) (by decide) rfl dX2_area_19 rfl ?_
  refine x_iinc (lv' := [_, _, _, _]) (pc' := 23) rfl rfl (by decide) rfl dX2_area_20 rfl ?_
  refine x_goto (tgt := 4) (by decide) dX2_area_23 ?_
  refine x_iload_n (pc' := 5) rfl dX2_area_4 rfl ?_
  refine x_iconst (v := 4) (pc' := 6) (by decide) dX2_area_5 rfl ?_
  refine x_icmp_ge (tgt := 26) (pc' := 9) (by decide) dX2_area_6 rfl (fun c6 => absurd c6 (by decide +kernel)) (fun c6 => ?_)
  refine x_lload_n (pc' := 10) rfl dX2_area_9 rfl ?_
  refine x_aload_n (pc' := 11) rfl dX2_area_10 rfl ?_
  refine x_iload_n (pc' := 12) rfl dX2_area_11 rfl ?_
  refine x_iload_n (pc' := 13) rfl dX2_area_12 rfl ?_
  refine x_iconst (v := 1) (pc' := 14) (by decide) dX2_area_13 rfl ?_
  refine x_iadd (pc' := 15) dX2_area_14 rfl ?_
  refine x_callVi (As := [.int _, .int _]) (rest := [.long _]) (ci := 1) (pc' := 18) rfl vk_X2_64 mk_X2_crossed (by decide) (by first | assumption | exact ⟨by decide, rfl⟩) (by decide) rfl (Nat.le_of_ble_eq_true rfl) dX2_area_15 rfl (c_X2_crossed (a := 2) (b := 3) hC (by decide +kernel) (by decide +kernel) (by decide) (by decide)) ?_
  refine x_ladd (pc' := 19) dX2_area_18 rfl ?_
  refine x_lstore_n (lv' := [_, _, _, _]) (pc' := 20) (by decide) rfl dX2_area_19 rfl ?_
  refine x_iinc (lv' := [_, _, _, _]) (pc' := 23) rfl rfl (by decide) rfl dX2_area_20 rfl ?_
  refine x_goto (tgt := 4) (by decide) dX2_area_23 ?_
  refine x_iload_n (pc' := 5) rfl dX2_area_4 rfl ?_
  refine x_iconst (v := 4) (pc' := 6) (by decide) dX2_area_5 rfl ?_
  refine x_icmp_ge (tgt := 26) (pc' := 9) (by decide) dX2_area_6 rfl (fun c6 => absurd c6 (by decide +kernel)) (fun c6 => ?_)
  refine x_lload_n (pc' := 10) rfl dX2_area_9 rfl ?_
  refine x_aload_n (pc' := 11) rfl dX2_area_10 rfl ?_
  refine x_iload_n (pc' := 12) rfl dX2_area_11 rfl ?_
  refine x_iload_n (pc' := 13) rfl dX2_area_12 rfl ?_
  refine x_iconst (v := 1) (pc' := 14) (by decide) dX2_area_13 rfl ?_
  refine x_iadd (pc' := 15) dX2_area_14 rfl ?_
  refine x_callVi (As := [.int _, .int _]) (rest := [.long _]) (ci := 1) (pc' := 18) rfl vk_X2_64 mk_X2_crossed (by decide) (by first | assumption | exact ⟨by decide, rfl⟩) (by decide) rfl (Nat.le_of_ble_eq_true rfl) dX2_area_15 rfl (c_X2_crossed (a := 3) (b := 0) hC (by decide +kernel) (by decide +kernel) (by decide) (by decide)) ?_
  refine x_ladd (pc' := 19) dX2_area_18 rfl ?_
  refine x_lstore_n (lv' := [_, _, _, _]) (pc' := 20) (by decide) rfl dX2_area_19 rfl ?_
  refine x_iinc (lv' := [_, _, _, _]) (pc' := 23) rfl rfl (by decide) rfl dX2_area_20 rfl ?_
  refine x_goto (tgt := 4) (by decide) dX2_area_23 ?_
  refine x_iload_n (pc' := 5) rfl dX2_area_4 rfl ?_
  refine x_iconst (v := 4) (pc' := 6) (by decide) dX2_area_5 rfl ?_
  refine x_icmp_ge (tgt := 26) (pc' := 9) (by decide) dX2_area_6 rfl (fun c6 => ?_) (fun c6 => absurd (by decide +kernel) c6)
  refine x_lload_n (pc' := 27) rfl dX2_area_26 rfl ?_
  exact x_lret rfl dX2_area_27 (ret_l (by rw [Int64.zero_add]; rfl))
set_option maxRecDepth 100000 in
set_option maxHeartbeats 4000000 in
theorem c_X2_isFolded {σ : St} {v : Nat → Int32} {g c r : Nat} (hC : CellAt σ v g c r) : Ct yX2_isFolded M_X2_isFolded [.ref 13] σ (some (.int (pb (foldS v g c r))), σ) := by
  have h4 : (¬ fP v g c r 3 ∧ ¬ fP v g c r 0 ∧ ¬ fP v g c r 1 ∧ ¬ fP v g c r 2) → Ex M_X2_isFolded (some (.int (pb (foldS v g c r))), σ) 2 [some (.ref 13), some (.int (0 + Int32.ofInt 1 + Int32.ofInt 1 + Int32.ofInt 1 + Int32.ofInt 1))] [] σ := by
    intro ⟨f3, f0, f1, f2⟩
    refine x_iload_n (pc' := 3) rfl dX2_isFolded_2 rfl ?_
    refine x_iconst (v := 4) (pc' := 4) (by decide) dX2_isFolded_3 rfl ?_
    refine x_icmp_ge (tgt := 48) (pc' := 7) (by decide) dX2_isFolded_4 rfl (fun c4 => ?_) (fun c4 => absurd (by decide +kernel) c4)
    refine x_iconst (v := 0) (pc' := 49) (by decide) dX2_isFolded_48 rfl ?_
    exact x_zret rfl (by first | rfl | exact b01_nar _ | exact pb_nar _ | exact chg_nar _ _ _ _) dX2_isFolded_49 (ret_i (pb_0 (fun ⟨j, hj, hP⟩ => by match j, hj with | 0, _ => exact f0 hP | 1, _ => exact f1 hP | 2, _ => exact f2 hP | 3, _ => exact f3 hP)).symm)
  have h3 : (¬ fP v g c r 3 ∧ ¬ fP v g c r 0 ∧ ¬ fP v g c r 1) → Ex M_X2_isFolded (some (.int (pb (foldS v g c r))), σ) 2 [some (.ref 13), some (.int (0 + Int32.ofInt 1 + Int32.ofInt 1 + Int32.ofInt 1))] [] σ := by
    intro ⟨f3, f0, f1⟩
    refine x_iload_n (pc' := 3) rfl dX2_isFolded_2 rfl ?_
    refine x_iconst (v := 4) (pc' := 4) (by decide) dX2_isFolded_3 rfl ?_
    refine x_icmp_ge (tgt := 48) (pc' := 7) (by decide) dX2_isFolded_4 rfl (fun c4 => absurd c4 (by decide +kernel)) (fun c4 => ?_)
    refine x_aload_n (pc' := 8) rfl dX2_isFolded_7 rfl ?_
    refine x_iload_n (pc' := 9) rfl dX2_isFolded_8 rfl ?_
    refine x_iconst (v := 1) (pc' := 10) (by decide) dX2_isFolded_9 rfl ?_
    refine x_isub (pc' := 11) dX2_isFolded_10 rfl ?_
    refine x_iload_n (pc' := 12) rfl dX2_isFolded_11 rfl ?_
    refine x_callVi (As := [.int _, .int _]) (rest := []) (ci := 1) (pc' := 15) rfl vk_X2_64 mk_X2_crossed (by decide) (by first | assumption | exact ⟨by decide, rfl⟩) (by decide) rfl (Nat.le_of_ble_eq_true rfl) dX2_isFolded_12 rfl (c_X2_crossed (a := 2) (b := 3) hC (by decide +kernel) (by decide +kernel) (by decide) (by decide)) ?_
    refine x_aload_n (pc' := 16) rfl dX2_isFolded_15 rfl ?_
    refine x_iload_n (pc' := 17) rfl dX2_isFolded_16 rfl ?_
    refine x_iload_n (pc' := 18) rfl dX2_isFolded_17 rfl ?_
    refine x_iconst (v := 1) (pc' := 19) (by decide) dX2_isFolded_18 rfl ?_
    refine x_iadd (pc' := 20) dX2_isFolded_19 rfl ?_
    refine x_callVi (As := [.int _, .int _]) (rest := [.long _]) (ci := 1) (pc' := 23) rfl vk_X2_64 mk_X2_crossed (by decide) (by first | assumption | exact ⟨by decide, rfl⟩) (by decide) rfl (Nat.le_of_ble_eq_true rfl) dX2_isFolded_20 rfl (c_X2_crossed (a := 3) (b := 0) hC (by decide +kernel) (by decide +kernel) (by decide) (by decide)) ?_
    refine x_ladd (pc' := 24) dX2_isFolded_23 rfl ?_
    refine x_aload_n (pc' := 25) rfl dX2_isFolded_24 rfl ?_
    refine x_iload_n (pc' := 26) rfl dX2_isFolded_25 rfl ?_
    refine x_iconst (v := 1) (pc' := 27) (by decide) dX2_isFolded_26 rfl ?_
    refine x_iadd (pc' := 28) dX2_isFolded_27 rfl ?_
    refine x_iload_n (pc' := 29) rfl dX2_isFolded_28 rfl ?_
    refine x_iconst (v := 1) (pc' := 30) (by decide) dX2_isFolded_29 rfl ?_
    refine x_isub (pc' := 31) dX2_isFolded_30 rfl ?_
    refine x_callVi (As := [.int _, .int _]) (rest := [.long _]) (ci := 1) (pc' := 34) rfl vk_X2_64 mk_X2_crossed (by decide) (by first | assumption | exact ⟨by decide, rfl⟩) (by decide) rfl (Nat.le_of_ble_eq_true rfl) dX2_isFolded_31 rfl (c_X2_crossed (a := 0) (b := 2) hC (by decide +kernel) (by decide +kernel) (by decide) (by decide)) ?_
    refine x_ladd (pc' := 35) dX2_isFolded_34 rfl ?_
    refine x_lconst (v := 0) (pc' := 36) (by decide) dX2_isFolded_35 rfl ?_
    refine x_lcmp (pc' := 37) dX2_isFolded_36 rfl ?_
    refine x_if_gt (tgt := 42) (pc' := 40) (by decide) dX2_isFolded_37 rfl (fun c37 => ?_) (fun c37 => ?_)
    · refine x_iinc (lv' := [_, _]) (pc' := 45) rfl rfl (by decide) rfl dX2_isFolded_42 rfl ?_
      refine x_goto (tgt := 2) (by decide) dX2_isFolded_45 ?_
      exact h4 ⟨f3, f0, f1, (l_nle.mpr ((lg_cmp_gt _ _).mp c37))⟩
    · refine x_iconst (v := 1) (pc' := 41) (by decide) dX2_isFolded_40 rfl ?_
      exact x_zret rfl (by first | rfl | exact b01_nar _ | exact pb_nar _ | exact chg_nar _ _ _ _) dX2_isFolded_41 (ret_i (pb_1 ⟨2, by decide, l_nlt.mp (fun z => c37 ((lg_cmp_gt _ _).mpr z))⟩).symm)
  have h2 : (¬ fP v g c r 3 ∧ ¬ fP v g c r 0) → Ex M_X2_isFolded (some (.int (pb (foldS v g c r))), σ) 2 [some (.ref 13), some (.int (0 + Int32.ofInt 1 + Int32.ofInt 1))] [] σ := by
    intro ⟨f3, f0⟩
    refine x_iload_n (pc' := 3) rfl dX2_isFolded_2 rfl ?_
    refine x_iconst (v := 4) (pc' := 4) (by decide) dX2_isFolded_3 rfl ?_
    refine x_icmp_ge (tgt := 48) (pc' := 7) (by decide) dX2_isFolded_4 rfl (fun c4 => absurd c4 (by decide +kernel)) (fun c4 => ?_)
    refine x_aload_n (pc' := 8) rfl dX2_isFolded_7 rfl ?_
    refine x_iload_n (pc' := 9) rfl dX2_isFolded_8 rfl ?_
    refine x_iconst (v := 1) (pc' := 10) (by decide) dX2_isFolded_9 rfl ?_
    refine x_isub (pc' := 11) dX2_isFolded_10 rfl ?_
    refine x_iload_n (pc' := 12) rfl dX2_isFolded_11 rfl ?_
    refine x_callVi (As := [.int _, .int _]) (rest := []) (ci := 1) (pc' := 15) rfl vk_X2_64 mk_X2_crossed (by decide) (by first | assumption | exact ⟨by decide, rfl⟩) (by decide) rfl (Nat.le_of_ble_eq_true rfl) dX2_isFolded_12 rfl (c_X2_crossed (a := 1) (b := 2) hC (by decide +kernel) (by decide +kernel) (by decide) (by decide)) ?_
    refine x_aload_n (pc' := 16) rfl dX2_isFolded_15 rfl ?_
    refine x_iload_n (pc' := 17) rfl dX2_isFolded_16 rfl ?_
    refine x_iload_n (pc' := 18) rfl dX2_isFolded_17 rfl ?_
    refine x_iconst (v := 1) (pc' := 19) (by decide) dX2_isFolded_18 rfl ?_
    refine x_iadd (pc' := 20) dX2_isFolded_19 rfl ?_
    refine x_callVi (As := [.int _, .int _]) (rest := [.long _]) (ci := 1) (pc' := 23) rfl vk_X2_64 mk_X2_crossed (by decide) (by first | assumption | exact ⟨by decide, rfl⟩) (by decide) rfl (Nat.le_of_ble_eq_true rfl) dX2_isFolded_20 rfl (c_X2_crossed (a := 2) (b := 3) hC (by decide +kernel) (by decide +kernel) (by decide) (by decide)) ?_
    refine x_ladd (pc' := 24) dX2_isFolded_23 rfl ?_
    refine x_aload_n (pc' := 25) rfl dX2_isFolded_24 rfl ?_
    refine x_iload_n (pc' := 26) rfl dX2_isFolded_25 rfl ?_
    refine x_iconst (v := 1) (pc' := 27) (by decide) dX2_isFolded_26 rfl ?_
    refine x_iadd (pc' := 28) dX2_isFolded_27 rfl ?_
    refine x_iload_n (pc' := 29) rfl dX2_isFolded_28 rfl ?_
    refine x_iconst (v := 1) (pc' := 30) (by decide) dX2_isFolded_29 rfl ?_
    refine x_isub (pc' := 31) dX2_isFolded_30 rfl ?_
    refine x_callVi (As := [.int _, .int _]) (rest := [.long _]) (ci := 1) (pc' := 34) rfl vk_X2_64 mk_X2_crossed (by decide) (by first | assumption | exact ⟨by decide, rfl⟩) (by decide) rfl (Nat.le_of_ble_eq_true rfl) dX2_isFolded_31 rfl (c_X2_crossed (a := 3) (b := 1) hC (by decide +kernel) (by decide +kernel) (by decide) (by decide)) ?_
    refine x_ladd (pc' := 35) dX2_isFolded_34 rfl ?_
    refine x_lconst (v := 0) (pc' := 36) (by decide) dX2_isFolded_35 rfl ?_
    refine x_lcmp (pc' := 37) dX2_isFolded_36 rfl ?_
    refine x_if_gt (tgt := 42) (pc' := 40) (by decide) dX2_isFolded_37 rfl (fun c37 => ?_) (fun c37 => ?_)
    · refine x_iinc (lv' := [_, _]) (pc' := 45) rfl rfl (by decide) rfl dX2_isFolded_42 rfl ?_
      refine x_goto (tgt := 2) (by decide) dX2_isFolded_45 ?_
      exact h3 ⟨f3, f0, (l_nle.mpr ((lg_cmp_gt _ _).mp c37))⟩
    · refine x_iconst (v := 1) (pc' := 41) (by decide) dX2_isFolded_40 rfl ?_
      exact x_zret rfl (by first | rfl | exact b01_nar _ | exact pb_nar _ | exact chg_nar _ _ _ _) dX2_isFolded_41 (ret_i (pb_1 ⟨1, by decide, l_nlt.mp (fun z => c37 ((lg_cmp_gt _ _).mpr z))⟩).symm)
  have h1 : (¬ fP v g c r 3) → Ex M_X2_isFolded (some (.int (pb (foldS v g c r))), σ) 2 [some (.ref 13), some (.int (0 + Int32.ofInt 1))] [] σ := by
    intro f3
    refine x_iload_n (pc' := 3) rfl dX2_isFolded_2 rfl ?_
    refine x_iconst (v := 4) (pc' := 4) (by decide) dX2_isFolded_3 rfl ?_
    refine x_icmp_ge (tgt := 48) (pc' := 7) (by decide) dX2_isFolded_4 rfl (fun c4 => absurd c4 (by decide +kernel)) (fun c4 => ?_)
    refine x_aload_n (pc' := 8) rfl dX2_isFolded_7 rfl ?_
    refine x_iload_n (pc' := 9) rfl dX2_isFolded_8 rfl ?_
    refine x_iconst (v := 1) (pc' := 10) (by decide) dX2_isFolded_9 rfl ?_
    refine x_isub (pc' := 11) dX2_isFolded_10 rfl ?_
    refine x_iload_n (pc' := 12) rfl dX2_isFolded_11 rfl ?_
    refine x_callVi (As := [.int _, .int _]) (rest := []) (ci := 1) (pc' := 15) rfl vk_X2_64 mk_X2_crossed (by decide) (by first | assumption | exact ⟨by decide, rfl⟩) (by decide) rfl (Nat.le_of_ble_eq_true rfl) dX2_isFolded_12 rfl (c_X2_crossed (a := 0) (b := 1) hC (by decide +kernel) (by decide +kernel) (by decide) (by decide)) ?_
    refine x_aload_n (pc' := 16) rfl dX2_isFolded_15 rfl ?_
    refine x_iload_n (pc' := 17) rfl dX2_isFolded_16 rfl ?_
    refine x_iload_n (pc' := 18) rfl dX2_isFolded_17 rfl ?_
    refine x_iconst (v := 1) (pc' := 19) (by decide) dX2_isFolded_18 rfl ?_
    refine x_iadd (pc' := 20) dX2_isFolded_19 rfl ?_
    refine x_callVi (As := [.int _, .int _]) (rest := [.long _]) (ci := 1) (pc' := 23) rfl vk_X2_64 mk_X2_crossed (by decide) (by first | assumption | exact ⟨by decide, rfl⟩) (by decide) rfl (Nat.le_of_ble_eq_true rfl) dX2_isFolded_20 rfl (c_X2_crossed (a := 1) (b := 2) hC (by decide +kernel) (by decide +kernel) (by decide) (by decide)) ?_
    refine x_ladd (pc' := 24) dX2_isFolded_23 rfl ?_
    refine x_aload_n (pc' := 25) rfl dX2_isFolded_24 rfl ?_
    refine x_iload_n (pc' := 26) rfl dX2_isFolded_25 rfl ?_
    refine x_iconst (v := 1) (pc' := 27) (by decide) dX2_isFolded_26 rfl ?_
    refine x_iadd (pc' := 28) dX2_isFolded_27 rfl ?_
    refine x_iload_n (pc' := 29) rfl dX2_isFolded_28 rfl ?_
    refine x_iconst (v := 1) (pc' := 30) (by decide) dX2_isFolded_29 rfl ?_
    refine x_isub (pc' := 31) dX2_isFolded_30 rfl ?_
    refine x_callVi (As := [.int _, .int _]) (rest := [.long _]) (ci := 1) (pc' := 34) rfl vk_X2_64 mk_X2_crossed (by decide) (by first | assumption | exact ⟨by decide, rfl⟩) (by decide) rfl (Nat.le_of_ble_eq_true rfl) dX2_isFolded_31 rfl (c_X2_crossed (a := 2) (b := 0) hC (by decide +kernel) (by decide +kernel) (by decide) (by decide)) ?_
    refine x_ladd (pc' := 35) dX2_isFolded_34 rfl ?_
    refine x_lconst (v := 0) (pc' := 36) (by decide) dX2_isFolded_35 rfl ?_
    refine x_lcmp (pc' := 37) dX2_isFolded_36 rfl ?_
    refine x_if_gt (tgt := 42) (pc' := 40) (by decide) dX2_isFolded_37 rfl (fun c37 => ?_) (fun c37 => ?_)
    · refine x_iinc (lv' := [_, _]) (pc' := 45) rfl rfl (by decide) rfl dX2_isFolded_42 rfl ?_
      refine x_goto (tgt := 2) (by decide) dX2_isFolded_45 ?_
      exact h2 ⟨f3, (l_nle.mpr ((lg_cmp_gt _ _).mp c37))⟩
    · refine x_iconst (v := 1) (pc' := 41) (by decide) dX2_isFolded_40 rfl ?_
      exact x_zret rfl (by first | rfl | exact b01_nar _ | exact pb_nar _ | exact chg_nar _ _ _ _) dX2_isFolded_41 (ret_i (pb_1 ⟨0, by decide, l_nlt.mp (fun z => c37 ((lg_cmp_gt _ _).mpr z))⟩).symm)
  have h0 : Ex M_X2_isFolded (some (.int (pb (foldS v g c r))), σ) 2 [some (.ref 13), some (.int (0))] [] σ := by
    refine x_iload_n (pc' := 3) rfl dX2_isFolded_2 rfl ?_
    refine x_iconst (v := 4) (pc' := 4) (by decide) dX2_isFolded_3 rfl ?_
    refine x_icmp_ge (tgt := 48) (pc' := 7) (by decide) dX2_isFolded_4 rfl (fun c4 => absurd c4 (by decide +kernel)) (fun c4 => ?_)
    refine x_aload_n (pc' := 8) rfl dX2_isFolded_7 rfl ?_
    refine x_iload_n (pc' := 9) rfl dX2_isFolded_8 rfl ?_
    refine x_iconst (v := 1) (pc' := 10) (by decide) dX2_isFolded_9 rfl ?_
    refine x_isub (pc' := 11) dX2_isFolded_10 rfl ?_
    refine x_iload_n (pc' := 12) rfl dX2_isFolded_11 rfl ?_
    refine x_callVi (As := [.int _, .int _]) (rest := []) (ci := 1) (pc' := 15) rfl vk_X2_64 mk_X2_crossed (by decide) (by first | assumption | exact ⟨by decide, rfl⟩) (by decide) rfl (Nat.le_of_ble_eq_true rfl) dX2_isFolded_12 rfl (c_X2_crossed (a := 3) (b := 0) hC (by decide +kernel) (by decide +kernel) (by decide) (by decide)) ?_
    refine x_aload_n (pc' := 16) rfl dX2_isFolded_15 rfl ?_
    refine x_iload_n (pc' := 17) rfl dX2_isFolded_16 rfl ?_
    refine x_iload_n (pc' := 18) rfl dX2_isFolded_17 rfl ?_
    refine x_iconst (v := 1) (pc' := 19) (by decide) dX2_isFolded_18 rfl ?_
    refine x_iadd (pc' := 20) dX2_isFolded_19 rfl ?_
    refine x_callVi (As := [.int _, .int _]) (rest := [.long _]) (ci := 1) (pc' := 23) rfl vk_X2_64 mk_X2_crossed (by decide) (by first | assumption | exact ⟨by decide, rfl⟩) (by decide) rfl (Nat.le_of_ble_eq_true rfl) dX2_isFolded_20 rfl (c_X2_crossed (a := 0) (b := 1) hC (by decide +kernel) (by decide +kernel) (by decide) (by decide)) ?_
    refine x_ladd (pc' := 24) dX2_isFolded_23 rfl ?_
    refine x_aload_n (pc' := 25) rfl dX2_isFolded_24 rfl ?_
    refine x_iload_n (pc' := 26) rfl dX2_isFolded_25 rfl ?_
    refine x_iconst (v := 1) (pc' := 27) (by decide) dX2_isFolded_26 rfl ?_
    refine x_iadd (pc' := 28) dX2_isFolded_27 rfl ?_
    refine x_iload_n (pc' := 29) rfl dX2_isFolded_28 rfl ?_
    refine x_iconst (v := 1) (pc' := 30) (by decide) dX2_isFolded_29 rfl ?_
    refine x_isub (pc' := 31) dX2_isFolded_30 rfl ?_
    refine x_callVi (As := [.int _, .int _]) (rest := [.long _]) (ci := 1) (pc' := 34) rfl vk_X2_64 mk_X2_crossed (by decide) (by first | assumption | exact ⟨by decide, rfl⟩) (by decide) rfl (Nat.le_of_ble_eq_true rfl) dX2_isFolded_31 rfl (c_X2_crossed (a := 1) (b := 3) hC (by decide +kernel) (by decide +kernel) (by decide) (by decide)) ?_
    refine x_ladd (pc' := 35) dX2_isFolded_34 rfl ?_
    refine x_lconst (v := 0) (pc' := 36) (by decide) dX2_isFolded_35 rfl ?_
    refine x_lcmp (pc' := 37) dX2_isFolded_36 rfl ?_
    refine x_if_gt (tgt := 42) (pc' := 40) (by decide) dX2_isFolded_37 rfl (fun c37 => ?_) (fun c37 => ?_)
    · refine x_iinc (lv' := [_, _]) (pc' := 45) rfl rfl (by decide) rfl dX2_isFolded_42 rfl ?_
      refine x_goto (tgt := 2) (by decide) dX2_isFolded_45 ?_
      exact h1 (l_nle.mpr ((lg_cmp_gt _ _).mp c37))
    · refine x_iconst (v := 1) (pc' := 41) (by decide) dX2_isFolded_40 rfl ?_
      exact x_zret rfl (by first | rfl | exact b01_nar _ | exact pb_nar _ | exact chg_nar _ _ _ _) dX2_isFolded_41 (ret_i (pb_1 ⟨3, by decide, l_nlt.mp (fun z => c37 ((lg_cmp_gt _ _).mpr z))⟩).symm)
  refine ct_of (k := 1) rfl rfl rfl (Nat.le_of_ble_eq_true rfl) ?_
  refine x_iconst (v := 0) (pc' := 1) (by decide) dX2_isFolded_0 rfl ?_
  refine x_istore_n (lv' := [_, _]) (pc' := 2) (by decide) rfl dX2_isFolded_1 rfl ?_
  exact h0
