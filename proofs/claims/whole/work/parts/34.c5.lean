set_option maxRecDepth 100000 in
set_option maxHeartbeats 4000000 in
theorem c_X9_isWithin {σ : St} {x a b : Int32} : Ct yX9_isWithin M_X9_isWithin [.int x, .int a, .int b] σ (some (.int (pb (a ≤ x ∧ x ≤ b))), σ) := by
  refine ct_of (k := 0) rfl rfl rfl (Nat.le_of_ble_eq_true rfl) ?_
  refine x_iload_n (pc' := 1) rfl dX9_isWithin_0 rfl ?_
  refine x_iload_n (pc' := 2) rfl dX9_isWithin_1 rfl ?_
  refine x_icmp_lt (tgt := 14) (pc' := 5) (by decide) dX9_isWithin_2 rfl (fun c2 => ?_) (fun c2 => ?_)
  · refine x_iconst (v := 0) (pc' := 15) (by decide) dX9_isWithin_14 rfl ?_
    exact x_zret rfl (by first | rfl | exact b01_nar _ | exact pb_nar _ | exact chg_nar _ _ _ _) dX9_isWithin_15 (ret_i (pb_0 (fun q => i_nlt.mpr q.1 c2)).symm)
  · refine x_iload_n (pc' := 6) rfl dX9_isWithin_5 rfl ?_
    refine x_iload_n (pc' := 7) rfl dX9_isWithin_6 rfl ?_
    refine x_icmp_gt (tgt := 14) (pc' := 10) (by decide) dX9_isWithin_7 rfl (fun c7 => ?_) (fun c7 => ?_)
    · refine x_iconst (v := 0) (pc' := 15) (by decide) dX9_isWithin_14 rfl ?_
      exact x_zret rfl (by first | rfl | exact b01_nar _ | exact pb_nar _ | exact chg_nar _ _ _ _) dX9_isWithin_15 (ret_i (pb_0 (fun q => i_nlt.mpr q.2 c7)).symm)
    · refine x_iconst (v := 1) (pc' := 11) (by decide) dX9_isWithin_10 rfl ?_
      refine x_goto (tgt := 15) (by decide) dX9_isWithin_11 ?_
      exact x_zret rfl (by first | rfl | exact b01_nar _ | exact pb_nar _ | exact chg_nar _ _ _ _) dX9_isWithin_15 (ret_i (pb_1 ⟨i_nlt.mp c2, i_nlt.mp c7⟩).symm)
set_option maxRecDepth 100000 in
set_option maxHeartbeats 4000000 in
theorem c_X9_isPlace {σ : St} {x y : Int32} : Ct yX9_isPlace M_X9_isPlace [.int x, .int y] σ (some (.int (pb (plc x y))), σ) := by
  refine ct_of (k := 0) rfl rfl rfl (Nat.le_of_ble_eq_true rfl) ?_
  refine x_iload_n (pc' := 1) rfl dX9_isPlace_0 rfl ?_
  refine x_iconst (v := 0) (pc' := 2) (by decide) dX9_isPlace_1 rfl ?_
  refine x_ldc_w (pc' := 5) kc_X9_288 dX9_isPlace_2 rfl ?_
  refine x_callSi (As := [.int _, .int _, .int _]) (rest := []) (pc' := 8) rfl sk_X9_143 mk_X9_isWithin (by decide) rfl (Nat.le_of_ble_eq_true rfl) dX9_isPlace_5 rfl c_X9_isWithin ?_
  refine x_if_eq (tgt := 26) (pc' := 11) (by decide) dX9_isPlace_8 rfl (fun c8 => ?_) (fun c8 => ?_)
  · refine x_iconst (v := 0) (pc' := 27) (by decide) dX9_isPlace_26 rfl ?_
    exact x_zret rfl (by first | rfl | exact b01_nar _ | exact pb_nar _ | exact chg_nar _ _ _ _) dX9_isPlace_27 (ret_i (pb_0 (fun q => pb_iff.mp c8 q.1)).symm)
  · refine x_iload_n (pc' := 12) rfl dX9_isPlace_11 rfl ?_
    refine x_iconst (v := 0) (pc' := 13) (by decide) dX9_isPlace_12 rfl ?_
    refine x_ldc_w (pc' := 16) kc_X9_288 dX9_isPlace_13 rfl ?_
    refine x_callSi (As := [.int _, .int _, .int _]) (rest := []) (pc' := 19) rfl sk_X9_143 mk_X9_isWithin (by decide) rfl (Nat.le_of_ble_eq_true rfl) dX9_isPlace_16 rfl c_X9_isWithin ?_
    refine x_if_eq (tgt := 26) (pc' := 22) (by decide) dX9_isPlace_19 rfl (fun c19 => ?_) (fun c19 => ?_)
    · refine x_iconst (v := 0) (pc' := 27) (by decide) dX9_isPlace_26 rfl ?_
      exact x_zret rfl (by first | rfl | exact b01_nar _ | exact pb_nar _ | exact chg_nar _ _ _ _) dX9_isPlace_27 (ret_i (pb_0 (fun q => pb_iff.mp c19 q.2)).symm)
    · refine x_iconst (v := 1) (pc' := 23) (by decide) dX9_isPlace_22 rfl ?_
      refine x_goto (tgt := 27) (by decide) dX9_isPlace_23 ?_
      exact x_zret rfl (by first | rfl | exact b01_nar _ | exact pb_nar _ | exact chg_nar _ _ _ _) dX9_isPlace_27 (ret_i (pb_1 ⟨pb_n c8, pb_n c19⟩).symm)
set_option maxRecDepth 100000 in
set_option maxHeartbeats 4000000 in
theorem c_X9_isNewPlace {σ : St} {x y : Int32} : Ct yX9_isNewPlace M_X9_isNewPlace [.int x, .int y] σ (some (.int (pb (newP x y))), σ) := by
  refine ct_of (k := 0) rfl rfl rfl (Nat.le_of_ble_eq_true rfl) ?_
  refine x_iload_n (pc' := 1) rfl dX9_isNewPlace_0 rfl ?_
  refine x_sipush (v := (-10000)) (pc' := 4) (by decide) dX9_isNewPlace_1 rfl ?_
  refine x_ldc_w (pc' := 7) kc_X9_289 dX9_isNewPlace_4 rfl ?_
  refine x_callSi (As := [.int _, .int _, .int _]) (rest := []) (pc' := 10) rfl sk_X9_143 mk_X9_isWithin (by decide) rfl (Nat.le_of_ble_eq_true rfl) dX9_isNewPlace_7 rfl c_X9_isWithin ?_
  refine x_if_eq (tgt := 30) (pc' := 13) (by decide) dX9_isNewPlace_10 rfl (fun c10 => ?_) (fun c10 => ?_)
  · refine x_iconst (v := 0) (pc' := 31) (by decide) dX9_isNewPlace_30 rfl ?_
    exact x_zret rfl (by first | rfl | exact b01_nar _ | exact pb_nar _ | exact chg_nar _ _ _ _) dX9_isNewPlace_31 (ret_i (pb_0 (fun q => pb_iff.mp c10 q.1)).symm)
  · refine x_iload_n (pc' := 14) rfl dX9_isNewPlace_13 rfl ?_
    refine x_sipush (v := (-10000)) (pc' := 17) (by decide) dX9_isNewPlace_14 rfl ?_
    refine x_ldc_w (pc' := 20) kc_X9_289 dX9_isNewPlace_17 rfl ?_
    refine x_callSi (As := [.int _, .int _, .int _]) (rest := []) (pc' := 23) rfl sk_X9_143 mk_X9_isWithin (by decide) rfl (Nat.le_of_ble_eq_true rfl) dX9_isNewPlace_20 rfl c_X9_isWithin ?_
    refine x_if_eq (tgt := 30) (pc' := 26) (by decide) dX9_isNewPlace_23 rfl (fun c23 => ?_) (fun c23 => ?_)
    · refine x_iconst (v := 0) (pc' := 31) (by decide) dX9_isNewPlace_30 rfl ?_
      exact x_zret rfl (by first | rfl | exact b01_nar _ | exact pb_nar _ | exact chg_nar _ _ _ _) dX9_isNewPlace_31 (ret_i (pb_0 (fun q => pb_iff.mp c23 q.2)).symm)
    · refine x_iconst (v := 1) (pc' := 27) (by decide) dX9_isNewPlace_26 rfl ?_
      refine x_goto (tgt := 31) (by decide) dX9_isNewPlace_27 ?_
      exact x_zret rfl (by first | rfl | exact b01_nar _ | exact pb_nar _ | exact chg_nar _ _ _ _) dX9_isNewPlace_31 (ret_i (pb_1 ⟨pb_n c10, pb_n c23⟩).symm)
set_option maxRecDepth 100000 in
set_option maxHeartbeats 4000000 in
theorem c_X9_isOffset {σ : St} {x y : Int32} : Ct yX9_isOffset M_X9_isOffset [.int x, .int y] σ (some (.int (pb (ofsP x y))), σ) := by
  refine ct_of (k := 0) rfl rfl rfl (Nat.le_of_ble_eq_true rfl) ?_
  refine x_iload_n (pc' := 1) rfl dX9_isOffset_0 rfl ?_
  refine x_sipush (v := (-999)) (pc' := 4) (by decide) dX9_isOffset_1 rfl ?_
  refine x_sipush (v := 999) (pc' := 7) (by decide) dX9_isOffset_4 rfl ?_
  refine x_callSi (As := [.int _, .int _, .int _]) (rest := []) (pc' := 10) rfl sk_X9_143 mk_X9_isWithin (by decide) rfl (Nat.le_of_ble_eq_true rfl) dX9_isOffset_7 rfl c_X9_isWithin ?_
  refine x_if_eq (tgt := 30) (pc' := 13) (by decide) dX9_isOffset_10 rfl (fun c10 => ?_) (fun c10 => ?_)
  · refine x_iconst (v := 0) (pc' := 31) (by decide) dX9_isOffset_30 rfl ?_
    exact x_zret rfl (by first | rfl | exact b01_nar _ | exact pb_nar _ | exact chg_nar _ _ _ _) dX9_isOffset_31 (ret_i (pb_0 (fun q => pb_iff.mp c10 q.1)).symm)
  · refine x_iload_n (pc' := 14) rfl dX9_isOffset_13 rfl ?_
    refine x_sipush (v := (-999)) (pc' := 17) (by decide) dX9_isOffset_14 rfl ?_
    refine x_sipush (v := 999) (pc' := 20) (by decide) dX9_isOffset_17 rfl ?_
    refine x_callSi (As := [.int _, .int _, .int _]) (rest := []) (pc' := 23) rfl sk_X9_143 mk_X9_isWithin (by decide) rfl (Nat.le_of_ble_eq_true rfl) dX9_isOffset_20 rfl c_X9_isWithin ?_
    refine x_if_eq (tgt := 30) (pc' := 26) (by decide) dX9_isOffset_23 rfl (fun c23 => ?_) (fun c23 => ?_)
    · refine x_iconst (v := 0) (pc' := 31) (by decide) dX9_isOffset_30 rfl ?_
      exact x_zret rfl (by first | rfl | exact b01_nar _ | exact pb_nar _ | exact chg_nar _ _ _ _) dX9_isOffset_31 (ret_i (pb_0 (fun q => pb_iff.mp c23 q.2)).symm)
    · refine x_iconst (v := 1) (pc' := 27) (by decide) dX9_isOffset_26 rfl ?_
      refine x_goto (tgt := 31) (by decide) dX9_isOffset_27 ?_
      exact x_zret rfl (by first | rfl | exact b01_nar _ | exact pb_nar _ | exact chg_nar _ _ _ _) dX9_isOffset_31 (ret_i (pb_1 ⟨pb_n c10, pb_n c23⟩).symm)
set_option maxRecDepth 100000 in
set_option maxHeartbeats 4000000 in
theorem c_X9_isGridWithin {σ : St} {x y s c r : Int32} : Ct yX9_isGridWithin M_X9_isGridWithin [.int x, .int y, .int s, .int c, .int r] σ (some (.int (pb (gB x y s c r))), σ) := by
  refine ct_of (k := 0) rfl rfl rfl (Nat.le_of_ble_eq_true rfl) ?_
  refine x_iload_n (pc' := 1) rfl dX9_isGridWithin_0 rfl ?_
  refine x_iconst (v := 0) (pc' := 2) (by decide) dX9_isGridWithin_1 rfl ?_
  refine x_sipush (v := 1000) (pc' := 5) (by decide) dX9_isGridWithin_2 rfl ?_
  refine x_callSi (As := [.int _, .int _, .int _]) (rest := []) (pc' := 8) rfl sk_X9_143 mk_X9_isWithin (by decide) rfl (Nat.le_of_ble_eq_true rfl) dX9_isGridWithin_5 rfl c_X9_isWithin ?_
  refine x_if_eq (tgt := 82) (pc' := 11) (by decide) dX9_isGridWithin_8 rfl (fun c8 => ?_) (fun c8 => ?_)
  · refine x_iconst (v := 0) (pc' := 83) (by decide) dX9_isGridWithin_82 rfl ?_
    exact x_zret rfl (by first | rfl | exact b01_nar _ | exact pb_nar _ | exact chg_nar _ _ _ _) dX9_isGridWithin_83 (ret_i (pb_0 (fun q => pb_iff.mp c8 q.1.1)).symm)
  · refine x_iload_n (pc' := 12) rfl dX9_isGridWithin_11 rfl ?_
    refine x_iconst (v := 0) (pc' := 13) (by decide) dX9_isGridWithin_12 rfl ?_
    refine x_sipush (v := 1000) (pc' := 16) (by decide) dX9_isGridWithin_13 rfl ?_
    refine x_callSi (As := [.int _, .int _, .int _]) (rest := []) (pc' := 19) rfl sk_X9_143 mk_X9_isWithin (by decide) rfl (Nat.le_of_ble_eq_true rfl) dX9_isGridWithin_16 rfl c_X9_isWithin ?_
    refine x_if_eq (tgt := 82) (pc' := 22) (by decide) dX9_isGridWithin_19 rfl (fun c19 => ?_) (fun c19 => ?_)
    · refine x_iconst (v := 0) (pc' := 83) (by decide) dX9_isGridWithin_82 rfl ?_
      exact x_zret rfl (by first | rfl | exact b01_nar _ | exact pb_nar _ | exact chg_nar _ _ _ _) dX9_isGridWithin_83 (ret_i (pb_0 (fun q => pb_iff.mp c19 q.1.2.1)).symm)
    · refine x_iload_n (pc' := 23) rfl dX9_isGridWithin_22 rfl ?_
      refine x_iconst (v := 1) (pc' := 24) (by decide) dX9_isGridWithin_23 rfl ?_
      refine x_bipush (v := 64) (pc' := 26) (by decide) dX9_isGridWithin_24 rfl ?_
      refine x_callSi (As := [.int _, .int _, .int _]) (rest := []) (pc' := 29) rfl sk_X9_143 mk_X9_isWithin (by decide) rfl (Nat.le_of_ble_eq_true rfl) dX9_isGridWithin_26 rfl c_X9_isWithin ?_
      refine x_if_eq (tgt := 82) (pc' := 32) (by decide) dX9_isGridWithin_29 rfl (fun c29 => ?_) (fun c29 => ?_)
      · refine x_iconst (v := 0) (pc' := 83) (by decide) dX9_isGridWithin_82 rfl ?_
        exact x_zret rfl (by first | rfl | exact b01_nar _ | exact pb_nar _ | exact chg_nar _ _ _ _) dX9_isGridWithin_83 (ret_i (pb_0 (fun q => pb_iff.mp c29 q.1.2.2.1)).symm)
      · refine x_iload_n (pc' := 33) rfl dX9_isGridWithin_32 rfl ?_
        refine x_iconst (v := 2) (pc' := 34) (by decide) dX9_isGridWithin_33 rfl ?_
        refine x_iconst (v := 5) (pc' := 35) (by decide) dX9_isGridWithin_34 rfl ?_
        refine x_callSi (As := [.int _, .int _, .int _]) (rest := []) (pc' := 38) rfl sk_X9_143 mk_X9_isWithin (by decide) rfl (Nat.le_of_ble_eq_true rfl) dX9_isGridWithin_35 rfl c_X9_isWithin ?_
        refine x_if_eq (tgt := 82) (pc' := 41) (by decide) dX9_isGridWithin_38 rfl (fun c38 => ?_) (fun c38 => ?_)
        · refine x_iconst (v := 0) (pc' := 83) (by decide) dX9_isGridWithin_82 rfl ?_
          exact x_zret rfl (by first | rfl | exact b01_nar _ | exact pb_nar _ | exact chg_nar _ _ _ _) dX9_isGridWithin_83 (ret_i (pb_0 (fun q => pb_iff.mp c38 q.1.2.2.2.1)).symm)
        · refine x_iload (pc' := 43) rfl dX9_isGridWithin_41 rfl ?_
          refine x_iconst (v := 2) (pc' := 44) (by decide) dX9_isGridWithin_43 rfl ?_
          refine x_iconst (v := 5) (pc' := 45) (by decide) dX9_isGridWithin_44 rfl ?_
          refine x_callSi (As := [.int _, .int _, .int _]) (rest := []) (pc' := 48) rfl sk_X9_143 mk_X9_isWithin (by decide) rfl (Nat.le_of_ble_eq_true rfl) dX9_isGridWithin_45 rfl c_X9_isWithin ?_
          refine x_if_eq (tgt := 82) (pc' := 51) (by decide) dX9_isGridWithin_48 rfl (fun c48 => ?_) (fun c48 => ?_)
          · refine x_iconst (v := 0) (pc' := 83) (by decide) dX9_isGridWithin_82 rfl ?_
            exact x_zret rfl (by first | rfl | exact b01_nar _ | exact pb_nar _ | exact chg_nar _ _ _ _) dX9_isGridWithin_83 (ret_i (pb_0 (fun q => pb_iff.mp c48 q.1.2.2.2.2)).symm)
          · refine x_iload_n (pc' := 52) rfl dX9_isGridWithin_51 rfl ?_
            refine x_iload_n (pc' := 53) rfl dX9_isGridWithin_52 rfl ?_
            refine x_iconst (v := 1) (pc' := 54) (by decide) dX9_isGridWithin_53 rfl ?_
            refine x_isub (pc' := 55) dX9_isGridWithin_54 rfl ?_
            refine x_iload_n (pc' := 56) rfl dX9_isGridWithin_55 rfl ?_
            refine x_imul (pc' := 57) dX9_isGridWithin_56 rfl ?_
            refine x_iadd (pc' := 58) dX9_isGridWithin_57 rfl ?_
            refine x_sipush (v := 1000) (pc' := 61) (by decide) dX9_isGridWithin_58 rfl ?_
            refine x_icmp_gt (tgt := 82) (pc' := 64) (by decide) dX9_isGridWithin_61 rfl (fun c61 => ?_) (fun c61 => ?_)
            · refine x_iconst (v := 0) (pc' := 83) (by decide) dX9_isGridWithin_82 rfl ?_
              exact x_zret rfl (by first | rfl | exact b01_nar _ | exact pb_nar _ | exact chg_nar _ _ _ _) dX9_isGridWithin_83 (ret_i (pb_0 (fun q => i_nlt.mpr q.2.1 c61)).symm)
            · refine x_iload_n (pc' := 65) rfl dX9_isGridWithin_64 rfl ?_
              refine x_iload (pc' := 67) rfl dX9_isGridWithin_65 rfl ?_
              refine x_iconst (v := 1) (pc' := 68) (by decide) dX9_isGridWithin_67 rfl ?_
              refine x_isub (pc' := 69) dX9_isGridWithin_68 rfl ?_
              refine x_iload_n (pc' := 70) rfl dX9_isGridWithin_69 rfl ?_
              refine x_imul (pc' := 71) dX9_isGridWithin_70 rfl ?_
              refine x_iadd (pc' := 72) dX9_isGridWithin_71 rfl ?_
              refine x_sipush (v := 1000) (pc' := 75) (by decide) dX9_isGridWithin_72 rfl ?_
              refine x_icmp_gt (tgt := 82) (pc' := 78) (by decide) dX9_isGridWithin_75 rfl (fun c75 => ?_) (fun c75 => ?_)
              · refine x_iconst (v := 0) (pc' := 83) (by decide) dX9_isGridWithin_82 rfl ?_
                exact x_zret rfl (by first | rfl | exact b01_nar _ | exact pb_nar _ | exact chg_nar _ _ _ _) dX9_isGridWithin_83 (ret_i (pb_0 (fun q => i_nlt.mpr q.2.2 c75)).symm)
              · refine x_iconst (v := 1) (pc' := 79) (by decide) dX9_isGridWithin_78 rfl ?_
                refine x_goto (tgt := 83) (by decide) dX9_isGridWithin_79 ?_
                exact x_zret rfl (by first | rfl | exact b01_nar _ | exact pb_nar _ | exact chg_nar _ _ _ _) dX9_isGridWithin_83 (ret_i (pb_1 ⟨⟨pb_n c8, pb_n c19, pb_n c29, pb_n c38, pb_n c48⟩, i_nlt.mp c61, i_nlt.mp c75⟩).symm)
theorem GRep.sc {σ τ : St} {q g : Nat} {v : Nat → Int32} (hq : isG q) (hr : GRep σ q v g) (h : ScC σ τ) : GRep τ q v g := by
  have hq67 := lay_0_3 hq.1
  exact ⟨fun e he => by rw [h.1 _ _ (by omega)]; exact hr.1 e he, fun c r w hc hr0 hw => by rw [h.1 _ _ (by omega)]; exact hr.2 c r w hc hr0 hw⟩
noncomputable def rowC (v : Nat → Int32) (g : Nat) (z : Int32) (r n : Nat) : Nat := sumN (fun c => cellK v g z c r) n
noncomputable def rwsC (v : Nat → Int32) (g : Nat) (z : Int32) (n : Nat) : Nat := sumN (fun r => rowC v g z r (fN v g 4 - 1)) n
theorem rwsC_all (v : Nat → Int32) (g : Nat) (z : Int32) : rwsC v g z (fN v g 5 - 1) = cellN v g z := sumN_swap (f := fun r c => cellK v g z c r) _ _
theorem nI_m1 {a : Nat} (h : 1 ≤ a) : nI a - 1 = nI (a - 1) := pk_sub (b := 1) h
theorem cK_f1 {v : Nat → Int32} {g c r : Nat} (h : foldS v g c r) : cellK v g 1 c r = 1 := pif_t (Or.inl ⟨by decide, h⟩)
theorem cK_f0 {v : Nat → Int32} {g c r : Nat} (h : ¬ foldS v g c r) : cellK v g 1 c r = 0 := pif_f (fun q => q.elim (fun q => h q.2) (fun q => absurd q.1 (by decide)))
theorem cK_s0 {v : Nat → Int32} {g c r : Nat} (h : sureS v g c r) : cellK v g 0 c r = 0 := pif_f (fun q => q.elim (fun q => q.1 rfl) (fun q => q.2 h))
theorem cK_s1 {v : Nat → Int32} {g c r : Nat} (h : ¬ sureS v g c r) : cellK v g 0 c r = 1 := pif_t (Or.inr ⟨rfl, h⟩)
set_option maxRecDepth 100000 in
set_option maxHeartbeats 4000000 in
theorem l_X9_foldedCells1 {σ : St} {q g : Nat} {v : Nat → Int32} (hq : isG q) (hf : OkF v g) (hr0 : GRep σ q v g) {r : Nat} {X : Option Value} (hrr : r + 1 < fN v g 5) (kk : ∀ τ, ScC σ τ → ∃ τ2, Ex M_X9_foldedCells (X, τ2) 69 [some (.ref 0), some (.ref q), some (.int (nI (rwsC v g 1 r + rowC v g 1 r (fN v g 4 - 1)))), some (.int (nI r)), some (.int (nI (fN v g 4 - 1)))] [] τ ∧ ScC σ τ2) : ∀ (n c : Nat) (τ : St), c + n = fN v g 4 - 1 → ScC σ τ → ∃ τ2, Ex M_X9_foldedCells (X, τ2) 23 [some (.ref 0), some (.ref q), some (.int (nI (rwsC v g 1 r + rowC v g 1 r c))), some (.int (nI r)), some (.int (nI c))] [] τ ∧ ScC σ τ2 := by
  obtain ⟨hq0, hq1⟩ := id hq
  obtain ⟨-, s1, s64, c2, c5, r2, r5, b1, b2⟩ := id hf
  intro n
  induction n with
  | zero =>
    intro c τ hc hs
    have hr := hr0.sc hq hs
    have eC : τ.1 q 5 - 1 = nI (fN v g 4 - 1) := by rw [show τ.1 q 5 = nI (fN v g 4) from hr.at hf (e := 4) (by decide) (by decide)]; exact nI_m1 (by omega)
    obtain rfl : c = fN v g 4 - 1 := by omega
    obtain ⟨τ2, hE, h2⟩ := kk τ hs
    refine ⟨τ2, ?_, h2⟩
    refine x_iload (pc' := 25) rfl dX9_foldedCells_23 rfl ?_
    refine x_aload_n (pc' := 26) rfl dX9_foldedCells_25 rfl ?_
    refine x_get (v := .int _) (pc' := 29) fk_X9_119 (by first | assumption | exact ⟨by decide, rfl⟩) rfl dX9_foldedCells_26 rfl ?_
    refine x_iconst (v := 1) (pc' := 30) (by decide) dX9_foldedCells_29 rfl ?_
    refine x_isub (pc' := 31) dX9_foldedCells_30 rfl ?_
    refine x_icmp_ge (tgt := 69) (pc' := 34) (by decide) dX9_foldedCells_31 rfl (fun c31 => ?_) (fun c31 => absurd (by rw [eC]; exact nI_le (Nat.le_refl _) (by omega)) c31)
    exact hE
  | succ n ih =>
    intro c τ hc hs
    have hr := hr0.sc hq hs
    have eC : τ.1 q 5 - 1 = nI (fN v g 4 - 1) := by rw [show τ.1 q 5 = nI (fN v g 4) from hr.at hf (e := 4) (by decide) (by decide)]; exact nI_m1 (by omega)
    obtain ⟨τ1, hE1, hs1, hC⟩ := c_X2_look hq hf (K := c) (R := r) (by omega) (by omega) hr rfl rfl
    obtain ⟨τ2, hE2, h2⟩ := ih (c + 1) τ1 (by omega) (hs.trans hs1)
    refine ⟨τ2, ?_, h2⟩
    refine x_iload (pc' := 25) rfl dX9_foldedCells_23 rfl ?_
    refine x_aload_n (pc' := 26) rfl dX9_foldedCells_25 rfl ?_
    refine x_get (v := .int _) (pc' := 29) fk_X9_119 (by first | assumption | exact ⟨by decide, rfl⟩) rfl dX9_foldedCells_26 rfl ?_
    refine x_iconst (v := 1) (pc' := 30) (by decide) dX9_foldedCells_29 rfl ?_
    refine x_isub (pc' := 31) dX9_foldedCells_30 rfl ?_
    refine x_icmp_ge (tgt := 69) (pc' := 34) (by decide) dX9_foldedCells_31 rfl (fun c31 => absurd c31 (by rw [eC]; exact nI_ge (by omega) (by omega))) (fun c31 => ?_)
    refine x_aload_n (pc' := 35) rfl dX9_foldedCells_34 rfl ?_
    refine x_get (v := .ref 13) (pc' := 38) fk_X9_57 (by first | assumption | exact ⟨by decide, rfl⟩) rfl dX9_foldedCells_35 rfl ?_
    refine x_aload_n (pc' := 39) rfl dX9_foldedCells_38 rfl ?_
    refine x_iload (pc' := 41) rfl dX9_foldedCells_39 rfl ?_
    refine x_iload_n (pc' := 42) rfl dX9_foldedCells_41 rfl ?_
    refine x_callVv (As := [.ref _, .int _, .int _]) (rest := []) (ci := 1) (pc' := 45) rfl vk_X9_167 mk_X2_look (by decide) (by first | assumption | exact ⟨by decide, rfl⟩) (by decide) rfl (Nat.le_of_ble_eq_true rfl) dX9_foldedCells_42 rfl hE1 ?_
    refine x_iload_n (pc' := 46) rfl dX9_foldedCells_45 rfl ?_
    refine x_aload_n (pc' := 47) rfl dX9_foldedCells_46 rfl ?_
    refine x_get (v := .ref 13) (pc' := 50) fk_X9_57 (by first | assumption | exact ⟨by decide, rfl⟩) rfl dX9_foldedCells_47 rfl ?_
    refine x_callVi (As := []) (rest := [.int _]) (ci := 1) (pc' := 53) rfl vk_X9_178 mk_X2_isFolded (by decide) (by first | assumption | exact ⟨by decide, rfl⟩) (by decide) rfl (Nat.le_of_ble_eq_true rfl) dX9_foldedCells_50 rfl (c_X2_isFolded hC) ?_
    refine x_if_eq (tgt := 60) (pc' := 56) (by decide) dX9_foldedCells_53 rfl (fun c53 => ?_) (fun c53 => ?_)
    · refine x_iconst (v := 0) (pc' := 61) (by decide) dX9_foldedCells_60 rfl ?_
      refine x_top (y := nI (cellK v g 1 c r)) (by rw [cK_f0 (pb_iff.mp c53)]; rfl) ?_
      refine x_iadd (pc' := 62) dX9_foldedCells_61 rfl ?_
      refine x_top (y := nI (rwsC v g 1 r + rowC v g 1 r (c + 1))) (by rw [nI_add, Nat.add_assoc]; rfl) ?_
      refine x_istore_n (lv' := [_, _, _, _, _]) (pc' := 63) (by decide) rfl dX9_foldedCells_62 rfl ?_
      refine x_iinc (lv' := [_, _, _, _, _]) (pc' := 66) rfl (nI_1 c) (by decide) rfl dX9_foldedCells_63 rfl ?_
      refine x_goto (tgt := 23) (by decide) dX9_foldedCells_66 ?_
      exact hE2
    · refine x_iconst (v := 1) (pc' := 57) (by decide) dX9_foldedCells_56 rfl ?_
      refine x_goto (tgt := 61) (by decide) dX9_foldedCells_57 ?_
      refine x_top (y := nI (cellK v g 1 c r)) (by rw [cK_f1 (pb_n c53)]; rfl) ?_
      refine x_iadd (pc' := 62) dX9_foldedCells_61 rfl ?_
      refine x_top (y := nI (rwsC v g 1 r + rowC v g 1 r (c + 1))) (by rw [nI_add, Nat.add_assoc]; rfl) ?_
      refine x_istore_n (lv' := [_, _, _, _, _]) (pc' := 63) (by decide) rfl dX9_foldedCells_62 rfl ?_
      refine x_iinc (lv' := [_, _, _, _, _]) (pc' := 66) rfl (nI_1 c) (by decide) rfl dX9_foldedCells_63 rfl ?_
      refine x_goto (tgt := 23) (by decide) dX9_foldedCells_66 ?_
      exact hE2
set_option maxRecDepth 100000 in
set_option maxHeartbeats 4000000 in
theorem l_X9_foldedCells2 {σ : St} {q g : Nat} {v : Nat → Int32} (hq : isG q) (hf : OkF v g) (hr0 : GRep σ q v g) : ∀ (n r : Nat) (D : Option Value) (τ : St), r + n = fN v g 5 - 1 → ScC σ τ → ∃ τ2, Ex M_X9_foldedCells (some (.int (nI (cellN v g 1))), τ2) 10 [some (.ref 0), some (.ref q), some (.int (nI (rwsC v g 1 r))), some (.int (nI r)), D] [] τ ∧ ScC σ τ2 := by
  obtain ⟨hq0, hq1⟩ := id hq
  obtain ⟨-, s1, s64, c2, c5, r2, r5, b1, b2⟩ := id hf
  intro n
  induction n with
  | zero =>
    intro r D τ hc hs
    have hr := hr0.sc hq hs
    have eR : τ.1 q 6 - 1 = nI (fN v g 5 - 1) := by rw [show τ.1 q 6 = nI (fN v g 5) from hr.at hf (e := 5) (by decide) (by decide)]; exact nI_m1 (by omega)
    obtain rfl : r = fN v g 5 - 1 := by omega
    refine ⟨τ, ?_, hs⟩
    refine x_iload_n (pc' := 11) rfl dX9_foldedCells_10 rfl ?_
    refine x_aload_n (pc' := 12) rfl dX9_foldedCells_11 rfl ?_
    refine x_get (v := .int _) (pc' := 15) fk_X9_122 (by first | assumption | exact ⟨by decide, rfl⟩) rfl dX9_foldedCells_12 rfl ?_
    refine x_iconst (v := 1) (pc' := 16) (by decide) dX9_foldedCells_15 rfl ?_
    refine x_isub (pc' := 17) dX9_foldedCells_16 rfl ?_
    refine x_icmp_ge (tgt := 75) (pc' := 20) (by decide) dX9_foldedCells_17 rfl (fun c17 => ?_) (fun c17 => absurd (by rw [eR]; exact nI_le (Nat.le_refl _) (by omega)) c17)
    refine x_iload_n (pc' := 76) rfl dX9_foldedCells_75 rfl ?_
    exact x_iret rfl dX9_foldedCells_76 (ret_i (by rw [rwsC_all]))
  | succ n ih =>
    intro r D τ hc hs
    have hr := hr0.sc hq hs
    have eR : τ.1 q 6 - 1 = nI (fN v g 5 - 1) := by rw [show τ.1 q 6 = nI (fN v g 5) from hr.at hf (e := 5) (by decide) (by decide)]; exact nI_m1 (by omega)
    obtain ⟨τ2, hE, h2⟩ := l_X9_foldedCells1 hq hf hr0 (r := r) (X := some (.int (nI (cellN v g 1)))) (by omega) (fun ρ hρ => by
      obtain ⟨τ2, hE, h2⟩ := ih (r + 1) (some (.int (nI (fN v g 4 - 1)))) ρ (by omega) hρ
      refine ⟨τ2, ?_, h2⟩
      refine x_iinc (lv' := [_, _, _, _, _]) (pc' := 72) rfl (nI_1 r) (by decide) rfl dX9_foldedCells_69 rfl ?_
      refine x_goto (tgt := 10) (by decide) dX9_foldedCells_72 ?_
      exact hE) (fN v g 4 - 1) 0 τ (Nat.zero_add _) hs
    refine ⟨τ2, ?_, h2⟩
    refine x_iload_n (pc' := 11) rfl dX9_foldedCells_10 rfl ?_
    refine x_aload_n (pc' := 12) rfl dX9_foldedCells_11 rfl ?_
    refine x_get (v := .int _) (pc' := 15) fk_X9_122 (by first | assumption | exact ⟨by decide, rfl⟩) rfl dX9_foldedCells_12 rfl ?_
    refine x_iconst (v := 1) (pc' := 16) (by decide) dX9_foldedCells_15 rfl ?_
    refine x_isub (pc' := 17) dX9_foldedCells_16 rfl ?_
    refine x_icmp_ge (tgt := 75) (pc' := 20) (by decide) dX9_foldedCells_17 rfl (fun c17 => absurd c17 (by rw [eR]; exact nI_ge (by omega) (by omega))) (fun c17 => ?_)
    refine x_iconst (v := 0) (pc' := 21) (by decide) dX9_foldedCells_20 rfl ?_
    refine x_istore (lv' := [_, _, _, _, _]) (pc' := 23) (by decide) rfl dX9_foldedCells_21 rfl ?_
    exact hE
set_option maxRecDepth 100000 in
set_option maxHeartbeats 4000000 in
theorem c_X9_foldedCells {σ : St} {q g : Nat} {v : Nat → Int32} (hq : isG q) (hf : OkF v g) (hr0 : GRep σ q v g) : ∃ τ, Ct yX9_foldedCells M_X9_foldedCells [.ref 0, .ref q] σ (some (.int (nI (cellN v g 1))), τ) ∧ ScC σ τ := by
  obtain ⟨hq0, hq1⟩ := id hq
  obtain ⟨-, s1, s64, c2, c5, r2, r5, b1, b2⟩ := id hf
  obtain ⟨τ2, hE, h2⟩ := l_X9_foldedCells2 hq hf hr0 (fN v g 5 - 1) 0 none σ (Nat.zero_add _) (ScC.rf σ)
  refine ⟨τ2, ?_, h2⟩
  refine ct_of (k := 3) rfl rfl rfl (Nat.le_of_ble_eq_true rfl) ?_
  refine x_aload_n (pc' := 1) rfl dX9_foldedCells_0 rfl ?_
  refine x_ifnonnull (tgt := 6) (by decide) dX9_foldedCells_1 ?_
  refine x_iconst (v := 0) (pc' := 7) (by decide) dX9_foldedCells_6 rfl ?_
  refine x_istore_n (lv' := [_, _, _, _, _]) (pc' := 8) (by decide) rfl dX9_foldedCells_7 rfl ?_
  refine x_iconst (v := 0) (pc' := 9) (by decide) dX9_foldedCells_8 rfl ?_
  refine x_istore_n (lv' := [_, _, _, _, _]) (pc' := 10) (by decide) rfl dX9_foldedCells_9 rfl ?_
  exact hE
set_option maxRecDepth 100000 in
set_option maxHeartbeats 4000000 in
theorem l_X9_unsureCells1 {σ : St} {q g : Nat} {v : Nat → Int32} (hq : isG q) (hf : OkF v g) (hr0 : GRep σ q v g) {r : Nat} {X : Option Value} (hrr : r + 1 < fN v g 5) (kk : ∀ τ, ScC σ τ → ∃ τ2, Ex M_X9_unsureCells (X, τ2) 69 [some (.ref 0), some (.ref q), some (.int (nI (rwsC v g 0 r + rowC v g 0 r (fN v g 4 - 1)))), some (.int (nI r)), some (.int (nI (fN v g 4 - 1)))] [] τ ∧ ScC σ τ2) : ∀ (n c : Nat) (τ : St), c + n = fN v g 4 - 1 → ScC σ τ → ∃ τ2, Ex M_X9_unsureCells (X, τ2) 23 [some (.ref 0), some (.ref q), some (.int (nI (rwsC v g 0 r + rowC v g 0 r c))), some (.int (nI r)), some (.int (nI c))] [] τ ∧ ScC σ τ2 := by
  obtain ⟨hq0, hq1⟩ := id hq
  obtain ⟨-, s1, s64, c2, c5, r2, r5, b1, b2⟩ := id hf
  intro n
  induction n with
  | zero =>
    intro c τ hc hs
    have hr := hr0.sc hq hs
    have eC : τ.1 q 5 - 1 = nI (fN v g 4 - 1) := by rw [show τ.1 q 5 = nI (fN v g 4) from hr.at hf (e := 4) (by decide) (by decide)]; exact nI_m1 (by omega)
    obtain rfl : c = fN v g 4 - 1 := by omega
    obtain ⟨τ2, hE, h2⟩ := kk τ hs
    refine ⟨τ2, ?_, h2⟩
    refine x_iload (pc' := 25) rfl dX9_unsureCells_23 rfl ?_
    refine x_aload_n (pc' := 26) rfl dX9_unsureCells_25 rfl ?_
    refine x_get (v := .int _) (pc' := 29) fk_X9_119 (by first | assumption | exact ⟨by decide, rfl⟩) rfl dX9_unsureCells_26 rfl ?_
    refine x_iconst (v := 1) (pc' := 30) (by decide) dX9_unsureCells_29 rfl ?_
    refine x_isub (pc' := 31) dX9_unsureCells_30 rfl ?_
    refine x_icmp_ge (tgt := 69) (pc' := 34) (by decide) dX9_unsureCells_31 rfl (fun c31 => ?_) (fun c31 => absurd (by rw [eC]; exact nI_le (Nat.le_refl _) (by omega)) c31)
    exact hE
  | succ n ih =>
    intro c τ hc hs
    have hr := hr0.sc hq hs
    have eC : τ.1 q 5 - 1 = nI (fN v g 4 - 1) := by rw [show τ.1 q 5 = nI (fN v g 4) from hr.at hf (e := 4) (by decide) (by decide)]; exact nI_m1 (by omega)
    obtain ⟨τ1, hE1, hs1, hC⟩ := c_X2_look hq hf (K := c) (R := r) (by omega) (by omega) hr rfl rfl
    obtain ⟨τ2, hE2, h2⟩ := ih (c + 1) τ1 (by omega) (hs.trans hs1)
    refine ⟨τ2, ?_, h2⟩
    refine x_iload (pc' := 25) rfl dX9_unsureCells_23 rfl ?_
    refine x_aload_n (pc' := 26) rfl dX9_unsureCells_25 rfl ?_
    refine x_get (v := .int _) (pc' := 29) fk_X9_119 (by first | assumption | exact ⟨by decide, rfl⟩) rfl dX9_unsureCells_26 rfl ?_
    refine x_iconst (v := 1) (pc' := 30) (by decide) dX9_unsureCells_29 rfl ?_
    refine x_isub (pc' := 31) dX9_unsureCells_30 rfl ?_
    refine x_icmp_ge (tgt := 69) (pc' := 34) (by decide) dX9_unsureCells_31 rfl (fun c31 => absurd c31 (by rw [eC]; exact nI_ge (by omega) (by omega))) (fun c31 => ?_)
    refine x_aload_n (pc' := 35) rfl dX9_unsureCells_34 rfl ?_
    refine x_get (v := .ref 13) (pc' := 38) fk_X9_57 (by first | assumption | exact ⟨by decide, rfl⟩) rfl dX9_unsureCells_35 rfl ?_
    refine x_aload_n (pc' := 39) rfl dX9_unsureCells_38 rfl ?_
    refine x_iload (pc' := 41) rfl dX9_unsureCells_39 rfl ?_
    refine x_iload_n (pc' := 42) rfl dX9_unsureCells_41 rfl ?_
    refine x_callVv (As := [.ref _, .int _, .int _]) (rest := []) (ci := 1) (pc' := 45) rfl vk_X9_167 mk_X2_look (by decide) (by first | assumption | exact ⟨by decide, rfl⟩) (by decide) rfl (Nat.le_of_ble_eq_true rfl) dX9_unsureCells_42 rfl hE1 ?_
    refine x_iload_n (pc' := 46) rfl dX9_unsureCells_45 rfl ?_
    refine x_aload_n (pc' := 47) rfl dX9_unsureCells_46 rfl ?_
    refine x_get (v := .ref 13) (pc' := 50) fk_X9_57 (by first | assumption | exact ⟨by decide, rfl⟩) rfl dX9_unsureCells_47 rfl ?_
    refine x_callVi (As := []) (rest := [.int _]) (ci := 1) (pc' := 53) rfl vk_X9_174 mk_X2_isSure (by decide) (by first | assumption | exact ⟨by decide, rfl⟩) (by decide) rfl (Nat.le_of_ble_eq_true rfl) dX9_unsureCells_50 rfl (c_X2_isSure hC) ?_
    refine x_if_eq (tgt := 60) (pc' := 56) (by decide) dX9_unsureCells_53 rfl (fun c53 => ?_) (fun c53 => ?_)
    · refine x_iconst (v := 1) (pc' := 61) (by decide) dX9_unsureCells_60 rfl ?_
      refine x_top (y := nI (cellK v g 0 c r)) (by rw [cK_s1 (pb_iff.mp c53)]; rfl) ?_
      refine x_iadd (pc' := 62) dX9_unsureCells_61 rfl ?_
      refine x_top (y := nI (rwsC v g 0 r + rowC v g 0 r (c + 1))) (by rw [nI_add, Nat.add_assoc]; rfl) ?_
      refine x_istore_n (lv' := [_, _, _, _, _]) (pc' := 63) (by decide) rfl dX9_unsureCells_62 rfl ?_
      refine x_iinc (lv' := [_, _, _, _, _]) (pc' := 66) rfl (nI_1 c) (by decide) rfl dX9_unsureCells_63 rfl ?_
      refine x_goto (tgt := 23) (by decide) dX9_unsureCells_66 ?_
      exact hE2
    · refine x_iconst (v := 0) (pc' := 57) (by decide) dX9_unsureCells_56 rfl ?_
      refine x_goto (tgt := 61) (by decide) dX9_unsureCells_57 ?_
      refine x_top (y := nI (cellK v g 0 c r)) (by rw [cK_s0 (pb_n c53)]; rfl) ?_
      refine x_iadd (pc' := 62) dX9_unsureCells_61 rfl ?_
      refine x_top (y := nI (rwsC v g 0 r + rowC v g 0 r (c + 1))) (by rw [nI_add, Nat.add_assoc]; rfl) ?_
      refine x_istore_n (lv' := [_, _, _, _, _]) (pc' := 63) (by decide) rfl dX9_unsureCells_62 rfl ?_
      refine x_iinc (lv' := [_, _, _, _, _]) (pc' := 66) rfl (nI_1 c) (by decide) rfl dX9_unsureCells_63 rfl ?_
      refine x_goto (tgt := 23) (by decide) dX9_unsureCells_66 ?_
      exact hE2
set_option maxRecDepth 100000 in
set_option maxHeartbeats 4000000 in
theorem l_X9_unsureCells2 {σ : St} {q g : Nat} {v : Nat → Int32} (hq : isG q) (hf : OkF v g) (hr0 : GRep σ q v g) : ∀ (n r : Nat) (D : Option Value) (τ : St), r + n = fN v g 5 - 1 → ScC σ τ → ∃ τ2, Ex M_X9_unsureCells (some (.int (nI (cellN v g 0))), τ2) 10 [some (.ref 0), some (.ref q), some (.int (nI (rwsC v g 0 r))), some (.int (nI r)), D] [] τ ∧ ScC σ τ2 := by
  obtain ⟨hq0, hq1⟩ := id hq
  obtain ⟨-, s1, s64, c2, c5, r2, r5, b1, b2⟩ := id hf
  intro n
  induction n with
  | zero =>
    intro r D τ hc hs
    have hr := hr0.sc hq hs
    have eR : τ.1 q 6 - 1 = nI (fN v g 5 - 1) := by rw [show τ.1 q 6 = nI (fN v g 5) from hr.at hf (e := 5) (by decide) (by decide)]; exact nI_m1 (by omega)
    obtain rfl : r = fN v g 5 - 1 := by omega
    refine ⟨τ, ?_, hs⟩
    refine x_iload_n (pc' := 11) rfl dX9_unsureCells_10 rfl ?_
    refine x_aload_n (pc' := 12) rfl dX9_unsureCells_11 rfl ?_
    refine x_get (v := .int _) (pc' := 15) fk_X9_122 (by first | assumption | exact ⟨by decide, rfl⟩) rfl dX9_unsureCells_12 rfl ?_
    refine x_iconst (v := 1) (pc' := 16) (by decide) dX9_unsureCells_15 rfl ?_
    refine x_isub (pc' := 17) dX9_unsureCells_16 rfl ?_
    refine x_icmp_ge (tgt := 75) (pc' := 20) (by decide) dX9_unsureCells_17 rfl (fun c17 => ?_) (fun c17 => absurd (by rw [eR]; exact nI_le (Nat.le_refl _) (by omega)) c17)
    refine x_iload_n (pc' := 76) rfl dX9_unsureCells_75 rfl ?_
    exact x_iret rfl dX9_unsureCells_76 (ret_i (by rw [rwsC_all]))
  | succ n ih =>
    intro r D τ hc hs
    have hr := hr0.sc hq hs
    have eR : τ.1 q 6 - 1 = nI (fN v g 5 - 1) := by rw [show τ.1 q 6 = nI (fN v g 5) from hr.at hf (e := 5) (by decide) (by decide)]; exact nI_m1 (by omega)
    obtain ⟨τ2, hE, h2⟩ := l_X9_unsureCells1 hq hf hr0 (r := r) (X := some (.int (nI (cellN v g 0)))) (by omega) (fun ρ hρ => by
      obtain ⟨τ2, hE, h2⟩ := ih (r + 1) (some (.int (nI (fN v g 4 - 1)))) ρ (by omega) hρ
      refine ⟨τ2, ?_, h2⟩
      refine x_iinc (lv' := [_, _, _, _, _]) (pc' := 72) rfl (nI_1 r) (by decide) rfl dX9_unsureCells_69 rfl ?_
      refine x_goto (tgt := 10) (by decide) dX9_unsureCells_72 ?_
      exact hE) (fN v g 4 - 1) 0 τ (Nat.zero_add _) hs
    refine ⟨τ2, ?_, h2⟩
    refine x_iload_n (pc' := 11) rfl dX9_unsureCells_10 rfl ?_
    refine x_aload_n (pc' := 12) rfl dX9_unsureCells_11 rfl ?_
    refine x_get (v := .int _) (pc' := 15) fk_X9_122 (by first | assumption | exact ⟨by decide, rfl⟩) rfl dX9_unsureCells_12 rfl ?_
    refine x_iconst (v := 1) (pc' := 16) (by decide) dX9_unsureCells_15 rfl ?_
    refine x_isub (pc' := 17) dX9_unsureCells_16 rfl ?_
    refine x_icmp_ge (tgt := 75) (pc' := 20) (by decide) dX9_unsureCells_17 rfl (fun c17 => absurd c17 (by rw [eR]; exact nI_ge (by omega) (by omega))) (fun c17 => ?_)
    refine x_iconst (v := 0) (pc' := 21) (by decide) dX9_unsureCells_20 rfl ?_
    refine x_istore (lv' := [_, _, _, _, _]) (pc' := 23) (by decide) rfl dX9_unsureCells_21 rfl ?_
    exact hE
set_option maxRecDepth 100000 in
set_option maxHeartbeats 4000000 in
theorem c_X9_unsureCells {σ : St} {q g : Nat} {v : Nat → Int32} (hq : isG q) (hf : OkF v g) (hr0 : GRep σ q v g) : ∃ τ, Ct yX9_unsureCells M_X9_unsureCells [.ref 0, .ref q] σ (some (.int (nI (cellN v g 0))), τ) ∧ ScC σ τ := by
  obtain ⟨hq0, hq1⟩ := id hq
  obtain ⟨-, s1, s64, c2, c5, r2, r5, b1, b2⟩ := id hf
  obtain ⟨τ2, hE, h2⟩ := l_X9_unsureCells2 hq hf hr0 (fN v g 5 - 1) 0 none σ (Nat.zero_add _) (ScC.rf σ)
  refine ⟨τ2, ?_, h2⟩
  refine ct_of (k := 3) rfl rfl rfl (Nat.le_of_ble_eq_true rfl) ?_
  refine x_aload_n (pc' := 1) rfl dX9_unsureCells_0 rfl ?_
  refine x_ifnonnull (tgt := 6) (by decide) dX9_unsureCells_1 ?_
  refine x_iconst (v := 0) (pc' := 7) (by decide) dX9_unsureCells_6 rfl ?_
  refine x_istore_n (lv' := [_, _, _, _, _]) (pc' := 8) (by decide) rfl dX9_unsureCells_7 rfl ?_
  refine x_iconst (v := 0) (pc' := 9) (by decide) dX9_unsureCells_8 rfl ?_
  refine x_istore_n (lv' := [_, _, _, _, _]) (pc' := 10) (by decide) rfl dX9_unsureCells_9 rfl ?_
  exact hE
theorem tlK_5 (v : Nat → Int32) (g : Nat) : tlK v 5 g = gapN v g := if_pos rfl
theorem tlK_4 (v : Nat → Int32) (g : Nat) : tlK v 4 g = cellN v g 1 := by unfold tlK; rw [if_neg (by decide), if_pos (by decide), if_pos rfl]
theorem tlK_3 (v : Nat → Int32) (g : Nat) : tlK v 3 g = cellN v g 0 := by unfold tlK; rw [if_neg (by decide), if_pos (by decide), if_neg (by decide)]
set_option maxRecDepth 100000 in
set_option maxHeartbeats 4000000 in
theorem l_X9_foldedCellsOfAll {σ : St} {v : Nat → Int32} (hR : Rp σ 29 v) : ∀ (n g : Nat) (τ : St), g + n = cN v → ScC σ τ → ∃ τ2, Ex M_X9_foldedCellsOfAll (some (.int (nI (sumN (tlK v 4) (cN v)))), τ2) 4 [some (.ref 0), some (.int (nI (sumN (tlK v 4) g))), some (.int (nI g))] [] τ ∧ ScC σ τ2 := by
  intro n
  induction n with
  | zero =>
    intro g τ hg hs
    have hR := hR.sc hs
    have hv := hR.2.2
    have h6 := hv.c6
    obtain ⟨hk0, hk1, hk2⟩ := id hR.1
    have hn := hR.n
    obtain rfl : g = cN v := by omega
    refine ⟨τ, ?_, hs⟩
    refine x_iload_n (pc' := 5) rfl dX9_foldedCellsOfAll_4 rfl ?_
    refine x_aload_n (pc' := 6) rfl dX9_foldedCellsOfAll_5 rfl ?_
    refine x_get (v := .ref 29) (pc' := 9) fk_X9_12 (by first | assumption | exact ⟨by decide, rfl⟩) rfl dX9_foldedCellsOfAll_6 rfl ?_
    refine x_callVi (As := []) (rest := [.int _]) (ci := 7) (pc' := 12) rfl vk_X9_61 mk_X8_size (by decide) (by first | assumption | exact ⟨by decide, rfl⟩) (by decide) rfl (Nat.le_of_ble_eq_true rfl) dX9_foldedCellsOfAll_9 rfl (c_X8_size hk0) ?_
    refine x_icmp_ge (tgt := 36) (pc' := 15) (by decide) dX9_foldedCellsOfAll_12 rfl (fun c12 => ?_) (fun c12 => absurd (by rw [hn]; exact nI_le (Nat.le_refl _) (by omega)) c12)
    refine x_iload_n (pc' := 37) rfl dX9_foldedCellsOfAll_36 rfl ?_
    exact x_iret rfl dX9_foldedCellsOfAll_37 rfl
  | succ n ih =>
    intro g τ hg hs
    have hR := hR.sc hs
    have hv := hR.2.2
    have h6 := hv.c6
    obtain ⟨hk0, hk1, hk2⟩ := id hR.1
    have hn := hR.n
    obtain ⟨hq, hr, hf, hO⟩ := hR.g (g := g) (by omega)
    obtain ⟨τ1, hE1, hs1⟩ := c_X9_foldedCells hq hf hr
    obtain ⟨τ2, hE2, h2⟩ := ih (g + 1) τ1 (by omega) (hs.trans hs1)
    refine ⟨τ2, ?_, h2⟩
    refine x_iload_n (pc' := 5) rfl dX9_foldedCellsOfAll_4 rfl ?_
    refine x_aload_n (pc' := 6) rfl dX9_foldedCellsOfAll_5 rfl ?_
    refine x_get (v := .ref 29) (pc' := 9) fk_X9_12 (by first | assumption | exact ⟨by decide, rfl⟩) rfl dX9_foldedCellsOfAll_6 rfl ?_
    refine x_callVi (As := []) (rest := [.int _]) (ci := 7) (pc' := 12) rfl vk_X9_61 mk_X8_size (by decide) (by first | assumption | exact ⟨by decide, rfl⟩) (by decide) rfl (Nat.le_of_ble_eq_true rfl) dX9_foldedCellsOfAll_9 rfl (c_X8_size hk0) ?_
    refine x_icmp_ge (tgt := 36) (pc' := 15) (by decide) dX9_foldedCellsOfAll_12 rfl (fun c12 => absurd c12 (by rw [hn]; exact nI_ge (by omega) (by omega))) (fun c12 => ?_)
    refine x_iload_n (pc' := 16) rfl dX9_foldedCellsOfAll_15 rfl ?_
    refine x_aload_n (pc' := 17) rfl dX9_foldedCellsOfAll_16 rfl ?_
    refine x_aload_n (pc' := 18) rfl dX9_foldedCellsOfAll_17 rfl ?_
    refine x_get (v := .ref 29) (pc' := 21) fk_X9_12 (by first | assumption | exact ⟨by decide, rfl⟩) rfl dX9_foldedCellsOfAll_18 rfl ?_
    refine x_iload_n (pc' := 22) rfl dX9_foldedCellsOfAll_21 rfl ?_
    refine x_callVi (As := [.int _]) (rest := [.ref _, .int _]) (ci := 7) (pc' := 25) rfl vk_X9_83 mk_X8_at (by decide) (by first | assumption | exact ⟨by decide, rfl⟩) (by decide) rfl (Nat.le_of_ble_eq_true rfl) dX9_foldedCellsOfAll_22 rfl (t_X8_at hR.1 hn h6 rfl (by omega)) ?_
    refine x_callVi (As := [.ref _]) (rest := [.int _]) (ci := 8) (pc' := 28) rfl vk_X9_135 mk_X9_foldedCells (by decide) (by first | assumption | exact ⟨by decide, rfl⟩) (by decide) rfl (Nat.le_of_ble_eq_true rfl) dX9_foldedCellsOfAll_25 rfl hE1 ?_
    refine x_iadd (pc' := 29) dX9_foldedCellsOfAll_28 rfl ?_
    refine x_top (y := nI (sumN (tlK v 4) (g + 1))) (by rw [nI_add, ← tlK_4]; rfl) ?_
    refine x_istore_n (lv' := [_, _, _]) (pc' := 30) (by decide) rfl dX9_foldedCellsOfAll_29 rfl ?_
    refine x_iinc (lv' := [_, _, _]) (pc' := 33) rfl (nI_1 g) (by decide) rfl dX9_foldedCellsOfAll_30 rfl ?_
    refine x_goto (tgt := 4) (by decide) dX9_foldedCellsOfAll_33 ?_
    exact hE2
set_option maxRecDepth 100000 in
set_option maxHeartbeats 4000000 in
theorem c_X9_foldedCellsOfAll {σ : St} {v : Nat → Int32} (hR : Rp σ 29 v) : ∃ τ, Ct yX9_foldedCellsOfAll M_X9_foldedCellsOfAll [.ref 0] σ (some (.int (tallyS v 4)), τ) ∧ ScC σ τ := by
  obtain ⟨τ2, hE, h2⟩ := l_X9_foldedCellsOfAll hR (cN v) 0 σ (Nat.zero_add _) (ScC.rf σ)
  refine ⟨τ2, ?_, h2⟩
  refine ct_of (k := 2) rfl rfl rfl (Nat.le_of_ble_eq_true rfl) ?_
  refine x_iconst (v := 0) (pc' := 1) (by decide) dX9_foldedCellsOfAll_0 rfl ?_
  refine x_istore_n (lv' := [_, _, _]) (pc' := 2) (by decide) rfl dX9_foldedCellsOfAll_1 rfl ?_
  refine x_iconst (v := 0) (pc' := 3) (by decide) dX9_foldedCellsOfAll_2 rfl ?_
  refine x_istore_n (lv' := [_, _, _]) (pc' := 4) (by decide) rfl dX9_foldedCellsOfAll_3 rfl ?_
  exact hE
set_option maxRecDepth 100000 in
set_option maxHeartbeats 4000000 in
theorem l_X9_unsureCellsOfAll {σ : St} {v : Nat → Int32} (hR : Rp σ 29 v) : ∀ (n g : Nat) (τ : St), g + n = cN v → ScC σ τ → ∃ τ2, Ex M_X9_unsureCellsOfAll (some (.int (nI (sumN (tlK v 3) (cN v)))), τ2) 4 [some (.ref 0), some (.int (nI (sumN (tlK v 3) g))), some (.int (nI g))] [] τ ∧ ScC σ τ2 := by
  intro n
  induction n with
  | zero =>
    intro g τ hg hs
    have hR := hR.sc hs
    have hv := hR.2.2
    have h6 := hv.c6
    obtain ⟨hk0, hk1, hk2⟩ := id hR.1
    have hn := hR.n
    obtain rfl : g = cN v := by omega
    refine ⟨τ, ?_, hs⟩
    refine x_iload_n (pc' := 5) rfl dX9_unsureCellsOfAll_4 rfl ?_
    refine x_aload_n (pc' := 6) rfl dX9_unsureCellsOfAll_5 rfl ?_
    refine x_get (v := .ref 29) (pc' := 9) fk_X9_12 (by first | assumption | exact ⟨by decide, rfl⟩) rfl dX9_unsureCellsOfAll_6 rfl ?_
    refine x_callVi (As := []) (rest := [.int _]) (ci := 7) (pc' := 12) rfl vk_X9_61 mk_X8_size (by decide) (by first | assumption | exact ⟨by decide, rfl⟩) (by decide) rfl (Nat.le_of_ble_eq_true rfl) dX9_unsureCellsOfAll_9 rfl (c_X8_size hk0) ?_
    refine x_icmp_ge (tgt := 36) (pc' := 15) (by decide) dX9_unsureCellsOfAll_12 rfl (fun c12 => ?_) (fun c12 => absurd (by rw [hn]; exact nI_le (Nat.le_refl _) (by omega)) c12)
    refine x_iload_n (pc' := 37) rfl dX9_unsureCellsOfAll_36 rfl ?_
    exact x_iret rfl dX9_unsureCellsOfAll_37 rfl
  | succ n ih =>
    intro g τ hg hs
    have hR := hR.sc hs
    have hv := hR.2.2
    have h6 := hv.c6
    obtain ⟨hk0, hk1, hk2⟩ := id hR.1
    have hn := hR.n
    obtain ⟨hq, hr, hf, hO⟩ := hR.g (g := g) (by omega)
    obtain ⟨τ1, hE1, hs1⟩ := c_X9_unsureCells hq hf hr
    obtain ⟨τ2, hE2, h2⟩ := ih (g + 1) τ1 (by omega) (hs.trans hs1)
    refine ⟨τ2, ?_, h2⟩
    refine x_iload_n (pc' := 5) rfl dX9_unsureCellsOfAll_4 rfl ?_
    refine x_aload_n (pc' := 6) rfl dX9_unsureCellsOfAll_5 rfl ?_
    refine x_get (v := .ref 29) (pc' := 9) fk_X9_12 (by first | assumption | exact ⟨by decide, rfl⟩) rfl dX9_unsureCellsOfAll_6 rfl ?_
    refine x_callVi (As := []) (rest := [.int _]) (ci := 7) (pc' := 12) rfl vk_X9_61 mk_X8_size (by decide) (by first | assumption | exact ⟨by decide, rfl⟩) (by decide) rfl (Nat.le_of_ble_eq_true rfl) dX9_unsureCellsOfAll_9 rfl (c_X8_size hk0) ?_
    refine x_icmp_ge (tgt := 36) (pc' := 15) (by decide) dX9_unsureCellsOfAll_12 rfl (fun c12 => absurd c12 (by rw [hn]; exact nI_ge (by omega) (by omega))) (fun c12 => ?_)
    refine x_iload_n (pc' := 16) rfl dX9_unsureCellsOfAll_15 rfl ?_
    refine x_aload_n (pc' := 17) rfl dX9_unsureCellsOfAll_16 rfl ?_
    refine x_aload_n (pc' := 18) rfl dX9_unsureCellsOfAll_17 rfl ?_
    refine x_get (v := .ref 29) (pc' := 21) fk_X9_12 (by first | assumption | exact ⟨by decide, rfl⟩) rfl dX9_unsureCellsOfAll_18 rfl ?_
    refine x_iload_n (pc' := 22) rfl dX9_unsureCellsOfAll_21 rfl ?_
    refine x_callVi (As := [.int _]) (rest := [.ref _, .int _]) (ci := 7) (pc' := 25) rfl vk_X9_83 mk_X8_at (by decide) (by first | assumption | exact ⟨by decide, rfl⟩) (by decide) rfl (Nat.le_of_ble_eq_true rfl) dX9_unsureCellsOfAll_22 rfl (t_X8_at hR.1 hn h6 rfl (by omega)) ?_
    refine x_callVi (As := [.ref _]) (rest := [.int _]) (ci := 8) (pc' := 28) rfl vk_X9_290 mk_X9_unsureCells (by decide) (by first | assumption | exact ⟨by decide, rfl⟩) (by decide) rfl (Nat.le_of_ble_eq_true rfl) dX9_unsureCellsOfAll_25 rfl hE1 ?_
    refine x_iadd (pc' := 29) dX9_unsureCellsOfAll_28 rfl ?_
    refine x_top (y := nI (sumN (tlK v 3) (g + 1))) (by rw [nI_add, ← tlK_3]; rfl) ?_
    refine x_istore_n (lv' := [_, _, _]) (pc' := 30) (by decide) rfl dX9_unsureCellsOfAll_29 rfl ?_
    refine x_iinc (lv' := [_, _, _]) (pc' := 33) rfl (nI_1 g) (by decide) rfl dX9_unsureCellsOfAll_30 rfl ?_
    refine x_goto (tgt := 4) (by decide) dX9_unsureCellsOfAll_33 ?_
    exact hE2
set_option maxRecDepth 100000 in
set_option maxHeartbeats 4000000 in
theorem c_X9_unsureCellsOfAll {σ : St} {v : Nat → Int32} (hR : Rp σ 29 v) : ∃ τ, Ct yX9_unsureCellsOfAll M_X9_unsureCellsOfAll [.ref 0] σ (some (.int (tallyS v 3)), τ) ∧ ScC σ τ := by
  obtain ⟨τ2, hE, h2⟩ := l_X9_unsureCellsOfAll hR (cN v) 0 σ (Nat.zero_add _) (ScC.rf σ)
  refine ⟨τ2, ?_, h2⟩
  refine ct_of (k := 2) rfl rfl rfl (Nat.le_of_ble_eq_true rfl) ?_
  refine x_iconst (v := 0) (pc' := 1) (by decide) dX9_unsureCellsOfAll_0 rfl ?_
  refine x_istore_n (lv' := [_, _, _]) (pc' := 2) (by decide) rfl dX9_unsureCellsOfAll_1 rfl ?_
  refine x_iconst (v := 0) (pc' := 3) (by decide) dX9_unsureCellsOfAll_2 rfl ?_
  refine x_istore_n (lv' := [_, _, _]) (pc' := 4) (by decide) rfl dX9_unsureCellsOfAll_3 rfl ?_
  exact hE
set_option maxRecDepth 100000 in
set_option maxHeartbeats 4000000 in
theorem l_X9_gapsOfAll {σ : St} {v : Nat → Int32} (hR : Rp σ 29 v) : ∀ (n g : Nat), g + n = cN v → Ex M_X9_gapsOfAll (some (.int (nI (sumN (tlK v 5) (cN v)))), σ) 4 [some (.ref 0), some (.int (nI (sumN (tlK v 5) g))), some (.int (nI g))] [] σ := by
  have hv := hR.2.2
  have h6 := hv.c6
  obtain ⟨hk0, hk1, hk2⟩ := id hR.1
  have hn := hR.n
  intro n
  induction n with
  | zero =>
    intro g hg
    obtain rfl : g = cN v := by omega
    refine x_iload_n (pc' := 5) rfl dX9_gapsOfAll_4 rfl ?_
    refine x_aload_n (pc' := 6) rfl dX9_gapsOfAll_5 rfl ?_
    refine x_get (v := .ref 29) (pc' := 9) fk_X9_12 (by first | assumption | exact ⟨by decide, rfl⟩) rfl dX9_gapsOfAll_6 rfl ?_
    refine x_callVi (As := []) (rest := [.int _]) (ci := 7) (pc' := 12) rfl vk_X9_61 mk_X8_size (by decide) (by first | assumption | exact ⟨by decide, rfl⟩) (by decide) rfl (Nat.le_of_ble_eq_true rfl) dX9_gapsOfAll_9 rfl (c_X8_size hk0) ?_
    refine x_icmp_ge (tgt := 39) (pc' := 15) (by decide) dX9_gapsOfAll_12 rfl (fun c12 => ?_) (fun c12 => absurd (by rw [hn]; exact nI_le (Nat.le_refl _) (by omega)) c12)
    refine x_iload_n (pc' := 40) rfl dX9_gapsOfAll_39 rfl ?_
    exact x_iret rfl dX9_gapsOfAll_40 rfl
  | succ n ih =>
    intro g hg
    obtain ⟨hq, hr, hf, hO⟩ := hR.g (g := g) (by omega)
    refine x_iload_n (pc' := 5) rfl dX9_gapsOfAll_4 rfl ?_
    refine x_aload_n (pc' := 6) rfl dX9_gapsOfAll_5 rfl ?_
    refine x_get (v := .ref 29) (pc' := 9) fk_X9_12 (by first | assumption | exact ⟨by decide, rfl⟩) rfl dX9_gapsOfAll_6 rfl ?_
    refine x_callVi (As := []) (rest := [.int _]) (ci := 7) (pc' := 12) rfl vk_X9_61 mk_X8_size (by decide) (by first | assumption | exact ⟨by decide, rfl⟩) (by decide) rfl (Nat.le_of_ble_eq_true rfl) dX9_gapsOfAll_9 rfl (c_X8_size hk0) ?_
    refine x_icmp_ge (tgt := 39) (pc' := 15) (by decide) dX9_gapsOfAll_12 rfl (fun c12 => absurd c12 (by rw [hn]; exact nI_ge (by omega) (by omega))) (fun c12 => ?_)
    refine x_iload_n (pc' := 16) rfl dX9_gapsOfAll_15 rfl ?_
    refine x_aload_n (pc' := 17) rfl dX9_gapsOfAll_16 rfl ?_
    refine x_get (v := .ref 29) (pc' := 20) fk_X9_12 (by first | assumption | exact ⟨by decide, rfl⟩) rfl dX9_gapsOfAll_17 rfl ?_
    refine x_aload_n (pc' := 21) rfl dX9_gapsOfAll_20 rfl ?_
    refine x_get (v := .ref 29) (pc' := 24) fk_X9_12 (by first | assumption | exact ⟨by decide, rfl⟩) rfl dX9_gapsOfAll_21 rfl ?_
    refine x_iload_n (pc' := 25) rfl dX9_gapsOfAll_24 rfl ?_
    refine x_callVi (As := [.int _]) (rest := [.ref _, .int _]) (ci := 7) (pc' := 28) rfl vk_X9_83 mk_X8_at (by decide) (by first | assumption | exact ⟨by decide, rfl⟩) (by decide) rfl (Nat.le_of_ble_eq_true rfl) dX9_gapsOfAll_25 rfl (t_X8_at hR.1 hn h6 rfl (by omega)) ?_
    refine x_callSi (As := [.ref _, .ref _]) (rest := [.int _]) (pc' := 31) rfl sk_X9_132 mk_X1_gaps (by decide) rfl (Nat.le_of_ble_eq_true rfl) dX9_gapsOfAll_28 rfl (c_X1_gaps hR (by omega)) ?_
    refine x_iadd (pc' := 32) dX9_gapsOfAll_31 rfl ?_
    refine x_top (y := nI (sumN (tlK v 5) (g + 1))) (by rw [nI_add, ← tlK_5]; rfl) ?_
    refine x_istore_n (lv' := [_, _, _]) (pc' := 33) (by decide) rfl dX9_gapsOfAll_32 rfl ?_
    refine x_iinc (lv' := [_, _, _]) (pc' := 36) rfl (nI_1 g) (by decide) rfl dX9_gapsOfAll_33 rfl ?_
    refine x_goto (tgt := 4) (by decide) dX9_gapsOfAll_36 ?_
    exact ih (g + 1) (by omega)
set_option maxRecDepth 100000 in
set_option maxHeartbeats 4000000 in
theorem c_X9_gapsOfAll {σ : St} {v : Nat → Int32} (hR : Rp σ 29 v) : Ct yX9_gapsOfAll M_X9_gapsOfAll [.ref 0] σ (some (.int (tallyS v 5)), σ) := by
  refine ct_of (k := 2) rfl rfl rfl (Nat.le_of_ble_eq_true rfl) ?_
  refine x_iconst (v := 0) (pc' := 1) (by decide) dX9_gapsOfAll_0 rfl ?_
  refine x_istore_n (lv' := [_, _, _]) (pc' := 2) (by decide) rfl dX9_gapsOfAll_1 rfl ?_
  refine x_iconst (v := 0) (pc' := 3) (by decide) dX9_gapsOfAll_2 rfl ?_
  refine x_istore_n (lv' := [_, _, _]) (pc' := 4) (by decide) rfl dX9_gapsOfAll_3 rfl ?_
  exact l_X9_gapsOfAll hR (cN v) 0 (Nat.zero_add _)
theorem mx_le {a b : Int32} (h : b ≤ a) : mx a b = a := by
  unfold mx
  by_cases hl : b < a
  · rw [if_pos hl]
  · rw [if_neg hl]
    rw [sI_eq]
    rw [sI_le] at h
    rw [sI_lt] at hl
    omega
theorem mx_lt {a b : Int32} (h : a < b) : mx a b = b := by
  unfold mx
  rw [if_neg (fun q => by rw [sI_lt] at q h; omega)]
theorem whS_spec (v : Nat → Int32) : ∀ n, (whS v n = -1 ∧ maxN (gapM v) n = 0) ∨ ∃ g, g < n ∧ whS v n = nI g ∧ maxN (gapM v) n = gapM v g
  | 0 => Or.inl ⟨rfl, rfl⟩
  | n + 1 => by
    by_cases h : maxN (gapM v) n < gapM v n
    · refine Or.inr ⟨n, by omega, ?_, ?_⟩
      · rw [whS, pif_t h]
      · rw [maxN, mx_lt h]
    · rw [whS, pif_f h, maxN, mx_le (i_nlt.mp h)]
      rcases whS_spec v n with q | ⟨g, q1, q2⟩
      · exact Or.inl q
      · exact Or.inr ⟨g, by omega, q2⟩
set_option maxRecDepth 100000 in
set_option maxHeartbeats 4000000 in
theorem l_X9_first {σ : St} {v : Nat → Int32} (hR : Rp σ 29 v) : ∀ (n g : Nat) (D : Option Value), g + n = cN v → Ex M_X9_firstWithGreatestGap (some (.int (whS v (cN v))), σ) 6 [some (.ref 0), some (.int (whS v g)), some (.int (maxN (gapM v) g)), some (.int (nI g)), D] [] σ := by
  have hv := hR.2.2
  have h6 := hv.c6
  obtain ⟨hk0, hk1, hk2⟩ := id hR.1
  have hn := hR.n
  intro n
  induction n with
  | zero =>
    intro g D hg
    obtain rfl : g = cN v := by omega
    refine x_iload_n (pc' := 7) rfl dX9_firstWithGreatestGap_6 rfl ?_
    refine x_aload_n (pc' := 8) rfl dX9_firstWithGreatestGap_7 rfl ?_
    refine x_get (v := .ref 29) (pc' := 11) fk_X9_12 (by first | assumption | exact ⟨by decide, rfl⟩) rfl dX9_firstWithGreatestGap_8 rfl ?_
    refine x_callVi (As := []) (rest := [.int _]) (ci := 7) (pc' := 14) rfl vk_X9_61 mk_X8_size (by decide) (by first | assumption | exact ⟨by decide, rfl⟩) (by decide) rfl (Nat.le_of_ble_eq_true rfl) dX9_firstWithGreatestGap_11 rfl (c_X8_size hk0) ?_
    refine x_icmp_ge (tgt := 51) (pc' := 17) (by decide) dX9_firstWithGreatestGap_14 rfl (fun c14 => ?_) (fun c14 => absurd (by rw [hn]; exact nI_le (Nat.le_refl _) (by omega)) c14)
    refine x_iload_n (pc' := 52) rfl dX9_firstWithGreatestGap_51 rfl ?_
    exact x_iret rfl dX9_firstWithGreatestGap_52 rfl
  | succ n ih =>
    intro g D hg
    obtain ⟨hq, hr, hf, hO⟩ := hR.g (g := g) (by omega)
    refine x_iload_n (pc' := 7) rfl dX9_firstWithGreatestGap_6 rfl ?_
    refine x_aload_n (pc' := 8) rfl dX9_firstWithGreatestGap_7 rfl ?_
    refine x_get (v := .ref 29) (pc' := 11) fk_X9_12 (by first | assumption | exact ⟨by decide, rfl⟩) rfl dX9_firstWithGreatestGap_8 rfl ?_
    refine x_callVi (As := []) (rest := [.int _]) (ci := 7) (pc' := 14) rfl vk_X9_61 mk_X8_size (by decide) (by first | assumption | exact ⟨by decide, rfl⟩) (by decide) rfl (Nat.le_of_ble_eq_true rfl) dX9_firstWithGreatestGap_11 rfl (c_X8_size hk0) ?_
    refine x_icmp_ge (tgt := 51) (pc' := 17) (by decide) dX9_firstWithGreatestGap_14 rfl (fun c14 => absurd c14 (by rw [hn]; exact nI_ge (by omega) (by omega))) (fun c14 => ?_)
    refine x_aload_n (pc' := 18) rfl dX9_firstWithGreatestGap_17 rfl ?_
    refine x_get (v := .ref 29) (pc' := 21) fk_X9_12 (by first | assumption | exact ⟨by decide, rfl⟩) rfl dX9_firstWithGreatestGap_18 rfl ?_
    refine x_aload_n (pc' := 22) rfl dX9_firstWithGreatestGap_21 rfl ?_
    refine x_get (v := .ref 29) (pc' := 25) fk_X9_12 (by first | assumption | exact ⟨by decide, rfl⟩) rfl dX9_firstWithGreatestGap_22 rfl ?_
    refine x_iload_n (pc' := 26) rfl dX9_firstWithGreatestGap_25 rfl ?_
    refine x_callVi (As := [.int _]) (rest := [.ref _]) (ci := 7) (pc' := 29) rfl vk_X9_83 mk_X8_at (by decide) (by first | assumption | exact ⟨by decide, rfl⟩) (by decide) rfl (Nat.le_of_ble_eq_true rfl) dX9_firstWithGreatestGap_26 rfl (t_X8_at hR.1 hn h6 rfl (by omega)) ?_
    refine x_callSi (As := [.ref _, .ref _]) (rest := []) (pc' := 32) rfl sk_X9_87 mk_X1_greatestGap (by decide) rfl (Nat.le_of_ble_eq_true rfl) dX9_firstWithGreatestGap_29 rfl (c_X1_greatestGap hR (by omega)) ?_
    refine x_istore (lv' := [_, _, _, _, _]) (pc' := 34) (by decide) rfl dX9_firstWithGreatestGap_32 rfl ?_
    refine x_iload (pc' := 36) rfl dX9_firstWithGreatestGap_34 rfl ?_
    refine x_iload_n (pc' := 37) rfl dX9_firstWithGreatestGap_36 rfl ?_
    refine x_icmp_le (tgt := 45) (pc' := 40) (by decide) dX9_firstWithGreatestGap_37 rfl (fun c37 => ?_) (fun c37 => ?_)
    · have ih2 := ih (g + 1) (some (.int (gapM v g))) (by omega)
      rw [whS, pif_f (fun q => i_nlt.mpr c37 q), maxN, mx_le c37] at ih2
      refine x_iinc (lv' := [_, _, _, _, _]) (pc' := 48) rfl (nI_1 g) (by decide) rfl dX9_firstWithGreatestGap_45 rfl ?_
      refine x_goto (tgt := 6) (by decide) dX9_firstWithGreatestGap_48 ?_
      exact ih2
    · refine x_iload (pc' := 42) rfl dX9_firstWithGreatestGap_40 rfl ?_
      refine x_istore_n (lv' := [_, _, _, _, _]) (pc' := 43) (by decide) rfl dX9_firstWithGreatestGap_42 rfl ?_
      refine x_iload_n (pc' := 44) rfl dX9_firstWithGreatestGap_43 rfl ?_
      refine x_istore_n (lv' := [_, _, _, _, _]) (pc' := 45) (by decide) rfl dX9_firstWithGreatestGap_44 rfl ?_
      have ih2 := ih (g + 1) (some (.int (gapM v g))) (by omega)
      rw [whS, pif_t (i_nle.mp c37), maxN, mx_lt (i_nle.mp c37)] at ih2
      refine x_iinc (lv' := [_, _, _, _, _]) (pc' := 48) rfl (nI_1 g) (by decide) rfl dX9_firstWithGreatestGap_45 rfl ?_
      refine x_goto (tgt := 6) (by decide) dX9_firstWithGreatestGap_48 ?_
      exact ih2
set_option maxRecDepth 100000 in
set_option maxHeartbeats 4000000 in
theorem c_X9_firstWithGreatestGap {σ : St} {v : Nat → Int32} (hR : Rp σ 29 v) : Ct yX9_firstWithGreatestGap M_X9_firstWithGreatestGap [.ref 0] σ (some (.int (whS v (cN v))), σ) := by
  refine ct_of (k := 4) rfl rfl rfl (Nat.le_of_ble_eq_true rfl) ?_
  refine x_iconst (v := (-1)) (pc' := 1) (by decide) dX9_firstWithGreatestGap_0 rfl ?_
  refine x_istore_n (lv' := [_, _, _, _, _]) (pc' := 2) (by decide) rfl dX9_firstWithGreatestGap_1 rfl ?_
  refine x_iconst (v := 0) (pc' := 3) (by decide) dX9_firstWithGreatestGap_2 rfl ?_
  refine x_istore_n (lv' := [_, _, _, _, _]) (pc' := 4) (by decide) rfl dX9_firstWithGreatestGap_3 rfl ?_
  refine x_iconst (v := 0) (pc' := 5) (by decide) dX9_firstWithGreatestGap_4 rfl ?_
  refine x_istore_n (lv' := [_, _, _, _, _]) (pc' := 6) (by decide) rfl dX9_firstWithGreatestGap_5 rfl ?_
  exact l_X9_first hR (cN v) 0 _ (Nat.zero_add _)
/-! ===== Book ===== -/
set_option maxRecDepth 100000 in
set_option maxHeartbeats 4000000 in
theorem c_X0_size {σ : St}  : Ct yX0_size M_X0_size [.ref 5] σ (some (.int (σ.1 5 3)), σ) := by
  refine ct_of (k := 0) rfl rfl rfl (Nat.le_of_ble_eq_true rfl) ?_
  refine x_aload_n (pc' := 1) rfl dX0_size_0 rfl ?_
  refine x_get (v := .int _) (pc' := 4) fk_X0_21 (by first | assumption | exact ⟨by decide, rfl⟩) rfl dX0_size_1 rfl ?_
  exact x_iret rfl dX0_size_4 rfl
set_option maxRecDepth 100000 in
set_option maxHeartbeats 4000000 in
theorem c_X0_clear {σ : St}  : Ct yX0_clear M_X0_clear [.ref 5] σ (none, pI σ 5 3 0) := by
  refine ct_of (k := 0) rfl rfl rfl (Nat.le_of_ble_eq_true rfl) ?_
  refine x_aload_n (pc' := 1) rfl dX0_clear_0 rfl ?_
  refine x_iconst (v := 0) (pc' := 2) (by decide) dX0_clear_1 rfl ?_
  refine x_puti (pc' := 5) fk_X0_21 pk_0_3 rfl (by first | assumption | exact ⟨by decide, rfl⟩) dX0_clear_2 rfl ?_
  exact x_vret rfl dX0_clear_5 rfl
set_option maxRecDepth 100000 in
set_option maxHeartbeats 4000000 in
theorem t_X0_add {σ : St} {x y z : Int32} {E : Nat} (hE : σ.1 5 3 = nI E) (h20 : E < 20) : Ct yX0_add M_X0_add [.ref 5, .int x, .int y, .int z] σ (some (.int 1), pI (pI (pI (pI σ 6 E x) 7 E y) 8 E z) 5 3 (nI (E + 1))) := by
  refine ct_of (k := 0) rfl rfl rfl (Nat.le_of_ble_eq_true rfl) ?_
  refine x_aload_n (pc' := 1) rfl dX0_add_0 rfl ?_
  refine x_get (v := .int _) (pc' := 4) fk_X0_21 (by first | assumption | exact ⟨by decide, rfl⟩) rfl dX0_add_1 rfl ?_
  refine x_if_lt (tgt := 16) (pc' := 7) (by decide) dX0_add_4 rfl (fun c4 => absurd c4 (by rw [hE]; exact nI_pos (by omega))) (fun c4 => ?_)
  refine x_aload_n (pc' := 8) rfl dX0_add_7 rfl ?_
  refine x_get (v := .int _) (pc' := 11) fk_X0_21 (by first | assumption | exact ⟨by decide, rfl⟩) rfl dX0_add_8 rfl ?_
  refine x_bipush (v := 20) (pc' := 13) (by decide) dX0_add_11 rfl ?_
  refine x_icmp_lt (tgt := 18) (pc' := 16) (by decide) dX0_add_13 rfl (fun c13 => ?_) (fun c13 => absurd (by rw [hE]; exact i_nle.mp (nI_ge (b := 20) h20 (by decide))) c13)
  refine x_aload_n (pc' := 19) rfl dX0_add_18 rfl ?_
  refine x_get (v := .ref 6) (pc' := 22) fk_X0_9 (by first | assumption | exact ⟨by decide, rfl⟩) rfl dX0_add_19 rfl ?_
  refine x_aload_n (pc' := 23) rfl dX0_add_22 rfl ?_
  refine x_get (v := .int _) (pc' := 26) fk_X0_21 (by first | assumption | exact ⟨by decide, rfl⟩) rfl dX0_add_23 rfl ?_
  refine x_iload_n (pc' := 27) rfl dX0_add_26 rfl ?_
  refine x_iastn (N := 20) (n := E) (pc' := 28) (by first | assumption | exact ⟨by decide, rfl⟩) (by decide) hE h20 dX0_add_27 rfl ?_
  refine x_aload_n (pc' := 29) rfl dX0_add_28 rfl ?_
  refine x_get (v := .ref 7) (pc' := 32) fk_X0_15 (by first | assumption | exact ⟨by decide, rfl⟩) rfl dX0_add_29 rfl ?_
  refine x_aload_n (pc' := 33) rfl dX0_add_32 rfl ?_
  refine x_get (v := .int _) (pc' := 36) fk_X0_21 (by first | assumption | exact ⟨by decide, rfl⟩) rfl dX0_add_33 rfl ?_
  refine x_iload_n (pc' := 37) rfl dX0_add_36 rfl ?_
  refine x_iastn (N := 20) (n := E) (pc' := 38) (by first | assumption | exact ⟨by decide, rfl⟩) (by decide) hE h20 dX0_add_37 rfl ?_
  refine x_aload_n (pc' := 39) rfl dX0_add_38 rfl ?_
  refine x_get (v := .ref 8) (pc' := 42) fk_X0_18 (by first | assumption | exact ⟨by decide, rfl⟩) rfl dX0_add_39 rfl ?_
  refine x_aload_n (pc' := 43) rfl dX0_add_42 rfl ?_
  refine x_get (v := .int _) (pc' := 46) fk_X0_21 (by first | assumption | exact ⟨by decide, rfl⟩) rfl dX0_add_43 rfl ?_
  refine x_iload_n (pc' := 47) rfl dX0_add_46 rfl ?_
  refine x_iastn (N := 20) (n := E) (pc' := 48) (by first | assumption | exact ⟨by decide, rfl⟩) (by decide) hE h20 dX0_add_47 rfl ?_
  refine x_aload_n (pc' := 49) rfl dX0_add_48 rfl ?_
  refine x_dup (pc' := 50) rfl dX0_add_49 rfl ?_
  refine x_get (v := .int _) (pc' := 53) fk_X0_21 (by first | assumption | exact ⟨by decide, rfl⟩) rfl dX0_add_50 rfl ?_
  refine x_iconst (v := 1) (pc' := 54) (by decide) dX0_add_53 rfl ?_
  refine x_iadd (pc' := 55) dX0_add_54 rfl ?_
  refine x_top (y := nI (E + 1)) (by show σ.1 5 3 + 1 = _; rw [hE]; exact nI_1 E) ?_
  refine x_puti (pc' := 58) fk_X0_21 pk_0_3 rfl (by first | assumption | exact ⟨by decide, rfl⟩) dX0_add_55 rfl ?_
  refine x_iconst (v := 1) (pc' := 59) (by decide) dX0_add_58 rfl ?_
  exact x_zret rfl (by first | rfl | exact b01_nar _ | exact pb_nar _ | exact chg_nar _ _ _ _) dX0_add_59 rfl
set_option maxRecDepth 100000 in
set_option maxHeartbeats 4000000 in
theorem f_X0_add {σ : St} {x y z : Int32} {E : Nat} (hE : σ.1 5 3 = nI E) (h20 : ¬ E < 20) (hb : E < 2 ^ 31) : Ct yX0_add M_X0_add [.ref 5, .int x, .int y, .int z] σ (some (.int 0), σ) := by
  refine ct_of (k := 0) rfl rfl rfl (Nat.le_of_ble_eq_true rfl) ?_
  refine x_aload_n (pc' := 1) rfl dX0_add_0 rfl ?_
  refine x_get (v := .int _) (pc' := 4) fk_X0_21 (by first | assumption | exact ⟨by decide, rfl⟩) rfl dX0_add_1 rfl ?_
  refine x_if_lt (tgt := 16) (pc' := 7) (by decide) dX0_add_4 rfl (fun c4 => absurd c4 (by rw [hE]; exact nI_pos (by omega))) (fun c4 => ?_)
  refine x_aload_n (pc' := 8) rfl dX0_add_7 rfl ?_
  refine x_get (v := .int _) (pc' := 11) fk_X0_21 (by first | assumption | exact ⟨by decide, rfl⟩) rfl dX0_add_8 rfl ?_
  refine x_bipush (v := 20) (pc' := 13) (by decide) dX0_add_11 rfl ?_
  refine x_icmp_lt (tgt := 18) (pc' := 16) (by decide) dX0_add_13 rfl (fun c13 => absurd c13 (by rw [hE]; exact i_nlt.mpr (nI_le (a := 20) (by omega) (by omega)))) (fun c13 => ?_)
  refine x_iconst (v := 0) (pc' := 17) (by decide) dX0_add_16 rfl ?_
  exact x_zret rfl (by first | rfl | exact b01_nar _ | exact pb_nar _ | exact chg_nar _ _ _ _) dX0_add_17 rfl
set_option maxRecDepth 100000 in
set_option maxHeartbeats 4000000 in
theorem l_X0_firstWrong {σ : St} {k : Nat} {v : Nat → Int32} (hR : Rp σ k v) {E : Nat} (hE : σ.1 5 3 = nI E) (hb : BkOk (σ.1 6) (σ.1 7) E) : ∀ (n i : Nat), i + n = E → Ex M_X0_firstWrong (some (.int (wrF v (σ.1 6) (σ.1 7) (σ.1 8) i n)), σ) 8 [some (.ref 5), some (.ref k), some (.int (nI i))] [] σ := by
  have hk0 := hR.1.1
  obtain ⟨h20, hp⟩ := id hb
  intro n
  induction n with
  | zero =>
    intro i hi
    obtain rfl : i = E := by omega
    refine x_iload_n (pc' := 9) rfl dX0_firstWrong_8 rfl ?_
    refine x_aload_n (pc' := 10) rfl dX0_firstWrong_9 rfl ?_
    refine x_get (v := .int _) (pc' := 13) fk_X0_21 (by first | assumption | exact ⟨by decide, rfl⟩) rfl dX0_firstWrong_10 rfl ?_
    refine x_icmp_ge (tgt := 63) (pc' := 16) (by decide) dX0_firstWrong_13 rfl (fun c13 => ?_) (fun c13 => absurd (by rw [hE]; exact nI_le (Nat.le_refl _) (by omega)) c13)
    refine x_iconst (v := (-1)) (pc' := 64) (by decide) dX0_firstWrong_63 rfl ?_
    exact x_iret rfl dX0_firstWrong_64 rfl
  | succ n ih =>
    intro i hi
    obtain ⟨p1, p2, p3, p4⟩ := plc_cl (hp i (by omega))
    refine x_iload_n (pc' := 9) rfl dX0_firstWrong_8 rfl ?_
    refine x_aload_n (pc' := 10) rfl dX0_firstWrong_9 rfl ?_
    refine x_get (v := .int _) (pc' := 13) fk_X0_21 (by first | assumption | exact ⟨by decide, rfl⟩) rfl dX0_firstWrong_10 rfl ?_
    refine x_icmp_ge (tgt := 63) (pc' := 16) (by decide) dX0_firstWrong_13 rfl (fun c13 => absurd c13 (by rw [hE]; exact nI_ge (by omega) (by omega))) (fun c13 => ?_)
    refine x_iload_n (pc' := 17) rfl dX0_firstWrong_16 rfl ?_
    refine x_bipush (v := 20) (pc' := 19) (by decide) dX0_firstWrong_17 rfl ?_
    refine x_icmp_ge (tgt := 63) (pc' := 22) (by decide) dX0_firstWrong_19 rfl (fun c19 => absurd c19 (nI_ge (b := 20) (by omega) (by decide))) (fun c19 => ?_)
    refine x_aload_n (pc' := 23) rfl dX0_firstWrong_22 rfl ?_
    refine x_get (v := .ref 6) (pc' := 26) fk_X0_9 (by first | assumption | exact ⟨by decide, rfl⟩) rfl dX0_firstWrong_23 rfl ?_
    refine x_iload_n (pc' := 27) rfl dX0_firstWrong_26 rfl ?_
    refine x_ialdn (N := 20) (n := i) (pc' := 28) (by first | assumption | exact ⟨by decide, rfl⟩) (by decide) rfl (by omega) dX0_firstWrong_27 rfl ?_
    refine x_aload_n (pc' := 29) rfl dX0_firstWrong_28 rfl ?_
    refine x_aload_n (pc' := 30) rfl dX0_firstWrong_29 rfl ?_
    refine x_get (v := .ref 6) (pc' := 33) fk_X0_9 (by first | assumption | exact ⟨by decide, rfl⟩) rfl dX0_firstWrong_30 rfl ?_
    refine x_iload_n (pc' := 34) rfl dX0_firstWrong_33 rfl ?_
    refine x_ialdn (N := 20) (n := i) (pc' := 35) (by first | assumption | exact ⟨by decide, rfl⟩) (by decide) rfl (by omega) dX0_firstWrong_34 rfl ?_
    refine x_aload_n (pc' := 36) rfl dX0_firstWrong_35 rfl ?_
    refine x_get (v := .ref 7) (pc' := 39) fk_X0_15 (by first | assumption | exact ⟨by decide, rfl⟩) rfl dX0_firstWrong_36 rfl ?_
    refine x_iload_n (pc' := 40) rfl dX0_firstWrong_39 rfl ?_
    refine x_ialdn (N := 20) (n := i) (pc' := 41) (by first | assumption | exact ⟨by decide, rfl⟩) (by decide) rfl (by omega) dX0_firstWrong_40 rfl ?_
    refine x_iconst (v := 0) (pc' := 42) (by decide) dX0_firstWrong_41 rfl ?_
    refine x_callVi (As := [.int _, .int _, .int _]) (rest := [.int _]) (ci := 7) (pc' := 45) rfl vk_X0_25 mk_X8_placeOffset (by decide) (by first | assumption | exact ⟨by decide, rfl⟩) (by decide) rfl (Nat.le_of_ble_eq_true rfl) dX0_firstWrong_42 rfl (c_X8_placeOffset hR p1 p2 (W := 0) rfl p3 p4 (by decide)) ?_
    refine x_iadd (pc' := 46) dX0_firstWrong_45 rfl ?_
    refine x_aload_n (pc' := 47) rfl dX0_firstWrong_46 rfl ?_
    refine x_get (v := .ref 8) (pc' := 50) fk_X0_18 (by first | assumption | exact ⟨by decide, rfl⟩) rfl dX0_firstWrong_47 rfl ?_
    refine x_iload_n (pc' := 51) rfl dX0_firstWrong_50 rfl ?_
    refine x_ialdn (N := 20) (n := i) (pc' := 52) (by first | assumption | exact ⟨by decide, rfl⟩) (by decide) rfl (by omega) dX0_firstWrong_51 rfl ?_
    refine x_icmp_eq (tgt := 57) (pc' := 55) (by decide) dX0_firstWrong_52 rfl (fun c52 => ?_) (fun c52 => ?_)
    · have ih2 := ih (i + 1) (by omega)
      rw [wrF, pif_t c52]
      refine x_iinc (lv' := [_, _, _]) (pc' := 60) rfl (nI_1 i) (by decide) rfl dX0_firstWrong_57 rfl ?_
      refine x_goto (tgt := 8) (by decide) dX0_firstWrong_60 ?_
      exact ih2
    · refine x_iload_n (pc' := 56) rfl dX0_firstWrong_55 rfl ?_
      exact x_iret rfl dX0_firstWrong_56 (ret_i (by rw [wrF, pif_f c52]))
set_option maxRecDepth 100000 in
set_option maxHeartbeats 4000000 in
theorem c_X0_firstWrong {σ : St} {k : Nat} {v : Nat → Int32} (hR : Rp σ k v) {E : Nat} (hE : σ.1 5 3 = nI E) (hb : BkOk (σ.1 6) (σ.1 7) E) : Ct yX0_firstWrong M_X0_firstWrong [.ref 5, .ref k] σ (some (.int (wrF v (σ.1 6) (σ.1 7) (σ.1 8) 0 E)), σ) := by
  refine ct_of (k := 1) rfl rfl rfl (Nat.le_of_ble_eq_true rfl) ?_
  refine x_aload_n (pc' := 1) rfl dX0_firstWrong_0 rfl ?_
  refine x_ifnonnull (tgt := 6) (by decide) dX0_firstWrong_1 ?_
  refine x_iconst (v := 0) (pc' := 7) (by decide) dX0_firstWrong_6 rfl ?_
  refine x_istore_n (lv' := [_, _, _]) (pc' := 8) (by decide) rfl dX0_firstWrong_7 rfl ?_
  exact l_X0_firstWrong hR hE hb E 0 (Nat.zero_add _)
/-! ===== Search ===== -/
theorem gs_putC {τ : St} {v : Nat → Int32} {x y : Int32} {n : Nat} (hg : GsAt (τ.1 11) (τ.1 12) v x y n) {a b c d : Int32} (h : (a, b) = gsX v x y (n + 1)) : GsAt ((pI (pI (pI (pI τ 11 (n + 1) a) 12 (n + 1) b) 10 3 c) 10 2 d).1 11) ((pI (pI (pI (pI τ 11 (n + 1) a) 12 (n + 1) b) 10 3 c) 10 2 d).1 12) v x y (n + 1) := by
  intro k hk
  rw [pI_ne (by decide), pI_ne (by decide), pI_ne (by decide), pI_ne (k := 10) (by decide), pI_ne (k := 10) (by decide), pI_app, pI_app, pI_app]
  by_cases e : k = n + 1
  · subst e
    rw [if_pos ⟨rfl, rfl⟩, if_pos ⟨rfl, rfl⟩]
    exact h
  · rw [if_neg (fun q => e q.2), if_neg (fun q => e q.2), if_neg (fun q => e q.2)]
    exact hg k (by omega)
set_option maxRecDepth 100000 in
set_option maxHeartbeats 4000000 in
theorem l_X7_kindOf {σ : St} {v : Nat → Int32} {x y : Int32} {n : Nat} (hg : GsAt (σ.1 11) (σ.1 12) v x y (n + 1)) (hn : n + 1 ≤ 60) (hp : plc (gsX v x y (n + 1)).1 (gsX v x y (n + 1)).2) (hne : ¬ gsX v x y (n + 1) = gsX v x y n) : ∀ (f i : Nat), i + f = n + 1 → (∀ j, j < i → ¬ gsX v x y j = gsX v x y (n + 1)) → Ex M_X7_kindOf (some (.int (gsKind v x y (n + 1))), σ) 66 [some (.ref 10), some (.int (nI (n + 1))), some (.int (gsX v x y (n + 1)).1), some (.int (gsX v x y (n + 1)).2), some (.int (nI i))] [] σ := by
  intro f
  induction f with
  | zero =>
    intro i hi hno
    obtain rfl : i = n + 1 := by omega
    refine x_iload (pc' := 68) rfl dX7_kindOf_66 rfl ?_
    refine x_iload_n (pc' := 69) rfl dX7_kindOf_68 rfl ?_
    refine x_icmp_ge (tgt := 102) (pc' := 72) (by decide) dX7_kindOf_69 rfl (fun c69 => ?_) (fun c69 => absurd (nI_le (Nat.le_refl _) (by omega)) c69)
    refine x_iconst (v := 3) (pc' := 103) (by decide) dX7_kindOf_102 rfl ?_
    exact x_iret rfl dX7_kindOf_103 (ret_i (by rw [gsKind, pif_t hp, pif_f hne, pif_f (fun ⟨j, hj, q⟩ => hno j hj q)]))
  | succ f ih =>
    intro i hi hno
    refine x_iload (pc' := 68) rfl dX7_kindOf_66 rfl ?_
    refine x_iload_n (pc' := 69) rfl dX7_kindOf_68 rfl ?_
    refine x_icmp_ge (tgt := 102) (pc' := 72) (by decide) dX7_kindOf_69 rfl (fun c69 => absurd c69 (nI_ge (by omega) (by omega))) (fun c69 => ?_)
    refine x_aload_n (pc' := 73) rfl dX7_kindOf_72 rfl ?_
    refine x_get (v := .ref 11) (pc' := 76) fk_X7_9 (by first | assumption | exact ⟨by decide, rfl⟩) rfl dX7_kindOf_73 rfl ?_
    refine x_iload (pc' := 78) rfl dX7_kindOf_76 rfl ?_
    refine x_ialdn (N := 61) (n := i) (pc' := 79) (by first | assumption | exact ⟨by decide, rfl⟩) (by decide) rfl (by omega) dX7_kindOf_78 rfl ?_
    refine x_top (congrArg Prod.fst (hg (i) (by omega))) ?_
    refine x_iload_n (pc' := 80) rfl dX7_kindOf_79 rfl ?_
    refine x_icmp_ne (tgt := 96) (pc' := 83) (by decide) dX7_kindOf_80 rfl (fun c80 => ?_) (fun c80 => ?_)
    · refine x_iinc (lv' := [_, _, _, _, _]) (pc' := 99) rfl (nI_1 i) (by decide) rfl dX7_kindOf_96 rfl ?_
      refine x_goto (tgt := 66) (by decide) dX7_kindOf_99 ?_
      exact ih (i + 1) (by omega) (fun j hj => by
        by_cases e : j = i
        · subst e; exact fun q => c80 (congrArg Prod.fst q)
        · exact hno j (by omega))
    · refine x_aload_n (pc' := 84) rfl dX7_kindOf_83 rfl ?_
      refine x_get (v := .ref 12) (pc' := 87) fk_X7_15 (by first | assumption | exact ⟨by decide, rfl⟩) rfl dX7_kindOf_84 rfl ?_
      refine x_iload (pc' := 89) rfl dX7_kindOf_87 rfl ?_
      refine x_ialdn (N := 61) (n := i) (pc' := 90) (by first | assumption | exact ⟨by decide, rfl⟩) (by decide) rfl (by omega) dX7_kindOf_89 rfl ?_
      refine x_top (congrArg Prod.snd (hg (i) (by omega))) ?_
      refine x_iload_n (pc' := 91) rfl dX7_kindOf_90 rfl ?_
      refine x_icmp_ne (tgt := 96) (pc' := 94) (by decide) dX7_kindOf_91 rfl (fun c91 => ?_) (fun c91 => ?_)
      · refine x_iinc (lv' := [_, _, _, _, _]) (pc' := 99) rfl (nI_1 i) (by decide) rfl dX7_kindOf_96 rfl ?_
        refine x_goto (tgt := 66) (by decide) dX7_kindOf_99 ?_
        exact ih (i + 1) (by omega) (fun j hj => by
          by_cases e : j = i
          · subst e; exact fun q => c91 (congrArg Prod.snd q)
          · exact hno j (by omega))
      · refine x_iconst (v := 1) (pc' := 95) (by decide) dX7_kindOf_94 rfl ?_
        exact x_iret rfl dX7_kindOf_95 (ret_i (by rw [gsKind, pif_t hp, pif_f hne, pif_t ⟨i, by omega, Prod.ext c80 c91⟩]))
set_option maxRecDepth 100000 in
set_option maxHeartbeats 4000000 in
theorem c_X7_kindOf {σ : St} {v : Nat → Int32} {x y : Int32} {n : Nat} (hg : GsAt (σ.1 11) (σ.1 12) v x y (n + 1)) (hn : n + 1 ≤ 60) : Ct yX7_kindOf M_X7_kindOf [.ref 10, .int (nI (n + 1))] σ (some (.int (gsKind v x y (n + 1))), σ) := by
  refine ct_of (k := 3) rfl rfl rfl (Nat.le_of_ble_eq_true rfl) ?_
  refine x_iload_n (pc' := 1) rfl dX7_kindOf_0 rfl ?_
  refine x_iconst (v := 1) (pc' := 2) (by decide) dX7_kindOf_1 rfl ?_
  refine x_icmp_lt (tgt := 11) (pc' := 5) (by decide) dX7_kindOf_2 rfl (fun c2 => absurd c2 (i_nlt.mpr (nI_le (a := 1) (by omega) (by omega)))) (fun c2 => ?_)
  refine x_iload_n (pc' := 6) rfl dX7_kindOf_5 rfl ?_
  refine x_bipush (v := 60) (pc' := 8) (by decide) dX7_kindOf_6 rfl ?_
  refine x_icmp_le (tgt := 13) (pc' := 11) (by decide) dX7_kindOf_8 rfl (fun c8 => ?_) (fun c8 => absurd (nI_le (b := 60) hn (by decide)) c8)
  refine x_aload_n (pc' := 14) rfl dX7_kindOf_13 rfl ?_
  refine x_get (v := .ref 11) (pc' := 17) fk_X7_9 (by first | assumption | exact ⟨by decide, rfl⟩) rfl dX7_kindOf_14 rfl ?_
  refine x_iload_n (pc' := 18) rfl dX7_kindOf_17 rfl ?_
  refine x_ialdn (N := 61) (n := (n + 1)) (pc' := 19) (by first | assumption | exact ⟨by decide, rfl⟩) (by decide) rfl (by omega) dX7_kindOf_18 rfl ?_
  refine x_top (congrArg Prod.fst (hg (n + 1) (by omega))) ?_
  refine x_istore_n (lv' := [_, _, _, _, _]) (pc' := 20) (by decide) rfl dX7_kindOf_19 rfl ?_
  refine x_aload_n (pc' := 21) rfl dX7_kindOf_20 rfl ?_
  refine x_get (v := .ref 12) (pc' := 24) fk_X7_15 (by first | assumption | exact ⟨by decide, rfl⟩) rfl dX7_kindOf_21 rfl ?_
  refine x_iload_n (pc' := 25) rfl dX7_kindOf_24 rfl ?_
  refine x_ialdn (N := 61) (n := (n + 1)) (pc' := 26) (by first | assumption | exact ⟨by decide, rfl⟩) (by decide) rfl (by omega) dX7_kindOf_25 rfl ?_
  refine x_top (congrArg Prod.snd (hg (n + 1) (by omega))) ?_
  refine x_istore_n (lv' := [_, _, _, _, _]) (pc' := 27) (by decide) rfl dX7_kindOf_26 rfl ?_
  refine x_iload_n (pc' := 28) rfl dX7_kindOf_27 rfl ?_
  refine x_iload_n (pc' := 29) rfl dX7_kindOf_28 rfl ?_
  refine x_callN (As := [.int _, .int _]) (rest := []) (pc' := 32) rfl rfl np_sta np_ini mk_X9_isPlace (by decide) rfl (Nat.le_of_ble_eq_true rfl) dX7_kindOf_29 rfl c_X9_isPlace ?_
  refine x_if_ne (tgt := 37) (pc' := 35) (by decide) dX7_kindOf_32 rfl (fun c32 => ?_) (fun c32 => ?_)
  · refine x_aload_n (pc' := 38) rfl dX7_kindOf_37 rfl ?_
    refine x_get (v := .ref 11) (pc' := 41) fk_X7_9 (by first | assumption | exact ⟨by decide, rfl⟩) rfl dX7_kindOf_38 rfl ?_
    refine x_iload_n (pc' := 42) rfl dX7_kindOf_41 rfl ?_
    refine x_iconst (v := 1) (pc' := 43) (by decide) dX7_kindOf_42 rfl ?_
    refine x_isub (pc' := 44) dX7_kindOf_43 rfl ?_
    refine x_ialdn (N := 61) (n := n) (pc' := 45) (by first | assumption | exact ⟨by decide, rfl⟩) (by decide) (nI_m1 (by omega)) (by omega) dX7_kindOf_44 rfl ?_
    refine x_top (congrArg Prod.fst (hg (n) (by omega))) ?_
    refine x_iload_n (pc' := 46) rfl dX7_kindOf_45 rfl ?_
    refine x_icmp_ne (tgt := 63) (pc' := 49) (by decide) dX7_kindOf_46 rfl (fun c46 => ?_) (fun c46 => ?_)
    · refine x_iconst (v := 0) (pc' := 64) (by decide) dX7_kindOf_63 rfl ?_
      refine x_istore (lv' := [_, _, _, _, _]) (pc' := 66) (by decide) rfl dX7_kindOf_64 rfl ?_
      exact l_X7_kindOf hg hn (pb_n c32) (fun q => c46 (congrArg Prod.fst q).symm) (n + 1) 0 (Nat.zero_add _) (fun j hj => absurd hj (by omega))
    · refine x_aload_n (pc' := 50) rfl dX7_kindOf_49 rfl ?_
      refine x_get (v := .ref 12) (pc' := 53) fk_X7_15 (by first | assumption | exact ⟨by decide, rfl⟩) rfl dX7_kindOf_50 rfl ?_
      refine x_iload_n (pc' := 54) rfl dX7_kindOf_53 rfl ?_
      refine x_iconst (v := 1) (pc' := 55) (by decide) dX7_kindOf_54 rfl ?_
      refine x_isub (pc' := 56) dX7_kindOf_55 rfl ?_
      refine x_ialdn (N := 61) (n := n) (pc' := 57) (by first | assumption | exact ⟨by decide, rfl⟩) (by decide) (nI_m1 (by omega)) (by omega) dX7_kindOf_56 rfl ?_
      refine x_top (congrArg Prod.snd (hg (n) (by omega))) ?_
      refine x_iload_n (pc' := 58) rfl dX7_kindOf_57 rfl ?_
      refine x_icmp_ne (tgt := 63) (pc' := 61) (by decide) dX7_kindOf_58 rfl (fun c58 => ?_) (fun c58 => ?_)
      · refine x_iconst (v := 0) (pc' := 64) (by decide) dX7_kindOf_63 rfl ?_
        refine x_istore (lv' := [_, _, _, _, _]) (pc' := 66) (by decide) rfl dX7_kindOf_64 rfl ?_
        exact l_X7_kindOf hg hn (pb_n c32) (fun q => c58 (congrArg Prod.snd q).symm) (n + 1) 0 (Nat.zero_add _) (fun j hj => absurd hj (by omega))
      · refine x_iconst (v := 0) (pc' := 62) (by decide) dX7_kindOf_61 rfl ?_
        exact x_iret rfl dX7_kindOf_62 (ret_i (by rw [gsKind, pif_t (pb_n c32), pif_t (Prod.ext c46.symm c58.symm)]))
  · refine x_iconst (v := 2) (pc' := 36) (by decide) dX7_kindOf_35 rfl ?_
    exact x_iret rfl dX7_kindOf_36 (ret_i (by rw [gsKind, pif_f (pb_iff.mp c32)]))
/-- the search has come to its end -/
def RunAt (τ : St) (v : Nat → Int32) (x y : Int32) (N : Nat) : Prop := τ.1 10 2 = gsKind v x y N ∧ τ.1 10 3 = nI N ∧ GsAt (τ.1 11) (τ.1 12) v x y N
set_option maxRecDepth 100000 in
set_option maxHeartbeats 4000000 in
theorem l_X7_run {σ : St} {k : Nat} {v : Nat → Int32} (hR : Rp σ k v) {x y : Int32} : ∀ (f n : Nat) (A B : Option Value) (τ : St), n + f = 60 → ScC σ τ → RunAt τ v x y n → ∃ τ', Ex M_X7_run (none, τ') 44 [some (.ref 10), some (.ref k), some (.int x), some (.int y), some (.int (nI (n + 1))), A, B] [] τ ∧ ScC σ τ' ∧ RunAt τ' v x y (gsEnd v x y n f) ∧ gsEnd v x y n f ≤ 60 := by
  have hk0 := hR.1.1
  intro f
  induction f with
  | zero =>
    intro n A B τ hn hs hA
    obtain rfl : n = 60 := by omega
    refine ⟨τ, ?_, hs, hA, Nat.le_refl _⟩
    refine x_iload (pc' := 46) rfl dX7_run_44 rfl ?_
    refine x_bipush (v := 60) (pc' := 48) (by decide) dX7_run_46 rfl ?_
    refine x_icmp_gt (tgt := 139) (pc' := 51) (by decide) dX7_run_48 rfl (fun c48 => ?_) (fun c48 => absurd (by decide) c48)
    exact x_vret rfl dX7_run_139 rfl
  | succ f ih =>
    intro n A B τ hn hs hA
    obtain ⟨a1, a2, a3⟩ := id hA
    by_cases hk : gsKind v x y n = 3
    · obtain ⟨p1, p2, p3, p4⟩ := plc_cl (gsKind_plc hk)
      have e0 : (τ.1 11 n, τ.1 12 n) = gsX v x y n := a3 n (Nat.le_refl _)
      have hR1 := hR.sc hs
      have hR2 := hR.sc (hs.pI (k := 11) (n + 1) (gsX v x y (n + 1)).1 (by decide))
      have hg := gs_putC a3 (c := nI (n + 1)) (d := τ.1 10 2) (a := (gsX v x y (n + 1)).1) (b := (gsX v x y (n + 1)).2) rfl
      have hg2 := gs_putC a3 (c := nI (n + 1)) (d := gsKind v x y (n + 1)) (a := (gsX v x y (n + 1)).1) (b := (gsX v x y (n + 1)).2) rfl
      rw [show pI (pI (pI (pI τ 11 (n + 1) (gsX v x y (n + 1)).1) 12 (n + 1) (gsX v x y (n + 1)).2) 10 3 (nI (n + 1))) 10 2 (τ.1 10 2) = pI (pI (pI τ 11 (n + 1) (gsX v x y (n + 1)).1) 12 (n + 1) (gsX v x y (n + 1)).2) 10 3 (nI (n + 1)) from by
        rw [pI_pA, show upd ((pI (pI (pI τ 11 (n + 1) (gsX v x y (n + 1)).1) 12 (n + 1) (gsX v x y (n + 1)).2) 10 3 (nI (n + 1))).1 10) 2 (τ.1 10 2) = (pI (pI (pI τ 11 (n + 1) (gsX v x y (n + 1)).1) 12 (n + 1) (gsX v x y (n + 1)).2) 10 3 (nI (n + 1))).1 10 from by
          funext j
          rw [upd_app]
          by_cases e : j = 2
          · subst e; rw [if_pos rfl]; rfl
          · rw [if_neg e], pA_self]] at hg
      obtain ⟨τ', hE, h2, h3⟩ := ih (n + 1) (some (.int (gsX v x y n).1)) (some (.int (gsX v x y n).2)) (pI (pI (pI (pI τ 11 (n + 1) (gsX v x y (n + 1)).1) 12 (n + 1) (gsX v x y (n + 1)).2) 10 3 (nI (n + 1))) 10 2 (gsKind v x y (n + 1))) (by omega) ((((hs.pI _ _ (by decide)).pI _ _ (by decide)).pI _ _ (by decide)).pI _ _ (by decide)) ⟨rfl, rfl, hg2⟩
      rw [gsEnd, pif_t hk]
      refine ⟨τ', ?_, h2, h3⟩
      refine x_iload (pc' := 46) rfl dX7_run_44 rfl ?_
      refine x_bipush (v := 60) (pc' := 48) (by decide) dX7_run_46 rfl ?_
      refine x_icmp_gt (tgt := 139) (pc' := 51) (by decide) dX7_run_48 rfl (fun c48 => absurd c48 (i_nlt.mpr (nI_le (b := 60) (by omega) (by decide)))) (fun c48 => ?_)
      refine x_aload_n (pc' := 52) rfl dX7_run_51 rfl ?_
      refine x_get (v := .int _) (pc' := 55) fk_X7_26 (by first | assumption | exact ⟨by decide, rfl⟩) rfl dX7_run_52 rfl ?_
      refine x_iconst (v := 3) (pc' := 56) (by decide) dX7_run_55 rfl ?_
      refine x_icmp_ne (tgt := 139) (pc' := 59) (by decide) dX7_run_56 rfl (fun c56 => absurd (a1.trans hk) c56) (fun c56 => ?_)
      refine x_aload_n (pc' := 60) rfl dX7_run_59 rfl ?_
      refine x_get (v := .ref 11) (pc' := 63) fk_X7_9 (by first | assumption | exact ⟨by decide, rfl⟩) rfl dX7_run_60 rfl ?_
      refine x_iload (pc' := 65) rfl dX7_run_63 rfl ?_
      refine x_iconst (v := 1) (pc' := 66) (by decide) dX7_run_65 rfl ?_
      refine x_isub (pc' := 67) dX7_run_66 rfl ?_
      refine x_ialdn (N := 61) (n := n) (pc' := 68) (by first | assumption | exact ⟨by decide, rfl⟩) (by decide) (nI_m1 (by omega)) (by omega) dX7_run_67 rfl ?_
      refine x_top (congrArg Prod.fst e0) ?_
      refine x_istore (lv' := [_, _, _, _, _, _, _]) (pc' := 70) (by decide) rfl dX7_run_68 rfl ?_
      refine x_aload_n (pc' := 71) rfl dX7_run_70 rfl ?_
      refine x_get (v := .ref 12) (pc' := 74) fk_X7_15 (by first | assumption | exact ⟨by decide, rfl⟩) rfl dX7_run_71 rfl ?_
      refine x_iload (pc' := 76) rfl dX7_run_74 rfl ?_
      refine x_iconst (v := 1) (pc' := 77) (by decide) dX7_run_76 rfl ?_
      refine x_isub (pc' := 78) dX7_run_77 rfl ?_
      refine x_ialdn (N := 61) (n := n) (pc' := 79) (by first | assumption | exact ⟨by decide, rfl⟩) (by decide) (nI_m1 (by omega)) (by omega) dX7_run_78 rfl ?_
      refine x_top (congrArg Prod.snd e0) ?_
      refine x_istore (lv' := [_, _, _, _, _, _, _]) (pc' := 81) (by decide) rfl dX7_run_79 rfl ?_
      refine x_aload_n (pc' := 82) rfl dX7_run_81 rfl ?_
      refine x_get (v := .ref 11) (pc' := 85) fk_X7_9 (by first | assumption | exact ⟨by decide, rfl⟩) rfl dX7_run_82 rfl ?_
      refine x_iload (pc' := 87) rfl dX7_run_85 rfl ?_
      refine x_iload_n (pc' := 88) rfl dX7_run_87 rfl ?_
      refine x_aload_n (pc' := 89) rfl dX7_run_88 rfl ?_
      refine x_iload (pc' := 91) rfl dX7_run_89 rfl ?_
      refine x_iload (pc' := 93) rfl dX7_run_91 rfl ?_
      refine x_iconst (v := 0) (pc' := 94) (by decide) dX7_run_93 rfl ?_
      refine x_callVi (As := [.int _, .int _, .int _]) (rest := [.int _, .int _, .ref _]) (ci := 7) (pc' := 97) rfl vk_X7_29 mk_X8_placeOffset (by decide) (by first | assumption | exact ⟨by decide, rfl⟩) (by decide) rfl (Nat.le_of_ble_eq_true rfl) dX7_run_94 rfl (c_X8_placeOffset hR1 p1 p2 (W := 0) rfl p3 p4 (by decide)) ?_
      refine x_isub (pc' := 98) dX7_run_97 rfl ?_
      refine x_iastn (N := 61) (n := (n + 1)) (pc' := 99) (by first | assumption | exact ⟨by decide, rfl⟩) (by decide) rfl (by omega) dX7_run_98 rfl ?_
      refine x_aload_n (pc' := 100) rfl dX7_run_99 rfl ?_
      refine x_get (v := .ref 12) (pc' := 103) fk_X7_15 (by first | assumption | exact ⟨by decide, rfl⟩) rfl dX7_run_100 rfl ?_
      refine x_iload (pc' := 105) rfl dX7_run_103 rfl ?_
      refine x_iload_n (pc' := 106) rfl dX7_run_105 rfl ?_
      refine x_aload_n (pc' := 107) rfl dX7_run_106 rfl ?_
      refine x_iload (pc' := 109) rfl dX7_run_107 rfl ?_
      refine x_iload (pc' := 111) rfl dX7_run_109 rfl ?_
      refine x_iconst (v := 1) (pc' := 112) (by decide) dX7_run_111 rfl ?_
      refine x_callVi (As := [.int _, .int _, .int _]) (rest := [.int _, .int _, .ref _]) (ci := 7) (pc' := 115) rfl vk_X7_29 mk_X8_placeOffset (by decide) (by first | assumption | exact ⟨by decide, rfl⟩) (by decide) rfl (Nat.le_of_ble_eq_true rfl) dX7_run_112 rfl (c_X8_placeOffset hR2 p1 p2 (W := 1) rfl p3 p4 (by decide)) ?_
      refine x_isub (pc' := 116) dX7_run_115 rfl ?_
      refine x_iastn (N := 61) (n := (n + 1)) (pc' := 117) (by first | assumption | exact ⟨by decide, rfl⟩) (by decide) rfl (by omega) dX7_run_116 rfl ?_
      refine x_aload_n (pc' := 118) rfl dX7_run_117 rfl ?_
      refine x_iload (pc' := 120) rfl dX7_run_118 rfl ?_
      refine x_puti (pc' := 123) fk_X7_18 pk_6_3 rfl (by first | assumption | exact ⟨by decide, rfl⟩) dX7_run_120 rfl ?_
      refine x_aload_n (pc' := 124) rfl dX7_run_123 rfl ?_
      refine x_aload_n (pc' := 125) rfl dX7_run_124 rfl ?_
      refine x_iload (pc' := 127) rfl dX7_run_125 rfl ?_
      refine x_callVi (As := [.int _]) (rest := [.ref _]) (ci := 6) (pc' := 130) rfl vk_X7_35 mk_X7_kindOf (by decide) (by first | assumption | exact ⟨by decide, rfl⟩) (by decide) rfl (Nat.le_of_ble_eq_true rfl) dX7_run_127 rfl (c_X7_kindOf hg (by omega)) ?_
      refine x_puti (pc' := 133) fk_X7_26 pk_6_2 rfl (by first | assumption | exact ⟨by decide, rfl⟩) dX7_run_130 rfl ?_
      refine x_iinc (lv' := [_, _, _, _, _, _, _]) (pc' := 136) rfl (nI_1 (n + 1)) (by decide) rfl dX7_run_133 rfl ?_
      refine x_goto (tgt := 44) (by decide) dX7_run_136 ?_
      exact hE
    · rw [gsEnd, pif_f hk]
      refine ⟨τ, ?_, hs, hA, by omega⟩
      refine x_iload (pc' := 46) rfl dX7_run_44 rfl ?_
      refine x_bipush (v := 60) (pc' := 48) (by decide) dX7_run_46 rfl ?_
      refine x_icmp_gt (tgt := 139) (pc' := 51) (by decide) dX7_run_48 rfl (fun c48 => absurd c48 (i_nlt.mpr (nI_le (b := 60) (by omega) (by decide)))) (fun c48 => ?_)
      refine x_aload_n (pc' := 52) rfl dX7_run_51 rfl ?_
      refine x_get (v := .int _) (pc' := 55) fk_X7_26 (by first | assumption | exact ⟨by decide, rfl⟩) rfl dX7_run_52 rfl ?_
      refine x_iconst (v := 3) (pc' := 56) (by decide) dX7_run_55 rfl ?_
      refine x_icmp_ne (tgt := 139) (pc' := 59) (by decide) dX7_run_56 rfl (fun c56 => ?_) (fun c56 => absurd c56 (fun q => hk (a1.symm.trans q)))
      exact x_vret rfl dX7_run_139 rfl
set_option maxRecDepth 100000 in
set_option maxHeartbeats 4000000 in
theorem c_X7_run {σ : St} {k : Nat} {v : Nat → Int32} (hR : Rp σ k v) {x y : Int32} : ∃ τ', Ct yX7_run M_X7_run [.ref 10, .ref k, .int x, .int y] σ (none, τ') ∧ ScC σ τ' ∧ RunAt τ' v x y (gsEnd v x y 0 60) ∧ gsEnd v x y 0 60 ≤ 60 := by
  have hk0 := hR.1.1
  have hg0 : GsAt ((pI (pI (pI (pI σ 11 0 x) 12 0 y) 10 3 0) 10 2 (gsKind v x y 0)).1 11) ((pI (pI (pI (pI σ 11 0 x) 12 0 y) 10 3 0) 10 2 (gsKind v x y 0)).1 12) v x y 0 := by
    intro i hi
    obtain rfl : i = 0 := by omega
    rfl
  obtain ⟨τ', hE, h2, h3⟩ := l_X7_run hR (x := x) (y := y) 60 0 none none (pI (pI (pI (pI σ 11 0 x) 12 0 y) 10 3 0) 10 2 (gsKind v x y 0)) rfl (((((ScC.rf σ).pI _ _ (by decide)).pI _ _ (by decide)).pI _ _ (by decide)).pI _ _ (by decide)) ⟨rfl, rfl, hg0⟩
  refine ⟨τ', ?_, h2, h3⟩
  refine ct_of (k := 3) rfl rfl rfl (Nat.le_of_ble_eq_true rfl) ?_
  refine x_aload_n (pc' := 1) rfl dX7_run_0 rfl ?_
  refine x_ifnonnull (tgt := 5) (by decide) dX7_run_1 ?_
  refine x_aload_n (pc' := 6) rfl dX7_run_5 rfl ?_
  refine x_get (v := .ref 11) (pc' := 9) fk_X7_9 (by first | assumption | exact ⟨by decide, rfl⟩) rfl dX7_run_6 rfl ?_
  refine x_iconst (v := 0) (pc' := 10) (by decide) dX7_run_9 rfl ?_
  refine x_iload_n (pc' := 11) rfl dX7_run_10 rfl ?_
  refine x_iastn (N := 61) (n := 0) (pc' := 12) (by first | assumption | exact ⟨by decide, rfl⟩) (by decide) rfl (by decide) dX7_run_11 rfl ?_
  refine x_aload_n (pc' := 13) rfl dX7_run_12 rfl ?_
  refine x_get (v := .ref 12) (pc' := 16) fk_X7_15 (by first | assumption | exact ⟨by decide, rfl⟩) rfl dX7_run_13 rfl ?_
  refine x_iconst (v := 0) (pc' := 17) (by decide) dX7_run_16 rfl ?_
  refine x_iload_n (pc' := 18) rfl dX7_run_17 rfl ?_
  refine x_iastn (N := 61) (n := 0) (pc' := 19) (by first | assumption | exact ⟨by decide, rfl⟩) (by decide) rfl (by decide) dX7_run_18 rfl ?_
  refine x_aload_n (pc' := 20) rfl dX7_run_19 rfl ?_
  refine x_iconst (v := 0) (pc' := 21) (by decide) dX7_run_20 rfl ?_
  refine x_puti (pc' := 24) fk_X7_18 pk_6_3 rfl (by first | assumption | exact ⟨by decide, rfl⟩) dX7_run_21 rfl ?_
  refine x_aload_n (pc' := 25) rfl dX7_run_24 rfl ?_
  refine x_iload_n (pc' := 26) rfl dX7_run_25 rfl ?_
  refine x_iload_n (pc' := 27) rfl dX7_run_26 rfl ?_
  refine x_callN (As := [.int _, .int _]) (rest := [.ref _]) (pc' := 30) rfl rfl np_sta np_ini mk_X9_isPlace (by decide) rfl (Nat.le_of_ble_eq_true rfl) dX7_run_27 rfl c_X9_isPlace ?_
  refine x_if_eq (tgt := 37) (pc' := 33) (by decide) dX7_run_30 rfl (fun c30 => ?_) (fun c30 => ?_)
  · refine x_iconst (v := 2) (pc' := 38) (by decide) dX7_run_37 rfl ?_
    refine x_top (y := gsKind v x y 0) (by rw [gsKind, pif_f (pb_iff.mp c30)]) ?_
    refine x_puti (pc' := 41) fk_X7_26 pk_6_2 rfl (by first | assumption | exact ⟨by decide, rfl⟩) dX7_run_38 rfl ?_
    refine x_iconst (v := 1) (pc' := 42) (by decide) dX7_run_41 rfl ?_
    refine x_istore (lv' := [_, _, _, _, _, _, _]) (pc' := 44) (by decide) rfl dX7_run_42 rfl ?_
    exact hE
  · refine x_iconst (v := 3) (pc' := 34) (by decide) dX7_run_33 rfl ?_
    refine x_goto (tgt := 38) (by decide) dX7_run_34 ?_
    refine x_top (y := gsKind v x y 0) (by rw [gsKind, pif_t (pb_n c30)]) ?_
    refine x_puti (pc' := 41) fk_X7_26 pk_6_2 rfl (by first | assumption | exact ⟨by decide, rfl⟩) dX7_run_38 rfl ?_
    refine x_iconst (v := 1) (pc' := 42) (by decide) dX7_run_41 rfl ?_
    refine x_istore (lv' := [_, _, _, _, _, _, _]) (pc' := 44) (by decide) rfl dX7_run_42 rfl ?_
    exact hE
set_option maxRecDepth 100000 in
set_option maxHeartbeats 4000000 in
theorem c_X7_kindNow {σ : St}  : Ct yX7_kindNow M_X7_kindNow [.ref 10] σ (some (.int (σ.1 10 2)), σ) := by
  refine ct_of (k := 0) rfl rfl rfl (Nat.le_of_ble_eq_true rfl) ?_
  refine x_aload_n (pc' := 1) rfl dX7_kindNow_0 rfl ?_
  refine x_get (v := .int _) (pc' := 4) fk_X7_26 (by first | assumption | exact ⟨by decide, rfl⟩) rfl dX7_kindNow_1 rfl ?_
  exact x_iret rfl dX7_kindNow_4 rfl
set_option maxRecDepth 100000 in
set_option maxHeartbeats 4000000 in
theorem c_X7_rounds {σ : St}  : Ct yX7_rounds M_X7_rounds [.ref 10] σ (some (.int (σ.1 10 3)), σ) := by
  refine ct_of (k := 0) rfl rfl rfl (Nat.le_of_ble_eq_true rfl) ?_
  refine x_aload_n (pc' := 1) rfl dX7_rounds_0 rfl ?_
  refine x_get (v := .int _) (pc' := 4) fk_X7_18 (by first | assumption | exact ⟨by decide, rfl⟩) rfl dX7_rounds_1 rfl ?_
  exact x_iret rfl dX7_rounds_4 rfl
set_option maxRecDepth 100000 in
set_option maxHeartbeats 4000000 in
theorem c_X7_lastX {σ : St} {N : Nat} (h : σ.1 10 3 = nI N) (hN : N ≤ 60) : Ct yX7_lastX M_X7_lastX [.ref 10] σ (some (.int (σ.1 11 N)), σ) := by
  refine ct_of (k := 0) rfl rfl rfl (Nat.le_of_ble_eq_true rfl) ?_
  refine x_aload_n (pc' := 1) rfl dX7_lastX_0 rfl ?_
  refine x_get (v := .int _) (pc' := 4) fk_X7_18 (by first | assumption | exact ⟨by decide, rfl⟩) rfl dX7_lastX_1 rfl ?_
  refine x_if_lt (tgt := 28) (pc' := 7) (by decide) dX7_lastX_4 rfl (fun c4 => absurd c4 (by rw [h]; exact nI_pos (by omega))) (fun c4 => ?_)
  refine x_aload_n (pc' := 8) rfl dX7_lastX_7 rfl ?_
  refine x_get (v := .int _) (pc' := 11) fk_X7_18 (by first | assumption | exact ⟨by decide, rfl⟩) rfl dX7_lastX_8 rfl ?_
  refine x_bipush (v := 60) (pc' := 13) (by decide) dX7_lastX_11 rfl ?_
  refine x_icmp_gt (tgt := 28) (pc' := 16) (by decide) dX7_lastX_13 rfl (fun c13 => absurd c13 (by rw [h]; exact i_nlt.mpr (nI_le (b := 60) hN (by decide)))) (fun c13 => ?_)
  refine x_aload_n (pc' := 17) rfl dX7_lastX_16 rfl ?_
  refine x_get (v := .ref 11) (pc' := 20) fk_X7_9 (by first | assumption | exact ⟨by decide, rfl⟩) rfl dX7_lastX_17 rfl ?_
  refine x_aload_n (pc' := 21) rfl dX7_lastX_20 rfl ?_
  refine x_get (v := .int _) (pc' := 24) fk_X7_18 (by first | assumption | exact ⟨by decide, rfl⟩) rfl dX7_lastX_21 rfl ?_
  refine x_ialdn (N := 61) (n := N) (pc' := 25) (by first | assumption | exact ⟨by decide, rfl⟩) (by decide) h (by omega) dX7_lastX_24 rfl ?_
  refine x_goto (tgt := 29) (by decide) dX7_lastX_25 ?_
  exact x_iret rfl dX7_lastX_29 rfl
set_option maxRecDepth 100000 in
set_option maxHeartbeats 4000000 in
theorem c_X7_lastY {σ : St} {N : Nat} (h : σ.1 10 3 = nI N) (hN : N ≤ 60) : Ct yX7_lastY M_X7_lastY [.ref 10] σ (some (.int (σ.1 12 N)), σ) := by
  refine ct_of (k := 0) rfl rfl rfl (Nat.le_of_ble_eq_true rfl) ?_
  refine x_aload_n (pc' := 1) rfl dX7_lastY_0 rfl ?_
  refine x_get (v := .int _) (pc' := 4) fk_X7_18 (by first | assumption | exact ⟨by decide, rfl⟩) rfl dX7_lastY_1 rfl ?_
  refine x_if_lt (tgt := 28) (pc' := 7) (by decide) dX7_lastY_4 rfl (fun c4 => absurd c4 (by rw [h]; exact nI_pos (by omega))) (fun c4 => ?_)
  refine x_aload_n (pc' := 8) rfl dX7_lastY_7 rfl ?_
  refine x_get (v := .int _) (pc' := 11) fk_X7_18 (by first | assumption | exact ⟨by decide, rfl⟩) rfl dX7_lastY_8 rfl ?_
  refine x_bipush (v := 60) (pc' := 13) (by decide) dX7_lastY_11 rfl ?_
  refine x_icmp_gt (tgt := 28) (pc' := 16) (by decide) dX7_lastY_13 rfl (fun c13 => absurd c13 (by rw [h]; exact i_nlt.mpr (nI_le (b := 60) hN (by decide)))) (fun c13 => ?_)
  refine x_aload_n (pc' := 17) rfl dX7_lastY_16 rfl ?_
  refine x_get (v := .ref 12) (pc' := 20) fk_X7_15 (by first | assumption | exact ⟨by decide, rfl⟩) rfl dX7_lastY_17 rfl ?_
  refine x_aload_n (pc' := 21) rfl dX7_lastY_20 rfl ?_
  refine x_get (v := .int _) (pc' := 24) fk_X7_18 (by first | assumption | exact ⟨by decide, rfl⟩) rfl dX7_lastY_21 rfl ?_
  refine x_ialdn (N := 61) (n := N) (pc' := 25) (by first | assumption | exact ⟨by decide, rfl⟩) (by decide) h (by omega) dX7_lastY_24 rfl ?_
  refine x_goto (tgt := 29) (by decide) dX7_lastY_25 ?_
  exact x_iret rfl dX7_lastY_29 rfl
