def ovl (v : Nat → Int32) (G X Y W H : Nat) : Prop := X < fN v G 1 + (fN v G 4 - 1) * fN v G 3 ∧ fN v G 1 < X + W ∧ Y < fN v G 2 + (fN v G 5 - 1) * fN v G 3 ∧ fN v G 2 < Y + H
theorem nI_lin {a b c : Nat} (h : 1 ≤ b) : nI a + (nI b - 1) * nI c = nI (a + (b - 1) * c) := by
  rw [show nI b - 1 = nI (b - 1) from pk_sub (b := 1) h, pk_mul, nI_add]
set_option maxRecDepth 100000 in
set_option maxHeartbeats 4000000 in
theorem c_X10_overlaps {σ : St} {G X Y W H : Nat} (hv : Ok (σ.1 19)) (hG : G < cN (σ.1 19)) (hX : X ≤ 1000) (hY : Y ≤ 1000) (hW : W ≤ 1000) (hH : H ≤ 1000) : Ct yX10_overlaps M_X10_overlaps [.ref 18, .int (nI G), .int (nI X), .int (nI Y), .int (nI W), .int (nI H)] σ (some (.int (pb (ovl (σ.1 19) G X Y W H))), σ) := by
  obtain ⟨g6, c5, r5, c2, r2, s1, s64⟩ := hv.b hG
  have hf := hv.F hG
  obtain ⟨-, -, -, -, -, -, -, b1, b2⟩ := id hf
  refine ct_of (k := 2) rfl rfl rfl (Nat.le_of_ble_eq_true rfl) ?_
  refine x_aload_n (pc' := 1) rfl dX10_overlaps_0 rfl ?_
  refine x_iload_n (pc' := 2) rfl dX10_overlaps_1 rfl ?_
  refine x_iconst (v := 1) (pc' := 3) (by decide) dX10_overlaps_2 rfl ?_
  refine x_callVi (As := [.int _, .int _]) (rest := []) (ci := 9) (pc' := 6) rfl vk_X10_58 mk_X10_its (by decide) (by first | assumption | exact ⟨by decide, rfl⟩) (by decide) rfl (Nat.le_of_ble_eq_true rfl) dX10_overlaps_3 rfl (c_X10_its (E := 1) rfl rfl (by omega)) ?_
  refine x_aload_n (pc' := 7) rfl dX10_overlaps_6 rfl ?_
  refine x_iload_n (pc' := 8) rfl dX10_overlaps_7 rfl ?_
  refine x_iconst (v := 4) (pc' := 9) (by decide) dX10_overlaps_8 rfl ?_
  refine x_callVi (As := [.int _, .int _]) (rest := [.int _]) (ci := 9) (pc' := 12) rfl vk_X10_58 mk_X10_its (by decide) (by first | assumption | exact ⟨by decide, rfl⟩) (by decide) rfl (Nat.le_of_ble_eq_true rfl) dX10_overlaps_9 rfl (c_X10_its (E := 4) rfl rfl (by omega)) ?_
  refine x_iconst (v := 1) (pc' := 13) (by decide) dX10_overlaps_12 rfl ?_
  refine x_isub (pc' := 14) dX10_overlaps_13 rfl ?_
  refine x_aload_n (pc' := 15) rfl dX10_overlaps_14 rfl ?_
  refine x_iload_n (pc' := 16) rfl dX10_overlaps_15 rfl ?_
  refine x_iconst (v := 3) (pc' := 17) (by decide) dX10_overlaps_16 rfl ?_
  refine x_callVi (As := [.int _, .int _]) (rest := [.int _, .int _]) (ci := 9) (pc' := 20) rfl vk_X10_58 mk_X10_its (by decide) (by first | assumption | exact ⟨by decide, rfl⟩) (by decide) rfl (Nat.le_of_ble_eq_true rfl) dX10_overlaps_17 rfl (c_X10_its (E := 3) rfl rfl (by omega)) ?_
  refine x_imul (pc' := 21) dX10_overlaps_20 rfl ?_
  refine x_iadd (pc' := 22) dX10_overlaps_21 rfl ?_
  refine x_top (y := nI (fN (σ.1 19) G 1 + (fN (σ.1 19) G 4 - 1) * fN (σ.1 19) G 3)) (by rw [hf.at (by omega) (by omega), hf.at (by omega) (by omega), hf.at (by omega) (by omega)]; exact nI_lin (by omega)) ?_
  refine x_istore (lv' := [_, _, _, _, _, _, _, _]) (pc' := 24) (by decide) rfl dX10_overlaps_22 rfl ?_
  refine x_aload_n (pc' := 25) rfl dX10_overlaps_24 rfl ?_
  refine x_iload_n (pc' := 26) rfl dX10_overlaps_25 rfl ?_
  refine x_iconst (v := 2) (pc' := 27) (by decide) dX10_overlaps_26 rfl ?_
  refine x_callVi (As := [.int _, .int _]) (rest := []) (ci := 9) (pc' := 30) rfl vk_X10_58 mk_X10_its (by decide) (by first | assumption | exact ⟨by decide, rfl⟩) (by decide) rfl (Nat.le_of_ble_eq_true rfl) dX10_overlaps_27 rfl (c_X10_its (E := 2) rfl rfl (by omega)) ?_
  refine x_aload_n (pc' := 31) rfl dX10_overlaps_30 rfl ?_
  refine x_iload_n (pc' := 32) rfl dX10_overlaps_31 rfl ?_
  refine x_iconst (v := 5) (pc' := 33) (by decide) dX10_overlaps_32 rfl ?_
  refine x_callVi (As := [.int _, .int _]) (rest := [.int _]) (ci := 9) (pc' := 36) rfl vk_X10_58 mk_X10_its (by decide) (by first | assumption | exact ⟨by decide, rfl⟩) (by decide) rfl (Nat.le_of_ble_eq_true rfl) dX10_overlaps_33 rfl (c_X10_its (E := 5) rfl rfl (by omega)) ?_
  refine x_iconst (v := 1) (pc' := 37) (by decide) dX10_overlaps_36 rfl ?_
  refine x_isub (pc' := 38) dX10_overlaps_37 rfl ?_
  refine x_aload_n (pc' := 39) rfl dX10_overlaps_38 rfl ?_
  refine x_iload_n (pc' := 40) rfl dX10_overlaps_39 rfl ?_
  refine x_iconst (v := 3) (pc' := 41) (by decide) dX10_overlaps_40 rfl ?_
  refine x_callVi (As := [.int _, .int _]) (rest := [.int _, .int _]) (ci := 9) (pc' := 44) rfl vk_X10_58 mk_X10_its (by decide) (by first | assumption | exact ⟨by decide, rfl⟩) (by decide) rfl (Nat.le_of_ble_eq_true rfl) dX10_overlaps_41 rfl (c_X10_its (E := 3) rfl rfl (by omega)) ?_
  refine x_imul (pc' := 45) dX10_overlaps_44 rfl ?_
  refine x_iadd (pc' := 46) dX10_overlaps_45 rfl ?_
  refine x_top (y := nI (fN (σ.1 19) G 2 + (fN (σ.1 19) G 5 - 1) * fN (σ.1 19) G 3)) (by rw [hf.at (by omega) (by omega), hf.at (by omega) (by omega), hf.at (by omega) (by omega)]; exact nI_lin (by omega)) ?_
  refine x_istore (lv' := [_, _, _, _, _, _, _, _]) (pc' := 48) (by decide) rfl dX10_overlaps_46 rfl ?_
  refine x_iload_n (pc' := 49) rfl dX10_overlaps_48 rfl ?_
  refine x_iload (pc' := 51) rfl dX10_overlaps_49 rfl ?_
  refine x_icmp_ge (tgt := 90) (pc' := 54) (by decide) dX10_overlaps_51 rfl (fun c51 => ?_) (fun c51 => ?_)
  · refine x_iconst (v := 0) (pc' := 91) (by decide) dX10_overlaps_90 rfl ?_
    exact x_zret rfl (by first | rfl | exact b01_nar _ | exact pb_nar _) dX10_overlaps_91 (ret_i (pb_0 (fun q => nI_ge q.1 (by omega) c51)).symm)
  · refine x_aload_n (pc' := 55) rfl dX10_overlaps_54 rfl ?_
    refine x_iload_n (pc' := 56) rfl dX10_overlaps_55 rfl ?_
    refine x_iconst (v := 1) (pc' := 57) (by decide) dX10_overlaps_56 rfl ?_
    refine x_callVi (As := [.int _, .int _]) (rest := []) (ci := 9) (pc' := 60) rfl vk_X10_58 mk_X10_its (by decide) (by first | assumption | exact ⟨by decide, rfl⟩) (by decide) rfl (Nat.le_of_ble_eq_true rfl) dX10_overlaps_57 rfl (c_X10_its (E := 1) rfl rfl (by omega)) ?_
    refine x_iload_n (pc' := 61) rfl dX10_overlaps_60 rfl ?_
    refine x_iload (pc' := 63) rfl dX10_overlaps_61 rfl ?_
    rw [hf.at (by omega) (by omega)]
    refine x_iadd (pc' := 64) dX10_overlaps_63 rfl ?_
    refine x_top (nI_add X W) ?_
    refine x_icmp_ge (tgt := 90) (pc' := 67) (by decide) dX10_overlaps_64 rfl (fun c64 => ?_) (fun c64 => ?_)
    · refine x_iconst (v := 0) (pc' := 91) (by decide) dX10_overlaps_90 rfl ?_
      exact x_zret rfl (by first | rfl | exact b01_nar _ | exact pb_nar _) dX10_overlaps_91 (ret_i (pb_0 (fun q => nI_ge q.2.1 (by omega) c64)).symm)
    · refine x_iload_n (pc' := 68) rfl dX10_overlaps_67 rfl ?_
      refine x_iload (pc' := 70) rfl dX10_overlaps_68 rfl ?_
      refine x_icmp_ge (tgt := 90) (pc' := 73) (by decide) dX10_overlaps_70 rfl (fun c70 => ?_) (fun c70 => ?_)
      · refine x_iconst (v := 0) (pc' := 91) (by decide) dX10_overlaps_90 rfl ?_
        exact x_zret rfl (by first | rfl | exact b01_nar _ | exact pb_nar _) dX10_overlaps_91 (ret_i (pb_0 (fun q => nI_ge q.2.2.1 (by omega) c70)).symm)
      · refine x_aload_n (pc' := 74) rfl dX10_overlaps_73 rfl ?_
        refine x_iload_n (pc' := 75) rfl dX10_overlaps_74 rfl ?_
        refine x_iconst (v := 2) (pc' := 76) (by decide) dX10_overlaps_75 rfl ?_
        refine x_callVi (As := [.int _, .int _]) (rest := []) (ci := 9) (pc' := 79) rfl vk_X10_58 mk_X10_its (by decide) (by first | assumption | exact ⟨by decide, rfl⟩) (by decide) rfl (Nat.le_of_ble_eq_true rfl) dX10_overlaps_76 rfl (c_X10_its (E := 2) rfl rfl (by omega)) ?_
        refine x_iload_n (pc' := 80) rfl dX10_overlaps_79 rfl ?_
        refine x_iload (pc' := 82) rfl dX10_overlaps_80 rfl ?_
        rw [hf.at (by omega) (by omega)]
        refine x_iadd (pc' := 83) dX10_overlaps_82 rfl ?_
        refine x_top (nI_add Y H) ?_
        refine x_icmp_ge (tgt := 90) (pc' := 86) (by decide) dX10_overlaps_83 rfl (fun c83 => ?_) (fun c83 => ?_)
        · refine x_iconst (v := 0) (pc' := 91) (by decide) dX10_overlaps_90 rfl ?_
          exact x_zret rfl (by first | rfl | exact b01_nar _ | exact pb_nar _) dX10_overlaps_91 (ret_i (pb_0 (fun q => nI_ge q.2.2.2 (by omega) c83)).symm)
        · refine x_iconst (v := 1) (pc' := 87) (by decide) dX10_overlaps_86 rfl ?_
          refine x_goto (tgt := 91) (by decide) dX10_overlaps_87 ?_
          exact x_zret rfl (by first | rfl | exact b01_nar _ | exact pb_nar _) dX10_overlaps_91 (ret_i (pb_1 ⟨(nI_ltI (by omega) (by omega)).mp (i_nle.mp c51), (nI_ltI (by omega) (by omega)).mp (i_nle.mp c64), (nI_ltI (by omega) (by omega)).mp (i_nle.mp c70), (nI_ltI (by omega) (by omega)).mp (i_nle.mp c83)⟩).symm)
set_option maxRecDepth 100000 in
set_option maxHeartbeats 4000000 in
theorem v_X10_overlaps {σ : St} {v0 : Nat → Int32} (hs : σ.1 19 = v0) {G X Y W H : Nat} (hv : Ok v0) (hG : G < cN v0) (hX : X ≤ 1000) (hY : Y ≤ 1000) (hW : W ≤ 1000) (hH : H ≤ 1000) : Ct yX10_overlaps M_X10_overlaps [.ref 18, .int (nI G), .int (nI X), .int (nI Y), .int (nI W), .int (nI H)] σ (some (.int (pb (ovl v0 G X Y W H))), σ) := by
  subst hs
  exact c_X10_overlaps hv hG hX hY hW hH
def apF (v : Nat → Int32) (p : Int32) (X Y W H g : Nat) : Prop := ∀ j, g ≤ j → j < cN v → v (2 + 6 * j) = p → ¬ ovl v j X Y W H
def inP (v : Nat → Int32) (P X Y S W H : Nat) : Prop := S < fN v P 3 ∧ onS v P (64 * X) (64 * Y) ∧ onS v P (64 * (X + W)) (64 * (Y + H))
def mayS (v : Nat → Int32) (p : Int32) (X Y S W H : Nat) : Prop := (p = -1 ∨ inP v p.toNatClampNeg X Y S W H) ∧ apF v p X Y W H 0
set_option maxRecDepth 100000 in
set_option maxHeartbeats 4000000 in
theorem l_X10_mayBe {σ : St} {p : Int32} {X Y S W H : Nat} (hv : Ok (σ.1 19)) (hX : X ≤ 1000) (hY : Y ≤ 1000) (hW : W ≤ 256) (hH : H ≤ 256) : ∀ (n g : Nat), g + n = cN (σ.1 19) → Ex M_X10_mayBe (some (.int (pb (apF (σ.1 19) p X Y W H g))), σ) 71 [some (.ref 18), some (.int p), some (.int (nI X)), some (.int (nI Y)), some (.int (nI S)), some (.int (nI W)), some (.int (nI H)), some (.int (nI g))] [] σ := by
  intro n
  induction n with
  | zero =>
    intro g hg
    have h6 := hv.c6
    obtain rfl : g = cN (σ.1 19) := by omega
    rw [pb_1 (show apF (σ.1 19) p X Y W H (cN (σ.1 19)) from fun j h1 h2 => absurd h2 (by omega))]
    refine x_iload (pc' := 73) rfl dX10_mayBe_71 rfl ?_
    refine x_aload_n (pc' := 74) rfl dX10_mayBe_73 rfl ?_
    refine x_get (v := .ref 19) (pc' := 77) fk_X10_7 (by first | assumption | exact ⟨by decide, rfl⟩) rfl dX10_mayBe_74 rfl ?_
    refine x_iconst (v := 0) (pc' := 78) (by decide) dX10_mayBe_77 rfl ?_
    refine x_ialdn (N := 338) (n := 0) (pc' := 79) (by first | assumption | exact ⟨by decide, rfl⟩) (by decide) rfl (by decide) dX10_mayBe_78 rfl ?_
    refine x_icmp_ge (tgt := 116) (pc' := 82) (by decide) dX10_mayBe_79 rfl (fun c79 => ?_) (fun c79 => absurd (by rw [hv.c0]; exact nI_le (by omega) (by omega)) c79)
    refine x_iconst (v := 1) (pc' := 117) (by decide) dX10_mayBe_116 rfl ?_
    exact x_zret rfl (by first | rfl | exact b01_nar _ | exact pb_nar _) dX10_mayBe_117 rfl
  | succ n ih =>
    intro g hg
    have h6 := hv.c6
    have nx : ¬ (σ.1 19 (2 + 6 * g) = p ∧ ovl (σ.1 19) g X Y W H) → pb (apF (σ.1 19) p X Y W H g) = pb (apF (σ.1 19) p X Y W H (g + 1)) := fun hno => pb_c ⟨fun h j h1 h2 => h j (by omega) h2, fun h j h1 h2 h3 => (Nat.eq_or_lt_of_le h1).elim (fun e => by subst e; exact fun q => hno ⟨h3, q⟩) (fun e => h j e h2 h3)⟩
    refine x_iload (pc' := 73) rfl dX10_mayBe_71 rfl ?_
    refine x_aload_n (pc' := 74) rfl dX10_mayBe_73 rfl ?_
    refine x_get (v := .ref 19) (pc' := 77) fk_X10_7 (by first | assumption | exact ⟨by decide, rfl⟩) rfl dX10_mayBe_74 rfl ?_
    refine x_iconst (v := 0) (pc' := 78) (by decide) dX10_mayBe_77 rfl ?_
    refine x_ialdn (N := 338) (n := 0) (pc' := 79) (by first | assumption | exact ⟨by decide, rfl⟩) (by decide) rfl (by decide) dX10_mayBe_78 rfl ?_
    refine x_icmp_ge (tgt := 116) (pc' := 82) (by decide) dX10_mayBe_79 rfl (fun c79 => absurd c79 (by rw [hv.c0]; exact nI_ge (by omega) (by omega))) (fun c79 => ?_)
    refine x_aload_n (pc' := 83) rfl dX10_mayBe_82 rfl ?_
    refine x_iload (pc' := 85) rfl dX10_mayBe_83 rfl ?_
    refine x_iconst (v := 0) (pc' := 86) (by decide) dX10_mayBe_85 rfl ?_
    refine x_callVi (As := [.int _, .int _]) (rest := []) (ci := 9) (pc' := 89) rfl vk_X10_58 mk_X10_its (by decide) (by first | assumption | exact ⟨by decide, rfl⟩) (by decide) rfl (Nat.le_of_ble_eq_true rfl) dX10_mayBe_86 rfl (c_X10_its (E := 0) rfl rfl (by omega)) ?_
    refine x_iload_n (pc' := 90) rfl dX10_mayBe_89 rfl ?_
    refine x_icmp_ne (tgt := 110) (pc' := 93) (by decide) dX10_mayBe_90 rfl (fun c90 => ?_) (fun c90 => ?_)
    · refine x_iinc (lv' := [_, _, _, _, _, _, _, _]) (pc' := 113) rfl (nI_1 g) (by decide) rfl dX10_mayBe_110 rfl ?_
      refine x_goto (tgt := 71) (by decide) dX10_mayBe_113 ?_
      rw [nx (fun q => c90 q.1)]
      exact ih (g + 1) (by omega)
    · refine x_aload_n (pc' := 94) rfl dX10_mayBe_93 rfl ?_
      refine x_iload (pc' := 96) rfl dX10_mayBe_94 rfl ?_
      refine x_iload_n (pc' := 97) rfl dX10_mayBe_96 rfl ?_
      refine x_iload_n (pc' := 98) rfl dX10_mayBe_97 rfl ?_
      refine x_iload (pc' := 100) rfl dX10_mayBe_98 rfl ?_
      refine x_iload (pc' := 102) rfl dX10_mayBe_100 rfl ?_
      refine x_callVi (As := [.int _, .int _, .int _, .int _, .int _]) (rest := []) (ci := 9) (pc' := 105) rfl vk_X10_207 mk_X10_overlaps (by decide) (by first | assumption | exact ⟨by decide, rfl⟩) (by decide) rfl (Nat.le_of_ble_eq_true rfl) dX10_mayBe_102 rfl (c_X10_overlaps hv (by omega) hX hY (by omega) (by omega)) ?_
      refine x_if_eq (tgt := 110) (pc' := 108) (by decide) dX10_mayBe_105 rfl (fun c105 => ?_) (fun c105 => ?_)
      · refine x_iinc (lv' := [_, _, _, _, _, _, _, _]) (pc' := 113) rfl (nI_1 g) (by decide) rfl dX10_mayBe_110 rfl ?_
        refine x_goto (tgt := 71) (by decide) dX10_mayBe_113 ?_
        rw [nx (fun q => pb_iff.mp c105 q.2)]
        exact ih (g + 1) (by omega)
      · refine x_iconst (v := 0) (pc' := 109) (by decide) dX10_mayBe_108 rfl ?_
        exact x_zret rfl (by first | rfl | exact b01_nar _ | exact pb_nar _) dX10_mayBe_109 (ret_i (pb_0 (fun q => q g (Nat.le_refl _) (by omega) c90 (pb_n c105))).symm)
set_option maxRecDepth 100000 in
set_option maxHeartbeats 4000000 in
theorem c_X10_mayBe {σ : St} {p : Int32} {X Y S W H : Nat} (hv : Ok (σ.1 19)) (hp : p = -1 ∨ ∃ P, P < cN (σ.1 19) ∧ p = nI P) (hS : S ≤ 64) (hX : X ≤ 1000) (hY : Y ≤ 1000) (hW : W ≤ 256) (hH : H ≤ 256) : Ct yX10_mayBe M_X10_mayBe [.ref 18, .int p, .int (nI X), .int (nI Y), .int (nI S), .int (nI W), .int (nI H)] σ (some (.int (pb (mayS (σ.1 19) p X Y S W H))), σ) := by
  have h6 := hv.c6
  refine ct_of (k := 1) rfl rfl rfl (Nat.le_of_ble_eq_true rfl) ?_
  by_cases hp1 : p = -1
  · rw [pb_c (show mayS (σ.1 19) p X Y S W H ↔ apF (σ.1 19) p X Y W H 0 from ⟨fun h => h.2, fun h => ⟨Or.inl hp1, h⟩⟩)]
    refine x_iload_n (pc' := 1) rfl dX10_mayBe_0 rfl ?_
    refine x_iconst (v := (-1)) (pc' := 2) (by decide) dX10_mayBe_1 rfl ?_
    refine x_icmp_eq (tgt := 68) (pc' := 5) (by decide) dX10_mayBe_2 rfl (fun c2 => ?_) (fun c2 => absurd hp1 c2)
    refine x_iconst (v := 0) (pc' := 69) (by decide) dX10_mayBe_68 rfl ?_
    refine x_istore (lv' := [_, _, _, _, _, _, _, _]) (pc' := 71) (by decide) rfl dX10_mayBe_69 rfl ?_
    exact l_X10_mayBe hv hX hY hW hH _ 0 (Nat.zero_add _)
  · obtain ⟨P, hP, rfl⟩ := hp.resolve_left hp1
    have hf := hv.F hP
    obtain ⟨g6, c5, r5, c2, r2, s1, s64⟩ := hv.b hP
    have ecl : (nI P).toNatClampNeg = P := nI_clamp (by omega)
    have k48 : Ex M_X10_mayBe (some (.int (pb (mayS (σ.1 19) (nI P) X Y S W H))), σ) 48 [some (.ref 18), some (.int (nI P)), some (.int (nI X)), some (.int (nI Y)), some (.int (nI S)), some (.int (nI W)), some (.int (nI H)), none] [.int (pb (onS (σ.1 19) P (64 * X) (64 * Y) ∧ onS (σ.1 19) P (64 * (X + W)) (64 * (Y + H))))] σ := by
      refine x_istore (lv' := [_, _, _, _, _, _, _, _]) (pc' := 50) (by decide) rfl dX10_mayBe_48 rfl ?_
      refine x_iload (pc' := 52) rfl dX10_mayBe_50 rfl ?_
      refine x_aload_n (pc' := 53) rfl dX10_mayBe_52 rfl ?_
      refine x_iload_n (pc' := 54) rfl dX10_mayBe_53 rfl ?_
      refine x_iconst (v := 3) (pc' := 55) (by decide) dX10_mayBe_54 rfl ?_
      refine x_callVi (As := [.int _, .int _]) (rest := [.int _]) (ci := 9) (pc' := 58) rfl vk_X10_58 mk_X10_its (by decide) (by first | assumption | exact ⟨by decide, rfl⟩) (by decide) rfl (Nat.le_of_ble_eq_true rfl) dX10_mayBe_55 rfl (c_X10_its (E := 3) rfl rfl (by omega)) ?_
      rw [hf.at (by omega) (by omega)]
      refine x_icmp_ge (tgt := 66) (pc' := 61) (by decide) dX10_mayBe_58 rfl (fun c58 => ?_) (fun c58 => ?_)
      · refine x_iconst (v := 0) (pc' := 67) (by decide) dX10_mayBe_66 rfl ?_
        exact x_zret rfl (by first | rfl | exact b01_nar _ | exact pb_nar _) dX10_mayBe_67 (ret_i (pb_0 (fun q => q.1.elim hp1 (fun h => by rw [ecl] at h; exact nI_ge h.1 (by omega) c58))).symm)
      · refine x_iload (pc' := 63) rfl dX10_mayBe_61 rfl ?_
        refine x_if_ne (tgt := 68) (pc' := 66) (by decide) dX10_mayBe_63 rfl (fun c63 => ?_) (fun c63 => ?_)
        · refine x_iconst (v := 0) (pc' := 69) (by decide) dX10_mayBe_68 rfl ?_
          refine x_istore (lv' := [_, _, _, _, _, _, _, _]) (pc' := 71) (by decide) rfl dX10_mayBe_69 rfl ?_
          rw [pb_c (show mayS (σ.1 19) (nI P) X Y S W H ↔ apF (σ.1 19) (nI P) X Y W H 0 from ⟨fun h => h.2, fun h => ⟨Or.inr (by rw [ecl]; exact ⟨(nI_ltI (by omega) (by omega)).mp (i_nle.mp c58), pb_n c63⟩), h⟩⟩)]
          exact l_X10_mayBe hv hX hY hW hH _ 0 (Nat.zero_add _)
        · refine x_iconst (v := 0) (pc' := 67) (by decide) dX10_mayBe_66 rfl ?_
          exact x_zret rfl (by first | rfl | exact b01_nar _ | exact pb_nar _) dX10_mayBe_67 (ret_i (pb_0 (fun q => q.1.elim hp1 (fun h => by rw [ecl] at h; exact pb_iff.mp c63 h.2))).symm)
    refine x_iload_n (pc' := 1) rfl dX10_mayBe_0 rfl ?_
    refine x_iconst (v := (-1)) (pc' := 2) (by decide) dX10_mayBe_1 rfl ?_
    refine x_icmp_eq (tgt := 68) (pc' := 5) (by decide) dX10_mayBe_2 rfl (fun c2 => absurd c2 hp1) (fun c2 => ?_)
    refine x_aload_n (pc' := 6) rfl dX10_mayBe_5 rfl ?_
    refine x_iload_n (pc' := 7) rfl dX10_mayBe_6 rfl ?_
    refine x_bipush (v := 64) (pc' := 9) (by decide) dX10_mayBe_7 rfl ?_
    refine x_iload_n (pc' := 10) rfl dX10_mayBe_9 rfl ?_
    refine x_imul (pc' := 11) dX10_mayBe_10 rfl ?_
    refine x_bipush (v := 64) (pc' := 13) (by decide) dX10_mayBe_11 rfl ?_
    refine x_iload_n (pc' := 14) rfl dX10_mayBe_13 rfl ?_
    refine x_imul (pc' := 15) dX10_mayBe_14 rfl ?_
    refine x_callVi (As := [.int _, .int _, .int _]) (rest := []) (ci := 9) (pc' := 18) rfl vk_X10_74 mk_X10_isOn (by decide) (by first | assumption | exact ⟨by decide, rfl⟩) (by decide) rfl (Nat.le_of_ble_eq_true rfl) dX10_mayBe_15 rfl (c_X10_isOn hf rfl (px := 64 * X) (py := 64 * Y) (pk_mul 64 X) (pk_mul 64 Y) g6 (by omega) (by omega)) ?_
    refine x_if_eq (tgt := 47) (pc' := 21) (by decide) dX10_mayBe_18 rfl (fun c18 => ?_) (fun c18 => ?_)
    · refine x_iconst (v := 0) (pc' := 48) (by decide) dX10_mayBe_47 rfl ?_
      exact x_top (pb_0 (fun q => pb_iff.mp c18 q.1)).symm k48
    · refine x_aload_n (pc' := 22) rfl dX10_mayBe_21 rfl ?_
      refine x_iload_n (pc' := 23) rfl dX10_mayBe_22 rfl ?_
      refine x_bipush (v := 64) (pc' := 25) (by decide) dX10_mayBe_23 rfl ?_
      refine x_iload_n (pc' := 26) rfl dX10_mayBe_25 rfl ?_
      refine x_iload (pc' := 28) rfl dX10_mayBe_26 rfl ?_
      refine x_iadd (pc' := 29) dX10_mayBe_28 rfl ?_
      refine x_imul (pc' := 30) dX10_mayBe_29 rfl ?_
      refine x_bipush (v := 64) (pc' := 32) (by decide) dX10_mayBe_30 rfl ?_
      refine x_iload_n (pc' := 33) rfl dX10_mayBe_32 rfl ?_
      refine x_iload (pc' := 35) rfl dX10_mayBe_33 rfl ?_
      refine x_iadd (pc' := 36) dX10_mayBe_35 rfl ?_
      refine x_imul (pc' := 37) dX10_mayBe_36 rfl ?_
      refine x_callVi (As := [.int _, .int _, .int _]) (rest := []) (ci := 9) (pc' := 40) rfl vk_X10_74 mk_X10_isOn (by decide) (by first | assumption | exact ⟨by decide, rfl⟩) (by decide) rfl (Nat.le_of_ble_eq_true rfl) dX10_mayBe_37 rfl (c_X10_isOn hf rfl (px := 64 * (X + W)) (py := 64 * (Y + H)) (by rw [nI_add]; exact pk_mul 64 _) (by rw [nI_add]; exact pk_mul 64 _) g6 (by omega) (by omega)) ?_
      refine x_if_eq (tgt := 47) (pc' := 43) (by decide) dX10_mayBe_40 rfl (fun c40 => ?_) (fun c40 => ?_)
      · refine x_iconst (v := 0) (pc' := 48) (by decide) dX10_mayBe_47 rfl ?_
        exact x_top (pb_0 (fun q => pb_iff.mp c40 q.2)).symm k48
      · refine x_iconst (v := 1) (pc' := 44) (by decide) dX10_mayBe_43 rfl ?_
        refine x_goto (tgt := 48) (by decide) dX10_mayBe_44 ?_
        exact x_top (pb_1 ⟨pb_n c18, pb_n c40⟩).symm k48
set_option maxRecDepth 100000 in
set_option maxHeartbeats 4000000 in
theorem v_X10_mayBe {σ : St} {v0 : Nat → Int32} (hs : σ.1 19 = v0) {p : Int32} {X Y S W H : Nat} (hv : Ok v0) (hp : p = -1 ∨ ∃ P, P < cN v0 ∧ p = nI P) (hS : S ≤ 64) (hX : X ≤ 1000) (hY : Y ≤ 1000) (hW : W ≤ 256) (hH : H ≤ 256) : Ct yX10_mayBe M_X10_mayBe [.ref 18, .int p, .int (nI X), .int (nI Y), .int (nI S), .int (nI W), .int (nI H)] σ (some (.int (pb (mayS v0 p X Y S W H))), σ) := by
  subst hs
  exact c_X10_mayBe hv hp hS hX hY hW hH
def adF (v : Nat → Int32) (N : Nat) (p : Int32) (X Y S C R : Nat) : Nat → Int32 := upd (upd (upd (upd (upd (upd (upd v 0 (nI (N + 1))) (2 + 6 * N + 0) p) (2 + 6 * N + 1) (nI X)) (2 + 6 * N + 2) (nI Y)) (2 + 6 * N + 3) (nI S)) (2 + 6 * N + 4) (nI C)) (2 + 6 * N + 5) (nI R)
def zP (w : Nat → Int32) (N k j : Nat) : Int32 := if 38 + 50 * N ≤ j ∧ j < 38 + 50 * N + k then 0 else w j
def adV (v : Nat → Int32) (p : Int32) (X Y S C R : Nat) : Nat → Int32 := zP (adF v (cN v) p X Y S C R) (cN v) 50
theorem zP_0 (w : Nat → Int32) (N : Nat) : zP w N 0 = w := funext fun j => if_neg (by omega)
theorem zP_s (w : Nat → Int32) (N k : Nat) : upd (zP w N k) (38 + 50 * N + k) 0 = zP w N (k + 1) := by
  funext j
  rw [upd_app]
  unfold zP
  by_cases h : j = 38 + 50 * N + k
  · rw [if_pos h, if_pos (by omega)]
  · rw [if_neg h]
    by_cases h2 : 38 + 50 * N ≤ j ∧ j < 38 + 50 * N + k
    · rw [if_pos h2, if_pos (by omega)]
    · rw [if_neg h2, if_neg (by omega)]
def gB (x y s c r : Int32) : Prop := ((0 ≤ x ∧ x ≤ 1000) ∧ (0 ≤ y ∧ y ≤ 1000) ∧ (1 ≤ s ∧ s ≤ 64) ∧ (2 ≤ c ∧ c ≤ 5) ∧ 2 ≤ r ∧ r ≤ 5) ∧ x + (c - 1) * s ≤ 1000 ∧ y + (r - 1) * s ≤ 1000
theorem i_rng {x : Int32} {a b : Nat} (hb : b < 2 ^ 31) (ha : a ≤ b) (h : nI a ≤ x ∧ x ≤ nI b) : ∃ n, a ≤ n ∧ n ≤ b ∧ x = nI n := by
  have h0 : ¬ x < 0 := by
    have := h.1
    rw [sI_le, nI_toInt (by omega)] at this
    rw [sI_lt]
    have e : (0 : Int32).toInt = 0 := rfl
    omega
  obtain ⟨n, hn, rfl⟩ := nI_of h0
  exact ⟨n, (nI_leI (by omega) hn).mp h.1, (nI_leI hn hb).mp h.2, rfl⟩
theorem gB_nat {x y s c r : Int32} (h : gB x y s c r) : ∃ X Y S C R, x = nI X ∧ y = nI Y ∧ s = nI S ∧ c = nI C ∧ r = nI R ∧ X ≤ 1000 ∧ Y ≤ 1000 ∧ 1 ≤ S ∧ S ≤ 64 ∧ 2 ≤ C ∧ C ≤ 5 ∧ 2 ≤ R ∧ R ≤ 5 ∧ X + (C - 1) * S ≤ 1000 ∧ Y + (R - 1) * S ≤ 1000 := by
  obtain ⟨⟨hx, hy, hs, hc, hr⟩, h1, h2⟩ := h
  obtain ⟨X, -, x2, rfl⟩ := i_rng (a := 0) (b := 1000) (by decide) (by decide) hx
  obtain ⟨Y, -, y2, rfl⟩ := i_rng (a := 0) (b := 1000) (by decide) (by decide) hy
  obtain ⟨S, s1, s2, rfl⟩ := i_rng (a := 1) (b := 64) (by decide) (by decide) hs
  obtain ⟨C, c1, c2, rfl⟩ := i_rng (a := 2) (b := 5) (by decide) (by decide) hc
  obtain ⟨R, r1, r2, rfl⟩ := i_rng (a := 2) (b := 5) (by decide) (by decide) hr
  have m1 : (C - 1) * S ≤ 4 * 64 := Nat.mul_le_mul (by omega) s2
  have m2 : (R - 1) * S ≤ 4 * 64 := Nat.mul_le_mul (by omega) s2
  rw [nI_lin (by omega)] at h1 h2
  exact ⟨X, Y, S, C, R, rfl, rfl, rfl, rfl, rfl, x2, y2, s1, s2, c1, c2, r1, r2, (nI_leI (b := 1000) (by omega) (by decide)).mp h1, (nI_leI (b := 1000) (by omega) (by decide)).mp h2⟩
theorem in_a (x : Int32) : ((0 : Int64) ≤ x.toInt64 ∧ x.toInt64 ≤ 1000) ↔ (0 ≤ x ∧ x ≤ 1000) := in_c x 0 1000 (by decide) (by decide)
theorem in_s (x : Int32) : ((1 : Int64) ≤ x.toInt64 ∧ x.toInt64 ≤ 64) ↔ (1 ≤ x ∧ x ≤ 64) := in_c x 1 64 (by decide) (by decide)
theorem in_r (x : Int32) : ((2 : Int64) ≤ x.toInt64 ∧ x.toInt64 ≤ 5) ↔ (2 ≤ x ∧ x ≤ 5) := in_c x 2 5 (by decide) (by decide)
noncomputable def gMay (v : Nat → Int32) (p x y s c r : Int32) : Prop := mayS v p x.toNatClampNeg y.toNatClampNeg s.toNatClampNeg ((c.toNatClampNeg - 1) * s.toNatClampNeg) ((r.toNatClampNeg - 1) * s.toNatClampNeg)
def gPar (v : Nat → Int32) (p : Int32) : Prop := p = -1 ∨ grS v p
theorem b01_t {P : Prop} [Decidable P] (h : ¬ b01 P = 0) : P := Classical.not_not.mp (fun q => h (b01_0.mpr q))
set_option maxRecDepth 100000 in
set_option maxHeartbeats 4000000 in
theorem l_X10_grid {τ : St} {p : Int32} {X Y S C R N : Nat} {w : Nat → Int32} (hN : N < 6) : ∀ (n k : Nat), k + n = 50 → Ex M_X10_grid (some (.int (nI N)), pA τ 19 (zP w N 50)) 283 [some (.ref 18), some (.int p), some (.int (nI X)), some (.int (nI Y)), some (.int (nI S)), some (.int (nI C)), some (.int (nI R)), some (.int (nI ((C - 1) * S))), some (.int (nI ((R - 1) * S))), some (.int (nI N)), some (.int (nI k))] [] (pA τ 19 (zP w N k)) := by
  intro n
  induction n with
  | zero =>
    intro k hk
    obtain rfl : k = 50 := by omega
    refine x_iload (pc' := 285) rfl dX10_grid_283 rfl ?_
    refine x_bipush (v := 50) (pc' := 287) (by decide) dX10_grid_285 rfl ?_
    refine x_icmp_ge (tgt := 313) (pc' := 290) (by decide) dX10_grid_287 rfl (fun c287 => ?_) (fun c287 => absurd (by decide) c287)
    refine x_iload (pc' := 315) rfl dX10_grid_313 rfl ?_
    exact x_iret rfl dX10_grid_315 rfl
  | succ n ih =>
    intro k hk
    refine x_iload (pc' := 285) rfl dX10_grid_283 rfl ?_
    refine x_bipush (v := 50) (pc' := 287) (by decide) dX10_grid_285 rfl ?_
    refine x_icmp_ge (tgt := 313) (pc' := 290) (by decide) dX10_grid_287 rfl (fun c287 => absurd c287 (nI_ge (b := 50) (by omega) (by decide))) (fun c287 => ?_)
    refine x_aload_n (pc' := 291) rfl dX10_grid_290 rfl ?_
    refine x_get (v := .ref 19) (pc' := 294) fk_X10_7 (by first | assumption | exact ⟨by decide, rfl⟩) rfl dX10_grid_291 rfl ?_
    refine x_bipush (v := 38) (pc' := 296) (by decide) dX10_grid_294 rfl ?_
    refine x_bipush (v := 50) (pc' := 298) (by decide) dX10_grid_296 rfl ?_
    refine x_iload (pc' := 300) rfl dX10_grid_298 rfl ?_
    refine x_imul (pc' := 301) dX10_grid_300 rfl ?_
    refine x_iadd (pc' := 302) dX10_grid_301 rfl ?_
    refine x_iload (pc' := 304) rfl dX10_grid_302 rfl ?_
    refine x_iadd (pc' := 305) dX10_grid_304 rfl ?_
    refine x_iconst (v := 0) (pc' := 306) (by decide) dX10_grid_305 rfl ?_
    refine x_iastn (N := 338) (n := 38 + 50 * N + k) (pc' := 307) (by first | assumption | exact ⟨by decide, rfl⟩) (by decide) (by simp only [lit32, pk_mul, nI_add]) (by omega) dX10_grid_306 rfl ?_
    refine x_st (pA_pI _ _ _ _ _) ?_
    refine x_st (σ' := pA τ 19 (zP w N (k + 1))) (by rw [zP_s]) ?_
    refine x_iinc (lv' := [_, _, _, _, _, _, _, _, _, _, _]) (pc' := 310) rfl (nI_1 k) (by decide) rfl dX10_grid_307 rfl ?_
    refine x_goto (tgt := 283) (by decide) dX10_grid_310 ?_
    exact ih (k + 1) (by omega)
set_option maxRecDepth 100000 in
set_option maxHeartbeats 4000000 in
theorem a_X10_grid {σ : St} {p : Int32} {X Y S C R : Nat} (hv : Ok (σ.1 19)) (hp : gPar (σ.1 19) p) (hX : X ≤ 1000) (hY : Y ≤ 1000) (hS1 : 1 ≤ S) (hS : S ≤ 64) (hC2 : 2 ≤ C) (hC5 : C ≤ 5) (hR2 : 2 ≤ R) (hR5 : R ≤ 5) (hw : X + (C - 1) * S ≤ 1000) (hh : Y + (R - 1) * S ≤ 1000) (hm : mayS (σ.1 19) p X Y S ((C - 1) * S) ((R - 1) * S)) (hN6 : cN (σ.1 19) < 6) {U : Nat} (hU : σ.1 18 3 = nI U) (hU16 : U ≤ 16) : ∃ σ', Ct yX10_grid M_X10_grid [.ref 18, .int p, .int (nI X), .int (nI Y), .int (nI S), .int (nI C), .int (nI R)] σ (some (.int (nI (cN (σ.1 19)))), σ') ∧ DeedM σ σ' U (adV (σ.1 19) p X Y S C R) := by
  obtain ⟨τ, hN, hpu⟩ := c_X10_notes (σ := pI σ 18 0 0) hU hU16
  have hs : τ.1 19 = σ.1 19 := by rw [hpu.row (by decide) (by decide), pI_ne (by decide)]
  have hs0 : (pI σ 18 0 0).1 19 = σ.1 19 := pI_ne (by decide)
  have m1 : (C - 1) * S ≤ 4 * 64 := Nat.mul_le_mul (by omega) hS
  have m2 : (R - 1) * S ≤ 4 * 64 := Nat.mul_le_mul (by omega) hS
  have hpP : p = -1 ∨ ∃ P, P < cN (σ.1 19) ∧ p = nI P := hp.imp id (fun h => grS_nat hv h)
  have hB : gB (nI X) (nI Y) (nI S) (nI C) (nI R) := by
    refine ⟨⟨⟨nI_pos' (by omega), nI_le (b := 1000) hX (by decide)⟩, ⟨nI_pos' (by omega), nI_le (b := 1000) hY (by decide)⟩, ⟨nI_le (a := 1) hS1 (by omega), nI_le (b := 64) hS (by decide)⟩, ⟨nI_le (a := 2) hC2 (by omega), nI_le (b := 5) hC5 (by decide)⟩, nI_le (a := 2) hR2 (by omega), nI_le (b := 5) hR5 (by decide)⟩, ?_, ?_⟩
    · rw [nI_lin (by omega)]; exact nI_le (b := 1000) hw (by decide)
    · rw [nI_lin (by omega)]; exact nI_le (b := 1000) hh (by decide)
  refine ⟨_, ?_, deed_of hpu _⟩
  refine ct_of (k := 4) rfl rfl rfl (Nat.le_of_ble_eq_true rfl) ?_
  by_cases hp1 : p = -1
  · refine x_aload_n (pc' := 1) rfl dX10_grid_0 rfl ?_
    refine x_iconst (v := 0) (pc' := 2) (by decide) dX10_grid_1 rfl ?_
    refine x_puti (pc' := 5) fk_X10_46 pk_9_0 rfl (by first | assumption | exact ⟨by decide, rfl⟩) dX10_grid_2 rfl ?_
    refine x_iload_n (pc' := 6) rfl dX10_grid_5 rfl ?_
    refine x_iconst (v := (-1)) (pc' := 7) (by decide) dX10_grid_6 rfl ?_
    refine x_icmp_eq (tgt := 21) (pc' := 10) (by decide) dX10_grid_7 rfl (fun c7 => ?_) (fun c7 => absurd hp1 c7)
    refine x_iload_n (pc' := 22) rfl dX10_grid_21 rfl ?_
    refine x_i2l (pc' := 23) dX10_grid_22 rfl ?_
    refine x_lconst (v := 0) (pc' := 24) (by decide) dX10_grid_23 rfl ?_
    refine x_ldc2 (pc' := 27) kl_X10_211 dX10_grid_24 rfl ?_
    refine x_callSi (As := [.long _, .long _, .long _]) (rest := []) (pc' := 30) rfl sk_X10_50 mk_X10_in (by decide) rfl (Nat.le_of_ble_eq_true rfl) dX10_grid_27 rfl c_X10_in ?_
    refine x_if_eq (tgt := 88) (pc' := 33) (by decide) dX10_grid_30 rfl (fun c30 => absurd c30 (by rw [b1 ((in_a _).mpr hB.1.1)]; decide)) (fun c30 => ?_)
    refine x_iload_n (pc' := 34) rfl dX10_grid_33 rfl ?_
    refine x_i2l (pc' := 35) dX10_grid_34 rfl ?_
    refine x_lconst (v := 0) (pc' := 36) (by decide) dX10_grid_35 rfl ?_
    refine x_ldc2 (pc' := 39) kl_X10_211 dX10_grid_36 rfl ?_
    refine x_callSi (As := [.long _, .long _, .long _]) (rest := []) (pc' := 42) rfl sk_X10_50 mk_X10_in (by decide) rfl (Nat.le_of_ble_eq_true rfl) dX10_grid_39 rfl c_X10_in ?_
    refine x_if_eq (tgt := 88) (pc' := 45) (by decide) dX10_grid_42 rfl (fun c42 => absurd c42 (by rw [b1 ((in_a _).mpr hB.1.2.1)]; decide)) (fun c42 => ?_)
    refine x_iload (pc' := 47) rfl dX10_grid_45 rfl ?_
    refine x_i2l (pc' := 48) dX10_grid_47 rfl ?_
    refine x_lconst (v := 1) (pc' := 49) (by decide) dX10_grid_48 rfl ?_
    refine x_ldc2 (pc' := 52) kl_X10_213 dX10_grid_49 rfl ?_
    refine x_callSi (As := [.long _, .long _, .long _]) (rest := []) (pc' := 55) rfl sk_X10_50 mk_X10_in (by decide) rfl (Nat.le_of_ble_eq_true rfl) dX10_grid_52 rfl c_X10_in ?_
    refine x_if_eq (tgt := 88) (pc' := 58) (by decide) dX10_grid_55 rfl (fun c55 => absurd c55 (by rw [b1 ((in_s _).mpr hB.1.2.2.1)]; decide)) (fun c55 => ?_)
    refine x_iload (pc' := 60) rfl dX10_grid_58 rfl ?_
    refine x_i2l (pc' := 61) dX10_grid_60 rfl ?_
    refine x_ldc2 (pc' := 64) kl_X10_81 dX10_grid_61 rfl ?_
    refine x_ldc2 (pc' := 67) kl_X10_215 dX10_grid_64 rfl ?_
    refine x_callSi (As := [.long _, .long _, .long _]) (rest := []) (pc' := 70) rfl sk_X10_50 mk_X10_in (by decide) rfl (Nat.le_of_ble_eq_true rfl) dX10_grid_67 rfl c_X10_in ?_
    refine x_if_eq (tgt := 88) (pc' := 73) (by decide) dX10_grid_70 rfl (fun c70 => absurd c70 (by rw [b1 ((in_r _).mpr hB.1.2.2.2.1)]; decide)) (fun c70 => ?_)
    refine x_iload (pc' := 75) rfl dX10_grid_73 rfl ?_
    refine x_i2l (pc' := 76) dX10_grid_75 rfl ?_
    refine x_ldc2 (pc' := 79) kl_X10_81 dX10_grid_76 rfl ?_
    refine x_ldc2 (pc' := 82) kl_X10_215 dX10_grid_79 rfl ?_
    refine x_callSi (As := [.long _, .long _, .long _]) (rest := []) (pc' := 85) rfl sk_X10_50 mk_X10_in (by decide) rfl (Nat.le_of_ble_eq_true rfl) dX10_grid_82 rfl c_X10_in ?_
    refine x_if_ne (tgt := 91) (pc' := 88) (by decide) dX10_grid_85 rfl (fun c85 => ?_) (fun c85 => absurd c85 (by rw [b1 ((in_r _).mpr hB.1.2.2.2.2)]; decide))
    refine x_iload (pc' := 93) rfl dX10_grid_91 rfl ?_
    refine x_iconst (v := 1) (pc' := 94) (by decide) dX10_grid_93 rfl ?_
    refine x_isub (pc' := 95) dX10_grid_94 rfl ?_
    refine x_iload (pc' := 97) rfl dX10_grid_95 rfl ?_
    refine x_imul (pc' := 98) dX10_grid_97 rfl ?_
    refine x_top (y := nI ((C - 1) * S)) (by rw [show nI C - 1 = nI (C - 1) from pk_sub (b := 1) (by omega)]; exact pk_mul _ _) ?_
    refine x_istore (lv' := [_, _, _, _, _, _, _, _, _, _, _]) (pc' := 100) (by decide) rfl dX10_grid_98 rfl ?_
    refine x_iload (pc' := 102) rfl dX10_grid_100 rfl ?_
    refine x_iconst (v := 1) (pc' := 103) (by decide) dX10_grid_102 rfl ?_
    refine x_isub (pc' := 104) dX10_grid_103 rfl ?_
    refine x_iload (pc' := 106) rfl dX10_grid_104 rfl ?_
    refine x_imul (pc' := 107) dX10_grid_106 rfl ?_
    refine x_top (y := nI ((R - 1) * S)) (by rw [show nI R - 1 = nI (R - 1) from pk_sub (b := 1) (by omega)]; exact pk_mul _ _) ?_
    refine x_istore (lv' := [_, _, _, _, _, _, _, _, _, _, _]) (pc' := 109) (by decide) rfl dX10_grid_107 rfl ?_
    refine x_iload_n (pc' := 110) rfl dX10_grid_109 rfl ?_
    refine x_iload (pc' := 112) rfl dX10_grid_110 rfl ?_
    refine x_iadd (pc' := 113) dX10_grid_112 rfl ?_
    refine x_sipush (v := 1000) (pc' := 116) (by decide) dX10_grid_113 rfl ?_
    refine x_icmp_gt (tgt := 129) (pc' := 119) (by decide) dX10_grid_116 rfl (fun c116 => absurd c116 (by rw [nI_add]; exact i_nlt.mpr (nI_le (b := 1000) (by omega) (by decide)))) (fun c116 => ?_)
    refine x_iload_n (pc' := 120) rfl dX10_grid_119 rfl ?_
    refine x_iload (pc' := 122) rfl dX10_grid_120 rfl ?_
    refine x_iadd (pc' := 123) dX10_grid_122 rfl ?_
    refine x_sipush (v := 1000) (pc' := 126) (by decide) dX10_grid_123 rfl ?_
    refine x_icmp_le (tgt := 132) (pc' := 129) (by decide) dX10_grid_126 rfl (fun c126 => ?_) (fun c126 => absurd (by rw [nI_add]; exact nI_le (b := 1000) (by omega) (by decide)) c126)
    refine x_aload_n (pc' := 133) rfl dX10_grid_132 rfl ?_
    refine x_iload_n (pc' := 134) rfl dX10_grid_133 rfl ?_
    refine x_iload_n (pc' := 135) rfl dX10_grid_134 rfl ?_
    refine x_iload_n (pc' := 136) rfl dX10_grid_135 rfl ?_
    refine x_iload (pc' := 138) rfl dX10_grid_136 rfl ?_
    refine x_iload (pc' := 140) rfl dX10_grid_138 rfl ?_
    refine x_iload (pc' := 142) rfl dX10_grid_140 rfl ?_
    refine x_callVi (As := [.int _, .int _, .int _, .int _, .int _, .int _]) (rest := []) (ci := 9) (pc' := 145) rfl vk_X10_217 mk_X10_mayBe (by decide) (by first | assumption | exact ⟨by decide, rfl⟩) (by decide) rfl (Nat.le_of_ble_eq_true rfl) dX10_grid_142 rfl (v_X10_mayBe hs0 hv hpP (by omega) (by omega) (by omega) (by omega) (by omega)) ?_
    refine x_if_ne (tgt := 151) (pc' := 148) (by decide) dX10_grid_145 rfl (fun c145 => ?_) (fun c145 => absurd c145 (by rw [pb_1 hm]; decide))
    refine x_aload_n (pc' := 152) rfl dX10_grid_151 rfl ?_
    refine x_get (v := .ref 19) (pc' := 155) fk_X10_7 (by first | assumption | exact ⟨by decide, rfl⟩) rfl dX10_grid_152 rfl ?_
    refine x_iconst (v := 0) (pc' := 156) (by decide) dX10_grid_155 rfl ?_
    refine x_ialdn (N := 338) (n := 0) (pc' := 157) (by first | assumption | exact ⟨by decide, rfl⟩) (by decide) rfl (by decide) dX10_grid_156 rfl ?_
    refine x_bipush (v := 6) (pc' := 159) (by decide) dX10_grid_157 rfl ?_
    refine x_icmp_ne (tgt := 165) (pc' := 162) (by decide) dX10_grid_159 rfl (fun c159 => ?_) (fun c159 => absurd c159 (by rw [hs0, hv.c0]; exact fun q => absurd (ni_inj (b := 6) (by omega) (by decide) q) (by omega)))
    refine x_aload_n (pc' := 166) rfl dX10_grid_165 rfl ?_
    refine x_callVv (As := []) (rest := []) (ci := 9) (pc' := 169) rfl vk_X10_223 mk_X10_notes (by decide) (by first | assumption | exact ⟨by decide, rfl⟩) (by decide) rfl (Nat.le_of_ble_eq_true rfl) dX10_grid_166 rfl hN ?_
    refine x_aload_n (pc' := 170) rfl dX10_grid_169 rfl ?_
    refine x_get (v := .ref 19) (pc' := 173) fk_X10_7 (by first | assumption | exact ⟨by decide, rfl⟩) rfl dX10_grid_170 rfl ?_
    refine x_iconst (v := 0) (pc' := 174) (by decide) dX10_grid_173 rfl ?_
    refine x_ialdn (N := 338) (n := 0) (pc' := 175) (by first | assumption | exact ⟨by decide, rfl⟩) (by decide) rfl (by decide) dX10_grid_174 rfl ?_
    refine x_top (y := nI (cN (σ.1 19))) (by rw [hs]; exact hv.c0) ?_
    refine x_istore (lv' := [_, _, _, _, _, _, _, _, _, _, _]) (pc' := 177) (by decide) rfl dX10_grid_175 rfl ?_
    refine x_aload_n (pc' := 178) rfl dX10_grid_177 rfl ?_
    refine x_get (v := .ref 19) (pc' := 181) fk_X10_7 (by first | assumption | exact ⟨by decide, rfl⟩) rfl dX10_grid_178 rfl ?_
    refine x_iconst (v := 0) (pc' := 182) (by decide) dX10_grid_181 rfl ?_
    refine x_dup2 (pc' := 183) rfl rfl dX10_grid_182 rfl ?_
    refine x_ialdn (N := 338) (n := 0) (pc' := 184) (by first | assumption | exact ⟨by decide, rfl⟩) (by decide) rfl (by decide) dX10_grid_183 rfl ?_
    refine x_iconst (v := 1) (pc' := 185) (by decide) dX10_grid_184 rfl ?_
    refine x_iadd (pc' := 186) dX10_grid_185 rfl ?_
    refine x_top (y := nI (cN (σ.1 19) + 1)) (by rw [hs, hv.c0]; exact nI_1 _) ?_
    refine x_iastn (N := 338) (n := 0) (pc' := 187) (by first | assumption | exact ⟨by decide, rfl⟩) (by decide) rfl (by decide) dX10_grid_186 rfl ?_
    refine x_st (pI_pA _ _ _ _) ?_
    refine x_aload_n (pc' := 188) rfl dX10_grid_187 rfl ?_
    refine x_get (v := .ref 19) (pc' := 191) fk_X10_7 (by first | assumption | exact ⟨by decide, rfl⟩) rfl dX10_grid_188 rfl ?_
    refine x_iconst (v := 2) (pc' := 192) (by decide) dX10_grid_191 rfl ?_
    refine x_bipush (v := 6) (pc' := 194) (by decide) dX10_grid_192 rfl ?_
    refine x_iload (pc' := 196) rfl dX10_grid_194 rfl ?_
    refine x_imul (pc' := 197) dX10_grid_196 rfl ?_
    refine x_iadd (pc' := 198) dX10_grid_197 rfl ?_
    refine x_iconst (v := 0) (pc' := 199) (by decide) dX10_grid_198 rfl ?_
    refine x_iadd (pc' := 200) dX10_grid_199 rfl ?_
    refine x_iload_n (pc' := 201) rfl dX10_grid_200 rfl ?_
    refine x_iastn (N := 338) (n := 2 + 6 * cN (σ.1 19) + 0) (pc' := 202) (by first | assumption | exact ⟨by decide, rfl⟩) (by decide) (by simp only [lit32, pk_mul, nI_add]) (by omega) dX10_grid_201 rfl ?_
    refine x_st (pA_pI _ _ _ _ _) ?_
    refine x_aload_n (pc' := 203) rfl dX10_grid_202 rfl ?_
    refine x_get (v := .ref 19) (pc' := 206) fk_X10_7 (by first | assumption | exact ⟨by decide, rfl⟩) rfl dX10_grid_203 rfl ?_
    refine x_iconst (v := 2) (pc' := 207) (by decide) dX10_grid_206 rfl ?_
    refine x_bipush (v := 6) (pc' := 209) (by decide) dX10_grid_207 rfl ?_
    refine x_iload (pc' := 211) rfl dX10_grid_209 rfl ?_
    refine x_imul (pc' := 212) dX10_grid_211 rfl ?_
    refine x_iadd (pc' := 213) dX10_grid_212 rfl ?_
    refine x_iconst (v := 1) (pc' := 214) (by decide) dX10_grid_213 rfl ?_
    refine x_iadd (pc' := 215) dX10_grid_214 rfl ?_
    refine x_iload_n (pc' := 216) rfl dX10_grid_215 rfl ?_
    refine x_iastn (N := 338) (n := 2 + 6 * cN (σ.1 19) + 1) (pc' := 217) (by first | assumption | exact ⟨by decide, rfl⟩) (by decide) (by simp only [lit32, pk_mul, nI_add]) (by omega) dX10_grid_216 rfl ?_
    refine x_st (pA_pI _ _ _ _ _) ?_
    refine x_aload_n (pc' := 218) rfl dX10_grid_217 rfl ?_
    refine x_get (v := .ref 19) (pc' := 221) fk_X10_7 (by first | assumption | exact ⟨by decide, rfl⟩) rfl dX10_grid_218 rfl ?_
    refine x_iconst (v := 2) (pc' := 222) (by decide) dX10_grid_221 rfl ?_
    refine x_bipush (v := 6) (pc' := 224) (by decide) dX10_grid_222 rfl ?_
    refine x_iload (pc' := 226) rfl dX10_grid_224 rfl ?_
    refine x_imul (pc' := 227) dX10_grid_226 rfl ?_
    refine x_iadd (pc' := 228) dX10_grid_227 rfl ?_
    refine x_iconst (v := 2) (pc' := 229) (by decide) dX10_grid_228 rfl ?_
    refine x_iadd (pc' := 230) dX10_grid_229 rfl ?_
    refine x_iload_n (pc' := 231) rfl dX10_grid_230 rfl ?_
    refine x_iastn (N := 338) (n := 2 + 6 * cN (σ.1 19) + 2) (pc' := 232) (by first | assumption | exact ⟨by decide, rfl⟩) (by decide) (by simp only [lit32, pk_mul, nI_add]) (by omega) dX10_grid_231 rfl ?_
    refine x_st (pA_pI _ _ _ _ _) ?_
    refine x_aload_n (pc' := 233) rfl dX10_grid_232 rfl ?_
    refine x_get (v := .ref 19) (pc' := 236) fk_X10_7 (by first | assumption | exact ⟨by decide, rfl⟩) rfl dX10_grid_233 rfl ?_
    refine x_iconst (v := 2) (pc' := 237) (by decide) dX10_grid_236 rfl ?_
    refine x_bipush (v := 6) (pc' := 239) (by decide) dX10_grid_237 rfl ?_
    refine x_iload (pc' := 241) rfl dX10_grid_239 rfl ?_
    refine x_imul (pc' := 242) dX10_grid_241 rfl ?_
    refine x_iadd (pc' := 243) dX10_grid_242 rfl ?_
    refine x_iconst (v := 3) (pc' := 244) (by decide) dX10_grid_243 rfl ?_
    refine x_iadd (pc' := 245) dX10_grid_244 rfl ?_
    refine x_iload (pc' := 247) rfl dX10_grid_245 rfl ?_
    refine x_iastn (N := 338) (n := 2 + 6 * cN (σ.1 19) + 3) (pc' := 248) (by first | assumption | exact ⟨by decide, rfl⟩) (by decide) (by simp only [lit32, pk_mul, nI_add]) (by omega) dX10_grid_247 rfl ?_
    refine x_st (pA_pI _ _ _ _ _) ?_
    refine x_aload_n (pc' := 249) rfl dX10_grid_248 rfl ?_
    refine x_get (v := .ref 19) (pc' := 252) fk_X10_7 (by first | assumption | exact ⟨by decide, rfl⟩) rfl dX10_grid_249 rfl ?_
    refine x_iconst (v := 2) (pc' := 253) (by decide) dX10_grid_252 rfl ?_
    refine x_bipush (v := 6) (pc' := 255) (by decide) dX10_grid_253 rfl ?_
    refine x_iload (pc' := 257) rfl dX10_grid_255 rfl ?_
    refine x_imul (pc' := 258) dX10_grid_257 rfl ?_
    refine x_iadd (pc' := 259) dX10_grid_258 rfl ?_
    refine x_iconst (v := 4) (pc' := 260) (by decide) dX10_grid_259 rfl ?_
    refine x_iadd (pc' := 261) dX10_grid_260 rfl ?_
    refine x_iload (pc' := 263) rfl dX10_grid_261 rfl ?_
    refine x_iastn (N := 338) (n := 2 + 6 * cN (σ.1 19) + 4) (pc' := 264) (by first | assumption | exact ⟨by decide, rfl⟩) (by decide) (by simp only [lit32, pk_mul, nI_add]) (by omega) dX10_grid_263 rfl ?_
    refine x_st (pA_pI _ _ _ _ _) ?_
    refine x_aload_n (pc' := 265) rfl dX10_grid_264 rfl ?_
    refine x_get (v := .ref 19) (pc' := 268) fk_X10_7 (by first | assumption | exact ⟨by decide, rfl⟩) rfl dX10_grid_265 rfl ?_
    refine x_iconst (v := 2) (pc' := 269) (by decide) dX10_grid_268 rfl ?_
    refine x_bipush (v := 6) (pc' := 271) (by decide) dX10_grid_269 rfl ?_
    refine x_iload (pc' := 273) rfl dX10_grid_271 rfl ?_
    refine x_imul (pc' := 274) dX10_grid_273 rfl ?_
    refine x_iadd (pc' := 275) dX10_grid_274 rfl ?_
    refine x_iconst (v := 5) (pc' := 276) (by decide) dX10_grid_275 rfl ?_
    refine x_iadd (pc' := 277) dX10_grid_276 rfl ?_
    refine x_iload (pc' := 279) rfl dX10_grid_277 rfl ?_
    refine x_iastn (N := 338) (n := 2 + 6 * cN (σ.1 19) + 5) (pc' := 280) (by first | assumption | exact ⟨by decide, rfl⟩) (by decide) (by simp only [lit32, pk_mul, nI_add]) (by omega) dX10_grid_279 rfl ?_
    refine x_st (pA_pI _ _ _ _ _) ?_
    refine x_iconst (v := 0) (pc' := 281) (by decide) dX10_grid_280 rfl ?_
    refine x_istore (lv' := [_, _, _, _, _, _, _, _, _, _, _]) (pc' := 283) (by decide) rfl dX10_grid_281 rfl ?_
    refine x_st (σ' := pA τ 19 (zP (adF (σ.1 19) (cN (σ.1 19)) p X Y S C R) (cN (σ.1 19)) 0)) (by rw [zP_0, hs]; rfl) ?_
    exact l_X10_grid (by omega) _ 0 (Nat.zero_add _)
  · refine x_aload_n (pc' := 1) rfl dX10_grid_0 rfl ?_
    refine x_iconst (v := 0) (pc' := 2) (by decide) dX10_grid_1 rfl ?_
    refine x_puti (pc' := 5) fk_X10_46 pk_9_0 rfl (by first | assumption | exact ⟨by decide, rfl⟩) dX10_grid_2 rfl ?_
    refine x_iload_n (pc' := 6) rfl dX10_grid_5 rfl ?_
    refine x_iconst (v := (-1)) (pc' := 7) (by decide) dX10_grid_6 rfl ?_
    refine x_icmp_eq (tgt := 21) (pc' := 10) (by decide) dX10_grid_7 rfl (fun c7 => absurd c7 hp1) (fun c7 => ?_)
    refine x_aload_n (pc' := 11) rfl dX10_grid_10 rfl ?_
    refine x_iload_n (pc' := 12) rfl dX10_grid_11 rfl ?_
    refine x_callVi (As := [.int _]) (rest := []) (ci := 9) (pc' := 15) rfl vk_X10_54 mk_X10_isGrid (by decide) (by first | assumption | exact ⟨by decide, rfl⟩) (by decide) rfl (Nat.le_of_ble_eq_true rfl) dX10_grid_12 rfl (c_X10_isGrid (σ := pI σ 18 0 0) hv.c0 hv.c6) ?_
    refine x_if_ne (tgt := 21) (pc' := 18) (by decide) dX10_grid_15 rfl (fun c15 => ?_) (fun c15 => absurd c15 (by rw [b1 ((grS_iff hv).mpr (hp.resolve_left hp1))]; decide))
    refine x_iload_n (pc' := 22) rfl dX10_grid_21 rfl ?_
    refine x_i2l (pc' := 23) dX10_grid_22 rfl ?_
    refine x_lconst (v := 0) (pc' := 24) (by decide) dX10_grid_23 rfl ?_
    refine x_ldc2 (pc' := 27) kl_X10_211 dX10_grid_24 rfl ?_
    refine x_callSi (As := [.long _, .long _, .long _]) (rest := []) (pc' := 30) rfl sk_X10_50 mk_X10_in (by decide) rfl (Nat.le_of_ble_eq_true rfl) dX10_grid_27 rfl c_X10_in ?_
    refine x_if_eq (tgt := 88) (pc' := 33) (by decide) dX10_grid_30 rfl (fun c30 => absurd c30 (by rw [b1 ((in_a _).mpr hB.1.1)]; decide)) (fun c30 => ?_)
    refine x_iload_n (pc' := 34) rfl dX10_grid_33 rfl ?_
    refine x_i2l (pc' := 35) dX10_grid_34 rfl ?_
    refine x_lconst (v := 0) (pc' := 36) (by decide) dX10_grid_35 rfl ?_
    refine x_ldc2 (pc' := 39) kl_X10_211 dX10_grid_36 rfl ?_
    refine x_callSi (As := [.long _, .long _, .long _]) (rest := []) (pc' := 42) rfl sk_X10_50 mk_X10_in (by decide) rfl (Nat.le_of_ble_eq_true rfl) dX10_grid_39 rfl c_X10_in ?_
    refine x_if_eq (tgt := 88) (pc' := 45) (by decide) dX10_grid_42 rfl (fun c42 => absurd c42 (by rw [b1 ((in_a _).mpr hB.1.2.1)]; decide)) (fun c42 => ?_)
    refine x_iload (pc' := 47) rfl dX10_grid_45 rfl ?_
    refine x_i2l (pc' := 48) dX10_grid_47 rfl ?_
    refine x_lconst (v := 1) (pc' := 49) (by decide) dX10_grid_48 rfl ?_
    refine x_ldc2 (pc' := 52) kl_X10_213 dX10_grid_49 rfl ?_
    refine x_callSi (As := [.long _, .long _, .long _]) (rest := []) (pc' := 55) rfl sk_X10_50 mk_X10_in (by decide) rfl (Nat.le_of_ble_eq_true rfl) dX10_grid_52 rfl c_X10_in ?_
    refine x_if_eq (tgt := 88) (pc' := 58) (by decide) dX10_grid_55 rfl (fun c55 => absurd c55 (by rw [b1 ((in_s _).mpr hB.1.2.2.1)]; decide)) (fun c55 => ?_)
    refine x_iload (pc' := 60) rfl dX10_grid_58 rfl ?_
    refine x_i2l (pc' := 61) dX10_grid_60 rfl ?_
    refine x_ldc2 (pc' := 64) kl_X10_81 dX10_grid_61 rfl ?_
    refine x_ldc2 (pc' := 67) kl_X10_215 dX10_grid_64 rfl ?_
    refine x_callSi (As := [.long _, .long _, .long _]) (rest := []) (pc' := 70) rfl sk_X10_50 mk_X10_in (by decide) rfl (Nat.le_of_ble_eq_true rfl) dX10_grid_67 rfl c_X10_in ?_
    refine x_if_eq (tgt := 88) (pc' := 73) (by decide) dX10_grid_70 rfl (fun c70 => absurd c70 (by rw [b1 ((in_r _).mpr hB.1.2.2.2.1)]; decide)) (fun c70 => ?_)
    refine x_iload (pc' := 75) rfl dX10_grid_73 rfl ?_
    refine x_i2l (pc' := 76) dX10_grid_75 rfl ?_
    refine x_ldc2 (pc' := 79) kl_X10_81 dX10_grid_76 rfl ?_
    refine x_ldc2 (pc' := 82) kl_X10_215 dX10_grid_79 rfl ?_
    refine x_callSi (As := [.long _, .long _, .long _]) (rest := []) (pc' := 85) rfl sk_X10_50 mk_X10_in (by decide) rfl (Nat.le_of_ble_eq_true rfl) dX10_grid_82 rfl c_X10_in ?_
    refine x_if_ne (tgt := 91) (pc' := 88) (by decide) dX10_grid_85 rfl (fun c85 => ?_) (fun c85 => absurd c85 (by rw [b1 ((in_r _).mpr hB.1.2.2.2.2)]; decide))
    refine x_iload (pc' := 93) rfl dX10_grid_91 rfl ?_
    refine x_iconst (v := 1) (pc' := 94) (by decide) dX10_grid_93 rfl ?_
    refine x_isub (pc' := 95) dX10_grid_94 rfl ?_
    refine x_iload (pc' := 97) rfl dX10_grid_95 rfl ?_
    refine x_imul (pc' := 98) dX10_grid_97 rfl ?_
    refine x_top (y := nI ((C - 1) * S)) (by rw [show nI C - 1 = nI (C - 1) from pk_sub (b := 1) (by omega)]; exact pk_mul _ _) ?_
    refine x_istore (lv' := [_, _, _, _, _, _, _, _, _, _, _]) (pc' := 100) (by decide) rfl dX10_grid_98 rfl ?_
    refine x_iload (pc' := 102) rfl dX10_grid_100 rfl ?_
    refine x_iconst (v := 1) (pc' := 103) (by decide) dX10_grid_102 rfl ?_
    refine x_isub (pc' := 104) dX10_grid_103 rfl ?_
    refine x_iload (pc' := 106) rfl dX10_grid_104 rfl ?_
    refine x_imul (pc' := 107) dX10_grid_106 rfl ?_
    refine x_top (y := nI ((R - 1) * S)) (by rw [show nI R - 1 = nI (R - 1) from pk_sub (b := 1) (by omega)]; exact pk_mul _ _) ?_
    refine x_istore (lv' := [_, _, _, _, _, _, _, _, _, _, _]) (pc' := 109) (by decide) rfl dX10_grid_107 rfl ?_
    refine x_iload_n (pc' := 110) rfl dX10_grid_109 rfl ?_
    refine x_iload (pc' := 112) rfl dX10_grid_110 rfl ?_
    refine x_iadd (pc' := 113) dX10_grid_112 rfl ?_
    refine x_sipush (v := 1000) (pc' := 116) (by decide) dX10_grid_113 rfl ?_
    refine x_icmp_gt (tgt := 129) (pc' := 119) (by decide) dX10_grid_116 rfl (fun c116 => absurd c116 (by rw [nI_add]; exact i_nlt.mpr (nI_le (b := 1000) (by omega) (by decide)))) (fun c116 => ?_)
    refine x_iload_n (pc' := 120) rfl dX10_grid_119 rfl ?_
    refine x_iload (pc' := 122) rfl dX10_grid_120 rfl ?_
    refine x_iadd (pc' := 123) dX10_grid_122 rfl ?_
    refine x_sipush (v := 1000) (pc' := 126) (by decide) dX10_grid_123 rfl ?_
    refine x_icmp_le (tgt := 132) (pc' := 129) (by decide) dX10_grid_126 rfl (fun c126 => ?_) (fun c126 => absurd (by rw [nI_add]; exact nI_le (b := 1000) (by omega) (by decide)) c126)
    refine x_aload_n (pc' := 133) rfl dX10_grid_132 rfl ?_
    refine x_iload_n (pc' := 134) rfl dX10_grid_133 rfl ?_
    refine x_iload_n (pc' := 135) rfl dX10_grid_134 rfl ?_
    refine x_iload_n (pc' := 136) rfl dX10_grid_135 rfl ?_
    refine x_iload (pc' := 138) rfl dX10_grid_136 rfl ?_
    refine x_iload (pc' := 140) rfl dX10_grid_138 rfl ?_
    refine x_iload (pc' := 142) rfl dX10_grid_140 rfl ?_
    refine x_callVi (As := [.int _, .int _, .int _, .int _, .int _, .int _]) (rest := []) (ci := 9) (pc' := 145) rfl vk_X10_217 mk_X10_mayBe (by decide) (by first | assumption | exact ⟨by decide, rfl⟩) (by decide) rfl (Nat.le_of_ble_eq_true rfl) dX10_grid_142 rfl (v_X10_mayBe hs0 hv hpP (by omega) (by omega) (by omega) (by omega) (by omega)) ?_
    refine x_if_ne (tgt := 151) (pc' := 148) (by decide) dX10_grid_145 rfl (fun c145 => ?_) (fun c145 => absurd c145 (by rw [pb_1 hm]; decide))
    refine x_aload_n (pc' := 152) rfl dX10_grid_151 rfl ?_
    refine x_get (v := .ref 19) (pc' := 155) fk_X10_7 (by first | assumption | exact ⟨by decide, rfl⟩) rfl dX10_grid_152 rfl ?_
    refine x_iconst (v := 0) (pc' := 156) (by decide) dX10_grid_155 rfl ?_
    refine x_ialdn (N := 338) (n := 0) (pc' := 157) (by first | assumption | exact ⟨by decide, rfl⟩) (by decide) rfl (by decide) dX10_grid_156 rfl ?_
    refine x_bipush (v := 6) (pc' := 159) (by decide) dX10_grid_157 rfl ?_
    refine x_icmp_ne (tgt := 165) (pc' := 162) (by decide) dX10_grid_159 rfl (fun c159 => ?_) (fun c159 => absurd c159 (by rw [hs0, hv.c0]; exact fun q => absurd (ni_inj (b := 6) (by omega) (by decide) q) (by omega)))
    refine x_aload_n (pc' := 166) rfl dX10_grid_165 rfl ?_
    refine x_callVv (As := []) (rest := []) (ci := 9) (pc' := 169) rfl vk_X10_223 mk_X10_notes (by decide) (by first | assumption | exact ⟨by decide, rfl⟩) (by decide) rfl (Nat.le_of_ble_eq_true rfl) dX10_grid_166 rfl hN ?_
    refine x_aload_n (pc' := 170) rfl dX10_grid_169 rfl ?_
    refine x_get (v := .ref 19) (pc' := 173) fk_X10_7 (by first | assumption | exact ⟨by decide, rfl⟩) rfl dX10_grid_170 rfl ?_
    refine x_iconst (v := 0) (pc' := 174) (by decide) dX10_grid_173 rfl ?_
    refine x_ialdn (N := 338) (n := 0) (pc' := 175) (by first | assumption | exact ⟨by decide, rfl⟩) (by decide) rfl (by decide) dX10_grid_174 rfl ?_
    refine x_top (y := nI (cN (σ.1 19))) (by rw [hs]; exact hv.c0) ?_
    refine x_istore (lv' := [_, _, _, _, _, _, _, _, _, _, _]) (pc' := 177) (by decide) rfl dX10_grid_175 rfl ?_
    refine x_aload_n (pc' := 178) rfl dX10_grid_177 rfl ?_
    refine x_get (v := .ref 19) (pc' := 181) fk_X10_7 (by first | assumption | exact ⟨by decide, rfl⟩) rfl dX10_grid_178 rfl ?_
    refine x_iconst (v := 0) (pc' := 182) (by decide) dX10_grid_181 rfl ?_
    refine x_dup2 (pc' := 183) rfl rfl dX10_grid_182 rfl ?_
    refine x_ialdn (N := 338) (n := 0) (pc' := 184) (by first | assumption | exact ⟨by decide, rfl⟩) (by decide) rfl (by decide) dX10_grid_183 rfl ?_
    refine x_iconst (v := 1) (pc' := 185) (by decide) dX10_grid_184 rfl ?_
    refine x_iadd (pc' := 186) dX10_grid_185 rfl ?_
    refine x_top (y := nI (cN (σ.1 19) + 1)) (by rw [hs, hv.c0]; exact nI_1 _) ?_
    refine x_iastn (N := 338) (n := 0) (pc' := 187) (by first | assumption | exact ⟨by decide, rfl⟩) (by decide) rfl (by decide) dX10_grid_186 rfl ?_
    refine x_st (pI_pA _ _ _ _) ?_
    refine x_aload_n (pc' := 188) rfl dX10_grid_187 rfl ?_
    refine x_get (v := .ref 19) (pc' := 191) fk_X10_7 (by first | assumption | exact ⟨by decide, rfl⟩) rfl dX10_grid_188 rfl ?_
    refine x_iconst (v := 2) (pc' := 192) (by decide) dX10_grid_191 rfl ?_
    refine x_bipush (v := 6) (pc' := 194) (by decide) dX10_grid_192 rfl ?_
    refine x_iload (pc' := 196) rfl dX10_grid_194 rfl ?_
    refine x_imul (pc' := 197) dX10_grid_196 rfl ?_
    refine x_iadd (pc' := 198) dX10_grid_197 rfl ?_
    refine x_iconst (v := 0) (pc' := 199) (by decide) dX10_grid_198 rfl ?_
    refine x_iadd (pc' := 200) dX10_grid_199 rfl ?_
    refine x_iload_n (pc' := 201) rfl dX10_grid_200 rfl ?_
    refine x_iastn (N := 338) (n := 2 + 6 * cN (σ.1 19) + 0) (pc' := 202) (by first | assumption | exact ⟨by decide, rfl⟩) (by decide) (by simp only [lit32, pk_mul, nI_add]) (by omega) dX10_grid_201 rfl ?_
    refine x_st (pA_pI _ _ _ _ _) ?_
    refine x_aload_n (pc' := 203) rfl dX10_grid_202 rfl ?_
    refine x_get (v := .ref 19) (pc' := 206) fk_X10_7 (by first | assumption | exact ⟨by decide, rfl⟩) rfl dX10_grid_203 rfl ?_
    refine x_iconst (v := 2) (pc' := 207) (by decide) dX10_grid_206 rfl ?_
    refine x_bipush (v := 6) (pc' := 209) (by decide) dX10_grid_207 rfl ?_
    refine x_iload (pc' := 211) rfl dX10_grid_209 rfl ?_
    refine x_imul (pc' := 212) dX10_grid_211 rfl ?_
    refine x_iadd (pc' := 213) dX10_grid_212 rfl ?_
    refine x_iconst (v := 1) (pc' := 214) (by decide) dX10_grid_213 rfl ?_
    refine x_iadd (pc' := 215) dX10_grid_214 rfl ?_
    refine x_iload_n (pc' := 216) rfl dX10_grid_215 rfl ?_
    refine x_iastn (N := 338) (n := 2 + 6 * cN (σ.1 19) + 1) (pc' := 217) (by first | assumption | exact ⟨by decide, rfl⟩) (by decide) (by simp only [lit32, pk_mul, nI_add]) (by omega) dX10_grid_216 rfl ?_
    refine x_st (pA_pI _ _ _ _ _) ?_
    refine x_aload_n (pc' := 218) rfl dX10_grid_217 rfl ?_
    refine x_get (v := .ref 19) (pc' := 221) fk_X10_7 (by first | assumption | exact ⟨by decide, rfl⟩) rfl dX10_grid_218 rfl ?_
    refine x_iconst (v := 2) (pc' := 222) (by decide) dX10_grid_221 rfl ?_
    refine x_bipush (v := 6) (pc' := 224) (by decide) dX10_grid_222 rfl ?_
    refine x_iload (pc' := 226) rfl dX10_grid_224 rfl ?_
    refine x_imul (pc' := 227) dX10_grid_226 rfl ?_
    refine x_iadd (pc' := 228) dX10_grid_227 rfl ?_
    refine x_iconst (v := 2) (pc' := 229) (by decide) dX10_grid_228 rfl ?_
    refine x_iadd (pc' := 230) dX10_grid_229 rfl ?_
    refine x_iload_n (pc' := 231) rfl dX10_grid_230 rfl ?_
    refine x_iastn (N := 338) (n := 2 + 6 * cN (σ.1 19) + 2) (pc' := 232) (by first | assumption | exact ⟨by decide, rfl⟩) (by decide) (by simp only [lit32, pk_mul, nI_add]) (by omega) dX10_grid_231 rfl ?_
    refine x_st (pA_pI _ _ _ _ _) ?_
    refine x_aload_n (pc' := 233) rfl dX10_grid_232 rfl ?_
    refine x_get (v := .ref 19) (pc' := 236) fk_X10_7 (by first | assumption | exact ⟨by decide, rfl⟩) rfl dX10_grid_233 rfl ?_
    refine x_iconst (v := 2) (pc' := 237) (by decide) dX10_grid_236 rfl ?_
    refine x_bipush (v := 6) (pc' := 239) (by decide) dX10_grid_237 rfl ?_
    refine x_iload (pc' := 241) rfl dX10_grid_239 rfl ?_
    refine x_imul (pc' := 242) dX10_grid_241 rfl ?_
    refine x_iadd (pc' := 243) dX10_grid_242 rfl ?_
    refine x_iconst (v := 3) (pc' := 244) (by decide) dX10_grid_243 rfl ?_
    refine x_iadd (pc' := 245) dX10_grid_244 rfl ?_
    refine x_iload (pc' := 247) rfl dX10_grid_245 rfl ?_
    refine x_iastn (N := 338) (n := 2 + 6 * cN (σ.1 19) + 3) (pc' := 248) (by first | assumption | exact ⟨by decide, rfl⟩) (by decide) (by simp only [lit32, pk_mul, nI_add]) (by omega) dX10_grid_247 rfl ?_
    refine x_st (pA_pI _ _ _ _ _) ?_
    refine x_aload_n (pc' := 249) rfl dX10_grid_248 rfl ?_
    refine x_get (v := .ref 19) (pc' := 252) fk_X10_7 (by first | assumption | exact ⟨by decide, rfl⟩) rfl dX10_grid_249 rfl ?_
    refine x_iconst (v := 2) (pc' := 253) (by decide) dX10_grid_252 rfl ?_
    refine x_bipush (v := 6) (pc' := 255) (by decide) dX10_grid_253 rfl ?_
    refine x_iload (pc' := 257) rfl dX10_grid_255 rfl ?_
    refine x_imul (pc' := 258) dX10_grid_257 rfl ?_
    refine x_iadd (pc' := 259) dX10_grid_258 rfl ?_
    refine x_iconst (v := 4) (pc' := 260) (by decide) dX10_grid_259 rfl ?_
    refine x_iadd (pc' := 261) dX10_grid_260 rfl ?_
    refine x_iload (pc' := 263) rfl dX10_grid_261 rfl ?_
    refine x_iastn (N := 338) (n := 2 + 6 * cN (σ.1 19) + 4) (pc' := 264) (by first | assumption | exact ⟨by decide, rfl⟩) (by decide) (by simp only [lit32, pk_mul, nI_add]) (by omega) dX10_grid_263 rfl ?_
    refine x_st (pA_pI _ _ _ _ _) ?_
    refine x_aload_n (pc' := 265) rfl dX10_grid_264 rfl ?_
    refine x_get (v := .ref 19) (pc' := 268) fk_X10_7 (by first | assumption | exact ⟨by decide, rfl⟩) rfl dX10_grid_265 rfl ?_
    refine x_iconst (v := 2) (pc' := 269) (by decide) dX10_grid_268 rfl ?_
    refine x_bipush (v := 6) (pc' := 271) (by decide) dX10_grid_269 rfl ?_
    refine x_iload (pc' := 273) rfl dX10_grid_271 rfl ?_
    refine x_imul (pc' := 274) dX10_grid_273 rfl ?_
    refine x_iadd (pc' := 275) dX10_grid_274 rfl ?_
    refine x_iconst (v := 5) (pc' := 276) (by decide) dX10_grid_275 rfl ?_
    refine x_iadd (pc' := 277) dX10_grid_276 rfl ?_
    refine x_iload (pc' := 279) rfl dX10_grid_277 rfl ?_
    refine x_iastn (N := 338) (n := 2 + 6 * cN (σ.1 19) + 5) (pc' := 280) (by first | assumption | exact ⟨by decide, rfl⟩) (by decide) (by simp only [lit32, pk_mul, nI_add]) (by omega) dX10_grid_279 rfl ?_
    refine x_st (pA_pI _ _ _ _ _) ?_
    refine x_iconst (v := 0) (pc' := 281) (by decide) dX10_grid_280 rfl ?_
    refine x_istore (lv' := [_, _, _, _, _, _, _, _, _, _, _]) (pc' := 283) (by decide) rfl dX10_grid_281 rfl ?_
    refine x_st (σ' := pA τ 19 (zP (adF (σ.1 19) (cN (σ.1 19)) p X Y S C R) (cN (σ.1 19)) 0)) (by rw [zP_0, hs]; rfl) ?_
    exact l_X10_grid (by omega) _ 0 (Nat.zero_add _)
set_option maxRecDepth 100000 in
set_option maxHeartbeats 4000000 in
theorem r_X10_grid {σ : St} {p x y s c r : Int32} (hv : Ok (σ.1 19)) (hn : ¬ (gPar (σ.1 19) p ∧ gB x y s c r ∧ gMay (σ.1 19) p x y s c r ∧ cN (σ.1 19) < 6)) : ∃ σ', Ct yX10_grid M_X10_grid [.ref 18, .int p, .int x, .int y, .int s, .int c, .int r] σ (some (.int (pif (gPar (σ.1 19) p) (pif (gB x y s c r) (pif (gMay (σ.1 19) p x y s c r) (-1000000004) (-1000000003)) (-1000000002)) (-1000000001))), σ') ∧ ScM σ σ' := by
  have h6 := hv.c6
  have hs0 : (pI σ 18 0 0).1 19 = σ.1 19 := pI_ne (by decide)
  refine ⟨_, ?_, ScM.thr σ 0⟩
  refine ct_of (k := 4) rfl rfl rfl (Nat.le_of_ble_eq_true rfl) ?_
  by_cases hp : gPar (σ.1 19) p
  · rw [pif_t hp]
    have hpP : p = -1 ∨ ∃ P, P < cN (σ.1 19) ∧ p = nI P := hp.imp id (fun h => grS_nat hv h)
    by_cases hB : gB x y s c r
    · rw [pif_t hB]
      obtain ⟨X, Y, S, C, R, rfl, rfl, rfl, rfl, rfl, hX, hY, hS1, hS, hC2, hC5, hR2, hR5, hw, hh⟩ := gB_nat hB
      have m1 : (C - 1) * S ≤ 4 * 64 := Nat.mul_le_mul (by omega) hS
      have m2 : (R - 1) * S ≤ 4 * 64 := Nat.mul_le_mul (by omega) hS
      have em : gMay (σ.1 19) p (nI X) (nI Y) (nI S) (nI C) (nI R) ↔ mayS (σ.1 19) p X Y S ((C - 1) * S) ((R - 1) * S) := by
        rw [gMay, nI_clamp (by omega), nI_clamp (by omega), nI_clamp (by omega), nI_clamp (by omega), nI_clamp (by omega)]
      by_cases hm : mayS (σ.1 19) p X Y S ((C - 1) * S) ((R - 1) * S)
      · rw [pif_t (em.mpr hm)]
        have hN : ¬ cN (σ.1 19) < 6 := fun q => hn ⟨hp, hB, em.mpr hm, q⟩
        by_cases hp1 : p = -1
        · refine x_aload_n (pc' := 1) rfl dX10_grid_0 rfl ?_
          refine x_iconst (v := 0) (pc' := 2) (by decide) dX10_grid_1 rfl ?_
          refine x_puti (pc' := 5) fk_X10_46 pk_9_0 rfl (by first | assumption | exact ⟨by decide, rfl⟩) dX10_grid_2 rfl ?_
          refine x_iload_n (pc' := 6) rfl dX10_grid_5 rfl ?_
          refine x_iconst (v := (-1)) (pc' := 7) (by decide) dX10_grid_6 rfl ?_
          refine x_icmp_eq (tgt := 21) (pc' := 10) (by decide) dX10_grid_7 rfl (fun c7 => ?_) (fun c7 => absurd hp1 c7)
          refine x_iload_n (pc' := 22) rfl dX10_grid_21 rfl ?_
          refine x_i2l (pc' := 23) dX10_grid_22 rfl ?_
          refine x_lconst (v := 0) (pc' := 24) (by decide) dX10_grid_23 rfl ?_
          refine x_ldc2 (pc' := 27) kl_X10_211 dX10_grid_24 rfl ?_
          refine x_callSi (As := [.long _, .long _, .long _]) (rest := []) (pc' := 30) rfl sk_X10_50 mk_X10_in (by decide) rfl (Nat.le_of_ble_eq_true rfl) dX10_grid_27 rfl c_X10_in ?_
          refine x_if_eq (tgt := 88) (pc' := 33) (by decide) dX10_grid_30 rfl (fun c30 => absurd c30 (by rw [b1 ((in_a _).mpr hB.1.1)]; decide)) (fun c30 => ?_)
          refine x_iload_n (pc' := 34) rfl dX10_grid_33 rfl ?_
          refine x_i2l (pc' := 35) dX10_grid_34 rfl ?_
          refine x_lconst (v := 0) (pc' := 36) (by decide) dX10_grid_35 rfl ?_
          refine x_ldc2 (pc' := 39) kl_X10_211 dX10_grid_36 rfl ?_
          refine x_callSi (As := [.long _, .long _, .long _]) (rest := []) (pc' := 42) rfl sk_X10_50 mk_X10_in (by decide) rfl (Nat.le_of_ble_eq_true rfl) dX10_grid_39 rfl c_X10_in ?_
          refine x_if_eq (tgt := 88) (pc' := 45) (by decide) dX10_grid_42 rfl (fun c42 => absurd c42 (by rw [b1 ((in_a _).mpr hB.1.2.1)]; decide)) (fun c42 => ?_)
          refine x_iload (pc' := 47) rfl dX10_grid_45 rfl ?_
          refine x_i2l (pc' := 48) dX10_grid_47 rfl ?_
          refine x_lconst (v := 1) (pc' := 49) (by decide) dX10_grid_48 rfl ?_
          refine x_ldc2 (pc' := 52) kl_X10_213 dX10_grid_49 rfl ?_
          refine x_callSi (As := [.long _, .long _, .long _]) (rest := []) (pc' := 55) rfl sk_X10_50 mk_X10_in (by decide) rfl (Nat.le_of_ble_eq_true rfl) dX10_grid_52 rfl c_X10_in ?_
          refine x_if_eq (tgt := 88) (pc' := 58) (by decide) dX10_grid_55 rfl (fun c55 => absurd c55 (by rw [b1 ((in_s _).mpr hB.1.2.2.1)]; decide)) (fun c55 => ?_)
          refine x_iload (pc' := 60) rfl dX10_grid_58 rfl ?_
          refine x_i2l (pc' := 61) dX10_grid_60 rfl ?_
          refine x_ldc2 (pc' := 64) kl_X10_81 dX10_grid_61 rfl ?_
          refine x_ldc2 (pc' := 67) kl_X10_215 dX10_grid_64 rfl ?_
          refine x_callSi (As := [.long _, .long _, .long _]) (rest := []) (pc' := 70) rfl sk_X10_50 mk_X10_in (by decide) rfl (Nat.le_of_ble_eq_true rfl) dX10_grid_67 rfl c_X10_in ?_
          refine x_if_eq (tgt := 88) (pc' := 73) (by decide) dX10_grid_70 rfl (fun c70 => absurd c70 (by rw [b1 ((in_r _).mpr hB.1.2.2.2.1)]; decide)) (fun c70 => ?_)
          refine x_iload (pc' := 75) rfl dX10_grid_73 rfl ?_
          refine x_i2l (pc' := 76) dX10_grid_75 rfl ?_
          refine x_ldc2 (pc' := 79) kl_X10_81 dX10_grid_76 rfl ?_
          refine x_ldc2 (pc' := 82) kl_X10_215 dX10_grid_79 rfl ?_
          refine x_callSi (As := [.long _, .long _, .long _]) (rest := []) (pc' := 85) rfl sk_X10_50 mk_X10_in (by decide) rfl (Nat.le_of_ble_eq_true rfl) dX10_grid_82 rfl c_X10_in ?_
          refine x_if_ne (tgt := 91) (pc' := 88) (by decide) dX10_grid_85 rfl (fun c85 => ?_) (fun c85 => absurd c85 (by rw [b1 ((in_r _).mpr hB.1.2.2.2.2)]; decide))
          refine x_iload (pc' := 93) rfl dX10_grid_91 rfl ?_
          refine x_iconst (v := 1) (pc' := 94) (by decide) dX10_grid_93 rfl ?_
          refine x_isub (pc' := 95) dX10_grid_94 rfl ?_
          refine x_iload (pc' := 97) rfl dX10_grid_95 rfl ?_
          refine x_imul (pc' := 98) dX10_grid_97 rfl ?_
          refine x_top (y := nI ((C - 1) * S)) (by rw [show nI C - 1 = nI (C - 1) from pk_sub (b := 1) (by omega)]; exact pk_mul _ _) ?_
          refine x_istore (lv' := [_, _, _, _, _, _, _, _, _, _, _]) (pc' := 100) (by decide) rfl dX10_grid_98 rfl ?_
          refine x_iload (pc' := 102) rfl dX10_grid_100 rfl ?_
          refine x_iconst (v := 1) (pc' := 103) (by decide) dX10_grid_102 rfl ?_
          refine x_isub (pc' := 104) dX10_grid_103 rfl ?_
          refine x_iload (pc' := 106) rfl dX10_grid_104 rfl ?_
          refine x_imul (pc' := 107) dX10_grid_106 rfl ?_
          refine x_top (y := nI ((R - 1) * S)) (by rw [show nI R - 1 = nI (R - 1) from pk_sub (b := 1) (by omega)]; exact pk_mul _ _) ?_
          refine x_istore (lv' := [_, _, _, _, _, _, _, _, _, _, _]) (pc' := 109) (by decide) rfl dX10_grid_107 rfl ?_
          refine x_iload_n (pc' := 110) rfl dX10_grid_109 rfl ?_
          refine x_iload (pc' := 112) rfl dX10_grid_110 rfl ?_
          refine x_iadd (pc' := 113) dX10_grid_112 rfl ?_
          refine x_sipush (v := 1000) (pc' := 116) (by decide) dX10_grid_113 rfl ?_
          refine x_icmp_gt (tgt := 129) (pc' := 119) (by decide) dX10_grid_116 rfl (fun c116 => absurd c116 (by rw [nI_add]; exact i_nlt.mpr (nI_le (b := 1000) (by omega) (by decide)))) (fun c116 => ?_)
          refine x_iload_n (pc' := 120) rfl dX10_grid_119 rfl ?_
          refine x_iload (pc' := 122) rfl dX10_grid_120 rfl ?_
          refine x_iadd (pc' := 123) dX10_grid_122 rfl ?_
          refine x_sipush (v := 1000) (pc' := 126) (by decide) dX10_grid_123 rfl ?_
          refine x_icmp_le (tgt := 132) (pc' := 129) (by decide) dX10_grid_126 rfl (fun c126 => ?_) (fun c126 => absurd (by rw [nI_add]; exact nI_le (b := 1000) (by omega) (by decide)) c126)
          refine x_aload_n (pc' := 133) rfl dX10_grid_132 rfl ?_
          refine x_iload_n (pc' := 134) rfl dX10_grid_133 rfl ?_
          refine x_iload_n (pc' := 135) rfl dX10_grid_134 rfl ?_
          refine x_iload_n (pc' := 136) rfl dX10_grid_135 rfl ?_
          refine x_iload (pc' := 138) rfl dX10_grid_136 rfl ?_
          refine x_iload (pc' := 140) rfl dX10_grid_138 rfl ?_
          refine x_iload (pc' := 142) rfl dX10_grid_140 rfl ?_
          refine x_callVi (As := [.int _, .int _, .int _, .int _, .int _, .int _]) (rest := []) (ci := 9) (pc' := 145) rfl vk_X10_217 mk_X10_mayBe (by decide) (by first | assumption | exact ⟨by decide, rfl⟩) (by decide) rfl (Nat.le_of_ble_eq_true rfl) dX10_grid_142 rfl (v_X10_mayBe hs0 hv hpP (by omega) (by omega) (by omega) (by omega) (by omega)) ?_
          refine x_if_ne (tgt := 151) (pc' := 148) (by decide) dX10_grid_145 rfl (fun c145 => ?_) (fun c145 => absurd c145 (by rw [pb_1 hm]; decide))
          refine x_aload_n (pc' := 152) rfl dX10_grid_151 rfl ?_
          refine x_get (v := .ref 19) (pc' := 155) fk_X10_7 (by first | assumption | exact ⟨by decide, rfl⟩) rfl dX10_grid_152 rfl ?_
          refine x_iconst (v := 0) (pc' := 156) (by decide) dX10_grid_155 rfl ?_
          refine x_ialdn (N := 338) (n := 0) (pc' := 157) (by first | assumption | exact ⟨by decide, rfl⟩) (by decide) rfl (by decide) dX10_grid_156 rfl ?_
          refine x_bipush (v := 6) (pc' := 159) (by decide) dX10_grid_157 rfl ?_
          refine x_icmp_ne (tgt := 165) (pc' := 162) (by decide) dX10_grid_159 rfl (fun c159 => absurd (by rw [hs0, hv.c0, show cN (σ.1 19) = 6 by omega]; rfl) c159) (fun c159 => ?_)
          refine x_ldc (pc' := 164) kc_X10_222 dX10_grid_162 rfl ?_
          exact x_iret rfl dX10_grid_164 rfl
        · refine x_aload_n (pc' := 1) rfl dX10_grid_0 rfl ?_
          refine x_iconst (v := 0) (pc' := 2) (by decide) dX10_grid_1 rfl ?_
          refine x_puti (pc' := 5) fk_X10_46 pk_9_0 rfl (by first | assumption | exact ⟨by decide, rfl⟩) dX10_grid_2 rfl ?_
          refine x_iload_n (pc' := 6) rfl dX10_grid_5 rfl ?_
          refine x_iconst (v := (-1)) (pc' := 7) (by decide) dX10_grid_6 rfl ?_
          refine x_icmp_eq (tgt := 21) (pc' := 10) (by decide) dX10_grid_7 rfl (fun c7 => absurd c7 hp1) (fun c7 => ?_)
          refine x_aload_n (pc' := 11) rfl dX10_grid_10 rfl ?_
          refine x_iload_n (pc' := 12) rfl dX10_grid_11 rfl ?_
          refine x_callVi (As := [.int _]) (rest := []) (ci := 9) (pc' := 15) rfl vk_X10_54 mk_X10_isGrid (by decide) (by first | assumption | exact ⟨by decide, rfl⟩) (by decide) rfl (Nat.le_of_ble_eq_true rfl) dX10_grid_12 rfl (c_X10_isGrid (σ := pI σ 18 0 0) hv.c0 hv.c6) ?_
          refine x_if_ne (tgt := 21) (pc' := 18) (by decide) dX10_grid_15 rfl (fun c15 => ?_) (fun c15 => absurd c15 (by rw [b1 ((grS_iff hv).mpr (hp.resolve_left hp1))]; decide))
          refine x_iload_n (pc' := 22) rfl dX10_grid_21 rfl ?_
          refine x_i2l (pc' := 23) dX10_grid_22 rfl ?_
          refine x_lconst (v := 0) (pc' := 24) (by decide) dX10_grid_23 rfl ?_
          refine x_ldc2 (pc' := 27) kl_X10_211 dX10_grid_24 rfl ?_
          refine x_callSi (As := [.long _, .long _, .long _]) (rest := []) (pc' := 30) rfl sk_X10_50 mk_X10_in (by decide) rfl (Nat.le_of_ble_eq_true rfl) dX10_grid_27 rfl c_X10_in ?_
          refine x_if_eq (tgt := 88) (pc' := 33) (by decide) dX10_grid_30 rfl (fun c30 => absurd c30 (by rw [b1 ((in_a _).mpr hB.1.1)]; decide)) (fun c30 => ?_)
          refine x_iload_n (pc' := 34) rfl dX10_grid_33 rfl ?_
          refine x_i2l (pc' := 35) dX10_grid_34 rfl ?_
          refine x_lconst (v := 0) (pc' := 36) (by decide) dX10_grid_35 rfl ?_
          refine x_ldc2 (pc' := 39) kl_X10_211 dX10_grid_36 rfl ?_
          refine x_callSi (As := [.long _, .long _, .long _]) (rest := []) (pc' := 42) rfl sk_X10_50 mk_X10_in (by decide) rfl (Nat.le_of_ble_eq_true rfl) dX10_grid_39 rfl c_X10_in ?_
          refine x_if_eq (tgt := 88) (pc' := 45) (by decide) dX10_grid_42 rfl (fun c42 => absurd c42 (by rw [b1 ((in_a _).mpr hB.1.2.1)]; decide)) (fun c42 => ?_)
          refine x_iload (pc' := 47) rfl dX10_grid_45 rfl ?_
          refine x_i2l (pc' := 48) dX10_grid_47 rfl ?_
          refine x_lconst (v := 1) (pc' := 49) (by decide) dX10_grid_48 rfl ?_
          refine x_ldc2 (pc' := 52) kl_X10_213 dX10_grid_49 rfl ?_
          refine x_callSi (As := [.long _, .long _, .long _]) (rest := []) (pc' := 55) rfl sk_X10_50 mk_X10_in (by decide) rfl (Nat.le_of_ble_eq_true rfl) dX10_grid_52 rfl c_X10_in ?_
          refine x_if_eq (tgt := 88) (pc' := 58) (by decide) dX10_grid_55 rfl (fun c55 => absurd c55 (by rw [b1 ((in_s _).mpr hB.1.2.2.1)]; decide)) (fun c55 => ?_)
          refine x_iload (pc' := 60) rfl dX10_grid_58 rfl ?_
          refine x_i2l (pc' := 61) dX10_grid_60 rfl ?_
          refine x_ldc2 (pc' := 64) kl_X10_81 dX10_grid_61 rfl ?_
          refine x_ldc2 (pc' := 67) kl_X10_215 dX10_grid_64 rfl ?_
          refine x_callSi (As := [.long _, .long _, .long _]) (rest := []) (pc' := 70) rfl sk_X10_50 mk_X10_in (by decide) rfl (Nat.le_of_ble_eq_true rfl) dX10_grid_67 rfl c_X10_in ?_
          refine x_if_eq (tgt := 88) (pc' := 73) (by decide) dX10_grid_70 rfl (fun c70 => absurd c70 (by rw [b1 ((in_r _).mpr hB.1.2.2.2.1)]; decide)) (fun c70 => ?_)
          refine x_iload (pc' := 75) rfl dX10_grid_73 rfl ?_
          refine x_i2l (pc' := 76) dX10_grid_75 rfl ?_
          refine x_ldc2 (pc' := 79) kl_X10_81 dX10_grid_76 rfl ?_
          refine x_ldc2 (pc' := 82) kl_X10_215 dX10_grid_79 rfl ?_
          refine x_callSi (As := [.long _, .long _, .long _]) (rest := []) (pc' := 85) rfl sk_X10_50 mk_X10_in (by decide) rfl (Nat.le_of_ble_eq_true rfl) dX10_grid_82 rfl c_X10_in ?_
          refine x_if_ne (tgt := 91) (pc' := 88) (by decide) dX10_grid_85 rfl (fun c85 => ?_) (fun c85 => absurd c85 (by rw [b1 ((in_r _).mpr hB.1.2.2.2.2)]; decide))
          refine x_iload (pc' := 93) rfl dX10_grid_91 rfl ?_
          refine x_iconst (v := 1) (pc' := 94) (by decide) dX10_grid_93 rfl ?_
          refine x_isub (pc' := 95) dX10_grid_94 rfl ?_
          refine x_iload (pc' := 97) rfl dX10_grid_95 rfl ?_
          refine x_imul (pc' := 98) dX10_grid_97 rfl ?_
          refine x_top (y := nI ((C - 1) * S)) (by rw [show nI C - 1 = nI (C - 1) from pk_sub (b := 1) (by omega)]; exact pk_mul _ _) ?_
          refine x_istore (lv' := [_, _, _, _, _, _, _, _, _, _, _]) (pc' := 100) (by decide) rfl dX10_grid_98 rfl ?_
          refine x_iload (pc' := 102) rfl dX10_grid_100 rfl ?_
          refine x_iconst (v := 1) (pc' := 103) (by decide) dX10_grid_102 rfl ?_
          refine x_isub (pc' := 104) dX10_grid_103 rfl ?_
          refine x_iload (pc' := 106) rfl dX10_grid_104 rfl ?_
          refine x_imul (pc' := 107) dX10_grid_106 rfl ?_
          refine x_top (y := nI ((R - 1) * S)) (by rw [show nI R - 1 = nI (R - 1) from pk_sub (b := 1) (by omega)]; exact pk_mul _ _) ?_
          refine x_istore (lv' := [_, _, _, _, _, _, _, _, _, _, _]) (pc' := 109) (by decide) rfl dX10_grid_107 rfl ?_
          refine x_iload_n (pc' := 110) rfl dX10_grid_109 rfl ?_
          refine x_iload (pc' := 112) rfl dX10_grid_110 rfl ?_
          refine x_iadd (pc' := 113) dX10_grid_112 rfl ?_
          refine x_sipush (v := 1000) (pc' := 116) (by decide) dX10_grid_113 rfl ?_
          refine x_icmp_gt (tgt := 129) (pc' := 119) (by decide) dX10_grid_116 rfl (fun c116 => absurd c116 (by rw [nI_add]; exact i_nlt.mpr (nI_le (b := 1000) (by omega) (by decide)))) (fun c116 => ?_)
          refine x_iload_n (pc' := 120) rfl dX10_grid_119 rfl ?_
          refine x_iload (pc' := 122) rfl dX10_grid_120 rfl ?_
          refine x_iadd (pc' := 123) dX10_grid_122 rfl ?_
          refine x_sipush (v := 1000) (pc' := 126) (by decide) dX10_grid_123 rfl ?_
          refine x_icmp_le (tgt := 132) (pc' := 129) (by decide) dX10_grid_126 rfl (fun c126 => ?_) (fun c126 => absurd (by rw [nI_add]; exact nI_le (b := 1000) (by omega) (by decide)) c126)
          refine x_aload_n (pc' := 133) rfl dX10_grid_132 rfl ?_
          refine x_iload_n (pc' := 134) rfl dX10_grid_133 rfl ?_
          refine x_iload_n (pc' := 135) rfl dX10_grid_134 rfl ?_
          refine x_iload_n (pc' := 136) rfl dX10_grid_135 rfl ?_
          refine x_iload (pc' := 138) rfl dX10_grid_136 rfl ?_
          refine x_iload (pc' := 140) rfl dX10_grid_138 rfl ?_
          refine x_iload (pc' := 142) rfl dX10_grid_140 rfl ?_
          refine x_callVi (As := [.int _, .int _, .int _, .int _, .int _, .int _]) (rest := []) (ci := 9) (pc' := 145) rfl vk_X10_217 mk_X10_mayBe (by decide) (by first | assumption | exact ⟨by decide, rfl⟩) (by decide) rfl (Nat.le_of_ble_eq_true rfl) dX10_grid_142 rfl (v_X10_mayBe hs0 hv hpP (by omega) (by omega) (by omega) (by omega) (by omega)) ?_
          refine x_if_ne (tgt := 151) (pc' := 148) (by decide) dX10_grid_145 rfl (fun c145 => ?_) (fun c145 => absurd c145 (by rw [pb_1 hm]; decide))
          refine x_aload_n (pc' := 152) rfl dX10_grid_151 rfl ?_
          refine x_get (v := .ref 19) (pc' := 155) fk_X10_7 (by first | assumption | exact ⟨by decide, rfl⟩) rfl dX10_grid_152 rfl ?_
          refine x_iconst (v := 0) (pc' := 156) (by decide) dX10_grid_155 rfl ?_
          refine x_ialdn (N := 338) (n := 0) (pc' := 157) (by first | assumption | exact ⟨by decide, rfl⟩) (by decide) rfl (by decide) dX10_grid_156 rfl ?_
          refine x_bipush (v := 6) (pc' := 159) (by decide) dX10_grid_157 rfl ?_
          refine x_icmp_ne (tgt := 165) (pc' := 162) (by decide) dX10_grid_159 rfl (fun c159 => absurd (by rw [hs0, hv.c0, show cN (σ.1 19) = 6 by omega]; rfl) c159) (fun c159 => ?_)
          refine x_ldc (pc' := 164) kc_X10_222 dX10_grid_162 rfl ?_
          exact x_iret rfl dX10_grid_164 rfl
      · rw [pif_f (fun q => hm (em.mp q))]
        by_cases hp1 : p = -1
        · refine x_aload_n (pc' := 1) rfl dX10_grid_0 rfl ?_
          refine x_iconst (v := 0) (pc' := 2) (by decide) dX10_grid_1 rfl ?_
          refine x_puti (pc' := 5) fk_X10_46 pk_9_0 rfl (by first | assumption | exact ⟨by decide, rfl⟩) dX10_grid_2 rfl ?_
          refine x_iload_n (pc' := 6) rfl dX10_grid_5 rfl ?_
          refine x_iconst (v := (-1)) (pc' := 7) (by decide) dX10_grid_6 rfl ?_
          refine x_icmp_eq (tgt := 21) (pc' := 10) (by decide) dX10_grid_7 rfl (fun c7 => ?_) (fun c7 => absurd hp1 c7)
          refine x_iload_n (pc' := 22) rfl dX10_grid_21 rfl ?_
          refine x_i2l (pc' := 23) dX10_grid_22 rfl ?_
          refine x_lconst (v := 0) (pc' := 24) (by decide) dX10_grid_23 rfl ?_
          refine x_ldc2 (pc' := 27) kl_X10_211 dX10_grid_24 rfl ?_
          refine x_callSi (As := [.long _, .long _, .long _]) (rest := []) (pc' := 30) rfl sk_X10_50 mk_X10_in (by decide) rfl (Nat.le_of_ble_eq_true rfl) dX10_grid_27 rfl c_X10_in ?_
          refine x_if_eq (tgt := 88) (pc' := 33) (by decide) dX10_grid_30 rfl (fun c30 => absurd c30 (by rw [b1 ((in_a _).mpr hB.1.1)]; decide)) (fun c30 => ?_)
          refine x_iload_n (pc' := 34) rfl dX10_grid_33 rfl ?_
          refine x_i2l (pc' := 35) dX10_grid_34 rfl ?_
          refine x_lconst (v := 0) (pc' := 36) (by decide) dX10_grid_35 rfl ?_
          refine x_ldc2 (pc' := 39) kl_X10_211 dX10_grid_36 rfl ?_
          refine x_callSi (As := [.long _, .long _, .long _]) (rest := []) (pc' := 42) rfl sk_X10_50 mk_X10_in (by decide) rfl (Nat.le_of_ble_eq_true rfl) dX10_grid_39 rfl c_X10_in ?_
          refine x_if_eq (tgt := 88) (pc' := 45) (by decide) dX10_grid_42 rfl (fun c42 => absurd c42 (by rw [b1 ((in_a _).mpr hB.1.2.1)]; decide)) (fun c42 => ?_)
          refine x_iload (pc' := 47) rfl dX10_grid_45 rfl ?_
          refine x_i2l (pc' := 48) dX10_grid_47 rfl ?_
          refine x_lconst (v := 1) (pc' := 49) (by decide) dX10_grid_48 rfl ?_
          refine x_ldc2 (pc' := 52) kl_X10_213 dX10_grid_49 rfl ?_
          refine x_callSi (As := [.long _, .long _, .long _]) (rest := []) (pc' := 55) rfl sk_X10_50 mk_X10_in (by decide) rfl (Nat.le_of_ble_eq_true rfl) dX10_grid_52 rfl c_X10_in ?_
          refine x_if_eq (tgt := 88) (pc' := 58) (by decide) dX10_grid_55 rfl (fun c55 => absurd c55 (by rw [b1 ((in_s _).mpr hB.1.2.2.1)]; decide)) (fun c55 => ?_)
          refine x_iload (pc' := 60) rfl dX10_grid_58 rfl ?_
          refine x_i2l (pc' := 61) dX10_grid_60 rfl ?_
          refine x_ldc2 (pc' := 64) kl_X10_81 dX10_grid_61 rfl ?_
          refine x_ldc2 (pc' := 67) kl_X10_215 dX10_grid_64 rfl ?_
          refine x_callSi (As := [.long _, .long _, .long _]) (rest := []) (pc' := 70) rfl sk_X10_50 mk_X10_in (by decide) rfl (Nat.le_of_ble_eq_true rfl) dX10_grid_67 rfl c_X10_in ?_
          refine x_if_eq (tgt := 88) (pc' := 73) (by decide) dX10_grid_70 rfl (fun c70 => absurd c70 (by rw [b1 ((in_r _).mpr hB.1.2.2.2.1)]; decide)) (fun c70 => ?_)
          refine x_iload (pc' := 75) rfl dX10_grid_73 rfl ?_
          refine x_i2l (pc' := 76) dX10_grid_75 rfl ?_
          refine x_ldc2 (pc' := 79) kl_X10_81 dX10_grid_76 rfl ?_
          refine x_ldc2 (pc' := 82) kl_X10_215 dX10_grid_79 rfl ?_
          refine x_callSi (As := [.long _, .long _, .long _]) (rest := []) (pc' := 85) rfl sk_X10_50 mk_X10_in (by decide) rfl (Nat.le_of_ble_eq_true rfl) dX10_grid_82 rfl c_X10_in ?_
          refine x_if_ne (tgt := 91) (pc' := 88) (by decide) dX10_grid_85 rfl (fun c85 => ?_) (fun c85 => absurd c85 (by rw [b1 ((in_r _).mpr hB.1.2.2.2.2)]; decide))
          refine x_iload (pc' := 93) rfl dX10_grid_91 rfl ?_
          refine x_iconst (v := 1) (pc' := 94) (by decide) dX10_grid_93 rfl ?_
          refine x_isub (pc' := 95) dX10_grid_94 rfl ?_
          refine x_iload (pc' := 97) rfl dX10_grid_95 rfl ?_
          refine x_imul (pc' := 98) dX10_grid_97 rfl ?_
          refine x_top (y := nI ((C - 1) * S)) (by rw [show nI C - 1 = nI (C - 1) from pk_sub (b := 1) (by omega)]; exact pk_mul _ _) ?_
          refine x_istore (lv' := [_, _, _, _, _, _, _, _, _, _, _]) (pc' := 100) (by decide) rfl dX10_grid_98 rfl ?_
          refine x_iload (pc' := 102) rfl dX10_grid_100 rfl ?_
          refine x_iconst (v := 1) (pc' := 103) (by decide) dX10_grid_102 rfl ?_
          refine x_isub (pc' := 104) dX10_grid_103 rfl ?_
          refine x_iload (pc' := 106) rfl dX10_grid_104 rfl ?_
          refine x_imul (pc' := 107) dX10_grid_106 rfl ?_
          refine x_top (y := nI ((R - 1) * S)) (by rw [show nI R - 1 = nI (R - 1) from pk_sub (b := 1) (by omega)]; exact pk_mul _ _) ?_
          refine x_istore (lv' := [_, _, _, _, _, _, _, _, _, _, _]) (pc' := 109) (by decide) rfl dX10_grid_107 rfl ?_
          refine x_iload_n (pc' := 110) rfl dX10_grid_109 rfl ?_
          refine x_iload (pc' := 112) rfl dX10_grid_110 rfl ?_
          refine x_iadd (pc' := 113) dX10_grid_112 rfl ?_
          refine x_sipush (v := 1000) (pc' := 116) (by decide) dX10_grid_113 rfl ?_
          refine x_icmp_gt (tgt := 129) (pc' := 119) (by decide) dX10_grid_116 rfl (fun c116 => absurd c116 (by rw [nI_add]; exact i_nlt.mpr (nI_le (b := 1000) (by omega) (by decide)))) (fun c116 => ?_)
          refine x_iload_n (pc' := 120) rfl dX10_grid_119 rfl ?_
          refine x_iload (pc' := 122) rfl dX10_grid_120 rfl ?_
          refine x_iadd (pc' := 123) dX10_grid_122 rfl ?_
          refine x_sipush (v := 1000) (pc' := 126) (by decide) dX10_grid_123 rfl ?_
          refine x_icmp_le (tgt := 132) (pc' := 129) (by decide) dX10_grid_126 rfl (fun c126 => ?_) (fun c126 => absurd (by rw [nI_add]; exact nI_le (b := 1000) (by omega) (by decide)) c126)
          refine x_aload_n (pc' := 133) rfl dX10_grid_132 rfl ?_
          refine x_iload_n (pc' := 134) rfl dX10_grid_133 rfl ?_
          refine x_iload_n (pc' := 135) rfl dX10_grid_134 rfl ?_
          refine x_iload_n (pc' := 136) rfl dX10_grid_135 rfl ?_
          refine x_iload (pc' := 138) rfl dX10_grid_136 rfl ?_
          refine x_iload (pc' := 140) rfl dX10_grid_138 rfl ?_
          refine x_iload (pc' := 142) rfl dX10_grid_140 rfl ?_
          refine x_callVi (As := [.int _, .int _, .int _, .int _, .int _, .int _]) (rest := []) (ci := 9) (pc' := 145) rfl vk_X10_217 mk_X10_mayBe (by decide) (by first | assumption | exact ⟨by decide, rfl⟩) (by decide) rfl (Nat.le_of_ble_eq_true rfl) dX10_grid_142 rfl (v_X10_mayBe hs0 hv hpP (by omega) (by omega) (by omega) (by omega) (by omega)) ?_
          refine x_if_ne (tgt := 151) (pc' := 148) (by decide) dX10_grid_145 rfl (fun c145 => absurd (pb_0 hm) c145) (fun c145 => ?_)
          refine x_ldc (pc' := 150) kc_X10_221 dX10_grid_148 rfl ?_
          exact x_iret rfl dX10_grid_150 rfl
        · refine x_aload_n (pc' := 1) rfl dX10_grid_0 rfl ?_
          refine x_iconst (v := 0) (pc' := 2) (by decide) dX10_grid_1 rfl ?_
          refine x_puti (pc' := 5) fk_X10_46 pk_9_0 rfl (by first | assumption | exact ⟨by decide, rfl⟩) dX10_grid_2 rfl ?_
          refine x_iload_n (pc' := 6) rfl dX10_grid_5 rfl ?_
          refine x_iconst (v := (-1)) (pc' := 7) (by decide) dX10_grid_6 rfl ?_
          refine x_icmp_eq (tgt := 21) (pc' := 10) (by decide) dX10_grid_7 rfl (fun c7 => absurd c7 hp1) (fun c7 => ?_)
          refine x_aload_n (pc' := 11) rfl dX10_grid_10 rfl ?_
          refine x_iload_n (pc' := 12) rfl dX10_grid_11 rfl ?_
          refine x_callVi (As := [.int _]) (rest := []) (ci := 9) (pc' := 15) rfl vk_X10_54 mk_X10_isGrid (by decide) (by first | assumption | exact ⟨by decide, rfl⟩) (by decide) rfl (Nat.le_of_ble_eq_true rfl) dX10_grid_12 rfl (c_X10_isGrid (σ := pI σ 18 0 0) hv.c0 hv.c6) ?_
          refine x_if_ne (tgt := 21) (pc' := 18) (by decide) dX10_grid_15 rfl (fun c15 => ?_) (fun c15 => absurd c15 (by rw [b1 ((grS_iff hv).mpr (hp.resolve_left hp1))]; decide))
          refine x_iload_n (pc' := 22) rfl dX10_grid_21 rfl ?_
          refine x_i2l (pc' := 23) dX10_grid_22 rfl ?_
          refine x_lconst (v := 0) (pc' := 24) (by decide) dX10_grid_23 rfl ?_
          refine x_ldc2 (pc' := 27) kl_X10_211 dX10_grid_24 rfl ?_
          refine x_callSi (As := [.long _, .long _, .long _]) (rest := []) (pc' := 30) rfl sk_X10_50 mk_X10_in (by decide) rfl (Nat.le_of_ble_eq_true rfl) dX10_grid_27 rfl c_X10_in ?_
          refine x_if_eq (tgt := 88) (pc' := 33) (by decide) dX10_grid_30 rfl (fun c30 => absurd c30 (by rw [b1 ((in_a _).mpr hB.1.1)]; decide)) (fun c30 => ?_)
          refine x_iload_n (pc' := 34) rfl dX10_grid_33 rfl ?_
          refine x_i2l (pc' := 35) dX10_grid_34 rfl ?_
          refine x_lconst (v := 0) (pc' := 36) (by decide) dX10_grid_35 rfl ?_
          refine x_ldc2 (pc' := 39) kl_X10_211 dX10_grid_36 rfl ?_
          refine x_callSi (As := [.long _, .long _, .long _]) (rest := []) (pc' := 42) rfl sk_X10_50 mk_X10_in (by decide) rfl (Nat.le_of_ble_eq_true rfl) dX10_grid_39 rfl c_X10_in ?_
          refine x_if_eq (tgt := 88) (pc' := 45) (by decide) dX10_grid_42 rfl (fun c42 => absurd c42 (by rw [b1 ((in_a _).mpr hB.1.2.1)]; decide)) (fun c42 => ?_)
          refine x_iload (pc' := 47) rfl dX10_grid_45 rfl ?_
          refine x_i2l (pc' := 48) dX10_grid_47 rfl ?_
          refine x_lconst (v := 1) (pc' := 49) (by decide) dX10_grid_48 rfl ?_
          refine x_ldc2 (pc' := 52) kl_X10_213 dX10_grid_49 rfl ?_
          refine x_callSi (As := [.long _, .long _, .long _]) (rest := []) (pc' := 55) rfl sk_X10_50 mk_X10_in (by decide) rfl (Nat.le_of_ble_eq_true rfl) dX10_grid_52 rfl c_X10_in ?_
          refine x_if_eq (tgt := 88) (pc' := 58) (by decide) dX10_grid_55 rfl (fun c55 => absurd c55 (by rw [b1 ((in_s _).mpr hB.1.2.2.1)]; decide)) (fun c55 => ?_)
          refine x_iload (pc' := 60) rfl dX10_grid_58 rfl ?_
          refine x_i2l (pc' := 61) dX10_grid_60 rfl ?_
          refine x_ldc2 (pc' := 64) kl_X10_81 dX10_grid_61 rfl ?_
          refine x_ldc2 (pc' := 67) kl_X10_215 dX10_grid_64 rfl ?_
          refine x_callSi (As := [.long _, .long _, .long _]) (rest := []) (pc' := 70) rfl sk_X10_50 mk_X10_in (by decide) rfl (Nat.le_of_ble_eq_true rfl) dX10_grid_67 rfl c_X10_in ?_
          refine x_if_eq (tgt := 88) (pc' := 73) (by decide) dX10_grid_70 rfl (fun c70 => absurd c70 (by rw [b1 ((in_r _).mpr hB.1.2.2.2.1)]; decide)) (fun c70 => ?_)
          refine x_iload (pc' := 75) rfl dX10_grid_73 rfl ?_
          refine x_i2l (pc' := 76) dX10_grid_75 rfl ?_
          refine x_ldc2 (pc' := 79) kl_X10_81 dX10_grid_76 rfl ?_
          refine x_ldc2 (pc' := 82) kl_X10_215 dX10_grid_79 rfl ?_
          refine x_callSi (As := [.long _, .long _, .long _]) (rest := []) (pc' := 85) rfl sk_X10_50 mk_X10_in (by decide) rfl (Nat.le_of_ble_eq_true rfl) dX10_grid_82 rfl c_X10_in ?_
          refine x_if_ne (tgt := 91) (pc' := 88) (by decide) dX10_grid_85 rfl (fun c85 => ?_) (fun c85 => absurd c85 (by rw [b1 ((in_r _).mpr hB.1.2.2.2.2)]; decide))
          refine x_iload (pc' := 93) rfl dX10_grid_91 rfl ?_
          refine x_iconst (v := 1) (pc' := 94) (by decide) dX10_grid_93 rfl ?_
          refine x_isub (pc' := 95) dX10_grid_94 rfl ?_
          refine x_iload (pc' := 97) rfl dX10_grid_95 rfl ?_
          refine x_imul (pc' := 98) dX10_grid_97 rfl ?_
          refine x_top (y := nI ((C - 1) * S)) (by rw [show nI C - 1 = nI (C - 1) from pk_sub (b := 1) (by omega)]; exact pk_mul _ _) ?_
          refine x_istore (lv' := [_, _, _, _, _, _, _, _, _, _, _]) (pc' := 100) (by decide) rfl dX10_grid_98 rfl ?_
          refine x_iload (pc' := 102) rfl dX10_grid_100 rfl ?_
          refine x_iconst (v := 1) (pc' := 103) (by decide) dX10_grid_102 rfl ?_
          refine x_isub (pc' := 104) dX10_grid_103 rfl ?_
          refine x_iload (pc' := 106) rfl dX10_grid_104 rfl ?_
          refine x_imul (pc' := 107) dX10_grid_106 rfl ?_
          refine x_top (y := nI ((R - 1) * S)) (by rw [show nI R - 1 = nI (R - 1) from pk_sub (b := 1) (by omega)]; exact pk_mul _ _) ?_
          refine x_istore (lv' := [_, _, _, _, _, _, _, _, _, _, _]) (pc' := 109) (by decide) rfl dX10_grid_107 rfl ?_
          refine x_iload_n (pc' := 110) rfl dX10_grid_109 rfl ?_
          refine x_iload (pc' := 112) rfl dX10_grid_110 rfl ?_
          refine x_iadd (pc' := 113) dX10_grid_112 rfl ?_
          refine x_sipush (v := 1000) (pc' := 116) (by decide) dX10_grid_113 rfl ?_
          refine x_icmp_gt (tgt := 129) (pc' := 119) (by decide) dX10_grid_116 rfl (fun c116 => absurd c116 (by rw [nI_add]; exact i_nlt.mpr (nI_le (b := 1000) (by omega) (by decide)))) (fun c116 => ?_)
          refine x_iload_n (pc' := 120) rfl dX10_grid_119 rfl ?_
          refine x_iload (pc' := 122) rfl dX10_grid_120 rfl ?_
          refine x_iadd (pc' := 123) dX10_grid_122 rfl ?_
          refine x_sipush (v := 1000) (pc' := 126) (by decide) dX10_grid_123 rfl ?_
          refine x_icmp_le (tgt := 132) (pc' := 129) (by decide) dX10_grid_126 rfl (fun c126 => ?_) (fun c126 => absurd (by rw [nI_add]; exact nI_le (b := 1000) (by omega) (by decide)) c126)
          refine x_aload_n (pc' := 133) rfl dX10_grid_132 rfl ?_
          refine x_iload_n (pc' := 134) rfl dX10_grid_133 rfl ?_
          refine x_iload_n (pc' := 135) rfl dX10_grid_134 rfl ?_
          refine x_iload_n (pc' := 136) rfl dX10_grid_135 rfl ?_
          refine x_iload (pc' := 138) rfl dX10_grid_136 rfl ?_
          refine x_iload (pc' := 140) rfl dX10_grid_138 rfl ?_
          refine x_iload (pc' := 142) rfl dX10_grid_140 rfl ?_
          refine x_callVi (As := [.int _, .int _, .int _, .int _, .int _, .int _]) (rest := []) (ci := 9) (pc' := 145) rfl vk_X10_217 mk_X10_mayBe (by decide) (by first | assumption | exact ⟨by decide, rfl⟩) (by decide) rfl (Nat.le_of_ble_eq_true rfl) dX10_grid_142 rfl (v_X10_mayBe hs0 hv hpP (by omega) (by omega) (by omega) (by omega) (by omega)) ?_
          refine x_if_ne (tgt := 151) (pc' := 148) (by decide) dX10_grid_145 rfl (fun c145 => absurd (pb_0 hm) c145) (fun c145 => ?_)
          refine x_ldc (pc' := 150) kc_X10_221 dX10_grid_148 rfl ?_
          exact x_iret rfl dX10_grid_150 rfl
    · rw [pif_f hB]
      by_cases hp1 : p = -1
      · refine x_aload_n (pc' := 1) rfl dX10_grid_0 rfl ?_
        refine x_iconst (v := 0) (pc' := 2) (by decide) dX10_grid_1 rfl ?_
        refine x_puti (pc' := 5) fk_X10_46 pk_9_0 rfl (by first | assumption | exact ⟨by decide, rfl⟩) dX10_grid_2 rfl ?_
        refine x_iload_n (pc' := 6) rfl dX10_grid_5 rfl ?_
        refine x_iconst (v := (-1)) (pc' := 7) (by decide) dX10_grid_6 rfl ?_
        refine x_icmp_eq (tgt := 21) (pc' := 10) (by decide) dX10_grid_7 rfl (fun c7 => ?_) (fun c7 => absurd hp1 c7)
        refine x_iload_n (pc' := 22) rfl dX10_grid_21 rfl ?_
        refine x_i2l (pc' := 23) dX10_grid_22 rfl ?_
        refine x_lconst (v := 0) (pc' := 24) (by decide) dX10_grid_23 rfl ?_
        refine x_ldc2 (pc' := 27) kl_X10_211 dX10_grid_24 rfl ?_
        refine x_callSi (As := [.long _, .long _, .long _]) (rest := []) (pc' := 30) rfl sk_X10_50 mk_X10_in (by decide) rfl (Nat.le_of_ble_eq_true rfl) dX10_grid_27 rfl c_X10_in ?_
        refine x_if_eq (tgt := 88) (pc' := 33) (by decide) dX10_grid_30 rfl (fun c30 => ?_) (fun c30 => ?_)
        · refine x_ldc (pc' := 90) kc_X10_169 dX10_grid_88 rfl ?_
          exact x_iret rfl dX10_grid_90 rfl
        · refine x_iload_n (pc' := 34) rfl dX10_grid_33 rfl ?_
          refine x_i2l (pc' := 35) dX10_grid_34 rfl ?_
          refine x_lconst (v := 0) (pc' := 36) (by decide) dX10_grid_35 rfl ?_
          refine x_ldc2 (pc' := 39) kl_X10_211 dX10_grid_36 rfl ?_
          refine x_callSi (As := [.long _, .long _, .long _]) (rest := []) (pc' := 42) rfl sk_X10_50 mk_X10_in (by decide) rfl (Nat.le_of_ble_eq_true rfl) dX10_grid_39 rfl c_X10_in ?_
          refine x_if_eq (tgt := 88) (pc' := 45) (by decide) dX10_grid_42 rfl (fun c42 => ?_) (fun c42 => ?_)
          · refine x_ldc (pc' := 90) kc_X10_169 dX10_grid_88 rfl ?_
            exact x_iret rfl dX10_grid_90 rfl
          · refine x_iload (pc' := 47) rfl dX10_grid_45 rfl ?_
            refine x_i2l (pc' := 48) dX10_grid_47 rfl ?_
            refine x_lconst (v := 1) (pc' := 49) (by decide) dX10_grid_48 rfl ?_
            refine x_ldc2 (pc' := 52) kl_X10_213 dX10_grid_49 rfl ?_
            refine x_callSi (As := [.long _, .long _, .long _]) (rest := []) (pc' := 55) rfl sk_X10_50 mk_X10_in (by decide) rfl (Nat.le_of_ble_eq_true rfl) dX10_grid_52 rfl c_X10_in ?_
            refine x_if_eq (tgt := 88) (pc' := 58) (by decide) dX10_grid_55 rfl (fun c55 => ?_) (fun c55 => ?_)
            · refine x_ldc (pc' := 90) kc_X10_169 dX10_grid_88 rfl ?_
              exact x_iret rfl dX10_grid_90 rfl
            · refine x_iload (pc' := 60) rfl dX10_grid_58 rfl ?_
              refine x_i2l (pc' := 61) dX10_grid_60 rfl ?_
              refine x_ldc2 (pc' := 64) kl_X10_81 dX10_grid_61 rfl ?_
              refine x_ldc2 (pc' := 67) kl_X10_215 dX10_grid_64 rfl ?_
              refine x_callSi (As := [.long _, .long _, .long _]) (rest := []) (pc' := 70) rfl sk_X10_50 mk_X10_in (by decide) rfl (Nat.le_of_ble_eq_true rfl) dX10_grid_67 rfl c_X10_in ?_
              refine x_if_eq (tgt := 88) (pc' := 73) (by decide) dX10_grid_70 rfl (fun c70 => ?_) (fun c70 => ?_)
              · refine x_ldc (pc' := 90) kc_X10_169 dX10_grid_88 rfl ?_
                exact x_iret rfl dX10_grid_90 rfl
              · refine x_iload (pc' := 75) rfl dX10_grid_73 rfl ?_
                refine x_i2l (pc' := 76) dX10_grid_75 rfl ?_
                refine x_ldc2 (pc' := 79) kl_X10_81 dX10_grid_76 rfl ?_
                refine x_ldc2 (pc' := 82) kl_X10_215 dX10_grid_79 rfl ?_
                refine x_callSi (As := [.long _, .long _, .long _]) (rest := []) (pc' := 85) rfl sk_X10_50 mk_X10_in (by decide) rfl (Nat.le_of_ble_eq_true rfl) dX10_grid_82 rfl c_X10_in ?_
                refine x_if_ne (tgt := 91) (pc' := 88) (by decide) dX10_grid_85 rfl (fun c85 => ?_) (fun c85 => ?_)
                · refine x_iload (pc' := 93) rfl dX10_grid_91 rfl ?_
                  refine x_iconst (v := 1) (pc' := 94) (by decide) dX10_grid_93 rfl ?_
                  refine x_isub (pc' := 95) dX10_grid_94 rfl ?_
                  refine x_iload (pc' := 97) rfl dX10_grid_95 rfl ?_
                  refine x_imul (pc' := 98) dX10_grid_97 rfl ?_
                  refine x_istore (lv' := [_, _, _, _, _, _, _, _, _, _, _]) (pc' := 100) (by decide) rfl dX10_grid_98 rfl ?_
                  refine x_iload (pc' := 102) rfl dX10_grid_100 rfl ?_
                  refine x_iconst (v := 1) (pc' := 103) (by decide) dX10_grid_102 rfl ?_
                  refine x_isub (pc' := 104) dX10_grid_103 rfl ?_
                  refine x_iload (pc' := 106) rfl dX10_grid_104 rfl ?_
                  refine x_imul (pc' := 107) dX10_grid_106 rfl ?_
                  refine x_istore (lv' := [_, _, _, _, _, _, _, _, _, _, _]) (pc' := 109) (by decide) rfl dX10_grid_107 rfl ?_
                  refine x_iload_n (pc' := 110) rfl dX10_grid_109 rfl ?_
                  refine x_iload (pc' := 112) rfl dX10_grid_110 rfl ?_
                  refine x_iadd (pc' := 113) dX10_grid_112 rfl ?_
                  refine x_sipush (v := 1000) (pc' := 116) (by decide) dX10_grid_113 rfl ?_
                  refine x_icmp_gt (tgt := 129) (pc' := 119) (by decide) dX10_grid_116 rfl (fun c116 => ?_) (fun c116 => ?_)
                  · refine x_ldc (pc' := 131) kc_X10_169 dX10_grid_129 rfl ?_
                    exact x_iret rfl dX10_grid_131 rfl
                  · refine x_iload_n (pc' := 120) rfl dX10_grid_119 rfl ?_
                    refine x_iload (pc' := 122) rfl dX10_grid_120 rfl ?_
                    refine x_iadd (pc' := 123) dX10_grid_122 rfl ?_
                    refine x_sipush (v := 1000) (pc' := 126) (by decide) dX10_grid_123 rfl ?_
                    refine x_icmp_le (tgt := 132) (pc' := 129) (by decide) dX10_grid_126 rfl (fun c126 => ?_) (fun c126 => ?_)
                    · exact absurd ⟨⟨(in_a _).mp (b01_t c30), (in_a _).mp (b01_t c42), (in_s _).mp (b01_t c55), (in_r _).mp (b01_t c70), (in_r _).mp (b01_t c85)⟩, i_nlt.mp c116, c126⟩ hB
                    · refine x_ldc (pc' := 131) kc_X10_169 dX10_grid_129 rfl ?_
                      exact x_iret rfl dX10_grid_131 rfl
                · refine x_ldc (pc' := 90) kc_X10_169 dX10_grid_88 rfl ?_
                  exact x_iret rfl dX10_grid_90 rfl
      · refine x_aload_n (pc' := 1) rfl dX10_grid_0 rfl ?_
        refine x_iconst (v := 0) (pc' := 2) (by decide) dX10_grid_1 rfl ?_
        refine x_puti (pc' := 5) fk_X10_46 pk_9_0 rfl (by first | assumption | exact ⟨by decide, rfl⟩) dX10_grid_2 rfl ?_
        refine x_iload_n (pc' := 6) rfl dX10_grid_5 rfl ?_
        refine x_iconst (v := (-1)) (pc' := 7) (by decide) dX10_grid_6 rfl ?_
        refine x_icmp_eq (tgt := 21) (pc' := 10) (by decide) dX10_grid_7 rfl (fun c7 => absurd c7 hp1) (fun c7 => ?_)
        refine x_aload_n (pc' := 11) rfl dX10_grid_10 rfl ?_
        refine x_iload_n (pc' := 12) rfl dX10_grid_11 rfl ?_
        refine x_callVi (As := [.int _]) (rest := []) (ci := 9) (pc' := 15) rfl vk_X10_54 mk_X10_isGrid (by decide) (by first | assumption | exact ⟨by decide, rfl⟩) (by decide) rfl (Nat.le_of_ble_eq_true rfl) dX10_grid_12 rfl (c_X10_isGrid (σ := pI σ 18 0 0) hv.c0 hv.c6) ?_
        refine x_if_ne (tgt := 21) (pc' := 18) (by decide) dX10_grid_15 rfl (fun c15 => ?_) (fun c15 => absurd c15 (by rw [b1 ((grS_iff hv).mpr (hp.resolve_left hp1))]; decide))
        refine x_iload_n (pc' := 22) rfl dX10_grid_21 rfl ?_
        refine x_i2l (pc' := 23) dX10_grid_22 rfl ?_
        refine x_lconst (v := 0) (pc' := 24) (by decide) dX10_grid_23 rfl ?_
        refine x_ldc2 (pc' := 27) kl_X10_211 dX10_grid_24 rfl ?_
        refine x_callSi (As := [.long _, .long _, .long _]) (rest := []) (pc' := 30) rfl sk_X10_50 mk_X10_in (by decide) rfl (Nat.le_of_ble_eq_true rfl) dX10_grid_27 rfl c_X10_in ?_
        refine x_if_eq (tgt := 88) (pc' := 33) (by decide) dX10_grid_30 rfl (fun c30 => ?_) (fun c30 => ?_)
        · refine x_ldc (pc' := 90) kc_X10_169 dX10_grid_88 rfl ?_
          exact x_iret rfl dX10_grid_90 rfl
        · refine x_iload_n (pc' := 34) rfl dX10_grid_33 rfl ?_
          refine x_i2l (pc' := 35) dX10_grid_34 rfl ?_
          refine x_lconst (v := 0) (pc' := 36) (by decide) dX10_grid_35 rfl ?_
          refine x_ldc2 (pc' := 39) kl_X10_211 dX10_grid_36 rfl ?_
          refine x_callSi (As := [.long _, .long _, .long _]) (rest := []) (pc' := 42) rfl sk_X10_50 mk_X10_in (by decide) rfl (Nat.le_of_ble_eq_true rfl) dX10_grid_39 rfl c_X10_in ?_
          refine x_if_eq (tgt := 88) (pc' := 45) (by decide) dX10_grid_42 rfl (fun c42 => ?_) (fun c42 => ?_)
          · refine x_ldc (pc' := 90) kc_X10_169 dX10_grid_88 rfl ?_
            exact x_iret rfl dX10_grid_90 rfl
          · refine x_iload (pc' := 47) rfl dX10_grid_45 rfl ?_
            refine x_i2l (pc' := 48) dX10_grid_47 rfl ?_
            refine x_lconst (v := 1) (pc' := 49) (by decide) dX10_grid_48 rfl ?_
            refine x_ldc2 (pc' := 52) kl_X10_213 dX10_grid_49 rfl ?_
            refine x_callSi (As := [.long _, .long _, .long _]) (rest := []) (pc' := 55) rfl sk_X10_50 mk_X10_in (by decide) rfl (Nat.le_of_ble_eq_true rfl) dX10_grid_52 rfl c_X10_in ?_
            refine x_if_eq (tgt := 88) (pc' := 58) (by decide) dX10_grid_55 rfl (fun c55 => ?_) (fun c55 => ?_)
            · refine x_ldc (pc' := 90) kc_X10_169 dX10_grid_88 rfl ?_
              exact x_iret rfl dX10_grid_90 rfl
            · refine x_iload (pc' := 60) rfl dX10_grid_58 rfl ?_
              refine x_i2l (pc' := 61) dX10_grid_60 rfl ?_
              refine x_ldc2 (pc' := 64) kl_X10_81 dX10_grid_61 rfl ?_
              refine x_ldc2 (pc' := 67) kl_X10_215 dX10_grid_64 rfl ?_
              refine x_callSi (As := [.long _, .long _, .long _]) (rest := []) (pc' := 70) rfl sk_X10_50 mk_X10_in (by decide) rfl (Nat.le_of_ble_eq_true rfl) dX10_grid_67 rfl c_X10_in ?_
              refine x_if_eq (tgt := 88) (pc' := 73) (by decide) dX10_grid_70 rfl (fun c70 => ?_) (fun c70 => ?_)
              · refine x_ldc (pc' := 90) kc_X10_169 dX10_grid_88 rfl ?_
                exact x_iret rfl dX10_grid_90 rfl
              · refine x_iload (pc' := 75) rfl dX10_grid_73 rfl ?_
                refine x_i2l (pc' := 76) dX10_grid_75 rfl ?_
                refine x_ldc2 (pc' := 79) kl_X10_81 dX10_grid_76 rfl ?_
                refine x_ldc2 (pc' := 82) kl_X10_215 dX10_grid_79 rfl ?_
                refine x_callSi (As := [.long _, .long _, .long _]) (rest := []) (pc' := 85) rfl sk_X10_50 mk_X10_in (by decide) rfl (Nat.le_of_ble_eq_true rfl) dX10_grid_82 rfl c_X10_in ?_
                refine x_if_ne (tgt := 91) (pc' := 88) (by decide) dX10_grid_85 rfl (fun c85 => ?_) (fun c85 => ?_)
                · refine x_iload (pc' := 93) rfl dX10_grid_91 rfl ?_
                  refine x_iconst (v := 1) (pc' := 94) (by decide) dX10_grid_93 rfl ?_
                  refine x_isub (pc' := 95) dX10_grid_94 rfl ?_
                  refine x_iload (pc' := 97) rfl dX10_grid_95 rfl ?_
                  refine x_imul (pc' := 98) dX10_grid_97 rfl ?_
                  refine x_istore (lv' := [_, _, _, _, _, _, _, _, _, _, _]) (pc' := 100) (by decide) rfl dX10_grid_98 rfl ?_
                  refine x_iload (pc' := 102) rfl dX10_grid_100 rfl ?_
                  refine x_iconst (v := 1) (pc' := 103) (by decide) dX10_grid_102 rfl ?_
                  refine x_isub (pc' := 104) dX10_grid_103 rfl ?_
                  refine x_iload (pc' := 106) rfl dX10_grid_104 rfl ?_
                  refine x_imul (pc' := 107) dX10_grid_106 rfl ?_
                  refine x_istore (lv' := [_, _, _, _, _, _, _, _, _, _, _]) (pc' := 109) (by decide) rfl dX10_grid_107 rfl ?_
                  refine x_iload_n (pc' := 110) rfl dX10_grid_109 rfl ?_
                  refine x_iload (pc' := 112) rfl dX10_grid_110 rfl ?_
                  refine x_iadd (pc' := 113) dX10_grid_112 rfl ?_
                  refine x_sipush (v := 1000) (pc' := 116) (by decide) dX10_grid_113 rfl ?_
                  refine x_icmp_gt (tgt := 129) (pc' := 119) (by decide) dX10_grid_116 rfl (fun c116 => ?_) (fun c116 => ?_)
                  · refine x_ldc (pc' := 131) kc_X10_169 dX10_grid_129 rfl ?_
                    exact x_iret rfl dX10_grid_131 rfl
                  · refine x_iload_n (pc' := 120) rfl dX10_grid_119 rfl ?_
                    refine x_iload (pc' := 122) rfl dX10_grid_120 rfl ?_
                    refine x_iadd (pc' := 123) dX10_grid_122 rfl ?_
                    refine x_sipush (v := 1000) (pc' := 126) (by decide) dX10_grid_123 rfl ?_
                    refine x_icmp_le (tgt := 132) (pc' := 129) (by decide) dX10_grid_126 rfl (fun c126 => ?_) (fun c126 => ?_)
                    · exact absurd ⟨⟨(in_a _).mp (b01_t c30), (in_a _).mp (b01_t c42), (in_s _).mp (b01_t c55), (in_r _).mp (b01_t c70), (in_r _).mp (b01_t c85)⟩, i_nlt.mp c116, c126⟩ hB
                    · refine x_ldc (pc' := 131) kc_X10_169 dX10_grid_129 rfl ?_
                      exact x_iret rfl dX10_grid_131 rfl
                · refine x_ldc (pc' := 90) kc_X10_169 dX10_grid_88 rfl ?_
                  exact x_iret rfl dX10_grid_90 rfl
  · rw [pif_f hp]
    refine x_aload_n (pc' := 1) rfl dX10_grid_0 rfl ?_
    refine x_iconst (v := 0) (pc' := 2) (by decide) dX10_grid_1 rfl ?_
    refine x_puti (pc' := 5) fk_X10_46 pk_9_0 rfl (by first | assumption | exact ⟨by decide, rfl⟩) dX10_grid_2 rfl ?_
    refine x_iload_n (pc' := 6) rfl dX10_grid_5 rfl ?_
    refine x_iconst (v := (-1)) (pc' := 7) (by decide) dX10_grid_6 rfl ?_
    refine x_icmp_eq (tgt := 21) (pc' := 10) (by decide) dX10_grid_7 rfl (fun c7 => absurd c7 (fun q => hp (Or.inl q))) (fun c7 => ?_)
    refine x_aload_n (pc' := 11) rfl dX10_grid_10 rfl ?_
    refine x_iload_n (pc' := 12) rfl dX10_grid_11 rfl ?_
    refine x_callVi (As := [.int _]) (rest := []) (ci := 9) (pc' := 15) rfl vk_X10_54 mk_X10_isGrid (by decide) (by first | assumption | exact ⟨by decide, rfl⟩) (by decide) rfl (Nat.le_of_ble_eq_true rfl) dX10_grid_12 rfl (c_X10_isGrid (σ := pI σ 18 0 0) hv.c0 hv.c6) ?_
    refine x_if_ne (tgt := 21) (pc' := 18) (by decide) dX10_grid_15 rfl (fun c15 => absurd (b0 (fun q => hp (Or.inr ((grS_iff hv).mp q)))) c15) (fun c15 => ?_)
    refine x_ldc (pc' := 20) kc_X10_170 dX10_grid_18 rfl ?_
    exact x_iret rfl dX10_grid_20 rfl
