/-- the cell of a place, along one way -/
def cA (p X S C : Nat) : Nat := min ((p - 64 * X) / (64 * S)) (C - 2)
def cX (v : Nat → Int32) (g px : Nat) : Nat := cA px (fN v g 1) (fN v g 3) (fN v g 4)
def cY (v : Nat → Int32) (g py : Nat) : Nat := cA py (fN v g 2) (fN v g 3) (fN v g 5)
def offS (v : Nat → Int32) (g px py w : Nat) : Int32 := betw (v 1) (oV v g (cX v g px) (cY v g py) w) (oV v g (cX v g px + 1) (cY v g py) w) (oV v g (cX v g px) (cY v g py + 1) w) (oV v g (cX v g px + 1) (cY v g py + 1) w) (nI (px - stS v g (cX v g px) 0)).toInt64 (nI (py - stS v g (cY v g py) 1)).toInt64 (nI (64 * fN v g 3)).toInt64
theorem cA_spec {p X S C : Nat} (hS : 1 ≤ S) (hC : 2 ≤ C) (h0 : 64 * X ≤ p) (h1 : p ≤ 64 * (X + (C - 1) * S)) : cA p X S C + 2 ≤ C ∧ 64 * (X + cA p X S C * S) ≤ p ∧ p - 64 * (X + cA p X S C * S) ≤ 64 * S := by
  have hD : 0 < 64 * S := by omega
  have hq := Nat.div_add_mod (p - 64 * X) (64 * S)
  have hr := Nat.mod_lt (p - 64 * X) hD
  have hle : cA p X S C ≤ (p - 64 * X) / (64 * S) := Nat.min_le_left _ _
  have hle2 : cA p X S C ≤ C - 2 := Nat.min_le_right _ _
  have hm : 64 * S * cA p X S C ≤ 64 * S * ((p - 64 * X) / (64 * S)) := Nat.mul_le_mul_left _ hle
  have e1 : 64 * (X + cA p X S C * S) = 64 * X + 64 * S * cA p X S C := by
    rw [Nat.mul_add, Nat.mul_assoc 64 S, Nat.mul_comm S]
  refine ⟨by omega, by omega, ?_⟩
  rw [e1]
  by_cases hc : (p - 64 * X) / (64 * S) ≤ C - 2
  · have e2 : cA p X S C = (p - 64 * X) / (64 * S) := Nat.min_eq_left hc
    rw [e2]
    omega
  · have e2 : cA p X S C = C - 2 := Nat.min_eq_right (by omega)
    rw [e2]
    have e3 : (C - 1) * S = S * (C - 2) + S := by
      rw [show C - 1 = (C - 2) + 1 by omega, Nat.add_mul, Nat.one_mul, Nat.mul_comm]
    rw [e3] at h1
    rw [Nat.mul_assoc]
    omega
theorem cX_spec {v : Nat → Int32} {g px py : Nat} (hf : OkF v g) (h : onS v g px py) : cX v g px + 2 ≤ fN v g 4 ∧ stS v g (cX v g px) 0 ≤ px ∧ px - stS v g (cX v g px) 0 ≤ 64 * fN v g 3 := by
  obtain ⟨-, h3, -, h4, -, h5, -, -, -⟩ := hf
  refine cA_spec h3 h4 ?_ h.1.2
  have := h.1.1
  unfold stS at this
  rw [Nat.zero_mul, Nat.add_zero] at this
  exact this
theorem cY_spec {v : Nat → Int32} {g px py : Nat} (hf : OkF v g) (h : onS v g px py) : cY v g py + 2 ≤ fN v g 5 ∧ stS v g (cY v g py) 1 ≤ py ∧ py - stS v g (cY v g py) 1 ≤ 64 * fN v g 3 := by
  obtain ⟨-, h3, -, h4, -, h5, -, -, -⟩ := hf
  refine cA_spec h3 h5 ?_ h.2.2
  have := h.2.1
  unfold stS at this
  rw [Nat.zero_mul, Nat.add_zero] at this
  exact this
theorem d2_ne {D : Nat} (h : 0 < D) (h2 : D ≤ 4096) : ¬ 2 * (nI D).toInt64 = 0 := by
  rw [nI_l (by omega), show (2 : Int64) = lN 2 from rfl, lN_mul, show (0 : Int64) = lN 0 from rfl, lN_eq (by omega) (by decide)]
  omega
theorem d4_ne {D : Nat} (h : 0 < D) (h2 : D ≤ 4096) : ¬ 2 * ((nI D).toInt64 * (nI D).toInt64) = 0 := by
  have hb : D * D ≤ 4096 * 4096 := Nat.mul_le_mul h2 h2
  have hp : 0 < D * D := Nat.mul_pos h h
  rw [nI_l (by omega), show (2 : Int64) = lN 2 from rfl, lN_mul, lN_mul, show (0 : Int64) = lN 0 from rfl, lN_eq (by omega) (by decide)]
  omega
set_option maxRecDepth 100000 in
set_option maxHeartbeats 4000000 in
theorem c_X10_offset {σ : St} {g x y w : Int32} {G px py W : Nat} (hv : Ok (σ.1 19)) (hG : G < cN (σ.1 19)) (hon : onS (σ.1 19) G px py) (hg : g = nI G) (hx : x = nI px) (hy : y = nI py) (hw : w = nI W) (hW : W < 2) : Ct yX10_offset M_X10_offset [.ref 18, .int g, .int x, .int y, .int w] σ (some (.int (offS (σ.1 19) G px py W)), σ) := by
  subst hg
  subst hx
  subst hy
  subst hw
  have h6 := hv.c6
  have hG6 : G < 6 := by omega
  have hf := hv.F hG
  obtain ⟨x1, x2, x3⟩ := cX_spec hf hon
  obtain ⟨y1, y2, y3⟩ := cY_spec hf hon
  obtain ⟨o1, o2, o3, o4⟩ := onS_b hf
  have hpx : px ≤ 64000 := Nat.le_trans hon.1.2 o2
  have hpy : py ≤ 64000 := Nat.le_trans hon.2.2 o4
  have hS1 := hf.2.1
  have hS2 := hf.2.2.1
  have hC5 := hf.2.2.2.2.1
  have hR5 := hf.2.2.2.2.2.2.1
  have e00 : stS (σ.1 19) G 0 0 = 64 * fN (σ.1 19) G 1 := by unfold stS; rw [Nat.zero_mul, Nat.add_zero]
  have e01 : stS (σ.1 19) G 0 1 = 64 * fN (σ.1 19) G 2 := by unfold stS; rw [Nat.zero_mul, Nat.add_zero]
  have hq1 : σ.1 19 (2 + 6 * G + 4) - 2 = nI (fN (σ.1 19) G 4 - 2) := by rw [hf.at (by omega) (by omega)]; exact pk_sub (b := 2) (by omega)
  have hq2 : σ.1 19 (2 + 6 * G + 5) - 2 = nI (fN (σ.1 19) G 5 - 2) := by rw [hf.at (by omega) (by omega)]; exact pk_sub (b := 2) (by omega)
  have hb1 : (px - stS (σ.1 19) G 0 0) / (64 * fN (σ.1 19) G 3) ≤ 64000 := Nat.le_trans (Nat.div_le_self _ _) (by omega)
  have hb2 : (py - stS (σ.1 19) G 0 1) / (64 * fN (σ.1 19) G 3) ≤ 64000 := Nat.le_trans (Nat.div_le_self _ _) (by omega)
  have k93 : Ex M_X10_offset (some (.int (offS (σ.1 19) G px py W)), σ) 93 [some (.ref 18), some (.int (nI G)), some (.int (nI px)), some (.int (nI py)), some (.int (nI W)), some (.int (nI (64 * fN (σ.1 19) G 3))), some (.int (nI (cX (σ.1 19) G px))), some (.int (nI ((py - stS (σ.1 19) G 0 1) / (64 * fN (σ.1 19) G 3)))), none, none] [.int (nI (cY (σ.1 19) G py))] σ := by
    refine x_istore (lv' := [_, _, _, _, _, _, _, _, _, _]) (pc' := 95) (by decide) rfl dX10_offset_93 rfl ?_
    refine x_iload_n (pc' := 96) rfl dX10_offset_95 rfl ?_
    refine x_aload_n (pc' := 97) rfl dX10_offset_96 rfl ?_
    refine x_iload_n (pc' := 98) rfl dX10_offset_97 rfl ?_
    refine x_iload (pc' := 100) rfl dX10_offset_98 rfl ?_
    refine x_iconst (v := 0) (pc' := 101) (by decide) dX10_offset_100 rfl ?_
    refine x_callVi (As := [.int _, .int _, .int _]) (rest := [.int _]) (ci := 9) (pc' := 104) rfl vk_X10_66 mk_X10_stands (by decide) (by first | assumption | exact ⟨by decide, rfl⟩) (by decide) rfl (Nat.le_of_ble_eq_true rfl) dX10_offset_101 rfl (c_X10_stands hf (W := 0) rfl rfl rfl hG6 (by decide)) ?_
    refine x_isub (pc' := 105) dX10_offset_104 rfl ?_
    refine x_top (pk_sub x2) ?_
    refine x_istore (lv' := [_, _, _, _, _, _, _, _, _, _]) (pc' := 107) (by decide) rfl dX10_offset_105 rfl ?_
    refine x_iload_n (pc' := 108) rfl dX10_offset_107 rfl ?_
    refine x_aload_n (pc' := 109) rfl dX10_offset_108 rfl ?_
    refine x_iload_n (pc' := 110) rfl dX10_offset_109 rfl ?_
    refine x_iload (pc' := 112) rfl dX10_offset_110 rfl ?_
    refine x_iconst (v := 1) (pc' := 113) (by decide) dX10_offset_112 rfl ?_
    refine x_callVi (As := [.int _, .int _, .int _]) (rest := [.int _]) (ci := 9) (pc' := 116) rfl vk_X10_66 mk_X10_stands (by decide) (by first | assumption | exact ⟨by decide, rfl⟩) (by decide) rfl (Nat.le_of_ble_eq_true rfl) dX10_offset_113 rfl (c_X10_stands hf (W := 1) rfl rfl rfl hG6 (by decide)) ?_
    refine x_isub (pc' := 117) dX10_offset_116 rfl ?_
    refine x_top (pk_sub y2) ?_
    refine x_istore (lv' := [_, _, _, _, _, _, _, _, _, _]) (pc' := 119) (by decide) rfl dX10_offset_117 rfl ?_
    refine x_aload_n (pc' := 120) rfl dX10_offset_119 rfl ?_
    refine x_aload_n (pc' := 121) rfl dX10_offset_120 rfl ?_
    refine x_iload_n (pc' := 122) rfl dX10_offset_121 rfl ?_
    refine x_iload (pc' := 124) rfl dX10_offset_122 rfl ?_
    refine x_iload (pc' := 126) rfl dX10_offset_124 rfl ?_
    refine x_iload (pc' := 128) rfl dX10_offset_126 rfl ?_
    refine x_callVi (As := [.int _, .int _, .int _, .int _]) (rest := [.ref _]) (ci := 9) (pc' := 131) rfl vk_X10_87 mk_X10_off (by decide) (by first | assumption | exact ⟨by decide, rfl⟩) (by decide) rfl (Nat.le_of_ble_eq_true rfl) dX10_offset_128 rfl (c_X10_off (K := cX (σ.1 19) G px) (R := cY (σ.1 19) G py) rfl rfl rfl rfl (by omega)) ?_
    refine x_aload_n (pc' := 132) rfl dX10_offset_131 rfl ?_
    refine x_iload_n (pc' := 133) rfl dX10_offset_132 rfl ?_
    refine x_iload (pc' := 135) rfl dX10_offset_133 rfl ?_
    refine x_iconst (v := 1) (pc' := 136) (by decide) dX10_offset_135 rfl ?_
    refine x_iadd (pc' := 137) dX10_offset_136 rfl ?_
    refine x_iload (pc' := 139) rfl dX10_offset_137 rfl ?_
    refine x_iload (pc' := 141) rfl dX10_offset_139 rfl ?_
    refine x_callVi (As := [.int _, .int _, .int _, .int _]) (rest := [.int _, .ref _]) (ci := 9) (pc' := 144) rfl vk_X10_87 mk_X10_off (by decide) (by first | assumption | exact ⟨by decide, rfl⟩) (by decide) rfl (Nat.le_of_ble_eq_true rfl) dX10_offset_141 rfl (c_X10_off (K := cX (σ.1 19) G px + 1) (R := cY (σ.1 19) G py) rfl (nI_1 _) rfl rfl (by omega)) ?_
    refine x_aload_n (pc' := 145) rfl dX10_offset_144 rfl ?_
    refine x_iload_n (pc' := 146) rfl dX10_offset_145 rfl ?_
    refine x_iload (pc' := 148) rfl dX10_offset_146 rfl ?_
    refine x_iload (pc' := 150) rfl dX10_offset_148 rfl ?_
    refine x_iconst (v := 1) (pc' := 151) (by decide) dX10_offset_150 rfl ?_
    refine x_iadd (pc' := 152) dX10_offset_151 rfl ?_
    refine x_iload (pc' := 154) rfl dX10_offset_152 rfl ?_
    refine x_callVi (As := [.int _, .int _, .int _, .int _]) (rest := [.int _, .int _, .ref _]) (ci := 9) (pc' := 157) rfl vk_X10_87 mk_X10_off (by decide) (by first | assumption | exact ⟨by decide, rfl⟩) (by decide) rfl (Nat.le_of_ble_eq_true rfl) dX10_offset_154 rfl (c_X10_off (K := cX (σ.1 19) G px) (R := cY (σ.1 19) G py + 1) rfl rfl (nI_1 _) rfl (by omega)) ?_
    refine x_aload_n (pc' := 158) rfl dX10_offset_157 rfl ?_
    refine x_iload_n (pc' := 159) rfl dX10_offset_158 rfl ?_
    refine x_iload (pc' := 161) rfl dX10_offset_159 rfl ?_
    refine x_iconst (v := 1) (pc' := 162) (by decide) dX10_offset_161 rfl ?_
    refine x_iadd (pc' := 163) dX10_offset_162 rfl ?_
    refine x_iload (pc' := 165) rfl dX10_offset_163 rfl ?_
    refine x_iconst (v := 1) (pc' := 166) (by decide) dX10_offset_165 rfl ?_
    refine x_iadd (pc' := 167) dX10_offset_166 rfl ?_
    refine x_iload (pc' := 169) rfl dX10_offset_167 rfl ?_
    refine x_callVi (As := [.int _, .int _, .int _, .int _]) (rest := [.int _, .int _, .int _, .ref _]) (ci := 9) (pc' := 172) rfl vk_X10_87 mk_X10_off (by decide) (by first | assumption | exact ⟨by decide, rfl⟩) (by decide) rfl (Nat.le_of_ble_eq_true rfl) dX10_offset_169 rfl (c_X10_off (K := cX (σ.1 19) G px + 1) (R := cY (σ.1 19) G py + 1) rfl (nI_1 _) (nI_1 _) rfl (by omega)) ?_
    refine x_iload (pc' := 174) rfl dX10_offset_172 rfl ?_
    refine x_i2l (pc' := 175) dX10_offset_174 rfl ?_
    refine x_iload (pc' := 177) rfl dX10_offset_175 rfl ?_
    refine x_i2l (pc' := 178) dX10_offset_177 rfl ?_
    refine x_iload (pc' := 180) rfl dX10_offset_178 rfl ?_
    refine x_i2l (pc' := 181) dX10_offset_180 rfl ?_
    refine x_callVi (As := [.int _, .int _, .int _, .int _, .long _, .long _, .long _]) (rest := []) (ci := 9) (pc' := 184) rfl vk_X10_91 mk_X10_between (by decide) (by first | assumption | exact ⟨by decide, rfl⟩) (by decide) rfl (Nat.le_of_ble_eq_true rfl) dX10_offset_181 rfl (c_X10_between (d2_ne (by omega) (by omega)) (d4_ne (by omega) (by omega))) ?_
    exact x_iret rfl dX10_offset_184 rfl
  have k65 : Ex M_X10_offset (some (.int (offS (σ.1 19) G px py W)), σ) 65 [some (.ref 18), some (.int (nI G)), some (.int (nI px)), some (.int (nI py)), some (.int (nI W)), some (.int (nI (64 * fN (σ.1 19) G 3))), some (.int (nI ((px - stS (σ.1 19) G 0 0) / (64 * fN (σ.1 19) G 3)))), some (.int (nI ((py - stS (σ.1 19) G 0 1) / (64 * fN (σ.1 19) G 3)))), none, none] [.int (nI (cX (σ.1 19) G px))] σ := by
    refine x_istore (lv' := [_, _, _, _, _, _, _, _, _, _]) (pc' := 67) (by decide) rfl dX10_offset_65 rfl ?_
    refine x_iload (pc' := 69) rfl dX10_offset_67 rfl ?_
    refine x_aload_n (pc' := 70) rfl dX10_offset_69 rfl ?_
    refine x_iload_n (pc' := 71) rfl dX10_offset_70 rfl ?_
    refine x_iconst (v := 5) (pc' := 72) (by decide) dX10_offset_71 rfl ?_
    refine x_callVi (As := [.int _, .int _]) (rest := [.int _]) (ci := 9) (pc' := 75) rfl vk_X10_58 mk_X10_its (by decide) (by first | assumption | exact ⟨by decide, rfl⟩) (by decide) rfl (Nat.le_of_ble_eq_true rfl) dX10_offset_72 rfl (c_X10_its (E := 5) rfl rfl (by omega)) ?_
    refine x_iconst (v := 2) (pc' := 76) (by decide) dX10_offset_75 rfl ?_
    refine x_isub (pc' := 77) dX10_offset_76 rfl ?_
    refine x_icmp_le (tgt := 91) (pc' := 80) (by decide) dX10_offset_77 rfl (fun c77 => ?_) (fun c77 => ?_)
    · refine x_iload (pc' := 93) rfl dX10_offset_91 rfl ?_
      exact x_top (by rw [hq2] at c77; rw [cY, cA, ← e01, Nat.min_eq_left ((nI_leI (by omega) (by omega)).mp c77)]) k93
    · refine x_aload_n (pc' := 81) rfl dX10_offset_80 rfl ?_
      refine x_iload_n (pc' := 82) rfl dX10_offset_81 rfl ?_
      refine x_iconst (v := 5) (pc' := 83) (by decide) dX10_offset_82 rfl ?_
      refine x_callVi (As := [.int _, .int _]) (rest := []) (ci := 9) (pc' := 86) rfl vk_X10_58 mk_X10_its (by decide) (by first | assumption | exact ⟨by decide, rfl⟩) (by decide) rfl (Nat.le_of_ble_eq_true rfl) dX10_offset_83 rfl (c_X10_its (E := 5) rfl rfl (by omega)) ?_
      refine x_iconst (v := 2) (pc' := 87) (by decide) dX10_offset_86 rfl ?_
      refine x_isub (pc' := 88) dX10_offset_87 rfl ?_
      refine x_goto (tgt := 93) (by decide) dX10_offset_88 ?_
      exact x_top (by rw [hq2] at c77; rw [hq2, cY, cA, ← e01, Nat.min_eq_right (Nat.le_of_not_le (fun q => c77 (nI_le q (by omega))))]) k93
  refine ct_of (k := 5) rfl rfl rfl (Nat.le_of_ble_eq_true rfl) ?_
  refine x_bipush (v := 64) (pc' := 2) (by decide) dX10_offset_0 rfl ?_
  refine x_aload_n (pc' := 3) rfl dX10_offset_2 rfl ?_
  refine x_iload_n (pc' := 4) rfl dX10_offset_3 rfl ?_
  refine x_iconst (v := 3) (pc' := 5) (by decide) dX10_offset_4 rfl ?_
  refine x_callVi (As := [.int _, .int _]) (rest := [.int _]) (ci := 9) (pc' := 8) rfl vk_X10_58 mk_X10_its (by decide) (by first | assumption | exact ⟨by decide, rfl⟩) (by decide) rfl (Nat.le_of_ble_eq_true rfl) dX10_offset_5 rfl (c_X10_its (E := 3) rfl rfl (by omega)) ?_
  refine x_imul (pc' := 9) dX10_offset_8 rfl ?_
  refine x_top (y := nI (64 * fN (σ.1 19) G 3)) (by rw [hf.at (by omega) (by omega)]; simp only [lit32, pk_mul]) ?_
  refine x_istore (lv' := [_, _, _, _, _, _, _, _, _, _]) (pc' := 11) (by decide) rfl dX10_offset_9 rfl ?_
  refine x_iload_n (pc' := 12) rfl dX10_offset_11 rfl ?_
  refine x_aload_n (pc' := 13) rfl dX10_offset_12 rfl ?_
  refine x_iload_n (pc' := 14) rfl dX10_offset_13 rfl ?_
  refine x_iconst (v := 0) (pc' := 15) (by decide) dX10_offset_14 rfl ?_
  refine x_iconst (v := 0) (pc' := 16) (by decide) dX10_offset_15 rfl ?_
  refine x_callVi (As := [.int _, .int _, .int _]) (rest := [.int _]) (ci := 9) (pc' := 19) rfl vk_X10_66 mk_X10_stands (by decide) (by first | assumption | exact ⟨by decide, rfl⟩) (by decide) rfl (Nat.le_of_ble_eq_true rfl) dX10_offset_16 rfl (c_X10_stands hf (K := 0) (W := 0) rfl rfl rfl hG6 (by decide)) ?_
  refine x_isub (pc' := 20) dX10_offset_19 rfl ?_
  refine x_top (pk_sub hon.1.1) ?_
  refine x_iload (pc' := 22) rfl dX10_offset_20 rfl ?_
  refine x_idiv (pc' := 23) (nI_ne0 (by omega) (by omega)) dX10_offset_22 rfl ?_
  refine x_top (pk_div (by omega) (by omega) (by omega)) ?_
  refine x_istore (lv' := [_, _, _, _, _, _, _, _, _, _]) (pc' := 25) (by decide) rfl dX10_offset_23 rfl ?_
  refine x_iload_n (pc' := 26) rfl dX10_offset_25 rfl ?_
  refine x_aload_n (pc' := 27) rfl dX10_offset_26 rfl ?_
  refine x_iload_n (pc' := 28) rfl dX10_offset_27 rfl ?_
  refine x_iconst (v := 0) (pc' := 29) (by decide) dX10_offset_28 rfl ?_
  refine x_iconst (v := 1) (pc' := 30) (by decide) dX10_offset_29 rfl ?_
  refine x_callVi (As := [.int _, .int _, .int _]) (rest := [.int _]) (ci := 9) (pc' := 33) rfl vk_X10_66 mk_X10_stands (by decide) (by first | assumption | exact ⟨by decide, rfl⟩) (by decide) rfl (Nat.le_of_ble_eq_true rfl) dX10_offset_30 rfl (c_X10_stands hf (K := 0) (W := 1) rfl rfl rfl hG6 (by decide)) ?_
  refine x_isub (pc' := 34) dX10_offset_33 rfl ?_
  refine x_top (pk_sub hon.2.1) ?_
  refine x_iload (pc' := 36) rfl dX10_offset_34 rfl ?_
  refine x_idiv (pc' := 37) (nI_ne0 (by omega) (by omega)) dX10_offset_36 rfl ?_
  refine x_top (pk_div (by omega) (by omega) (by omega)) ?_
  refine x_istore (lv' := [_, _, _, _, _, _, _, _, _, _]) (pc' := 39) (by decide) rfl dX10_offset_37 rfl ?_
  refine x_iload (pc' := 41) rfl dX10_offset_39 rfl ?_
  refine x_aload_n (pc' := 42) rfl dX10_offset_41 rfl ?_
  refine x_iload_n (pc' := 43) rfl dX10_offset_42 rfl ?_
  refine x_iconst (v := 4) (pc' := 44) (by decide) dX10_offset_43 rfl ?_
  refine x_callVi (As := [.int _, .int _]) (rest := [.int _]) (ci := 9) (pc' := 47) rfl vk_X10_58 mk_X10_its (by decide) (by first | assumption | exact ⟨by decide, rfl⟩) (by decide) rfl (Nat.le_of_ble_eq_true rfl) dX10_offset_44 rfl (c_X10_its (E := 4) rfl rfl (by omega)) ?_
  refine x_iconst (v := 2) (pc' := 48) (by decide) dX10_offset_47 rfl ?_
  refine x_isub (pc' := 49) dX10_offset_48 rfl ?_
  refine x_icmp_le (tgt := 63) (pc' := 52) (by decide) dX10_offset_49 rfl (fun c49 => ?_) (fun c49 => ?_)
  · refine x_iload (pc' := 65) rfl dX10_offset_63 rfl ?_
    exact x_top (by rw [hq1] at c49; rw [cX, cA, ← e00, Nat.min_eq_left ((nI_leI (by omega) (by omega)).mp c49)]) k65
  · refine x_aload_n (pc' := 53) rfl dX10_offset_52 rfl ?_
    refine x_iload_n (pc' := 54) rfl dX10_offset_53 rfl ?_
    refine x_iconst (v := 4) (pc' := 55) (by decide) dX10_offset_54 rfl ?_
    refine x_callVi (As := [.int _, .int _]) (rest := []) (ci := 9) (pc' := 58) rfl vk_X10_58 mk_X10_its (by decide) (by first | assumption | exact ⟨by decide, rfl⟩) (by decide) rfl (Nat.le_of_ble_eq_true rfl) dX10_offset_55 rfl (c_X10_its (E := 4) rfl rfl (by omega)) ?_
    refine x_iconst (v := 2) (pc' := 59) (by decide) dX10_offset_58 rfl ?_
    refine x_isub (pc' := 60) dX10_offset_59 rfl ?_
    refine x_goto (tgt := 65) (by decide) dX10_offset_60 ?_
    exact x_top (by rw [hq1] at c49; rw [hq1, cX, cA, ← e00, Nat.min_eq_right (Nat.le_of_not_le (fun q => c49 (nI_le q (by omega))))]) k65
set_option maxRecDepth 100000 in
set_option maxHeartbeats 4000000 in
theorem v_X10_offset {σ : St} {v0 : Nat → Int32} (hs : σ.1 19 = v0) {g x y w : Int32} {G px py W : Nat} (hv : Ok v0) (hG : G < cN v0) (hon : onS v0 G px py) (hg : g = nI G) (hx : x = nI px) (hy : y = nI py) (hw : w = nI W) (hW : W < 2) : Ct yX10_offset M_X10_offset [.ref 18, .int g, .int x, .int y, .int w] σ (some (.int (offS v0 G px py W)), σ) := by
  subst hs
  exact c_X10_offset hv hG hon hg hx hy hw hW
/-- what a place is moved by -/
noncomputable def mvS (v : Nat → Int32) (px py w : Nat) : Int32 := pif (owS v px py (cN v) = -1) 0 (offS v (owS v px py (cN v)).toNatClampNeg px py w)
set_option maxRecDepth 100000 in
set_option maxHeartbeats 4000000 in
theorem c_X10_movedBy {σ : St} {x y w : Int32} {px py W : Nat} (hv : Ok (σ.1 19)) (hx : x = nI px) (hy : y = nI py) (hw : w = nI W) (hpx : px ≤ 64000) (hpy : py ≤ 64000) (hW : W < 2) : Ct yX10_movedBy M_X10_movedBy [.ref 18, .int x, .int y, .int w] σ (some (.int (mvS (σ.1 19) px py W)), σ) := by
  subst hx
  subst hy
  subst hw
  refine ct_of (k := 1) rfl rfl rfl (Nat.le_of_ble_eq_true rfl) ?_
  refine x_aload_n (pc' := 1) rfl dX10_movedBy_0 rfl ?_
  refine x_iload_n (pc' := 2) rfl dX10_movedBy_1 rfl ?_
  refine x_iload_n (pc' := 3) rfl dX10_movedBy_2 rfl ?_
  refine x_callVi (As := [.int _, .int _]) (rest := []) (ci := 9) (pc' := 6) rfl vk_X10_95 mk_X10_belongs (by decide) (by first | assumption | exact ⟨by decide, rfl⟩) (by decide) rfl (Nat.le_of_ble_eq_true rfl) dX10_movedBy_3 rfl (c_X10_belongs hv (by omega) (by omega)) ?_
  refine x_istore (lv' := [_, _, _, _, _]) (pc' := 8) (by decide) rfl dX10_movedBy_6 rfl ?_
  refine x_iload (pc' := 10) rfl dX10_movedBy_8 rfl ?_
  refine x_iconst (v := (-1)) (pc' := 11) (by decide) dX10_movedBy_10 rfl ?_
  refine x_icmp_ne (tgt := 18) (pc' := 14) (by decide) dX10_movedBy_11 rfl (fun c11 => ?_) (fun c11 => ?_)
  · obtain ⟨gg, hg1, hg2, hg3⟩ := (owS_spec (σ.1 19) px py (cN (σ.1 19))).resolve_left c11
    have h6 := hv.c6
    refine x_aload_n (pc' := 19) rfl dX10_movedBy_18 rfl ?_
    refine x_iload (pc' := 21) rfl dX10_movedBy_19 rfl ?_
    refine x_iload_n (pc' := 22) rfl dX10_movedBy_21 rfl ?_
    refine x_iload_n (pc' := 23) rfl dX10_movedBy_22 rfl ?_
    refine x_iload_n (pc' := 24) rfl dX10_movedBy_23 rfl ?_
    refine x_callVi (As := [.int _, .int _, .int _, .int _]) (rest := []) (ci := 9) (pc' := 27) rfl vk_X10_98 mk_X10_offset (by decide) (by first | assumption | exact ⟨by decide, rfl⟩) (by decide) rfl (Nat.le_of_ble_eq_true rfl) dX10_movedBy_24 rfl (c_X10_offset hv hg1 hg3 hg2 rfl rfl rfl hW) ?_
    exact x_iret rfl dX10_movedBy_27 (ret_i (by rw [mvS, pif_f c11, hg2, nI_clamp (by omega)]))
  · refine x_iconst (v := 0) (pc' := 15) (by decide) dX10_movedBy_14 rfl ?_
    refine x_goto (tgt := 27) (by decide) dX10_movedBy_15 ?_
    exact x_iret rfl dX10_movedBy_27 (ret_i (by rw [mvS, pif_t c11]))
set_option maxRecDepth 100000 in
set_option maxHeartbeats 4000000 in
theorem v_X10_movedBy {σ : St} {v0 : Nat → Int32} (hs : σ.1 19 = v0) {x y w : Int32} {px py W : Nat} (hv : Ok v0) (hx : x = nI px) (hy : y = nI py) (hw : w = nI W) (hpx : px ≤ 64000) (hpy : py ≤ 64000) (hW : W < 2) : Ct yX10_movedBy M_X10_movedBy [.ref 18, .int x, .int y, .int w] σ (some (.int (mvS v0 px py W)), σ) := by
  subst hs
  exact c_X10_movedBy hv hx hy hw hpx hpy hW
