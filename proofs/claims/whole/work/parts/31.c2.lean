set_option maxRecDepth 100000 in
set_option maxHeartbeats 4000000 in
theorem c_X4_cellAhead {σ : St} {b D N : Nat} (hb : b < 2 ^ 31) (hD : 0 < D) (hD2 : D < 2 ^ 31) (hN : 2 ≤ N) (hN2 : N < 2 ^ 31) : Ct yX4_cellAhead M_X4_cellAhead [.int (nI b), .int (nI D), .int (nI N)] σ (some (.int (nI (min (b / D) (N - 2)))), σ) := by
  refine ct_of (k := 0) rfl rfl rfl (Nat.le_of_ble_eq_true rfl) ?_
  refine x_iload_n (pc' := 1) rfl dX4_cellAhead_0 rfl ?_
  refine x_if_le (tgt := 16) (pc' := 4) (by decide) dX4_cellAhead_1 rfl (fun c1 => absurd c1 (nI_nle hD hD2)) (fun c1 => ?_)
  refine x_iload_n (pc' := 5) rfl dX4_cellAhead_4 rfl ?_
  refine x_iload_n (pc' := 6) rfl dX4_cellAhead_5 rfl ?_
  refine x_idiv (pc' := 7) (nI_ne0 hD hD2) dX4_cellAhead_6 rfl ?_
  refine x_iload_n (pc' := 8) rfl dX4_cellAhead_7 rfl ?_
  refine x_iconst (v := 2) (pc' := 9) (by decide) dX4_cellAhead_8 rfl ?_
  refine x_isub (pc' := 10) dX4_cellAhead_9 rfl ?_
  refine x_callSi (As := [.int _, .int _]) (rest := []) (pc' := 13) rfl sk_X4_59 mk_J9_min_7cf53 (by decide) rfl (Nat.le_of_ble_eq_true rfl) dX4_cellAhead_10 rfl c_J9_min_7cf53 ?_
  refine x_goto (tgt := 17) (by decide) dX4_cellAhead_13 ?_
  exact x_iret rfl dX4_cellAhead_17 (ret_i (by rw [pk_div hb hD hD2, show nI N - 2 = nI (N - 2) from pk_sub (b := 2) hN]; exact mn_nI (Nat.lt_of_le_of_lt (Nat.div_le_self _ _) hb) (by omega)))
theorem sub64 {a b : Int32} (ha : Sm a) (hb : Sm b) : (a - b).toInt64 = a.toInt64 - b.toInt64 := by
  rw [sL_eq, w_i, isub_i ha hb, lsub_i] <;> rw [w_i, w_i]
  · obtain ⟨a1, a2⟩ := ha
    obtain ⟨b1, b2⟩ := hb
    omega
  · obtain ⟨a1, a2⟩ := ha
    obtain ⟨b1, b2⟩ := hb
    omega
theorem nl_le {a b : Nat} (ha : a < 2 ^ 31) (hb : b < 2 ^ 30) : ((nI a).toInt64 ≤ 2 * (nI b).toInt64) ↔ a ≤ 2 * b := by
  rw [nI_l ha, nI_l (by omega), show (2 : Int64) = lN 2 from rfl, lN_mul, lN_le ha (by omega)]
theorem lpos {D : Nat} (h : 0 < D) (h2 : D < 2 ^ 31) : (0 : Int64) < (nI D).toInt64 := by
  rw [nI_l h2, show (0 : Int64) = lN 0 from rfl, lN_lt (by decide) h2]; exact h
theorem lpos2 {D : Nat} (h : 0 < D) (h2 : D ≤ 4096) : (0 : Int64) < 2 * (nI D).toInt64 := by
  rw [nI_l (by omega), show (2 : Int64) = lN 2 from rfl, lN_mul, show (0 : Int64) = lN 0 from rfl, lN_lt (by decide) (by omega)]; omega
theorem lposD {D : Nat} (h : 0 < D) (h2 : D ≤ 4096) : (0 : Int64) < (nI D).toInt64 * (nI D).toInt64 := by
  have hb : D * D ≤ 4096 * 4096 := Nat.mul_le_mul h2 h2
  have hp : 0 < D * D := Nat.mul_pos h h
  rw [nI_l (by omega), lN_mul, show (0 : Int64) = lN 0 from rfl, lN_lt (by decide) (by omega)]; exact hp
theorem lposD2 {D : Nat} (h : 0 < D) (h2 : D ≤ 4096) : (0 : Int64) < 2 * ((nI D).toInt64 * (nI D).toInt64) := by
  have hb : D * D ≤ 4096 * 4096 := Nat.mul_le_mul h2 h2
  have hp : 0 < D * D := Nat.mul_pos h h
  rw [nI_l (by omega), show (2 : Int64) = lN 2 from rfl, lN_mul, lN_mul, show (0 : Int64) = lN 0 from rfl, lN_lt (by decide) (by omega)]; omega
set_option maxRecDepth 100000 in
set_option maxHeartbeats 4000000 in
theorem c_X4_offsetBy {σ : St} {q g : Nat} {v : Nat → Int32} (hq : isG q) (hr : GRep σ q v g) (hf : OkF v g) {ru x y w : Int32} {px py W : Nat} (hO : OkO v g) (hon : onS v g px py) (hru : ru = v 1) (hx : x = nI px) (hy : y = nI py) (hw : w = nI W) (hW : W < 2) : Ct yX4_offsetBy M_X4_offsetBy [.ref q, .int ru, .int x, .int y, .int w] σ (some (.int (offS v g px py W)), σ) := by
  subst hx
  subst hy
  subst hw
  obtain ⟨hq0, hq1⟩ := id hq
  have eX : σ.1 q 2 = nI (fN v g 1) := hr.at hf (e := 1) (by decide) (by decide)
  have eY : σ.1 q 3 = nI (fN v g 2) := hr.at hf (e := 2) (by decide) (by decide)
  have eS : σ.1 q 4 = nI (fN v g 3) := hr.at hf (e := 3) (by decide) (by decide)
  have eC : σ.1 q 5 = nI (fN v g 4) := hr.at hf (e := 4) (by decide) (by decide)
  have eR : σ.1 q 6 = nI (fN v g 5) := hr.at hf (e := 5) (by decide) (by decide)
  obtain ⟨-, s1, s64, c2, c5, r2, r5, b1, b2⟩ := id hf
  obtain ⟨x1, x2, x3⟩ := cX_spec hf hon
  obtain ⟨y1, y2, y3⟩ := cY_spec hf hon
  obtain ⟨o1, o2, o3, o4⟩ := onS_b hf
  have hpx : px ≤ 64000 := Nat.le_trans hon.1.2 o2
  have hpy : py ≤ 64000 := Nat.le_trans hon.2.2 o4
  have e00 : stS v g 0 0 = 64 * fN v g 1 := by unfold stS; rw [Nat.zero_mul, Nat.add_zero]
  have e01 : stS v g 0 1 = 64 * fN v g 2 := by unfold stS; rw [Nat.zero_mul, Nat.add_zero]
  have v00 := hr.2 (cX v g px) (cY v g py) W (by omega) (by omega) hW
  have v10 := hr.2 (cX v g px + 1) (cY v g py) W (by omega) (by omega) hW
  have v01 := hr.2 (cX v g px) (cY v g py + 1) W (by omega) (by omega) hW
  have v11 := hr.2 (cX v g px + 1) (cY v g py + 1) W (by omega) (by omega) hW
  have m00 := hO (cX v g px) (cY v g py) W (by omega) (by omega) hW
  have m10 := hO (cX v g px + 1) (cY v g py) W (by omega) (by omega) hW
  have m01 := hO (cX v g px) (cY v g py + 1) W (by omega) (by omega) hW
  have m11 := hO (cX v g px + 1) (cY v g py + 1) W (by omega) (by omega) hW
  have hD : 0 < 64 * fN v g 3 := by omega
  have hD2 : 64 * fN v g 3 ≤ 4096 := by omega
  have hu : px - stS v g (cX v g px) 0 ≤ 4096 := by omega
  have hvv : py - stS v g (cY v g py) 1 ≤ 4096 := by omega
  rw [offS, ← hru]
  refine ct_of (k := 14) rfl rfl rfl (Nat.le_of_ble_eq_true rfl) ?_
  refine x_iload_n (pc' := 1) rfl dX4_offsetBy_0 rfl ?_
  refine x_aload_n (pc' := 2) rfl dX4_offsetBy_1 rfl ?_
  refine x_iconst (v := 0) (pc' := 3) (by decide) dX4_offsetBy_2 rfl ?_
  refine x_callVi (As := [.int _]) (rest := [.int _]) (ci := 3) (pc' := 6) rfl vk_X4_65 mk_X4_columnPlace (by decide) (by first | assumption | exact ⟨by decide, rfl⟩) (by decide) rfl (Nat.le_of_ble_eq_true rfl) dX4_offsetBy_3 rfl (c_X4_columnPlace hq hr hf (K := 0) rfl) ?_
  refine x_isub (pc' := 7) dX4_offsetBy_6 rfl ?_
  refine x_top (pk_sub hon.1.1) ?_
  refine x_aload_n (pc' := 8) rfl dX4_offsetBy_7 rfl ?_
  refine x_callVi (As := []) (rest := [.int _]) (ci := 3) (pc' := 11) rfl vk_X4_69 mk_X4_side (by decide) (by first | assumption | exact ⟨by decide, rfl⟩) (by decide) rfl (Nat.le_of_ble_eq_true rfl) dX4_offsetBy_8 rfl (c_X4_side hq hr hf) ?_
  refine x_aload_n (pc' := 12) rfl dX4_offsetBy_11 rfl ?_
  skip
  refine x_get (v := .int _) (pc' := 15) fk_X4_28 (by first | assumption | exact ⟨by decide, rfl⟩) rfl dX4_offsetBy_12 rfl ?_
  refine x_callSi (As := [.int _, .int _, .int _]) (rest := []) (pc' := 18) rfl sk_X4_72 mk_X4_cellAhead (by decide) rfl (Nat.le_of_ble_eq_true rfl) dX4_offsetBy_15 rfl (by rw [eC]; exact c_X4_cellAhead (by omega) hD (by omega) c2 (by omega)) ?_
  refine x_top (y := nI (cX v g px)) (by rw [e00]; rfl) ?_
  refine x_istore (lv' := [_, _, _, _, _, _, _, _, _, _, _, _, _, _, _, _, _, _, _]) (pc' := 20) (by decide) rfl dX4_offsetBy_18 rfl ?_
  refine x_iload_n (pc' := 21) rfl dX4_offsetBy_20 rfl ?_
  refine x_aload_n (pc' := 22) rfl dX4_offsetBy_21 rfl ?_
  refine x_iconst (v := 0) (pc' := 23) (by decide) dX4_offsetBy_22 rfl ?_
  refine x_callVi (As := [.int _]) (rest := [.int _]) (ci := 3) (pc' := 26) rfl vk_X4_75 mk_X4_rowPlace (by decide) (by first | assumption | exact ⟨by decide, rfl⟩) (by decide) rfl (Nat.le_of_ble_eq_true rfl) dX4_offsetBy_23 rfl (c_X4_rowPlace hq hr hf (K := 0) rfl) ?_
  refine x_isub (pc' := 27) dX4_offsetBy_26 rfl ?_
  refine x_top (pk_sub hon.2.1) ?_
  refine x_aload_n (pc' := 28) rfl dX4_offsetBy_27 rfl ?_
  refine x_callVi (As := []) (rest := [.int _]) (ci := 3) (pc' := 31) rfl vk_X4_69 mk_X4_side (by decide) (by first | assumption | exact ⟨by decide, rfl⟩) (by decide) rfl (Nat.le_of_ble_eq_true rfl) dX4_offsetBy_28 rfl (c_X4_side hq hr hf) ?_
  refine x_aload_n (pc' := 32) rfl dX4_offsetBy_31 rfl ?_
  refine x_get (v := .int _) (pc' := 35) fk_X4_31 (by first | assumption | exact ⟨by decide, rfl⟩) rfl dX4_offsetBy_32 rfl ?_
  refine x_callSi (As := [.int _, .int _, .int _]) (rest := []) (pc' := 38) rfl sk_X4_72 mk_X4_cellAhead (by decide) rfl (Nat.le_of_ble_eq_true rfl) dX4_offsetBy_35 rfl (by rw [eR]; exact c_X4_cellAhead (by omega) hD (by omega) r2 (by omega)) ?_
  refine x_top (y := nI (cY v g py)) (by rw [e01]; rfl) ?_
  refine x_istore (lv' := [_, _, _, _, _, _, _, _, _, _, _, _, _, _, _, _, _, _, _]) (pc' := 40) (by decide) rfl dX4_offsetBy_38 rfl ?_
  refine x_iload_n (pc' := 41) rfl dX4_offsetBy_40 rfl ?_
  refine x_aload_n (pc' := 42) rfl dX4_offsetBy_41 rfl ?_
  refine x_iload (pc' := 44) rfl dX4_offsetBy_42 rfl ?_
  refine x_callVi (As := [.int _]) (rest := [.int _]) (ci := 3) (pc' := 47) rfl vk_X4_65 mk_X4_columnPlace (by decide) (by first | assumption | exact ⟨by decide, rfl⟩) (by decide) rfl (Nat.le_of_ble_eq_true rfl) dX4_offsetBy_44 rfl (c_X4_columnPlace hq hr hf rfl) ?_
  refine x_isub (pc' := 48) dX4_offsetBy_47 rfl ?_
  refine x_top (pk_sub x2) ?_
  refine x_istore (lv' := [_, _, _, _, _, _, _, _, _, _, _, _, _, _, _, _, _, _, _]) (pc' := 50) (by decide) rfl dX4_offsetBy_48 rfl ?_
  refine x_iload_n (pc' := 51) rfl dX4_offsetBy_50 rfl ?_
  refine x_aload_n (pc' := 52) rfl dX4_offsetBy_51 rfl ?_
  refine x_iload (pc' := 54) rfl dX4_offsetBy_52 rfl ?_
  refine x_callVi (As := [.int _]) (rest := [.int _]) (ci := 3) (pc' := 57) rfl vk_X4_75 mk_X4_rowPlace (by decide) (by first | assumption | exact ⟨by decide, rfl⟩) (by decide) rfl (Nat.le_of_ble_eq_true rfl) dX4_offsetBy_54 rfl (c_X4_rowPlace hq hr hf rfl) ?_
  refine x_isub (pc' := 58) dX4_offsetBy_57 rfl ?_
  refine x_top (pk_sub y2) ?_
  refine x_istore (lv' := [_, _, _, _, _, _, _, _, _, _, _, _, _, _, _, _, _, _, _]) (pc' := 60) (by decide) rfl dX4_offsetBy_58 rfl ?_
  refine x_iload_n (pc' := 61) rfl dX4_offsetBy_60 rfl ?_
  refine x_iconst (v := 1) (pc' := 62) (by decide) dX4_offsetBy_61 rfl ?_
  refine x_icmp_ne (tgt := 112) (pc' := 65) (by decide) dX4_offsetBy_62 rfl (fun c62 => ?_) (fun c62 => ?_)
  · refine x_aload_n (pc' := 113) rfl dX4_offsetBy_112 rfl ?_
    refine x_callVi (As := []) (rest := []) (ci := 3) (pc' := 116) rfl vk_X4_69 mk_X4_side (by decide) (by first | assumption | exact ⟨by decide, rfl⟩) (by decide) rfl (Nat.le_of_ble_eq_true rfl) dX4_offsetBy_113 rfl (c_X4_side hq hr hf) ?_
    refine x_i2l (pc' := 117) dX4_offsetBy_116 rfl ?_
    refine x_lstore (lv' := [_, _, _, _, _, _, _, _, _, _, _, _, _, _, _, _, _, _, _]) (pc' := 119) (by decide) rfl dX4_offsetBy_117 rfl ?_
    refine x_aload_n (pc' := 120) rfl dX4_offsetBy_119 rfl ?_
    refine x_iload (pc' := 122) rfl dX4_offsetBy_120 rfl ?_
    refine x_iload (pc' := 124) rfl dX4_offsetBy_122 rfl ?_
    refine x_iload (pc' := 126) rfl dX4_offsetBy_124 rfl ?_
    refine x_callVi (As := [.int _, .int _, .int _]) (rest := []) (ci := 3) (pc' := 129) rfl vk_X4_55 mk_X4_offset (by decide) (by first | assumption | exact ⟨by decide, rfl⟩) (by decide) rfl (Nat.le_of_ble_eq_true rfl) dX4_offsetBy_126 rfl (c_X4_offset (K := cX v g px) (R := cY v g py) hq rfl rfl rfl (by omega) (by omega) hW) ?_
    refine x_top v00 ?_
    refine x_i2l (pc' := 130) dX4_offsetBy_129 rfl ?_
    refine x_lstore (lv' := [_, _, _, _, _, _, _, _, _, _, _, _, _, _, _, _, _, _, _]) (pc' := 132) (by decide) rfl dX4_offsetBy_130 rfl ?_
    refine x_aload_n (pc' := 133) rfl dX4_offsetBy_132 rfl ?_
    refine x_iload (pc' := 135) rfl dX4_offsetBy_133 rfl ?_
    refine x_iconst (v := 1) (pc' := 136) (by decide) dX4_offsetBy_135 rfl ?_
    refine x_iadd (pc' := 137) dX4_offsetBy_136 rfl ?_
    refine x_iload (pc' := 139) rfl dX4_offsetBy_137 rfl ?_
    refine x_iload (pc' := 141) rfl dX4_offsetBy_139 rfl ?_
    refine x_callVi (As := [.int _, .int _, .int _]) (rest := []) (ci := 3) (pc' := 144) rfl vk_X4_55 mk_X4_offset (by decide) (by first | assumption | exact ⟨by decide, rfl⟩) (by decide) rfl (Nat.le_of_ble_eq_true rfl) dX4_offsetBy_141 rfl (c_X4_offset (K := cX v g px + 1) (R := cY v g py) hq (nI_1 _) rfl rfl (by omega) (by omega) hW) ?_
    refine x_top v10 ?_
    refine x_i2l (pc' := 145) dX4_offsetBy_144 rfl ?_
    refine x_lstore (lv' := [_, _, _, _, _, _, _, _, _, _, _, _, _, _, _, _, _, _, _]) (pc' := 147) (by decide) rfl dX4_offsetBy_145 rfl ?_
    refine x_aload_n (pc' := 148) rfl dX4_offsetBy_147 rfl ?_
    refine x_iload (pc' := 150) rfl dX4_offsetBy_148 rfl ?_
    refine x_iload (pc' := 152) rfl dX4_offsetBy_150 rfl ?_
    refine x_iconst (v := 1) (pc' := 153) (by decide) dX4_offsetBy_152 rfl ?_
    refine x_iadd (pc' := 154) dX4_offsetBy_153 rfl ?_
    refine x_iload (pc' := 156) rfl dX4_offsetBy_154 rfl ?_
    refine x_callVi (As := [.int _, .int _, .int _]) (rest := []) (ci := 3) (pc' := 159) rfl vk_X4_55 mk_X4_offset (by decide) (by first | assumption | exact ⟨by decide, rfl⟩) (by decide) rfl (Nat.le_of_ble_eq_true rfl) dX4_offsetBy_156 rfl (c_X4_offset (K := cX v g px) (R := cY v g py + 1) hq rfl (nI_1 _) rfl (by omega) (by omega) hW) ?_
    refine x_top v01 ?_
    refine x_i2l (pc' := 160) dX4_offsetBy_159 rfl ?_
    refine x_lstore (lv' := [_, _, _, _, _, _, _, _, _, _, _, _, _, _, _, _, _, _, _]) (pc' := 162) (by decide) rfl dX4_offsetBy_160 rfl ?_
    refine x_aload_n (pc' := 163) rfl dX4_offsetBy_162 rfl ?_
    refine x_iload (pc' := 165) rfl dX4_offsetBy_163 rfl ?_
    refine x_iconst (v := 1) (pc' := 166) (by decide) dX4_offsetBy_165 rfl ?_
    refine x_iadd (pc' := 167) dX4_offsetBy_166 rfl ?_
    refine x_iload (pc' := 169) rfl dX4_offsetBy_167 rfl ?_
    refine x_iconst (v := 1) (pc' := 170) (by decide) dX4_offsetBy_169 rfl ?_
    refine x_iadd (pc' := 171) dX4_offsetBy_170 rfl ?_
    refine x_iload (pc' := 173) rfl dX4_offsetBy_171 rfl ?_
    refine x_callVi (As := [.int _, .int _, .int _]) (rest := []) (ci := 3) (pc' := 176) rfl vk_X4_55 mk_X4_offset (by decide) (by first | assumption | exact ⟨by decide, rfl⟩) (by decide) rfl (Nat.le_of_ble_eq_true rfl) dX4_offsetBy_173 rfl (c_X4_offset (K := cX v g px + 1) (R := cY v g py + 1) hq (nI_1 _) (nI_1 _) rfl (by omega) (by omega) hW) ?_
    refine x_top v11 ?_
    refine x_i2l (pc' := 177) dX4_offsetBy_176 rfl ?_
    refine x_lstore (lv' := [_, _, _, _, _, _, _, _, _, _, _, _, _, _, _, _, _, _, _]) (pc' := 179) (by decide) rfl dX4_offsetBy_177 rfl ?_
    refine x_iload_n (pc' := 180) rfl dX4_offsetBy_179 rfl ?_
    refine x_if_ne (tgt := 247) (pc' := 183) (by decide) dX4_offsetBy_180 rfl (fun c180 => ?_) (fun c180 => ?_)
    · refine x_iload (pc' := 249) rfl dX4_offsetBy_247 rfl ?_
      refine x_iload (pc' := 251) rfl dX4_offsetBy_249 rfl ?_
      refine x_icmp_lt (tgt := 285) (pc' := 254) (by decide) dX4_offsetBy_251 rfl (fun c251 => ?_) (fun c251 => ?_)
      · refine x_lload (pc' := 287) rfl dX4_offsetBy_285 rfl ?_
        refine x_lload (pc' := 289) rfl dX4_offsetBy_287 rfl ?_
        refine x_lmul (pc' := 290) dX4_offsetBy_289 rfl ?_
        refine x_lload (pc' := 292) rfl dX4_offsetBy_290 rfl ?_
        refine x_lload (pc' := 294) rfl dX4_offsetBy_292 rfl ?_
        refine x_lsub (pc' := 295) dX4_offsetBy_294 rfl ?_
        refine x_iload (pc' := 297) rfl dX4_offsetBy_295 rfl ?_
        refine x_i2l (pc' := 298) dX4_offsetBy_297 rfl ?_
        refine x_lmul (pc' := 299) dX4_offsetBy_298 rfl ?_
        refine x_ladd (pc' := 300) dX4_offsetBy_299 rfl ?_
        refine x_lload (pc' := 302) rfl dX4_offsetBy_300 rfl ?_
        refine x_lload (pc' := 304) rfl dX4_offsetBy_302 rfl ?_
        refine x_lsub (pc' := 305) dX4_offsetBy_304 rfl ?_
        refine x_iload (pc' := 307) rfl dX4_offsetBy_305 rfl ?_
        refine x_i2l (pc' := 308) dX4_offsetBy_307 rfl ?_
        refine x_lmul (pc' := 309) dX4_offsetBy_308 rfl ?_
        refine x_ladd (pc' := 310) dX4_offsetBy_309 rfl ?_
        refine x_lload (pc' := 312) rfl dX4_offsetBy_310 rfl ?_
        refine x_callSi (As := [.long _, .long _]) (rest := []) (pc' := 315) rfl sk_X4_78 mk_X4_rounded (by decide) rfl (Nat.le_of_ble_eq_true rfl) dX4_offsetBy_312 rfl (c_X4_rounded (lpos hD (by omega)) (lpos2 hD hD2)) ?_
        exact x_iret rfl dX4_offsetBy_315 (ret_i (by rw [betw, if_neg c180, if_neg c62, if_neg (fun q => i_nlt.mpr ((wide_le _ _).mp q) c251), sub64 m11 m01, sub64 m01 m00]))
      · refine x_lload (pc' := 256) rfl dX4_offsetBy_254 rfl ?_
        refine x_lload (pc' := 258) rfl dX4_offsetBy_256 rfl ?_
        refine x_lmul (pc' := 259) dX4_offsetBy_258 rfl ?_
        refine x_lload (pc' := 261) rfl dX4_offsetBy_259 rfl ?_
        refine x_lload (pc' := 263) rfl dX4_offsetBy_261 rfl ?_
        refine x_lsub (pc' := 264) dX4_offsetBy_263 rfl ?_
        refine x_iload (pc' := 266) rfl dX4_offsetBy_264 rfl ?_
        refine x_i2l (pc' := 267) dX4_offsetBy_266 rfl ?_
        refine x_lmul (pc' := 268) dX4_offsetBy_267 rfl ?_
        refine x_ladd (pc' := 269) dX4_offsetBy_268 rfl ?_
        refine x_lload (pc' := 271) rfl dX4_offsetBy_269 rfl ?_
        refine x_lload (pc' := 273) rfl dX4_offsetBy_271 rfl ?_
        refine x_lsub (pc' := 274) dX4_offsetBy_273 rfl ?_
        refine x_iload (pc' := 276) rfl dX4_offsetBy_274 rfl ?_
        refine x_i2l (pc' := 277) dX4_offsetBy_276 rfl ?_
        refine x_lmul (pc' := 278) dX4_offsetBy_277 rfl ?_
        refine x_ladd (pc' := 279) dX4_offsetBy_278 rfl ?_
        refine x_lload (pc' := 281) rfl dX4_offsetBy_279 rfl ?_
        refine x_callSi (As := [.long _, .long _]) (rest := []) (pc' := 284) rfl sk_X4_78 mk_X4_rounded (by decide) rfl (Nat.le_of_ble_eq_true rfl) dX4_offsetBy_281 rfl (c_X4_rounded (lpos hD (by omega)) (lpos2 hD hD2)) ?_
        exact x_iret rfl dX4_offsetBy_284 (ret_i (by rw [betw, if_neg c180, if_neg c62, if_pos ((wide_le _ _).mpr (i_nlt.mp c251)), sub64 m10 m00, sub64 m11 m10]))
    · refine x_lload (pc' := 185) rfl dX4_offsetBy_183 rfl ?_
      refine x_lload (pc' := 187) rfl dX4_offsetBy_185 rfl ?_
      refine x_iload (pc' := 189) rfl dX4_offsetBy_187 rfl ?_
      refine x_i2l (pc' := 190) dX4_offsetBy_189 rfl ?_
      refine x_lsub (pc' := 191) dX4_offsetBy_190 rfl ?_
      refine x_lmul (pc' := 192) dX4_offsetBy_191 rfl ?_
      refine x_lload (pc' := 194) rfl dX4_offsetBy_192 rfl ?_
      refine x_iload (pc' := 196) rfl dX4_offsetBy_194 rfl ?_
      refine x_i2l (pc' := 197) dX4_offsetBy_196 rfl ?_
      refine x_lsub (pc' := 198) dX4_offsetBy_197 rfl ?_
      refine x_lmul (pc' := 199) dX4_offsetBy_198 rfl ?_
      refine x_lload (pc' := 201) rfl dX4_offsetBy_199 rfl ?_
      refine x_iload (pc' := 203) rfl dX4_offsetBy_201 rfl ?_
      refine x_i2l (pc' := 204) dX4_offsetBy_203 rfl ?_
      refine x_lmul (pc' := 205) dX4_offsetBy_204 rfl ?_
      refine x_lload (pc' := 207) rfl dX4_offsetBy_205 rfl ?_
      refine x_iload (pc' := 209) rfl dX4_offsetBy_207 rfl ?_
      refine x_i2l (pc' := 210) dX4_offsetBy_209 rfl ?_
      refine x_lsub (pc' := 211) dX4_offsetBy_210 rfl ?_
      refine x_lmul (pc' := 212) dX4_offsetBy_211 rfl ?_
      refine x_ladd (pc' := 213) dX4_offsetBy_212 rfl ?_
      refine x_lload (pc' := 215) rfl dX4_offsetBy_213 rfl ?_
      refine x_lload (pc' := 217) rfl dX4_offsetBy_215 rfl ?_
      refine x_iload (pc' := 219) rfl dX4_offsetBy_217 rfl ?_
      refine x_i2l (pc' := 220) dX4_offsetBy_219 rfl ?_
      refine x_lsub (pc' := 221) dX4_offsetBy_220 rfl ?_
      refine x_lmul (pc' := 222) dX4_offsetBy_221 rfl ?_
      refine x_iload (pc' := 224) rfl dX4_offsetBy_222 rfl ?_
      refine x_i2l (pc' := 225) dX4_offsetBy_224 rfl ?_
      refine x_lmul (pc' := 226) dX4_offsetBy_225 rfl ?_
      refine x_ladd (pc' := 227) dX4_offsetBy_226 rfl ?_
      refine x_lload (pc' := 229) rfl dX4_offsetBy_227 rfl ?_
      refine x_iload (pc' := 231) rfl dX4_offsetBy_229 rfl ?_
      refine x_i2l (pc' := 232) dX4_offsetBy_231 rfl ?_
      refine x_lmul (pc' := 233) dX4_offsetBy_232 rfl ?_
      refine x_iload (pc' := 235) rfl dX4_offsetBy_233 rfl ?_
      refine x_i2l (pc' := 236) dX4_offsetBy_235 rfl ?_
      refine x_lmul (pc' := 237) dX4_offsetBy_236 rfl ?_
      refine x_ladd (pc' := 238) dX4_offsetBy_237 rfl ?_
      refine x_lload (pc' := 240) rfl dX4_offsetBy_238 rfl ?_
      refine x_lload (pc' := 242) rfl dX4_offsetBy_240 rfl ?_
      refine x_lmul (pc' := 243) dX4_offsetBy_242 rfl ?_
      refine x_callSi (As := [.long _, .long _]) (rest := []) (pc' := 246) rfl sk_X4_78 mk_X4_rounded (by decide) rfl (Nat.le_of_ble_eq_true rfl) dX4_offsetBy_243 rfl (c_X4_rounded (lposD hD hD2) (lposD2 hD hD2)) ?_
      exact x_iret rfl dX4_offsetBy_246 (ret_i (by rw [betw, if_pos c180]))
  · refine x_aload_n (pc' := 66) rfl dX4_offsetBy_65 rfl ?_
    refine x_iconst (v := 2) (pc' := 67) (by decide) dX4_offsetBy_66 rfl ?_
    refine x_iload (pc' := 69) rfl dX4_offsetBy_67 rfl ?_
    refine x_imul (pc' := 70) dX4_offsetBy_69 rfl ?_
    refine x_aload_n (pc' := 71) rfl dX4_offsetBy_70 rfl ?_
    refine x_callVi (As := []) (rest := [.int _, .ref _]) (ci := 3) (pc' := 74) rfl vk_X4_69 mk_X4_side (by decide) (by first | assumption | exact ⟨by decide, rfl⟩) (by decide) rfl (Nat.le_of_ble_eq_true rfl) dX4_offsetBy_71 rfl (c_X4_side hq hr hf) ?_
    refine x_icmp_ge (tgt := 82) (pc' := 77) (by decide) dX4_offsetBy_74 rfl (fun c74 => ?_) (fun c74 => ?_)
    · refine x_iload (pc' := 84) rfl dX4_offsetBy_82 rfl ?_
      refine x_iconst (v := 1) (pc' := 85) (by decide) dX4_offsetBy_84 rfl ?_
      refine x_iadd (pc' := 86) dX4_offsetBy_85 rfl ?_
      refine x_iconst (v := 2) (pc' := 87) (by decide) dX4_offsetBy_86 rfl ?_
      refine x_iload (pc' := 89) rfl dX4_offsetBy_87 rfl ?_
      refine x_imul (pc' := 90) dX4_offsetBy_89 rfl ?_
      refine x_aload_n (pc' := 91) rfl dX4_offsetBy_90 rfl ?_
      refine x_callVi (As := []) (rest := [.int _, .int _, .ref _]) (ci := 3) (pc' := 94) rfl vk_X4_69 mk_X4_side (by decide) (by first | assumption | exact ⟨by decide, rfl⟩) (by decide) rfl (Nat.le_of_ble_eq_true rfl) dX4_offsetBy_91 rfl (c_X4_side hq hr hf) ?_
      refine x_icmp_ge (tgt := 102) (pc' := 97) (by decide) dX4_offsetBy_94 rfl (fun c94 => ?_) (fun c94 => ?_)
      · refine x_iload (pc' := 104) rfl dX4_offsetBy_102 rfl ?_
        refine x_iconst (v := 1) (pc' := 105) (by decide) dX4_offsetBy_104 rfl ?_
        refine x_iadd (pc' := 106) dX4_offsetBy_105 rfl ?_
        refine x_iload (pc' := 108) rfl dX4_offsetBy_106 rfl ?_
        refine x_callVi (As := [.int _, .int _, .int _]) (rest := []) (ci := 3) (pc' := 111) rfl vk_X4_55 mk_X4_offset (by decide) (by first | assumption | exact ⟨by decide, rfl⟩) (by decide) rfl (Nat.le_of_ble_eq_true rfl) dX4_offsetBy_108 rfl (c_X4_offset (K := cX v g px + 1) (R := cY v g py + 1) hq (nI_1 _) (nI_1 _) rfl (by omega) (by omega) hW) ?_
        exact x_iret rfl dX4_offsetBy_111 (ret_i (by rw [betw, if_neg (fun q => by rw [q] at c62; exact absurd c62 (by decide)), if_pos c62, if_pos ((nl_le (a := 64 * fN v g 3) (b := py - stS v g (cY v g py) 1) (by omega) (by omega)).mpr ((nI_leI (by omega) (by omega)).mp (by rw [← pk_mul 2 (py - stS v g (cY v g py) 1)]; exact c94))), if_pos ((nl_le (a := 64 * fN v g 3) (b := px - stS v g (cX v g px) 0) (by omega) (by omega)).mpr ((nI_leI (by omega) (by omega)).mp (by rw [← pk_mul 2 (px - stS v g (cX v g px) 0)]; exact c74)))]; exact v11))
      · refine x_iload (pc' := 99) rfl dX4_offsetBy_97 rfl ?_
        refine x_goto (tgt := 106) (by decide) dX4_offsetBy_99 ?_
        refine x_iload (pc' := 108) rfl dX4_offsetBy_106 rfl ?_
        refine x_callVi (As := [.int _, .int _, .int _]) (rest := []) (ci := 3) (pc' := 111) rfl vk_X4_55 mk_X4_offset (by decide) (by first | assumption | exact ⟨by decide, rfl⟩) (by decide) rfl (Nat.le_of_ble_eq_true rfl) dX4_offsetBy_108 rfl (c_X4_offset (K := cX v g px + 1) (R := cY v g py) hq (nI_1 _) rfl rfl (by omega) (by omega) hW) ?_
        exact x_iret rfl dX4_offsetBy_111 (ret_i (by rw [betw, if_neg (fun q => by rw [q] at c62; exact absurd c62 (by decide)), if_pos c62, if_neg (fun q => c94 (by show nI (64 * fN v g 3) ≤ nI 2 * nI _; rw [pk_mul]; exact nI_le ((nl_le (a := 64 * fN v g 3) (b := py - stS v g (cY v g py) 1) (by omega) (by omega)).mp q) (by omega))), if_pos ((nl_le (a := 64 * fN v g 3) (b := px - stS v g (cX v g px) 0) (by omega) (by omega)).mpr ((nI_leI (by omega) (by omega)).mp (by rw [← pk_mul 2 (px - stS v g (cX v g px) 0)]; exact c74)))]; exact v10))
    · refine x_iload (pc' := 79) rfl dX4_offsetBy_77 rfl ?_
      refine x_goto (tgt := 86) (by decide) dX4_offsetBy_79 ?_
      refine x_iconst (v := 2) (pc' := 87) (by decide) dX4_offsetBy_86 rfl ?_
      refine x_iload (pc' := 89) rfl dX4_offsetBy_87 rfl ?_
      refine x_imul (pc' := 90) dX4_offsetBy_89 rfl ?_
      refine x_aload_n (pc' := 91) rfl dX4_offsetBy_90 rfl ?_
      refine x_callVi (As := []) (rest := [.int _, .int _, .ref _]) (ci := 3) (pc' := 94) rfl vk_X4_69 mk_X4_side (by decide) (by first | assumption | exact ⟨by decide, rfl⟩) (by decide) rfl (Nat.le_of_ble_eq_true rfl) dX4_offsetBy_91 rfl (c_X4_side hq hr hf) ?_
      refine x_icmp_ge (tgt := 102) (pc' := 97) (by decide) dX4_offsetBy_94 rfl (fun c94 => ?_) (fun c94 => ?_)
      · refine x_iload (pc' := 104) rfl dX4_offsetBy_102 rfl ?_
        refine x_iconst (v := 1) (pc' := 105) (by decide) dX4_offsetBy_104 rfl ?_
        refine x_iadd (pc' := 106) dX4_offsetBy_105 rfl ?_
        refine x_iload (pc' := 108) rfl dX4_offsetBy_106 rfl ?_
        refine x_callVi (As := [.int _, .int _, .int _]) (rest := []) (ci := 3) (pc' := 111) rfl vk_X4_55 mk_X4_offset (by decide) (by first | assumption | exact ⟨by decide, rfl⟩) (by decide) rfl (Nat.le_of_ble_eq_true rfl) dX4_offsetBy_108 rfl (c_X4_offset (K := cX v g px) (R := cY v g py + 1) hq rfl (nI_1 _) rfl (by omega) (by omega) hW) ?_
        exact x_iret rfl dX4_offsetBy_111 (ret_i (by rw [betw, if_neg (fun q => by rw [q] at c62; exact absurd c62 (by decide)), if_pos c62, if_pos ((nl_le (a := 64 * fN v g 3) (b := py - stS v g (cY v g py) 1) (by omega) (by omega)).mpr ((nI_leI (by omega) (by omega)).mp (by rw [← pk_mul 2 (py - stS v g (cY v g py) 1)]; exact c94))), if_neg (fun q => c74 (by show nI (64 * fN v g 3) ≤ nI 2 * nI _; rw [pk_mul]; exact nI_le ((nl_le (a := 64 * fN v g 3) (b := px - stS v g (cX v g px) 0) (by omega) (by omega)).mp q) (by omega)))]; exact v01))
      · refine x_iload (pc' := 99) rfl dX4_offsetBy_97 rfl ?_
        refine x_goto (tgt := 106) (by decide) dX4_offsetBy_99 ?_
        refine x_iload (pc' := 108) rfl dX4_offsetBy_106 rfl ?_
        refine x_callVi (As := [.int _, .int _, .int _]) (rest := []) (ci := 3) (pc' := 111) rfl vk_X4_55 mk_X4_offset (by decide) (by first | assumption | exact ⟨by decide, rfl⟩) (by decide) rfl (Nat.le_of_ble_eq_true rfl) dX4_offsetBy_108 rfl (c_X4_offset (K := cX v g px) (R := cY v g py) hq rfl rfl rfl (by omega) (by omega) hW) ?_
        exact x_iret rfl dX4_offsetBy_111 (ret_i (by rw [betw, if_neg (fun q => by rw [q] at c62; exact absurd c62 (by decide)), if_pos c62, if_neg (fun q => c94 (by show nI (64 * fN v g 3) ≤ nI 2 * nI _; rw [pk_mul]; exact nI_le ((nl_le (a := 64 * fN v g 3) (b := py - stS v g (cY v g py) 1) (by omega) (by omega)).mp q) (by omega))), if_neg (fun q => c74 (by show nI (64 * fN v g 3) ≤ nI 2 * nI _; rw [pk_mul]; exact nI_le ((nl_le (a := 64 * fN v g 3) (b := px - stS v g (cX v g px) 0) (by omega) (by omega)).mp q) (by omega)))]; exact v00))
theorem kdiv {C r c : Nat} (hc : c < C) : (C * r + c) / C = r ∧ (C * r + c) % C = c := by
  have hC : 0 < C := by omega
  rw [Nat.mul_add_div hC, Nat.div_eq_of_lt hc, Nat.mul_add_mod, Nat.mod_eq_of_lt hc]
  exact ⟨rfl, rfl⟩
set_option maxRecDepth 100000 in
set_option maxHeartbeats 4000000 in
theorem l_X4_shiftedN1 {σ : St} {q g : Nat} {v : Nat → Int32} (hq : isG q) (hr : GRep σ q v g) (hf : OkF v g) {r : Nat} {out : Option Value × St} (hrr : r < fN v g 5) (kk : Ex M_X4_shiftedNodes out 56 [some (.ref q), some (.int (nI (sumN (nmK v g) (fN v g 4 * (r + 1))))), some (.int (nI r)), some (.int (nI (fN v g 4)))] [] σ) : ∀ (n c : Nat), c + n = fN v g 4 → Ex M_X4_shiftedNodes out 14 [some (.ref q), some (.int (nI (sumN (nmK v g) (fN v g 4 * r + c)))), some (.int (nI r)), some (.int (nI c))] [] σ := by
  obtain ⟨hq0, hq1⟩ := id hq
  have eX : σ.1 q 2 = nI (fN v g 1) := hr.at hf (e := 1) (by decide) (by decide)
  have eY : σ.1 q 3 = nI (fN v g 2) := hr.at hf (e := 2) (by decide) (by decide)
  have eS : σ.1 q 4 = nI (fN v g 3) := hr.at hf (e := 3) (by decide) (by decide)
  have eC : σ.1 q 5 = nI (fN v g 4) := hr.at hf (e := 4) (by decide) (by decide)
  have eR : σ.1 q 6 = nI (fN v g 5) := hr.at hf (e := 5) (by decide) (by decide)
  obtain ⟨-, s1, s64, c2, c5, r2, r5, b1, b2⟩ := id hf
  intro n
  induction n with
  | zero =>
    intro c hc
    obtain rfl : c = fN v g 4 := by omega
    rw [show fN v g 4 * r + fN v g 4 = fN v g 4 * (r + 1) from rfl]
    refine x_iload_n (pc' := 15) rfl dX4_shiftedNodes_14 rfl ?_
    refine x_aload_n (pc' := 16) rfl dX4_shiftedNodes_15 rfl ?_
    refine x_get (v := .int _) (pc' := 19) fk_X4_28 (by first | assumption | exact ⟨by decide, rfl⟩) rfl dX4_shiftedNodes_16 rfl ?_
    refine x_icmp_ge (tgt := 56) (pc' := 22) (by decide) dX4_shiftedNodes_19 rfl (fun c19 => ?_) (fun c19 => absurd (by rw [eC]; exact nI_le (Nat.le_refl _) (by omega)) c19)
    exact kk
  | succ n ih =>
    intro c hc
    obtain ⟨k1, k2⟩ := kdiv (C := fN v g 4) (r := r) (c := c) (by omega)
    have w0 := hr.2 c r 0 (by omega) hrr (by decide)
    have w1 := hr.2 c r 1 (by omega) hrr (by decide)
    have eK : nmK v g (fN v g 4 * r + c) = pif (¬ oV v g c r 0 = 0 ∨ ¬ oV v g c r 1 = 0) 1 0 := by rw [nmK, k1, k2]
    refine x_iload_n (pc' := 15) rfl dX4_shiftedNodes_14 rfl ?_
    refine x_aload_n (pc' := 16) rfl dX4_shiftedNodes_15 rfl ?_
    refine x_get (v := .int _) (pc' := 19) fk_X4_28 (by first | assumption | exact ⟨by decide, rfl⟩) rfl dX4_shiftedNodes_16 rfl ?_
    refine x_icmp_ge (tgt := 56) (pc' := 22) (by decide) dX4_shiftedNodes_19 rfl (fun c19 => absurd c19 (by rw [eC]; exact nI_ge (by omega) (by omega))) (fun c19 => ?_)
    refine x_iload_n (pc' := 23) rfl dX4_shiftedNodes_22 rfl ?_
    refine x_aload_n (pc' := 24) rfl dX4_shiftedNodes_23 rfl ?_
    refine x_iload_n (pc' := 25) rfl dX4_shiftedNodes_24 rfl ?_
    refine x_iload_n (pc' := 26) rfl dX4_shiftedNodes_25 rfl ?_
    refine x_iconst (v := 0) (pc' := 27) (by decide) dX4_shiftedNodes_26 rfl ?_
    refine x_callVi (As := [.int _, .int _, .int _]) (rest := [.int _]) (ci := 3) (pc' := 30) rfl vk_X4_55 mk_X4_offset (by decide) (by first | assumption | exact ⟨by decide, rfl⟩) (by decide) rfl (Nat.le_of_ble_eq_true rfl) dX4_shiftedNodes_27 rfl (c_X4_offset (W := 0) hq rfl rfl rfl (by omega) (by omega) (by decide)) ?_
    refine x_top w0 ?_
    refine x_if_ne (tgt := 43) (pc' := 33) (by decide) dX4_shiftedNodes_30 rfl (fun c30 => ?_) (fun c30 => ?_)
    · refine x_iconst (v := 1) (pc' := 44) (by decide) dX4_shiftedNodes_43 rfl ?_
      refine x_goto (tgt := 48) (by decide) dX4_shiftedNodes_44 ?_
      refine x_top (y := nI (nmK v g (fN v g 4 * r + c))) (by rw [eK, pif_t (Or.inl c30)]; rfl) ?_
      refine x_iadd (pc' := 49) dX4_shiftedNodes_48 rfl ?_
      refine x_top (y := nI (sumN (nmK v g) (fN v g 4 * r + (c + 1)))) (nI_add _ _) ?_
      refine x_istore_n (lv' := [_, _, _, _]) (pc' := 50) (by decide) rfl dX4_shiftedNodes_49 rfl ?_
      refine x_iinc (lv' := [_, _, _, _]) (pc' := 53) rfl (nI_1 c) (by decide) rfl dX4_shiftedNodes_50 rfl ?_
      refine x_goto (tgt := 14) (by decide) dX4_shiftedNodes_53 ?_
      exact ih (c + 1) (by omega)
    · refine x_aload_n (pc' := 34) rfl dX4_shiftedNodes_33 rfl ?_
      refine x_iload_n (pc' := 35) rfl dX4_shiftedNodes_34 rfl ?_
      refine x_iload_n (pc' := 36) rfl dX4_shiftedNodes_35 rfl ?_
      refine x_iconst (v := 1) (pc' := 37) (by decide) dX4_shiftedNodes_36 rfl ?_
      refine x_callVi (As := [.int _, .int _, .int _]) (rest := [.int _]) (ci := 3) (pc' := 40) rfl vk_X4_55 mk_X4_offset (by decide) (by first | assumption | exact ⟨by decide, rfl⟩) (by decide) rfl (Nat.le_of_ble_eq_true rfl) dX4_shiftedNodes_37 rfl (c_X4_offset (W := 1) hq rfl rfl rfl (by omega) (by omega) (by decide)) ?_
      refine x_top w1 ?_
      refine x_if_eq (tgt := 47) (pc' := 43) (by decide) dX4_shiftedNodes_40 rfl (fun c40 => ?_) (fun c40 => ?_)
      · refine x_iconst (v := 0) (pc' := 48) (by decide) dX4_shiftedNodes_47 rfl ?_
        refine x_top (y := nI (nmK v g (fN v g 4 * r + c))) (by rw [eK, pif_f (fun q => q.elim (fun h => h c30) (fun h => h c40))]; rfl) ?_
        refine x_iadd (pc' := 49) dX4_shiftedNodes_48 rfl ?_
        refine x_top (y := nI (sumN (nmK v g) (fN v g 4 * r + (c + 1)))) (nI_add _ _) ?_
        refine x_istore_n (lv' := [_, _, _, _]) (pc' := 50) (by decide) rfl dX4_shiftedNodes_49 rfl ?_
        refine x_iinc (lv' := [_, _, _, _]) (pc' := 53) rfl (nI_1 c) (by decide) rfl dX4_shiftedNodes_50 rfl ?_
        refine x_goto (tgt := 14) (by decide) dX4_shiftedNodes_53 ?_
        exact ih (c + 1) (by omega)
      · refine x_iconst (v := 1) (pc' := 44) (by decide) dX4_shiftedNodes_43 rfl ?_
        refine x_goto (tgt := 48) (by decide) dX4_shiftedNodes_44 ?_
        refine x_top (y := nI (nmK v g (fN v g 4 * r + c))) (by rw [eK, pif_t (Or.inr c40)]; rfl) ?_
        refine x_iadd (pc' := 49) dX4_shiftedNodes_48 rfl ?_
        refine x_top (y := nI (sumN (nmK v g) (fN v g 4 * r + (c + 1)))) (nI_add _ _) ?_
        refine x_istore_n (lv' := [_, _, _, _]) (pc' := 50) (by decide) rfl dX4_shiftedNodes_49 rfl ?_
        refine x_iinc (lv' := [_, _, _, _]) (pc' := 53) rfl (nI_1 c) (by decide) rfl dX4_shiftedNodes_50 rfl ?_
        refine x_goto (tgt := 14) (by decide) dX4_shiftedNodes_53 ?_
        exact ih (c + 1) (by omega)
set_option maxRecDepth 100000 in
set_option maxHeartbeats 4000000 in
theorem l_X4_shiftedN2 {σ : St} {q g : Nat} {v : Nat → Int32} (hq : isG q) (hr : GRep σ q v g) (hf : OkF v g) : ∀ (n r : Nat) (D : Option Value), r + n = fN v g 5 → Ex M_X4_shiftedNodes (some (.int (nI (nmG v g))), σ) 4 [some (.ref q), some (.int (nI (sumN (nmK v g) (fN v g 4 * r)))), some (.int (nI r)), D] [] σ := by
  obtain ⟨hq0, hq1⟩ := id hq
  have eX : σ.1 q 2 = nI (fN v g 1) := hr.at hf (e := 1) (by decide) (by decide)
  have eY : σ.1 q 3 = nI (fN v g 2) := hr.at hf (e := 2) (by decide) (by decide)
  have eS : σ.1 q 4 = nI (fN v g 3) := hr.at hf (e := 3) (by decide) (by decide)
  have eC : σ.1 q 5 = nI (fN v g 4) := hr.at hf (e := 4) (by decide) (by decide)
  have eR : σ.1 q 6 = nI (fN v g 5) := hr.at hf (e := 5) (by decide) (by decide)
  obtain ⟨-, s1, s64, c2, c5, r2, r5, b1, b2⟩ := id hf
  intro n
  induction n with
  | zero =>
    intro r D hrn
    obtain rfl : r = fN v g 5 := by omega
    refine x_iload_n (pc' := 5) rfl dX4_shiftedNodes_4 rfl ?_
    refine x_aload_n (pc' := 6) rfl dX4_shiftedNodes_5 rfl ?_
    refine x_get (v := .int _) (pc' := 9) fk_X4_31 (by first | assumption | exact ⟨by decide, rfl⟩) rfl dX4_shiftedNodes_6 rfl ?_
    refine x_icmp_ge (tgt := 62) (pc' := 12) (by decide) dX4_shiftedNodes_9 rfl (fun c9 => ?_) (fun c9 => absurd (by rw [eR]; exact nI_le (Nat.le_refl _) (by omega)) c9)
    refine x_iload_n (pc' := 63) rfl dX4_shiftedNodes_62 rfl ?_
    exact x_iret rfl dX4_shiftedNodes_63 rfl
  | succ n ih =>
    intro r D hrn
    refine x_iload_n (pc' := 5) rfl dX4_shiftedNodes_4 rfl ?_
    refine x_aload_n (pc' := 6) rfl dX4_shiftedNodes_5 rfl ?_
    refine x_get (v := .int _) (pc' := 9) fk_X4_31 (by first | assumption | exact ⟨by decide, rfl⟩) rfl dX4_shiftedNodes_6 rfl ?_
    refine x_icmp_ge (tgt := 62) (pc' := 12) (by decide) dX4_shiftedNodes_9 rfl (fun c9 => absurd c9 (by rw [eR]; exact nI_ge (by omega) (by omega))) (fun c9 => ?_)
    refine x_iconst (v := 0) (pc' := 13) (by decide) dX4_shiftedNodes_12 rfl ?_
    refine x_istore_n (lv' := [_, _, _, _]) (pc' := 14) (by decide) rfl dX4_shiftedNodes_13 rfl ?_
    refine l_X4_shiftedN1 hq hr hf (by omega) ?_ _ 0 (Nat.zero_add _)
    refine x_iinc (lv' := [_, _, _, _]) (pc' := 59) rfl (nI_1 r) (by decide) rfl dX4_shiftedNodes_56 rfl ?_
    refine x_goto (tgt := 4) (by decide) dX4_shiftedNodes_59 ?_
    exact ih (r + 1) _ (by omega)
set_option maxRecDepth 100000 in
set_option maxHeartbeats 4000000 in
theorem c_X4_shiftedNodes {σ : St} {q g : Nat} {v : Nat → Int32} (hq : isG q) (hr : GRep σ q v g) (hf : OkF v g) : Ct yX4_shiftedNodes M_X4_shiftedNodes [.ref q] σ (some (.int (nI (nmG v g))), σ) := by
  refine ct_of (k := 3) rfl rfl rfl (Nat.le_of_ble_eq_true rfl) ?_
  refine x_iconst (v := 0) (pc' := 1) (by decide) dX4_shiftedNodes_0 rfl ?_
  refine x_istore_n (lv' := [_, _, _, _]) (pc' := 2) (by decide) rfl dX4_shiftedNodes_1 rfl ?_
  refine x_iconst (v := 0) (pc' := 3) (by decide) dX4_shiftedNodes_2 rfl ?_
  refine x_istore_n (lv' := [_, _, _, _]) (pc' := 4) (by decide) rfl dX4_shiftedNodes_3 rfl ?_
  exact l_X4_shiftedN2 hq hr hf _ 0 _ (Nat.zero_add _)
def fcV (o : Nat → Int32) (C : Nat) (dx dy : Int32) : Nat → Nat → Int32
  | 0 => o
  | k + 1 => set2 (fcV o C dx dy k) (2 * (5 * (k / C) + k % C)) dx dy
noncomputable def fcN (o : Nat → Int32) (C : Nat) (dx dy : Int32) (n : Nat) : Nat := sumN (fun k => chg (fcV o C dx dy k) (2 * (5 * (k / C) + k % C)) dx dy) n
set_option maxRecDepth 100000 in
set_option maxHeartbeats 4000000 in
theorem l_X4_setOffs1 {σ : St} {q C R : Nat} {dx dy : Int32} (hq : isG q) (hC : σ.1 q 5 = nI C) (hR : σ.1 q 6 = nI R) (hC5 : C ≤ 5) (hR5 : R ≤ 5) {r : Nat} {out : Option Value × St} (hr : r < R) (kk : Ex M_X4_setOffsets out 53 [some (.ref q), some (.int dx), some (.int dy), some (.int (nI (fcN (σ.1 (q + 1)) C dx dy (C * (r + 1))))), some (.int (nI r)), some (.int (nI C))] [] (pA σ (q + 1) (fcV (σ.1 (q + 1)) C dx dy (C * (r + 1))))) : ∀ (n c : Nat), c + n = C → Ex M_X4_setOffsets out 17 [some (.ref q), some (.int dx), some (.int dy), some (.int (nI (fcN (σ.1 (q + 1)) C dx dy (C * r + c)))), some (.int (nI r)), some (.int (nI c))] [] (pA σ (q + 1) (fcV (σ.1 (q + 1)) C dx dy (C * r + c))) := by
  obtain ⟨hq0, hq1⟩ := id hq
  intro n
  induction n with
  | zero =>
    intro c hc
    obtain rfl : c = C := by omega
    have hC2 : (pA σ (q + 1) (fcV (σ.1 (q + 1)) c dx dy (c * r + c))).1 q 5 = nI c := by rw [pA_ne (by omega)]; exact hC
    have hR2 : (pA σ (q + 1) (fcV (σ.1 (q + 1)) c dx dy (c * r + c))).1 q 6 = nI R := by rw [pA_ne (by omega)]; exact hR
    rw [show c * r + c = c * (r + 1) from rfl] at hC2 ⊢
    refine x_iload (pc' := 19) rfl dX4_setOffsets_17 rfl ?_
    refine x_aload_n (pc' := 20) rfl dX4_setOffsets_19 rfl ?_
    refine x_get (v := .int _) (pc' := 23) fk_X4_28 (by first | assumption | exact ⟨by decide, rfl⟩) rfl dX4_setOffsets_20 rfl ?_
    refine x_icmp_ge (tgt := 53) (pc' := 26) (by decide) dX4_setOffsets_23 rfl (fun c23 => ?_) (fun c23 => absurd (by rw [hC2]; exact nI_le (Nat.le_refl _) (by omega)) c23)
    exact kk
  | succ n ih =>
    intro c hc
    obtain ⟨k1, k2⟩ := kdiv (C := C) (r := r) (c := c) (by omega)
    have hC2 : (pA σ (q + 1) (fcV (σ.1 (q + 1)) C dx dy (C * r + c))).1 q 5 = nI C := by rw [pA_ne (by omega)]; exact hC
    have hR2 : (pA σ (q + 1) (fcV (σ.1 (q + 1)) C dx dy (C * r + c))).1 q 6 = nI R := by rw [pA_ne (by omega)]; exact hR
    refine x_iload (pc' := 19) rfl dX4_setOffsets_17 rfl ?_
    refine x_aload_n (pc' := 20) rfl dX4_setOffsets_19 rfl ?_
    refine x_get (v := .int _) (pc' := 23) fk_X4_28 (by first | assumption | exact ⟨by decide, rfl⟩) rfl dX4_setOffsets_20 rfl ?_
    refine x_icmp_ge (tgt := 53) (pc' := 26) (by decide) dX4_setOffsets_23 rfl (fun c23 => absurd c23 (by rw [hC2]; exact nI_ge (by omega) (by omega))) (fun c23 => ?_)
    refine x_iload_n (pc' := 27) rfl dX4_setOffsets_26 rfl ?_
    refine x_aload_n (pc' := 28) rfl dX4_setOffsets_27 rfl ?_
    refine x_iload (pc' := 30) rfl dX4_setOffsets_28 rfl ?_
    refine x_iload (pc' := 32) rfl dX4_setOffsets_30 rfl ?_
    refine x_iload_n (pc' := 33) rfl dX4_setOffsets_32 rfl ?_
    refine x_iload_n (pc' := 34) rfl dX4_setOffsets_33 rfl ?_
    refine x_callVi (As := [.int _, .int _, .int _, .int _]) (rest := [.int _]) (ci := 3) (pc' := 37) rfl vk_X4_51 mk_X4_setOffset (by decide) (by first | assumption | exact ⟨by decide, rfl⟩) (by decide) rfl (Nat.le_of_ble_eq_true rfl) dX4_setOffsets_34 rfl (c_X4_setOffset hq rfl rfl (by omega) (by omega)) ?_
    rw [pA_at]
    refine x_if_eq (tgt := 44) (pc' := 40) (by decide) dX4_setOffsets_37 rfl (fun c37 => ?_) (fun c37 => ?_)
    · refine x_iconst (v := 0) (pc' := 45) (by decide) dX4_setOffsets_44 rfl ?_
      refine x_top (y := nI (chg (fcV (σ.1 (q + 1)) C dx dy (C * r + c)) (2 * (5 * r + c)) dx dy)) (c37.symm) ?_
      refine x_iadd (pc' := 46) dX4_setOffsets_45 rfl ?_
      refine x_top (y := nI (fcN (σ.1 (q + 1)) C dx dy (C * r + (c + 1)))) (by rw [nI_add]; exact congrArg nI (by rw [show fcN (σ.1 (q + 1)) C dx dy (C * r + (c + 1)) = fcN (σ.1 (q + 1)) C dx dy (C * r + c) + chg (fcV (σ.1 (q + 1)) C dx dy (C * r + c)) (2 * (5 * ((C * r + c) / C) + (C * r + c) % C)) dx dy from rfl, k1, k2])) ?_
      refine x_st (σ' := pA σ (q + 1) (fcV (σ.1 (q + 1)) C dx dy (C * r + (c + 1)))) (by rw [pA_pA, ← Nat.add_assoc, fcV, k1, k2]) ?_
      refine x_istore_n (lv' := [_, _, _, _, _, _]) (pc' := 47) (by decide) rfl dX4_setOffsets_46 rfl ?_
      refine x_iinc (lv' := [_, _, _, _, _, _]) (pc' := 50) rfl (nI_1 c) (by decide) rfl dX4_setOffsets_47 rfl ?_
      refine x_goto (tgt := 17) (by decide) dX4_setOffsets_50 ?_
      exact ih (c + 1) (by omega)
    · refine x_iconst (v := 1) (pc' := 41) (by decide) dX4_setOffsets_40 rfl ?_
      refine x_goto (tgt := 45) (by decide) dX4_setOffsets_41 ?_
      refine x_top (y := nI (chg (fcV (σ.1 (q + 1)) C dx dy (C * r + c)) (2 * (5 * r + c)) dx dy)) (by rw [chg_1 c37]; rfl) ?_
      refine x_iadd (pc' := 46) dX4_setOffsets_45 rfl ?_
      refine x_top (y := nI (fcN (σ.1 (q + 1)) C dx dy (C * r + (c + 1)))) (by rw [nI_add]; exact congrArg nI (by rw [show fcN (σ.1 (q + 1)) C dx dy (C * r + (c + 1)) = fcN (σ.1 (q + 1)) C dx dy (C * r + c) + chg (fcV (σ.1 (q + 1)) C dx dy (C * r + c)) (2 * (5 * ((C * r + c) / C) + (C * r + c) % C)) dx dy from rfl, k1, k2])) ?_
      refine x_st (σ' := pA σ (q + 1) (fcV (σ.1 (q + 1)) C dx dy (C * r + (c + 1)))) (by rw [pA_pA, ← Nat.add_assoc, fcV, k1, k2]) ?_
      refine x_istore_n (lv' := [_, _, _, _, _, _]) (pc' := 47) (by decide) rfl dX4_setOffsets_46 rfl ?_
      refine x_iinc (lv' := [_, _, _, _, _, _]) (pc' := 50) rfl (nI_1 c) (by decide) rfl dX4_setOffsets_47 rfl ?_
      refine x_goto (tgt := 17) (by decide) dX4_setOffsets_50 ?_
      exact ih (c + 1) (by omega)
set_option maxRecDepth 100000 in
set_option maxHeartbeats 4000000 in
theorem l_X4_setOffs2 {σ : St} {q C R : Nat} {dx dy : Int32} (hq : isG q) (hC : σ.1 q 5 = nI C) (hR : σ.1 q 6 = nI R) (hC5 : C ≤ 5) (hR5 : R ≤ 5) : ∀ (n r : Nat) (D : Option Value), r + n = R → Ex M_X4_setOffsets (some (.int (nI (fcN (σ.1 (q + 1)) C dx dy (C * R)))), pA σ (q + 1) (fcV (σ.1 (q + 1)) C dx dy (C * R))) 5 [some (.ref q), some (.int dx), some (.int dy), some (.int (nI (fcN (σ.1 (q + 1)) C dx dy (C * r)))), some (.int (nI r)), D] [] (pA σ (q + 1) (fcV (σ.1 (q + 1)) C dx dy (C * r))) := by
  obtain ⟨hq0, hq1⟩ := id hq
  intro n
  induction n with
  | zero =>
    intro r D hrn
    obtain rfl : r = R := by omega
    have hC2 : (pA σ (q + 1) (fcV (σ.1 (q + 1)) C dx dy (C * r))).1 q 5 = nI C := by rw [pA_ne (by omega)]; exact hC
    have hR2 : (pA σ (q + 1) (fcV (σ.1 (q + 1)) C dx dy (C * r))).1 q 6 = nI r := by rw [pA_ne (by omega)]; exact hR
    refine x_iload (pc' := 7) rfl dX4_setOffsets_5 rfl ?_
    refine x_aload_n (pc' := 8) rfl dX4_setOffsets_7 rfl ?_
    refine x_get (v := .int _) (pc' := 11) fk_X4_31 (by first | assumption | exact ⟨by decide, rfl⟩) rfl dX4_setOffsets_8 rfl ?_
    refine x_icmp_ge (tgt := 59) (pc' := 14) (by decide) dX4_setOffsets_11 rfl (fun c11 => ?_) (fun c11 => absurd (by rw [hR2]; exact nI_le (Nat.le_refl _) (by omega)) c11)
    refine x_iload_n (pc' := 60) rfl dX4_setOffsets_59 rfl ?_
    exact x_iret rfl dX4_setOffsets_60 rfl
  | succ n ih =>
    intro r D hrn
    have hC2 : (pA σ (q + 1) (fcV (σ.1 (q + 1)) C dx dy (C * r))).1 q 5 = nI C := by rw [pA_ne (by omega)]; exact hC
    have hR2 : (pA σ (q + 1) (fcV (σ.1 (q + 1)) C dx dy (C * r))).1 q 6 = nI R := by rw [pA_ne (by omega)]; exact hR
    refine x_iload (pc' := 7) rfl dX4_setOffsets_5 rfl ?_
    refine x_aload_n (pc' := 8) rfl dX4_setOffsets_7 rfl ?_
    refine x_get (v := .int _) (pc' := 11) fk_X4_31 (by first | assumption | exact ⟨by decide, rfl⟩) rfl dX4_setOffsets_8 rfl ?_
    refine x_icmp_ge (tgt := 59) (pc' := 14) (by decide) dX4_setOffsets_11 rfl (fun c11 => absurd c11 (by rw [hR2]; exact nI_ge (by omega) (by omega))) (fun c11 => ?_)
    refine x_iconst (v := 0) (pc' := 15) (by decide) dX4_setOffsets_14 rfl ?_
    refine x_istore (lv' := [_, _, _, _, _, _]) (pc' := 17) (by decide) rfl dX4_setOffsets_15 rfl ?_
    refine l_X4_setOffs1 hq hC hR hC5 hR5 (by omega) ?_ _ 0 (Nat.zero_add _)
    refine x_iinc (lv' := [_, _, _, _, _, _]) (pc' := 56) rfl (nI_1 r) (by decide) rfl dX4_setOffsets_53 rfl ?_
    refine x_goto (tgt := 5) (by decide) dX4_setOffsets_56 ?_
    exact ih (r + 1) _ (by omega)
set_option maxRecDepth 100000 in
set_option maxHeartbeats 4000000 in
theorem c_X4_setOffsets {σ : St} {q C R : Nat} {dx dy : Int32} (hq : isG q) (hC : σ.1 q 5 = nI C) (hR : σ.1 q 6 = nI R) (hC5 : C ≤ 5) (hR5 : R ≤ 5) : Ct yX4_setOffsets M_X4_setOffsets [.ref q, .int dx, .int dy] σ (some (.int (nI (fcN (σ.1 (q + 1)) C dx dy (C * R)))), pA σ (q + 1) (fcV (σ.1 (q + 1)) C dx dy (C * R))) := by
  obtain ⟨hq0, hq1⟩ := id hq
  refine ct_of (k := 3) rfl rfl rfl (Nat.le_of_ble_eq_true rfl) ?_
  refine x_iconst (v := 0) (pc' := 1) (by decide) dX4_setOffsets_0 rfl ?_
  refine x_istore_n (lv' := [_, _, _, _, _, _]) (pc' := 2) (by decide) rfl dX4_setOffsets_1 rfl ?_
  refine x_iconst (v := 0) (pc' := 3) (by decide) dX4_setOffsets_2 rfl ?_
  refine x_istore (lv' := [_, _, _, _, _, _]) (pc' := 5) (by decide) rfl dX4_setOffsets_3 rfl ?_
  refine x_st (σ' := pA σ (q + 1) (fcV (σ.1 (q + 1)) C dx dy (C * 0))) (pA_self σ (q + 1)).symm ?_
  exact l_X4_setOffs2 hq hC hR hC5 hR5 _ 0 _ (Nat.zero_add _)
def plS (σ : St) (q : Nat) (a b c d e f : Int32) : St := pI (pI (pI (pI (pI (pI σ q 1 a) q 2 b) q 3 c) q 4 d) q 5 e) q 6 f
set_option maxRecDepth 100000 in
set_option maxHeartbeats 4000000 in
theorem c_X4_place {σ : St} {q : Nat} {a b c d e f : Int32} (hq : isG q) : Ct yX4_place M_X4_place [.ref q, .int a, .int b, .int c, .int d, .int e, .int f] σ (none, plS σ q a b c d e f) := by
  obtain ⟨hq0, hq1⟩ := id hq
  refine ct_of (k := 0) rfl rfl rfl (Nat.le_of_ble_eq_true rfl) ?_
  refine x_aload_n (pc' := 1) rfl dX4_place_0 rfl ?_
  refine x_iload_n (pc' := 2) rfl dX4_place_1 rfl ?_
  refine x_puti (pc' := 5) fk_X4_15 pk_3_1 rfl (by first | assumption | exact ⟨by decide, rfl⟩) dX4_place_2 rfl ?_
  refine x_aload_n (pc' := 6) rfl dX4_place_5 rfl ?_
  refine x_iload_n (pc' := 7) rfl dX4_place_6 rfl ?_
  refine x_puti (pc' := 10) fk_X4_19 pk_3_2 rfl (by first | assumption | exact ⟨by decide, rfl⟩) dX4_place_7 rfl ?_
  refine x_aload_n (pc' := 11) rfl dX4_place_10 rfl ?_
  refine x_iload_n (pc' := 12) rfl dX4_place_11 rfl ?_
  refine x_puti (pc' := 15) fk_X4_22 pk_3_3 rfl (by first | assumption | exact ⟨by decide, rfl⟩) dX4_place_12 rfl ?_
  refine x_aload_n (pc' := 16) rfl dX4_place_15 rfl ?_
  refine x_iload (pc' := 18) rfl dX4_place_16 rfl ?_
  refine x_puti (pc' := 21) fk_X4_25 pk_3_4 rfl (by first | assumption | exact ⟨by decide, rfl⟩) dX4_place_18 rfl ?_
  refine x_aload_n (pc' := 22) rfl dX4_place_21 rfl ?_
  refine x_iload (pc' := 24) rfl dX4_place_22 rfl ?_
  refine x_puti (pc' := 27) fk_X4_28 pk_3_5 rfl (by first | assumption | exact ⟨by decide, rfl⟩) dX4_place_24 rfl ?_
  refine x_aload_n (pc' := 28) rfl dX4_place_27 rfl ?_
  refine x_iload (pc' := 30) rfl dX4_place_28 rfl ?_
  refine x_puti (pc' := 33) fk_X4_31 pk_3_6 rfl (by first | assumption | exact ⟨by decide, rfl⟩) dX4_place_30 rfl ?_
  exact x_vret rfl dX4_place_33 rfl
/-- grid q becomes a copy of grid q2 -/
def cpG (σ : St) (q q2 : Nat) : St := pA (plS σ q (σ.1 q2 1) (σ.1 q2 2) (σ.1 q2 3) (σ.1 q2 4) (σ.1 q2 5) (σ.1 q2 6)) (q + 1) (va_cpy ((plS σ q (σ.1 q2 1) (σ.1 q2 2) (σ.1 q2 3) (σ.1 q2 4) (σ.1 q2 5) (σ.1 q2 6)).1 (q2 + 1)) ((plS σ q (σ.1 q2 1) (σ.1 q2 2) (σ.1 q2 3) (σ.1 q2 4) (σ.1 q2 5) (σ.1 q2 6)).1 (q + 1)) 0 0 50)
set_option maxRecDepth 100000 in
set_option maxHeartbeats 4000000 in
theorem c_X4_copyFrom {σ : St} {q q2 : Nat} (hq : isG q) (hq2 : isG q2) : Ct yX4_copyFrom M_X4_copyFrom [.ref q, .ref q2] σ (none, cpG σ q q2) := by
  obtain ⟨hq0, hq1⟩ := id hq
  obtain ⟨hp0, hp1⟩ := id hq2
  refine ct_of (k := 0) rfl rfl rfl (Nat.le_of_ble_eq_true rfl) ?_
  refine x_aload_n (pc' := 1) rfl dX4_copyFrom_0 rfl ?_
  refine x_ifnull (pc' := 4) dX4_copyFrom_1 rfl ?_
  refine x_aload_n (pc' := 5) rfl dX4_copyFrom_4 rfl ?_
  refine x_aload_n (pc' := 6) rfl dX4_copyFrom_5 rfl ?_
  refine x_get (v := .int _) (pc' := 9) fk_X4_15 (by first | assumption | exact ⟨by decide, rfl⟩) rfl dX4_copyFrom_6 rfl ?_
  refine x_aload_n (pc' := 10) rfl dX4_copyFrom_9 rfl ?_
  refine x_get (v := .int _) (pc' := 13) fk_X4_19 (by first | assumption | exact ⟨by decide, rfl⟩) rfl dX4_copyFrom_10 rfl ?_
  refine x_aload_n (pc' := 14) rfl dX4_copyFrom_13 rfl ?_
  refine x_get (v := .int _) (pc' := 17) fk_X4_22 (by first | assumption | exact ⟨by decide, rfl⟩) rfl dX4_copyFrom_14 rfl ?_
  refine x_aload_n (pc' := 18) rfl dX4_copyFrom_17 rfl ?_
  refine x_get (v := .int _) (pc' := 21) fk_X4_25 (by first | assumption | exact ⟨by decide, rfl⟩) rfl dX4_copyFrom_18 rfl ?_
  refine x_aload_n (pc' := 22) rfl dX4_copyFrom_21 rfl ?_
  refine x_get (v := .int _) (pc' := 25) fk_X4_28 (by first | assumption | exact ⟨by decide, rfl⟩) rfl dX4_copyFrom_22 rfl ?_
  refine x_aload_n (pc' := 26) rfl dX4_copyFrom_25 rfl ?_
  refine x_get (v := .int _) (pc' := 29) fk_X4_31 (by first | assumption | exact ⟨by decide, rfl⟩) rfl dX4_copyFrom_26 rfl ?_
  refine x_callVv (As := [.int _, .int _, .int _, .int _, .int _, .int _]) (rest := []) (ci := 3) (pc' := 32) rfl vk_X4_34 mk_X4_place (by decide) (by first | assumption | exact ⟨by decide, rfl⟩) (by decide) rfl (Nat.le_of_ble_eq_true rfl) dX4_copyFrom_29 rfl (c_X4_place hq) ?_
  refine x_aload_n (pc' := 33) rfl dX4_copyFrom_32 rfl ?_
  refine x_get (v := .ref _) (pc' := 36) fk_X4_9 (by first | assumption | exact ⟨by decide, rfl⟩) rfl dX4_copyFrom_33 rfl ?_
  refine x_iconst (v := 0) (pc' := 37) (by decide) dX4_copyFrom_36 rfl ?_
  refine x_aload_n (pc' := 38) rfl dX4_copyFrom_37 rfl ?_
  refine x_get (v := .ref _) (pc' := 41) fk_X4_9 (by first | assumption | exact ⟨by decide, rfl⟩) rfl dX4_copyFrom_38 rfl ?_
  refine x_iconst (v := 0) (pc' := 42) (by decide) dX4_copyFrom_41 rfl ?_
  refine x_bipush (v := 50) (pc' := 44) (by decide) dX4_copyFrom_42 rfl ?_
  refine x_copy (n := 50) (pc' := 47) (by first | assumption | exact ⟨by decide, rfl⟩) (by first | assumption | exact ⟨by decide, rfl⟩) (by decide) (by decide) cp_X4_38 cp_nat cp_sta cp_ini (by decide) (by decide) dX4_copyFrom_44 rfl ?_
  exact x_vret rfl dX4_copyFrom_47 rfl
