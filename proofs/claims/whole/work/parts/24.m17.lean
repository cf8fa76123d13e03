theorem pif_le1 (P : Prop) : pif P 1 0 ≤ (1 : Nat) := by
  by_cases h : P
  · rw [pif_t h]; exact Nat.le_refl 1
  · rw [pif_f h]; exact Nat.zero_le 1
def d1P (w : Nat → Int32) (k e j : Nat) : Int32 := if 2 + 6 * k ≤ j ∧ j < 2 + 6 * k + e then w (j + 6) else w j
def d2P (w : Nat → Int32) (k e j : Nat) : Int32 := if 38 + 50 * k ≤ j ∧ j < 38 + 50 * k + e then w (j + 50) else w j
theorem d1P_0 (w : Nat → Int32) (k : Nat) : d1P w k 0 = w := funext fun j => if_neg (by omega)
theorem d2P_0 (w : Nat → Int32) (k : Nat) : d2P w k 0 = w := funext fun j => if_neg (by omega)
theorem d1P_s (w : Nat → Int32) (k e : Nat) (he : e < 6) : upd (d1P w k e) (2 + 6 * k + e) (d1P w k e (2 + 6 * k + 6 + e)) = d1P w k (e + 1) := by
  funext j
  rw [upd_app]
  unfold d1P
  by_cases h : j = 2 + 6 * k + e
  · rw [if_pos h, if_neg (by omega), if_pos (by omega), h]
    exact congrArg w (by omega)
  · rw [if_neg h]
    by_cases h2 : 2 + 6 * k ≤ j ∧ j < 2 + 6 * k + e
    · rw [if_pos h2, if_pos (by omega)]
    · rw [if_neg h2, if_neg (by omega)]
theorem d2P_s (w : Nat → Int32) (k e : Nat) (he : e < 50) : upd (d2P w k e) (38 + 50 * k + e) (d2P w k e (38 + 50 * k + 50 + e)) = d2P w k (e + 1) := by
  funext j
  rw [upd_app]
  unfold d2P
  by_cases h : j = 38 + 50 * k + e
  · rw [if_pos h, if_neg (by omega), if_pos (by omega), h]
    exact congrArg w (by omega)
  · rw [if_neg h]
    by_cases h2 : 38 + 50 * k ≤ j ∧ j < 38 + 50 * k + e
    · rw [if_pos h2, if_pos (by omega)]
    · rw [if_neg h2, if_neg (by omega)]
/-- the grids behind G, n of them, are moved up -/
def dIt (w : Nat → Int32) (G : Nat) : Nat → Nat → Int32
  | 0 => w
  | n + 1 => d2P (d1P (dIt w G n) (G + n) 6) (G + n) 50
noncomputable def lowP (G : Nat) (x : Int32) : Int32 := pif (nI G < x) (x - 1) x
noncomputable def pIt (w : Nat → Int32) (G : Nat) : Nat → Nat → Int32
  | 0 => w
  | n + 1 => upd (pIt w G n) (2 + 6 * n) (lowP G (pIt w G n (2 + 6 * n)))
noncomputable def drpV (v : Nat → Int32) (G : Nat) : Nat → Int32 := pIt (dIt (upd v 0 (nI (cN v - 1))) G (cN v - 1 - G)) G (cN v - 1)
theorem dIt_lo (w : Nat → Int32) (G : Nat) {j : Nat} (hj : j < 2) : ∀ n, dIt w G n j = w j
  | 0 => rfl
  | n + 1 => by rw [dIt, d2P, if_neg (by omega), d1P, if_neg (by omega), dIt_lo w G hj n]
theorem pIt_lo (w : Nat → Int32) (G : Nat) {j : Nat} (hj : j < 2) : ∀ n, pIt w G n j = w j
  | 0 => rfl
  | n + 1 => by rw [pIt, upd_app, if_neg (by omega), pIt_lo w G hj n]
set_option maxRecDepth 100000 in
set_option maxHeartbeats 4000000 in
theorem l_X10_drop1 {τ : St} {G k : Nat} {w : Nat → Int32} {out : Option Value × St} (hk : k < 5) (kk : Ex M_X10_drop out 96 [some (.ref 18), some (.int (nI G)), some (.int (nI (k))), some (.int (nI 6))] [] (pA τ 19 (d1P w k 6))) : ∀ (n e : Nat), e + n = 6 → Ex M_X10_drop out 55 [some (.ref 18), some (.int (nI G)), some (.int (nI (k))), some (.int (nI e))] [] (pA τ 19 (d1P w k e)) := by
  intro n
  induction n with
  | zero =>
    intro e he
    obtain rfl : e = 6 := by omega
    refine x_iload_n (pc' := 56) rfl dX10_drop_55 rfl ?_
    refine x_bipush (v := 6) (pc' := 58) (by decide) dX10_drop_56 rfl ?_
    refine x_icmp_ge (tgt := 96) (pc' := 61) (by decide) dX10_drop_58 rfl (fun c58 => ?_) (fun c58 => absurd (by decide) c58)
    exact kk
  | succ n ih =>
    intro e he
    refine x_iload_n (pc' := 56) rfl dX10_drop_55 rfl ?_
    refine x_bipush (v := 6) (pc' := 58) (by decide) dX10_drop_56 rfl ?_
    refine x_icmp_ge (tgt := 96) (pc' := 61) (by decide) dX10_drop_58 rfl (fun c58 => absurd c58 (nI_ge (b := 6) (by omega) (by decide))) (fun c58 => ?_)
    refine x_aload_n (pc' := 62) rfl dX10_drop_61 rfl ?_
    refine x_get (v := .ref 19) (pc' := 65) fk_X10_7 (by first | assumption | exact ⟨by decide, rfl⟩) rfl dX10_drop_62 rfl ?_
    refine x_iconst (v := 2) (pc' := 66) (by decide) dX10_drop_65 rfl ?_
    refine x_bipush (v := 6) (pc' := 68) (by decide) dX10_drop_66 rfl ?_
    refine x_iload_n (pc' := 69) rfl dX10_drop_68 rfl ?_
    refine x_imul (pc' := 70) dX10_drop_69 rfl ?_
    refine x_iadd (pc' := 71) dX10_drop_70 rfl ?_
    refine x_iload_n (pc' := 72) rfl dX10_drop_71 rfl ?_
    refine x_iadd (pc' := 73) dX10_drop_72 rfl ?_
    refine x_aload_n (pc' := 74) rfl dX10_drop_73 rfl ?_
    refine x_get (v := .ref 19) (pc' := 77) fk_X10_7 (by first | assumption | exact ⟨by decide, rfl⟩) rfl dX10_drop_74 rfl ?_
    refine x_iconst (v := 2) (pc' := 78) (by decide) dX10_drop_77 rfl ?_
    refine x_bipush (v := 6) (pc' := 80) (by decide) dX10_drop_78 rfl ?_
    refine x_iload_n (pc' := 81) rfl dX10_drop_80 rfl ?_
    refine x_imul (pc' := 82) dX10_drop_81 rfl ?_
    refine x_iadd (pc' := 83) dX10_drop_82 rfl ?_
    refine x_bipush (v := 6) (pc' := 85) (by decide) dX10_drop_83 rfl ?_
    refine x_iadd (pc' := 86) dX10_drop_85 rfl ?_
    refine x_iload_n (pc' := 87) rfl dX10_drop_86 rfl ?_
    refine x_iadd (pc' := 88) dX10_drop_87 rfl ?_
    refine x_ialdn (N := 338) (n := 2 + 6 * k + 6 + e) (pc' := 89) (by first | assumption | exact ⟨by decide, rfl⟩) (by decide) (by simp only [lit32, pk_mul, nI_add]) (by omega) dX10_drop_88 rfl ?_
    refine x_iastn (N := 338) (n := 2 + 6 * k + e) (pc' := 90) (by first | assumption | exact ⟨by decide, rfl⟩) (by decide) (by simp only [lit32, pk_mul, nI_add]) (by omega) dX10_drop_89 rfl ?_
    refine x_st (pA_pI _ _ _ _ _) ?_
    refine x_st (σ' := pA τ 19 (d1P w k (e + 1))) (by rw [pA_at, d1P_s _ _ _ (by omega)]) ?_
    refine x_iinc (lv' := [_, _, _, _]) (pc' := 93) rfl (nI_1 e) (by decide) rfl dX10_drop_90 rfl ?_
    refine x_goto (tgt := 55) (by decide) dX10_drop_93 ?_
    exact ih (e + 1) (by omega)
set_option maxRecDepth 100000 in
set_option maxHeartbeats 4000000 in
theorem l_X10_drop2 {τ : St} {G k : Nat} {w : Nat → Int32} {out : Option Value × St} (hk : k < 5) (kk : Ex M_X10_drop out 141 [some (.ref 18), some (.int (nI G)), some (.int (nI (k))), some (.int (nI 50))] [] (pA τ 19 (d2P w k 50))) : ∀ (n e : Nat), e + n = 50 → Ex M_X10_drop out 98 [some (.ref 18), some (.int (nI G)), some (.int (nI (k))), some (.int (nI e))] [] (pA τ 19 (d2P w k e)) := by
  intro n
  induction n with
  | zero =>
    intro e he
    obtain rfl : e = 50 := by omega
    refine x_iload_n (pc' := 99) rfl dX10_drop_98 rfl ?_
    refine x_bipush (v := 50) (pc' := 101) (by decide) dX10_drop_99 rfl ?_
    refine x_icmp_ge (tgt := 141) (pc' := 104) (by decide) dX10_drop_101 rfl (fun c101 => ?_) (fun c101 => absurd (by decide) c101)
    exact kk
  | succ n ih =>
    intro e he
    refine x_iload_n (pc' := 99) rfl dX10_drop_98 rfl ?_
    refine x_bipush (v := 50) (pc' := 101) (by decide) dX10_drop_99 rfl ?_
    refine x_icmp_ge (tgt := 141) (pc' := 104) (by decide) dX10_drop_101 rfl (fun c101 => absurd c101 (nI_ge (b := 50) (by omega) (by decide))) (fun c101 => ?_)
    refine x_aload_n (pc' := 105) rfl dX10_drop_104 rfl ?_
    refine x_get (v := .ref 19) (pc' := 108) fk_X10_7 (by first | assumption | exact ⟨by decide, rfl⟩) rfl dX10_drop_105 rfl ?_
    refine x_bipush (v := 38) (pc' := 110) (by decide) dX10_drop_108 rfl ?_
    refine x_bipush (v := 50) (pc' := 112) (by decide) dX10_drop_110 rfl ?_
    refine x_iload_n (pc' := 113) rfl dX10_drop_112 rfl ?_
    refine x_imul (pc' := 114) dX10_drop_113 rfl ?_
    refine x_iadd (pc' := 115) dX10_drop_114 rfl ?_
    refine x_iload_n (pc' := 116) rfl dX10_drop_115 rfl ?_
    refine x_iadd (pc' := 117) dX10_drop_116 rfl ?_
    refine x_aload_n (pc' := 118) rfl dX10_drop_117 rfl ?_
    refine x_get (v := .ref 19) (pc' := 121) fk_X10_7 (by first | assumption | exact ⟨by decide, rfl⟩) rfl dX10_drop_118 rfl ?_
    refine x_bipush (v := 38) (pc' := 123) (by decide) dX10_drop_121 rfl ?_
    refine x_bipush (v := 50) (pc' := 125) (by decide) dX10_drop_123 rfl ?_
    refine x_iload_n (pc' := 126) rfl dX10_drop_125 rfl ?_
    refine x_imul (pc' := 127) dX10_drop_126 rfl ?_
    refine x_iadd (pc' := 128) dX10_drop_127 rfl ?_
    refine x_bipush (v := 50) (pc' := 130) (by decide) dX10_drop_128 rfl ?_
    refine x_iadd (pc' := 131) dX10_drop_130 rfl ?_
    refine x_iload_n (pc' := 132) rfl dX10_drop_131 rfl ?_
    refine x_iadd (pc' := 133) dX10_drop_132 rfl ?_
    refine x_ialdn (N := 338) (n := 38 + 50 * k + 50 + e) (pc' := 134) (by first | assumption | exact ⟨by decide, rfl⟩) (by decide) (by simp only [lit32, pk_mul, nI_add]) (by omega) dX10_drop_133 rfl ?_
    refine x_iastn (N := 338) (n := 38 + 50 * k + e) (pc' := 135) (by first | assumption | exact ⟨by decide, rfl⟩) (by decide) (by simp only [lit32, pk_mul, nI_add]) (by omega) dX10_drop_134 rfl ?_
    refine x_st (pA_pI _ _ _ _ _) ?_
    refine x_st (σ' := pA τ 19 (d2P w k (e + 1))) (by rw [pA_at, d2P_s _ _ _ (by omega)]) ?_
    refine x_iinc (lv' := [_, _, _, _]) (pc' := 138) rfl (nI_1 e) (by decide) rfl dX10_drop_135 rfl ?_
    refine x_goto (tgt := 98) (by decide) dX10_drop_138 ?_
    exact ih (e + 1) (by omega)
set_option maxRecDepth 100000 in
set_option maxHeartbeats 4000000 in
theorem l_X10_drop4 {σ τ : St} {G : Nat} {w : Nat → Int32} {D : Option Value} (hN : cN (σ.1 19) ≤ 6) (hw : w 0 = nI (cN (σ.1 19) - 1)) (hG : G < 6) : ∀ (n k : Nat), k + n = cN (σ.1 19) - 1 → Ex M_X10_drop (some (.int (nI (cN (σ.1 19) - 1))), pA τ 19 (pIt w G (cN (σ.1 19) - 1))) 149 [some (.ref 18), some (.int (nI G)), some (.int (nI (k))), D] [] (pA τ 19 (pIt w G k)) := by
  intro n
  induction n with
  | zero =>
    intro k hk
    obtain rfl : k = cN (σ.1 19) - 1 := by omega
    have hz : (pA τ 19 (pIt w G (cN (σ.1 19) - 1))).1 19 0 = nI (cN (σ.1 19) - 1) := by rw [pA_at, pIt_lo _ _ (by decide)]; exact hw
    refine x_iload_n (pc' := 150) rfl dX10_drop_149 rfl ?_
    refine x_aload_n (pc' := 151) rfl dX10_drop_150 rfl ?_
    refine x_get (v := .ref 19) (pc' := 154) fk_X10_7 (by first | assumption | exact ⟨by decide, rfl⟩) rfl dX10_drop_151 rfl ?_
    refine x_iconst (v := 0) (pc' := 155) (by decide) dX10_drop_154 rfl ?_
    refine x_ialdn (N := 338) (n := 0) (pc' := 156) (by first | assumption | exact ⟨by decide, rfl⟩) (by decide) rfl (by decide) dX10_drop_155 rfl ?_
    refine x_icmp_ge (tgt := 196) (pc' := 159) (by decide) dX10_drop_156 rfl (fun c156 => ?_) (fun c156 => absurd (by rw [hz]; exact nI_le (by omega) (by omega)) c156)
    refine x_aload_n (pc' := 197) rfl dX10_drop_196 rfl ?_
    refine x_get (v := .ref 19) (pc' := 200) fk_X10_7 (by first | assumption | exact ⟨by decide, rfl⟩) rfl dX10_drop_197 rfl ?_
    refine x_iconst (v := 0) (pc' := 201) (by decide) dX10_drop_200 rfl ?_
    refine x_ialdn (N := 338) (n := 0) (pc' := 202) (by first | assumption | exact ⟨by decide, rfl⟩) (by decide) rfl (by decide) dX10_drop_201 rfl ?_
    exact x_iret rfl dX10_drop_202 (ret_i hz)
  | succ n ih =>
    intro k hk
    have hz : (pA τ 19 (pIt w G k)).1 19 0 = nI (cN (σ.1 19) - 1) := by rw [pA_at, pIt_lo _ _ (by decide)]; exact hw
    have hs : (pA τ 19 (pIt w G k)).1 19 = pIt w G k := pA_at _ _ _
    have k189 : Ex M_X10_drop (some (.int (nI (cN (σ.1 19) - 1))), pA τ 19 (pIt w G (cN (σ.1 19) - 1))) 189 [some (.ref 18), some (.int (nI G)), some (.int (nI (k))), D] [.int (lowP G (pIt w G k (2 + 6 * k))), .int (nI (2 + 6 * k)), .ref 19] (pA τ 19 (pIt w G k)) := by
      refine x_iastn (N := 338) (n := 2 + 6 * k) (pc' := 190) (by first | assumption | exact ⟨by decide, rfl⟩) (by decide) rfl (by omega) dX10_drop_189 rfl ?_
      refine x_st (pA_pI _ _ _ _ _) ?_
      refine x_iinc (lv' := [_, _, _, _]) (pc' := 193) rfl (nI_1 k) (by decide) rfl dX10_drop_190 rfl ?_
      refine x_goto (tgt := 149) (by decide) dX10_drop_193 ?_
      exact ih (k + 1) (by omega)
    refine x_iload_n (pc' := 150) rfl dX10_drop_149 rfl ?_
    refine x_aload_n (pc' := 151) rfl dX10_drop_150 rfl ?_
    refine x_get (v := .ref 19) (pc' := 154) fk_X10_7 (by first | assumption | exact ⟨by decide, rfl⟩) rfl dX10_drop_151 rfl ?_
    refine x_iconst (v := 0) (pc' := 155) (by decide) dX10_drop_154 rfl ?_
    refine x_ialdn (N := 338) (n := 0) (pc' := 156) (by first | assumption | exact ⟨by decide, rfl⟩) (by decide) rfl (by decide) dX10_drop_155 rfl ?_
    refine x_icmp_ge (tgt := 196) (pc' := 159) (by decide) dX10_drop_156 rfl (fun c156 => absurd c156 (by rw [hz]; exact nI_ge (by omega) (by omega))) (fun c156 => ?_)
    refine x_aload_n (pc' := 160) rfl dX10_drop_159 rfl ?_
    refine x_get (v := .ref 19) (pc' := 163) fk_X10_7 (by first | assumption | exact ⟨by decide, rfl⟩) rfl dX10_drop_160 rfl ?_
    refine x_iconst (v := 2) (pc' := 164) (by decide) dX10_drop_163 rfl ?_
    refine x_bipush (v := 6) (pc' := 166) (by decide) dX10_drop_164 rfl ?_
    refine x_iload_n (pc' := 167) rfl dX10_drop_166 rfl ?_
    refine x_imul (pc' := 168) dX10_drop_167 rfl ?_
    refine x_iadd (pc' := 169) dX10_drop_168 rfl ?_
    refine x_iconst (v := 0) (pc' := 170) (by decide) dX10_drop_169 rfl ?_
    refine x_iadd (pc' := 171) dX10_drop_170 rfl ?_
    refine x_top (y := nI (2 + 6 * k)) (by simp only [lit32, pk_mul, nI_add]; rfl) ?_
    refine x_dup2 (pc' := 172) rfl rfl dX10_drop_171 rfl ?_
    refine x_ialdn (N := 338) (n := 2 + 6 * k) (pc' := 173) (by first | assumption | exact ⟨by decide, rfl⟩) (by decide) rfl (by omega) dX10_drop_172 rfl ?_
    refine x_aload_n (pc' := 174) rfl dX10_drop_173 rfl ?_
    refine x_iload_n (pc' := 175) rfl dX10_drop_174 rfl ?_
    refine x_iconst (v := 0) (pc' := 176) (by decide) dX10_drop_175 rfl ?_
    refine x_callVi (As := [.int _, .int _]) (rest := [.int _, .int _, .ref _]) (ci := 9) (pc' := 179) rfl vk_X10_58 mk_X10_its (by decide) (by first | assumption | exact ⟨by decide, rfl⟩) (by decide) rfl (Nat.le_of_ble_eq_true rfl) dX10_drop_176 rfl (v_X10_its hs (E := 0) rfl rfl (by omega)) ?_
    refine x_iload_n (pc' := 180) rfl dX10_drop_179 rfl ?_
    refine x_icmp_le (tgt := 187) (pc' := 183) (by decide) dX10_drop_180 rfl (fun c180 => ?_) (fun c180 => ?_)
    · refine x_iconst (v := 0) (pc' := 188) (by decide) dX10_drop_187 rfl ?_
      refine x_isub (pc' := 189) dX10_drop_188 rfl ?_
      exact x_top (by rw [pA_at, lowP, pif_f (P := nI G < pIt w G k (2 + 6 * k)) (fun q => i_nlt.mpr c180 q)]; exact Int32.sub_zero _) k189
    · refine x_iconst (v := 1) (pc' := 184) (by decide) dX10_drop_183 rfl ?_
      refine x_goto (tgt := 188) (by decide) dX10_drop_184 ?_
      refine x_isub (pc' := 189) dX10_drop_188 rfl ?_
      exact x_top (by rw [pA_at, lowP, pif_t (P := nI G < pIt w G k (2 + 6 * k)) (i_nle.mp c180)]) k189
set_option maxRecDepth 100000 in
set_option maxHeartbeats 4000000 in
theorem l_X10_drop3 {σ τ : St} {G : Nat} {out : Option Value × St} (hN : cN (σ.1 19) ≤ 6) (hG : G < cN (σ.1 19)) (kk : ∀ D, Ex M_X10_drop out 147 [some (.ref 18), some (.int (nI G)), some (.int (nI (cN (σ.1 19) - 1))), D] [] (pA τ 19 (dIt (upd (σ.1 19) 0 (nI (cN (σ.1 19) - 1))) G (cN (σ.1 19) - 1 - G)))) : ∀ (n k : Nat) (D : Option Value), k + n = cN (σ.1 19) - 1 - G → Ex M_X10_drop out 43 [some (.ref 18), some (.int (nI G)), some (.int (nI (G + k))), D] [] (pA τ 19 (dIt (upd (σ.1 19) 0 (nI (cN (σ.1 19) - 1))) G k)) := by
  intro n
  induction n with
  | zero =>
    intro k D hk
    obtain rfl : k = cN (σ.1 19) - 1 - G := by omega
    have hz : (pA τ 19 (dIt (upd (σ.1 19) 0 (nI (cN (σ.1 19) - 1))) G (cN (σ.1 19) - 1 - G))).1 19 0 = nI (cN (σ.1 19) - 1) := by rw [pA_at, dIt_lo _ _ (by decide)]; rfl
    have e : G + (cN (σ.1 19) - 1 - G) = cN (σ.1 19) - 1 := by omega
    rw [e]
    refine x_iload_n (pc' := 44) rfl dX10_drop_43 rfl ?_
    refine x_aload_n (pc' := 45) rfl dX10_drop_44 rfl ?_
    refine x_get (v := .ref 19) (pc' := 48) fk_X10_7 (by first | assumption | exact ⟨by decide, rfl⟩) rfl dX10_drop_45 rfl ?_
    refine x_iconst (v := 0) (pc' := 49) (by decide) dX10_drop_48 rfl ?_
    refine x_ialdn (N := 338) (n := 0) (pc' := 50) (by first | assumption | exact ⟨by decide, rfl⟩) (by decide) rfl (by decide) dX10_drop_49 rfl ?_
    refine x_icmp_ge (tgt := 147) (pc' := 53) (by decide) dX10_drop_50 rfl (fun c50 => ?_) (fun c50 => absurd (by rw [hz]; exact nI_le (by omega) (by omega)) c50)
    exact kk D
  | succ n ih =>
    intro k D hk
    have hz : (pA τ 19 (dIt (upd (σ.1 19) 0 (nI (cN (σ.1 19) - 1))) G k)).1 19 0 = nI (cN (σ.1 19) - 1) := by rw [pA_at, dIt_lo _ _ (by decide)]; rfl
    refine x_iload_n (pc' := 44) rfl dX10_drop_43 rfl ?_
    refine x_aload_n (pc' := 45) rfl dX10_drop_44 rfl ?_
    refine x_get (v := .ref 19) (pc' := 48) fk_X10_7 (by first | assumption | exact ⟨by decide, rfl⟩) rfl dX10_drop_45 rfl ?_
    refine x_iconst (v := 0) (pc' := 49) (by decide) dX10_drop_48 rfl ?_
    refine x_ialdn (N := 338) (n := 0) (pc' := 50) (by first | assumption | exact ⟨by decide, rfl⟩) (by decide) rfl (by decide) dX10_drop_49 rfl ?_
    refine x_icmp_ge (tgt := 147) (pc' := 53) (by decide) dX10_drop_50 rfl (fun c50 => absurd c50 (by rw [hz]; exact nI_ge (by omega) (by omega))) (fun c50 => ?_)
    refine x_iconst (v := 0) (pc' := 54) (by decide) dX10_drop_53 rfl ?_
    refine x_istore_n (lv' := [_, _, _, _]) (pc' := 55) (by decide) rfl dX10_drop_54 rfl ?_
    refine x_st (σ' := pA τ 19 (d1P (dIt (upd (σ.1 19) 0 (nI (cN (σ.1 19) - 1))) G k) (G + k) 0)) (by rw [d1P_0]) ?_
    refine l_X10_drop1 (by omega) ?_ _ 0 (Nat.zero_add _)
    refine x_iconst (v := 0) (pc' := 97) (by decide) dX10_drop_96 rfl ?_
    refine x_istore_n (lv' := [_, _, _, _]) (pc' := 98) (by decide) rfl dX10_drop_97 rfl ?_
    refine x_st (σ' := pA τ 19 (d2P (d1P (dIt (upd (σ.1 19) 0 (nI (cN (σ.1 19) - 1))) G k) (G + k) 6) (G + k) 0)) (by rw [d2P_0]) ?_
    refine l_X10_drop2 (by omega) ?_ _ 0 (Nat.zero_add _)
    refine x_iinc (lv' := [_, _, _, _]) (pc' := 144) rfl (nI_1 _) (by decide) rfl dX10_drop_141 rfl ?_
    refine x_goto (tgt := 43) (by decide) dX10_drop_144 ?_
    exact ih (k + 1) _ (by omega)
set_option maxRecDepth 100000 in
set_option maxHeartbeats 4000000 in
theorem a_X10_drop {σ : St} {G : Nat} (hv : Ok (σ.1 19)) (hG : G < cN (σ.1 19)) (hch : chN (σ.1 19) (nI G) (cN (σ.1 19)) = 0) {U : Nat} (hU : σ.1 18 3 = nI U) (hU16 : U ≤ 16) : ∃ σ', Ct yX10_drop M_X10_drop [.ref 18, .int (nI G)] σ (some (.int (nI (cN (σ.1 19) - 1))), σ') ∧ DeedM σ σ' U (drpV (σ.1 19) G) := by
  obtain ⟨τ, hN, hpu⟩ := c_X10_notes (σ := pI σ 18 0 0) hU hU16
  have hs : τ.1 19 = σ.1 19 := by rw [hpu.row (by decide) (by decide), pI_ne (by decide)]
  have hs0 : (pI σ 18 0 0).1 19 = σ.1 19 := pI_ne (by decide)
  have h6 := hv.c6
  have hg : 0 ≤ nI G ∧ nI G < nI (cN (σ.1 19)) := ⟨nI_pos' (by omega), nI_lt hG (by omega)⟩
  refine ⟨_, ?_, deed_of hpu _⟩
  refine ct_of (k := 2) rfl rfl rfl (Nat.le_of_ble_eq_true rfl) ?_
  refine x_aload_n (pc' := 1) rfl dX10_drop_0 rfl ?_
  refine x_iconst (v := 0) (pc' := 2) (by decide) dX10_drop_1 rfl ?_
  refine x_puti (pc' := 5) fk_X10_46 pk_9_0 rfl (by first | assumption | exact ⟨by decide, rfl⟩) dX10_drop_2 rfl ?_
  refine x_aload_n (pc' := 6) rfl dX10_drop_5 rfl ?_
  refine x_iload_n (pc' := 7) rfl dX10_drop_6 rfl ?_
  refine x_callVi (As := [.int _]) (rest := []) (ci := 9) (pc' := 10) rfl vk_X10_54 mk_X10_isGrid (by decide) (by first | assumption | exact ⟨by decide, rfl⟩) (by decide) rfl (Nat.le_of_ble_eq_true rfl) dX10_drop_7 rfl (c_X10_isGrid (σ := pI σ 18 0 0) hv.c0 hv.c6) ?_
  refine x_if_ne (tgt := 16) (pc' := 13) (by decide) dX10_drop_10 rfl (fun c10 => ?_) (fun c10 => absurd c10 (by rw [b1 hg]; decide))
  refine x_aload_n (pc' := 17) rfl dX10_drop_16 rfl ?_
  refine x_iload_n (pc' := 18) rfl dX10_drop_17 rfl ?_
  refine x_callVi (As := [.int _]) (rest := []) (ci := 9) (pc' := 21) rfl vk_X10_173 mk_X10_children (by decide) (by first | assumption | exact ⟨by decide, rfl⟩) (by decide) rfl (Nat.le_of_ble_eq_true rfl) dX10_drop_18 rfl (v_X10_children hs0 hv) ?_
  refine x_if_le (tgt := 27) (pc' := 24) (by decide) dX10_drop_21 rfl (fun c21 => ?_) (fun c21 => absurd (by rw [hch]; decide) c21)
  refine x_aload_n (pc' := 28) rfl dX10_drop_27 rfl ?_
  refine x_callVv (As := []) (rest := []) (ci := 9) (pc' := 31) rfl vk_X10_223 mk_X10_notes (by decide) (by first | assumption | exact ⟨by decide, rfl⟩) (by decide) rfl (Nat.le_of_ble_eq_true rfl) dX10_drop_28 rfl hN ?_
  refine x_aload_n (pc' := 32) rfl dX10_drop_31 rfl ?_
  refine x_get (v := .ref 19) (pc' := 35) fk_X10_7 (by first | assumption | exact ⟨by decide, rfl⟩) rfl dX10_drop_32 rfl ?_
  refine x_iconst (v := 0) (pc' := 36) (by decide) dX10_drop_35 rfl ?_
  refine x_dup2 (pc' := 37) rfl rfl dX10_drop_36 rfl ?_
  refine x_ialdn (N := 338) (n := 0) (pc' := 38) (by first | assumption | exact ⟨by decide, rfl⟩) (by decide) rfl (by decide) dX10_drop_37 rfl ?_
  refine x_iconst (v := 1) (pc' := 39) (by decide) dX10_drop_38 rfl ?_
  refine x_isub (pc' := 40) dX10_drop_39 rfl ?_
  refine x_top (y := nI (cN (σ.1 19) - 1)) (by rw [hs, hv.c0]; exact pk_sub (b := 1) (by omega)) ?_
  refine x_iastn (N := 338) (n := 0) (pc' := 41) (by first | assumption | exact ⟨by decide, rfl⟩) (by decide) rfl (by decide) dX10_drop_40 rfl ?_
  refine x_st (pI_pA _ _ _ _) ?_
  rw [hs]
  refine x_iload_n (pc' := 42) rfl dX10_drop_41 rfl ?_
  refine x_istore_n (lv' := [_, _, _, _]) (pc' := 43) (by decide) rfl dX10_drop_42 rfl ?_
  refine l_X10_drop3 (τ := τ) h6 hG (fun D => ?_) _ 0 none (Nat.zero_add _)
  refine x_iconst (v := 0) (pc' := 148) (by decide) dX10_drop_147 rfl ?_
  refine x_istore_n (lv' := [_, _, _, _]) (pc' := 149) (by decide) rfl dX10_drop_148 rfl ?_
  exact l_X10_drop4 h6 (by rw [dIt_lo _ _ (by decide)]; rfl) (by omega) _ 0 (Nat.zero_add _)
set_option maxRecDepth 100000 in
set_option maxHeartbeats 4000000 in
theorem r_X10_drop {σ : St} {g : Int32} (hv : Ok (σ.1 19)) (hn : ¬ (grS (σ.1 19) g ∧ chN (σ.1 19) g (cN (σ.1 19)) = 0)) : ∃ σ', Ct yX10_drop M_X10_drop [.ref 18, .int g] σ (some (.int (pif (grS (σ.1 19) g) (-1000000003) (-1000000001))), σ') ∧ ScM σ σ' := by
  have h6 := hv.c6
  have hs0 : (pI σ 18 0 0).1 19 = σ.1 19 := pI_ne (by decide)
  refine ⟨_, ?_, ScM.thr σ 0⟩
  by_cases h : grS (σ.1 19) g
  · rw [pif_t h]
    have hc : ¬ chN (σ.1 19) g (cN (σ.1 19)) = 0 := fun q => hn ⟨h, q⟩
    have hb : chN (σ.1 19) g (cN (σ.1 19)) ≤ cN (σ.1 19) * 1 := sumN_le _ (fun k _ => pif_le1 _)
    refine ct_of (k := 2) rfl rfl rfl (Nat.le_of_ble_eq_true rfl) ?_
    refine x_aload_n (pc' := 1) rfl dX10_drop_0 rfl ?_
    refine x_iconst (v := 0) (pc' := 2) (by decide) dX10_drop_1 rfl ?_
    refine x_puti (pc' := 5) fk_X10_46 pk_9_0 rfl (by first | assumption | exact ⟨by decide, rfl⟩) dX10_drop_2 rfl ?_
    refine x_aload_n (pc' := 6) rfl dX10_drop_5 rfl ?_
    refine x_iload_n (pc' := 7) rfl dX10_drop_6 rfl ?_
    refine x_callVi (As := [.int _]) (rest := []) (ci := 9) (pc' := 10) rfl vk_X10_54 mk_X10_isGrid (by decide) (by first | assumption | exact ⟨by decide, rfl⟩) (by decide) rfl (Nat.le_of_ble_eq_true rfl) dX10_drop_7 rfl (c_X10_isGrid (σ := pI σ 18 0 0) hv.c0 hv.c6) ?_
    refine x_if_ne (tgt := 16) (pc' := 13) (by decide) dX10_drop_10 rfl (fun c10 => ?_) (fun c10 => absurd c10 (by rw [b1 ((grS_iff hv).mpr h)]; decide))
    refine x_aload_n (pc' := 17) rfl dX10_drop_16 rfl ?_
    refine x_iload_n (pc' := 18) rfl dX10_drop_17 rfl ?_
    refine x_callVi (As := [.int _]) (rest := []) (ci := 9) (pc' := 21) rfl vk_X10_173 mk_X10_children (by decide) (by first | assumption | exact ⟨by decide, rfl⟩) (by decide) rfl (Nat.le_of_ble_eq_true rfl) dX10_drop_18 rfl (v_X10_children hs0 hv) ?_
    refine x_if_le (tgt := 27) (pc' := 24) (by decide) dX10_drop_21 rfl (fun c21 => absurd c21 (nI_nle (by omega) (by omega))) (fun c21 => ?_)
    refine x_ldc (pc' := 26) kc_X10_221 dX10_drop_24 rfl ?_
    exact x_iret rfl dX10_drop_26 rfl
  · rw [pif_f h]
    refine ct_of (k := 2) rfl rfl rfl (Nat.le_of_ble_eq_true rfl) ?_
    refine x_aload_n (pc' := 1) rfl dX10_drop_0 rfl ?_
    refine x_iconst (v := 0) (pc' := 2) (by decide) dX10_drop_1 rfl ?_
    refine x_puti (pc' := 5) fk_X10_46 pk_9_0 rfl (by first | assumption | exact ⟨by decide, rfl⟩) dX10_drop_2 rfl ?_
    refine x_aload_n (pc' := 6) rfl dX10_drop_5 rfl ?_
    refine x_iload_n (pc' := 7) rfl dX10_drop_6 rfl ?_
    refine x_callVi (As := [.int _]) (rest := []) (ci := 9) (pc' := 10) rfl vk_X10_54 mk_X10_isGrid (by decide) (by first | assumption | exact ⟨by decide, rfl⟩) (by decide) rfl (Nat.le_of_ble_eq_true rfl) dX10_drop_7 rfl (c_X10_isGrid (σ := pI σ 18 0 0) hv.c0 hv.c6) ?_
    refine x_if_ne (tgt := 16) (pc' := 13) (by decide) dX10_drop_10 rfl (fun c10 => absurd (b0 (fun q => h ((grS_iff hv).mp q))) c10) (fun c10 => ?_)
    refine x_ldc (pc' := 15) kc_X10_170 dX10_drop_13 rfl ?_
    exact x_iret rfl dX10_drop_15 rfl
