section LR2
variable {D : va_G} {ct : Nat → ClassId} {ad : Nat → Nat} {b L : Nat} {xs : Nat → Int32} {i pc pc' tgt : Nat} {st : List Value} {σ : St}
theorem y_lcmp {x : Int64} (hd : decode code pc = .ok (.lcmp, 1)) (hp : pc + 1 = pc') (kk : El D ct ad b L xs i pc' (.int 0 :: st) σ) : El D ct ad b L xs i pc (.long x :: .long x :: st) σ := by
  subst hp
  intro p l e s m below meth c C K hA H locs ls hP hS hl
  refine W.lcmp C.1 C.2.1 hd ?_
  have e0 : lg_cmp x x = 0 := by
    unfold lg_cmp
    first
      | simp
      | (split <;> simp_all)
  rw [e0]
  exact kk p l e s m below meth c C K hA H locs ls hP hS hl
theorem y_ifeq0 {off : Int} (ht : (pc : Int) + off = (tgt : Int)) (hd : decode code pc = .ok (.ifCond .eq off, 3)) (kk : El D ct ad b L xs i tgt st σ) : El D ct ad b L xs i pc (.int 0 :: st) σ :=
  fun p l e s m below meth c C K hA H locs ls hP hS hl => lv_if_eq C.1 C.2.1 hd ht (fun _ => kk p l e s m below meth c C K hA H locs ls hP hS hl) (fun q => absurd rfl q)
end LR2
theorem lw_no {i L : Nat} (hL : L < 2 ^ 30) (hi : i < 2 ^ 30) (h : ¬ Int32.ofNat L - 7 < nI i) : i + 7 ≤ L := by
  rw [sI_lt, nI_toInt (by omega), show (Int32.ofNat L - 7).toInt = (L : Int) - (7 : Nat) from pk_sub_toInt (a := L) (b := 7) hL (by decide)] at h
  omega
set_option maxRecDepth 100000 in
set_option maxHeartbeats 4000000 in
theorem law_loop {D : va_G} {ct : Nat → ClassId} {ad : Nat → Nat} {b L : Nat} {xs : Nat → Int32} (hL : L ≤ 3584) : ∀ (n i : Nat) (σ : St), L ≤ i + 7 * n → i ≤ L → RR σ → El D ct ad b L xs i 18 [] σ := by
  intro n
  induction n with
  | zero =>
    intro i σ h1 h2 hR
    refine y_i (pc' := 19) dL_law_18 rfl ?_
    refine y_scr (pc' := 20) dL_law_19 rfl ?_
    refine y_len (pc' := 21) dL_law_20 rfl ?_
    refine y_bipush (v := 7) (pc' := 23) (by decide) dL_law_21 rfl ?_
    refine y_isub (pc' := 24) dL_law_23 rfl ?_
    refine y_icmp_gt (tgt := 837) (pc' := 27) (by decide) dL_law_24 rfl (fun _ => ?_) (fun q => absurd (lw_no (by omega) (by omega) q) (by omega))
    refine y_iconst (v := 1) (pc' := 838) (by decide) dL_law_837 rfl ?_
    exact y_end dL_law_838
  | succ n ih =>
    intro i σ h1 h2 hR
    refine y_i (pc' := 19) dL_law_18 rfl ?_
    refine y_scr (pc' := 20) dL_law_19 rfl ?_
    refine y_len (pc' := 21) dL_law_20 rfl ?_
    refine y_bipush (v := 7) (pc' := 23) (by decide) dL_law_21 rfl ?_
    refine y_isub (pc' := 24) dL_law_23 rfl ?_
    refine y_icmp_gt (tgt := 837) (pc' := 27) (by decide) dL_law_24 rfl (fun _ => ?_) (fun q => ?_)
    · refine y_iconst (v := 1) (pc' := 838) (by decide) dL_law_837 rfl ?_
      exact y_end dL_law_838
    · have h7 : i + 7 ≤ L := lw_no (by omega) (by omega) q
      have fin : ∀ σ', RR σ' → El D ct ad b L xs i 831 [] σ' := fun σ' hR' => by
        refine y_inc (v := nI (i + 7)) (pc' := 834) (nI_add i 7) rfl dL_law_831 rfl ?_
        exact y_goto (tgt := 18) (by decide) dL_law_834 (ih (i + 7) σ' (by omega) h7 hR')
      refine y_scr (pc' := 28) dL_law_27 rfl ?_
      refine y_i (pc' := 29) dL_law_28 rfl ?_
      refine y_ld (pc' := 30) (vp_in_nI (by omega) (by omega)) dL_law_29 rfl ?_
      refine y_bipush (v := 31) (pc' := 32) (by decide) dL_law_30 rfl ?_
      refine y_iand (pc' := 33) dL_law_32 rfl ?_
      obtain ⟨j, hj, ej⟩ := pk_andE (xs (nI i).toNatClampNeg) (m := 31) 5 (by decide)
      refine y_top ej ?_
      by_cases h20 : j < 20
      · match j, h20 with
        | 0, _ =>
          refine y_tswIn (off := 95) (tgt := 128) (by decide) (by decide) (by decide) (by decide) dL_law_33 ?_
          obtain ⟨rr, σ1, σ2, c1, c2, c3⟩ := s_told hR (what := xs (nI (i + 1)).toNatClampNeg)
          refine y_cls (pc' := 129) dL_law_128 rfl ?_
          refine y_scr (pc' := 130) dL_law_129 rfl ?_
          refine y_i (pc' := 131) dL_law_130 rfl ?_
          refine y_iconst (v := 1) (pc' := 132) (by decide) dL_law_131 rfl ?_
          refine y_iadd (pc' := 133) dL_law_132 rfl ?_
          refine y_top (y := nI (i + 1)) (nI_add i 1) ?_
          refine y_ld (pc' := 134) (vp_in_nI (by omega) (by omega)) dL_law_133 rfl ?_
          refine y_call (As := [.int _]) (rest := []) (k := 0) (ci := 8) (pc' := 137) rfl vk_L_13 mk_X9_told ⟨Nat.le_of_ble_eq_true rfl, Nat.le_of_ble_eq_true rfl⟩ ⟨by decide, rfl⟩ rfl rfl rfl rfl (Nat.le_of_ble_eq_true rfl) dL_law_134 rfl c1 ?_
          refine y_mod (pc' := 138) dL_law_137 rfl ?_
          refine y_scr (pc' := 139) dL_law_138 rfl ?_
          refine y_i (pc' := 140) dL_law_139 rfl ?_
          refine y_iconst (v := 1) (pc' := 141) (by decide) dL_law_140 rfl ?_
          refine y_iadd (pc' := 142) dL_law_141 rfl ?_
          refine y_top (y := nI (i + 1)) (nI_add i 1) ?_
          refine y_ld (pc' := 143) (vp_in_nI (by omega) (by omega)) dL_law_142 rfl ?_
          refine y_call (As := [.int _]) (rest := [.int _]) (k := 18) (ci := 9) (pc' := 146) rfl vk_L_17 mk_X10_told ⟨Nat.le_of_ble_eq_true rfl, Nat.le_of_ble_eq_true rfl⟩ ⟨by decide, rfl⟩ rfl rfl rfl rfl (Nat.le_of_ble_eq_true rfl) dL_law_143 rfl c2 ?_
          exact y_icmp_eq (tgt := 831) (by decide) dL_law_146 (fin σ2 c3)
        | 1, _ =>
          refine y_tswIn (off := 118) (tgt := 151) (by decide) (by decide) (by decide) (by decide) dL_law_33 ?_
          obtain ⟨rr, σ1, σ2, c1, c2, c3⟩ := s_gridAt hR (g := xs (nI (i + 1)).toNatClampNeg) (what := xs (nI (i + 2)).toNatClampNeg)
          refine y_cls (pc' := 152) dL_law_151 rfl ?_
          refine y_scr (pc' := 153) dL_law_152 rfl ?_
          refine y_i (pc' := 154) dL_law_153 rfl ?_
          refine y_iconst (v := 1) (pc' := 155) (by decide) dL_law_154 rfl ?_
          refine y_iadd (pc' := 156) dL_law_155 rfl ?_
          refine y_top (y := nI (i + 1)) (nI_add i 1) ?_
          refine y_ld (pc' := 157) (vp_in_nI (by omega) (by omega)) dL_law_156 rfl ?_
          refine y_scr (pc' := 158) dL_law_157 rfl ?_
          refine y_i (pc' := 159) dL_law_158 rfl ?_
          refine y_iconst (v := 2) (pc' := 160) (by decide) dL_law_159 rfl ?_
          refine y_iadd (pc' := 161) dL_law_160 rfl ?_
          refine y_top (y := nI (i + 2)) (nI_add i 2) ?_
          refine y_ld (pc' := 162) (vp_in_nI (by omega) (by omega)) dL_law_161 rfl ?_
          refine y_call (As := [.int _, .int _]) (rest := []) (k := 0) (ci := 8) (pc' := 165) rfl vk_L_18 mk_X9_gridAt ⟨Nat.le_of_ble_eq_true rfl, Nat.le_of_ble_eq_true rfl⟩ ⟨by decide, rfl⟩ rfl rfl rfl rfl (Nat.le_of_ble_eq_true rfl) dL_law_162 rfl c1 ?_
          refine y_mod (pc' := 166) dL_law_165 rfl ?_
          refine y_scr (pc' := 167) dL_law_166 rfl ?_
          refine y_i (pc' := 168) dL_law_167 rfl ?_
          refine y_iconst (v := 1) (pc' := 169) (by decide) dL_law_168 rfl ?_
          refine y_iadd (pc' := 170) dL_law_169 rfl ?_
          refine y_top (y := nI (i + 1)) (nI_add i 1) ?_
          refine y_ld (pc' := 171) (vp_in_nI (by omega) (by omega)) dL_law_170 rfl ?_
          refine y_scr (pc' := 172) dL_law_171 rfl ?_
          refine y_i (pc' := 173) dL_law_172 rfl ?_
          refine y_iconst (v := 2) (pc' := 174) (by decide) dL_law_173 rfl ?_
          refine y_iadd (pc' := 175) dL_law_174 rfl ?_
          refine y_top (y := nI (i + 2)) (nI_add i 2) ?_
          refine y_ld (pc' := 176) (vp_in_nI (by omega) (by omega)) dL_law_175 rfl ?_
          refine y_call (As := [.int _, .int _]) (rest := [.int _]) (k := 18) (ci := 9) (pc' := 179) rfl vk_L_22 mk_X10_gridAt ⟨Nat.le_of_ble_eq_true rfl, Nat.le_of_ble_eq_true rfl⟩ ⟨by decide, rfl⟩ rfl rfl rfl rfl (Nat.le_of_ble_eq_true rfl) dL_law_176 rfl c2 ?_
          exact y_icmp_eq (tgt := 831) (by decide) dL_law_179 (fin σ2 c3)
        | 2, _ =>
          refine y_tswIn (off := 151) (tgt := 184) (by decide) (by decide) (by decide) (by decide) dL_law_33 ?_
          obtain ⟨rr, σ1, σ2, c1, c2, c3⟩ := s_nodeAt hR (g := xs (nI (i + 1)).toNatClampNeg) (c := xs (nI (i + 2)).toNatClampNeg) (r := xs (nI (i + 3)).toNatClampNeg) (what := xs (nI (i + 4)).toNatClampNeg)
          refine y_cls (pc' := 185) dL_law_184 rfl ?_
          refine y_scr (pc' := 186) dL_law_185 rfl ?_
          refine y_i (pc' := 187) dL_law_186 rfl ?_
          refine y_iconst (v := 1) (pc' := 188) (by decide) dL_law_187 rfl ?_
          refine y_iadd (pc' := 189) dL_law_188 rfl ?_
          refine y_top (y := nI (i + 1)) (nI_add i 1) ?_
          refine y_ld (pc' := 190) (vp_in_nI (by omega) (by omega)) dL_law_189 rfl ?_
          refine y_scr (pc' := 191) dL_law_190 rfl ?_
          refine y_i (pc' := 192) dL_law_191 rfl ?_
          refine y_iconst (v := 2) (pc' := 193) (by decide) dL_law_192 rfl ?_
          refine y_iadd (pc' := 194) dL_law_193 rfl ?_
          refine y_top (y := nI (i + 2)) (nI_add i 2) ?_
          refine y_ld (pc' := 195) (vp_in_nI (by omega) (by omega)) dL_law_194 rfl ?_
          refine y_scr (pc' := 196) dL_law_195 rfl ?_
          refine y_i (pc' := 197) dL_law_196 rfl ?_
          refine y_iconst (v := 3) (pc' := 198) (by decide) dL_law_197 rfl ?_
          refine y_iadd (pc' := 199) dL_law_198 rfl ?_
          refine y_top (y := nI (i + 3)) (nI_add i 3) ?_
          refine y_ld (pc' := 200) (vp_in_nI (by omega) (by omega)) dL_law_199 rfl ?_
          refine y_scr (pc' := 201) dL_law_200 rfl ?_
          refine y_i (pc' := 202) dL_law_201 rfl ?_
          refine y_iconst (v := 4) (pc' := 203) (by decide) dL_law_202 rfl ?_
          refine y_iadd (pc' := 204) dL_law_203 rfl ?_
          refine y_top (y := nI (i + 4)) (nI_add i 4) ?_
          refine y_ld (pc' := 205) (vp_in_nI (by omega) (by omega)) dL_law_204 rfl ?_
          refine y_call (As := [.int _, .int _, .int _, .int _]) (rest := []) (k := 0) (ci := 8) (pc' := 208) rfl vk_L_23 mk_X9_nodeAt ⟨Nat.le_of_ble_eq_true rfl, Nat.le_of_ble_eq_true rfl⟩ ⟨by decide, rfl⟩ rfl rfl rfl rfl (Nat.le_of_ble_eq_true rfl) dL_law_205 rfl c1 ?_
          refine y_mod (pc' := 209) dL_law_208 rfl ?_
          refine y_scr (pc' := 210) dL_law_209 rfl ?_
          refine y_i (pc' := 211) dL_law_210 rfl ?_
          refine y_iconst (v := 1) (pc' := 212) (by decide) dL_law_211 rfl ?_
          refine y_iadd (pc' := 213) dL_law_212 rfl ?_
          refine y_top (y := nI (i + 1)) (nI_add i 1) ?_
          refine y_ld (pc' := 214) (vp_in_nI (by omega) (by omega)) dL_law_213 rfl ?_
          refine y_scr (pc' := 215) dL_law_214 rfl ?_
          refine y_i (pc' := 216) dL_law_215 rfl ?_
          refine y_iconst (v := 2) (pc' := 217) (by decide) dL_law_216 rfl ?_
          refine y_iadd (pc' := 218) dL_law_217 rfl ?_
          refine y_top (y := nI (i + 2)) (nI_add i 2) ?_
          refine y_ld (pc' := 219) (vp_in_nI (by omega) (by omega)) dL_law_218 rfl ?_
          refine y_scr (pc' := 220) dL_law_219 rfl ?_
          refine y_i (pc' := 221) dL_law_220 rfl ?_
          refine y_iconst (v := 3) (pc' := 222) (by decide) dL_law_221 rfl ?_
          refine y_iadd (pc' := 223) dL_law_222 rfl ?_
          refine y_top (y := nI (i + 3)) (nI_add i 3) ?_
          refine y_ld (pc' := 224) (vp_in_nI (by omega) (by omega)) dL_law_223 rfl ?_
          refine y_scr (pc' := 225) dL_law_224 rfl ?_
          refine y_i (pc' := 226) dL_law_225 rfl ?_
          refine y_iconst (v := 4) (pc' := 227) (by decide) dL_law_226 rfl ?_
          refine y_iadd (pc' := 228) dL_law_227 rfl ?_
          refine y_top (y := nI (i + 4)) (nI_add i 4) ?_
          refine y_ld (pc' := 229) (vp_in_nI (by omega) (by omega)) dL_law_228 rfl ?_
          refine y_call (As := [.int _, .int _, .int _, .int _]) (rest := [.int _]) (k := 18) (ci := 9) (pc' := 232) rfl vk_L_27 mk_X10_nodeAt ⟨Nat.le_of_ble_eq_true rfl, Nat.le_of_ble_eq_true rfl⟩ ⟨by decide, rfl⟩ rfl rfl rfl rfl (Nat.le_of_ble_eq_true rfl) dL_law_229 rfl c2 ?_
          exact y_icmp_eq (tgt := 831) (by decide) dL_law_232 (fin σ2 c3)
        | 3, _ =>
          refine y_tswIn (off := 204) (tgt := 237) (by decide) (by decide) (by decide) (by decide) dL_law_33 ?_
          obtain ⟨rr, σ1, σ2, c1, c2, c3⟩ := s_cellAt hR (g := xs (nI (i + 1)).toNatClampNeg) (c := xs (nI (i + 2)).toNatClampNeg) (r := xs (nI (i + 3)).toNatClampNeg) (what := xs (nI (i + 4)).toNatClampNeg)
          refine y_cls (pc' := 238) dL_law_237 rfl ?_
          refine y_scr (pc' := 239) dL_law_238 rfl ?_
          refine y_i (pc' := 240) dL_law_239 rfl ?_
          refine y_iconst (v := 1) (pc' := 241) (by decide) dL_law_240 rfl ?_
          refine y_iadd (pc' := 242) dL_law_241 rfl ?_
          refine y_top (y := nI (i + 1)) (nI_add i 1) ?_
          refine y_ld (pc' := 243) (vp_in_nI (by omega) (by omega)) dL_law_242 rfl ?_
          refine y_scr (pc' := 244) dL_law_243 rfl ?_
          refine y_i (pc' := 245) dL_law_244 rfl ?_
          refine y_iconst (v := 2) (pc' := 246) (by decide) dL_law_245 rfl ?_
          refine y_iadd (pc' := 247) dL_law_246 rfl ?_
          refine y_top (y := nI (i + 2)) (nI_add i 2) ?_
          refine y_ld (pc' := 248) (vp_in_nI (by omega) (by omega)) dL_law_247 rfl ?_
          refine y_scr (pc' := 249) dL_law_248 rfl ?_
          refine y_i (pc' := 250) dL_law_249 rfl ?_
          refine y_iconst (v := 3) (pc' := 251) (by decide) dL_law_250 rfl ?_
          refine y_iadd (pc' := 252) dL_law_251 rfl ?_
          refine y_top (y := nI (i + 3)) (nI_add i 3) ?_
          refine y_ld (pc' := 253) (vp_in_nI (by omega) (by omega)) dL_law_252 rfl ?_
          refine y_scr (pc' := 254) dL_law_253 rfl ?_
          refine y_i (pc' := 255) dL_law_254 rfl ?_
          refine y_iconst (v := 4) (pc' := 256) (by decide) dL_law_255 rfl ?_
          refine y_iadd (pc' := 257) dL_law_256 rfl ?_
          refine y_top (y := nI (i + 4)) (nI_add i 4) ?_
          refine y_ld (pc' := 258) (vp_in_nI (by omega) (by omega)) dL_law_257 rfl ?_
          refine y_call (As := [.int _, .int _, .int _, .int _]) (rest := []) (k := 0) (ci := 8) (pc' := 261) rfl vk_L_28 mk_X9_cellAt ⟨Nat.le_of_ble_eq_true rfl, Nat.le_of_ble_eq_true rfl⟩ ⟨by decide, rfl⟩ rfl rfl rfl rfl (Nat.le_of_ble_eq_true rfl) dL_law_258 rfl c1 ?_
          refine y_mod (pc' := 262) dL_law_261 rfl ?_
          refine y_scr (pc' := 263) dL_law_262 rfl ?_
          refine y_i (pc' := 264) dL_law_263 rfl ?_
          refine y_iconst (v := 1) (pc' := 265) (by decide) dL_law_264 rfl ?_
          refine y_iadd (pc' := 266) dL_law_265 rfl ?_
          refine y_top (y := nI (i + 1)) (nI_add i 1) ?_
          refine y_ld (pc' := 267) (vp_in_nI (by omega) (by omega)) dL_law_266 rfl ?_
          refine y_scr (pc' := 268) dL_law_267 rfl ?_
          refine y_i (pc' := 269) dL_law_268 rfl ?_
          refine y_iconst (v := 2) (pc' := 270) (by decide) dL_law_269 rfl ?_
          refine y_iadd (pc' := 271) dL_law_270 rfl ?_
          refine y_top (y := nI (i + 2)) (nI_add i 2) ?_
          refine y_ld (pc' := 272) (vp_in_nI (by omega) (by omega)) dL_law_271 rfl ?_
          refine y_scr (pc' := 273) dL_law_272 rfl ?_
          refine y_i (pc' := 274) dL_law_273 rfl ?_
          refine y_iconst (v := 3) (pc' := 275) (by decide) dL_law_274 rfl ?_
          refine y_iadd (pc' := 276) dL_law_275 rfl ?_
          refine y_top (y := nI (i + 3)) (nI_add i 3) ?_
          refine y_ld (pc' := 277) (vp_in_nI (by omega) (by omega)) dL_law_276 rfl ?_
          refine y_scr (pc' := 278) dL_law_277 rfl ?_
          refine y_i (pc' := 279) dL_law_278 rfl ?_
          refine y_iconst (v := 4) (pc' := 280) (by decide) dL_law_279 rfl ?_
          refine y_iadd (pc' := 281) dL_law_280 rfl ?_
          refine y_top (y := nI (i + 4)) (nI_add i 4) ?_
          refine y_ld (pc' := 282) (vp_in_nI (by omega) (by omega)) dL_law_281 rfl ?_
          refine y_call (As := [.int _, .int _, .int _, .int _]) (rest := [.long _]) (k := 18) (ci := 9) (pc' := 285) rfl vk_L_32 mk_X10_cellAt ⟨Nat.le_of_ble_eq_true rfl, Nat.le_of_ble_eq_true rfl⟩ ⟨by decide, rfl⟩ rfl rfl rfl rfl (Nat.le_of_ble_eq_true rfl) dL_law_282 rfl c2 ?_
          refine y_lcmp (pc' := 286) dL_law_285 rfl ?_
          exact y_ifeq0 (tgt := 831) (by decide) dL_law_286 (fin σ2 c3)
        | 4, _ =>
          refine y_tswIn (off := 258) (tgt := 291) (by decide) (by decide) (by decide) (by decide) dL_law_33 ?_
          obtain ⟨rr, σ1, σ2, c1, c2, c3⟩ := s_which hR (x := xs (nI (i + 1)).toNatClampNeg) (y := xs (nI (i + 2)).toNatClampNeg)
          refine y_cls (pc' := 292) dL_law_291 rfl ?_
          refine y_scr (pc' := 293) dL_law_292 rfl ?_
          refine y_i (pc' := 294) dL_law_293 rfl ?_
          refine y_iconst (v := 1) (pc' := 295) (by decide) dL_law_294 rfl ?_
          refine y_iadd (pc' := 296) dL_law_295 rfl ?_
          refine y_top (y := nI (i + 1)) (nI_add i 1) ?_
          refine y_ld (pc' := 297) (vp_in_nI (by omega) (by omega)) dL_law_296 rfl ?_
          refine y_scr (pc' := 298) dL_law_297 rfl ?_
          refine y_i (pc' := 299) dL_law_298 rfl ?_
          refine y_iconst (v := 2) (pc' := 300) (by decide) dL_law_299 rfl ?_
          refine y_iadd (pc' := 301) dL_law_300 rfl ?_
          refine y_top (y := nI (i + 2)) (nI_add i 2) ?_
          refine y_ld (pc' := 302) (vp_in_nI (by omega) (by omega)) dL_law_301 rfl ?_
          refine y_call (As := [.int _, .int _]) (rest := []) (k := 0) (ci := 8) (pc' := 305) rfl vk_L_33 mk_X9_which ⟨Nat.le_of_ble_eq_true rfl, Nat.le_of_ble_eq_true rfl⟩ ⟨by decide, rfl⟩ rfl rfl rfl rfl (Nat.le_of_ble_eq_true rfl) dL_law_302 rfl c1 ?_
          refine y_mod (pc' := 306) dL_law_305 rfl ?_
          refine y_scr (pc' := 307) dL_law_306 rfl ?_
          refine y_i (pc' := 308) dL_law_307 rfl ?_
          refine y_iconst (v := 1) (pc' := 309) (by decide) dL_law_308 rfl ?_
          refine y_iadd (pc' := 310) dL_law_309 rfl ?_
          refine y_top (y := nI (i + 1)) (nI_add i 1) ?_
          refine y_ld (pc' := 311) (vp_in_nI (by omega) (by omega)) dL_law_310 rfl ?_
          refine y_scr (pc' := 312) dL_law_311 rfl ?_
          refine y_i (pc' := 313) dL_law_312 rfl ?_
          refine y_iconst (v := 2) (pc' := 314) (by decide) dL_law_313 rfl ?_
          refine y_iadd (pc' := 315) dL_law_314 rfl ?_
          refine y_top (y := nI (i + 2)) (nI_add i 2) ?_
          refine y_ld (pc' := 316) (vp_in_nI (by omega) (by omega)) dL_law_315 rfl ?_
          refine y_call (As := [.int _, .int _]) (rest := [.int _]) (k := 18) (ci := 9) (pc' := 319) rfl vk_L_36 mk_X10_which ⟨Nat.le_of_ble_eq_true rfl, Nat.le_of_ble_eq_true rfl⟩ ⟨by decide, rfl⟩ rfl rfl rfl rfl (Nat.le_of_ble_eq_true rfl) dL_law_316 rfl c2 ?_
          exact y_icmp_eq (tgt := 831) (by decide) dL_law_319 (fin σ2 c3)
        | 5, _ =>
          refine y_tswIn (off := 291) (tgt := 324) (by decide) (by decide) (by decide) (by decide) dL_law_33 ?_
          obtain ⟨rr, σ1, σ2, c1, c2, c3⟩ := s_moved hR (x := xs (nI (i + 1)).toNatClampNeg) (y := xs (nI (i + 2)).toNatClampNeg) (what := xs (nI (i + 3)).toNatClampNeg)
          refine y_cls (pc' := 325) dL_law_324 rfl ?_
          refine y_scr (pc' := 326) dL_law_325 rfl ?_
          refine y_i (pc' := 327) dL_law_326 rfl ?_
          refine y_iconst (v := 1) (pc' := 328) (by decide) dL_law_327 rfl ?_
          refine y_iadd (pc' := 329) dL_law_328 rfl ?_
          refine y_top (y := nI (i + 1)) (nI_add i 1) ?_
          refine y_ld (pc' := 330) (vp_in_nI (by omega) (by omega)) dL_law_329 rfl ?_
          refine y_scr (pc' := 331) dL_law_330 rfl ?_
          refine y_i (pc' := 332) dL_law_331 rfl ?_
          refine y_iconst (v := 2) (pc' := 333) (by decide) dL_law_332 rfl ?_
          refine y_iadd (pc' := 334) dL_law_333 rfl ?_
          refine y_top (y := nI (i + 2)) (nI_add i 2) ?_
          refine y_ld (pc' := 335) (vp_in_nI (by omega) (by omega)) dL_law_334 rfl ?_
          refine y_scr (pc' := 336) dL_law_335 rfl ?_
          refine y_i (pc' := 337) dL_law_336 rfl ?_
          refine y_iconst (v := 3) (pc' := 338) (by decide) dL_law_337 rfl ?_
          refine y_iadd (pc' := 339) dL_law_338 rfl ?_
          refine y_top (y := nI (i + 3)) (nI_add i 3) ?_
          refine y_ld (pc' := 340) (vp_in_nI (by omega) (by omega)) dL_law_339 rfl ?_
          refine y_call (As := [.int _, .int _, .int _]) (rest := []) (k := 0) (ci := 8) (pc' := 343) rfl vk_L_37 mk_X9_moved ⟨Nat.le_of_ble_eq_true rfl, Nat.le_of_ble_eq_true rfl⟩ ⟨by decide, rfl⟩ rfl rfl rfl rfl (Nat.le_of_ble_eq_true rfl) dL_law_340 rfl c1 ?_
          refine y_mod (pc' := 344) dL_law_343 rfl ?_
          refine y_scr (pc' := 345) dL_law_344 rfl ?_
          refine y_i (pc' := 346) dL_law_345 rfl ?_
          refine y_iconst (v := 1) (pc' := 347) (by decide) dL_law_346 rfl ?_
          refine y_iadd (pc' := 348) dL_law_347 rfl ?_
          refine y_top (y := nI (i + 1)) (nI_add i 1) ?_
          refine y_ld (pc' := 349) (vp_in_nI (by omega) (by omega)) dL_law_348 rfl ?_
          refine y_scr (pc' := 350) dL_law_349 rfl ?_
          refine y_i (pc' := 351) dL_law_350 rfl ?_
          refine y_iconst (v := 2) (pc' := 352) (by decide) dL_law_351 rfl ?_
          refine y_iadd (pc' := 353) dL_law_352 rfl ?_
          refine y_top (y := nI (i + 2)) (nI_add i 2) ?_
          refine y_ld (pc' := 354) (vp_in_nI (by omega) (by omega)) dL_law_353 rfl ?_
          refine y_scr (pc' := 355) dL_law_354 rfl ?_
          refine y_i (pc' := 356) dL_law_355 rfl ?_
          refine y_iconst (v := 3) (pc' := 357) (by decide) dL_law_356 rfl ?_
          refine y_iadd (pc' := 358) dL_law_357 rfl ?_
          refine y_top (y := nI (i + 3)) (nI_add i 3) ?_
          refine y_ld (pc' := 359) (vp_in_nI (by omega) (by omega)) dL_law_358 rfl ?_
          refine y_call (As := [.int _, .int _, .int _]) (rest := [.int _]) (k := 18) (ci := 9) (pc' := 362) rfl vk_L_41 mk_X10_moved ⟨Nat.le_of_ble_eq_true rfl, Nat.le_of_ble_eq_true rfl⟩ ⟨by decide, rfl⟩ rfl rfl rfl rfl (Nat.le_of_ble_eq_true rfl) dL_law_359 rfl c2 ?_
          exact y_icmp_eq (tgt := 831) (by decide) dL_law_362 (fin σ2 c3)
        | 6, _ =>
          refine y_tswIn (off := 334) (tgt := 367) (by decide) (by decide) (by decide) (by decide) dL_law_33 ?_
          obtain ⟨rr, σ1, σ2, c1, c2, c3⟩ := s_back hR (x := xs (nI (i + 1)).toNatClampNeg) (y := xs (nI (i + 2)).toNatClampNeg) (what := xs (nI (i + 3)).toNatClampNeg)
          refine y_cls (pc' := 368) dL_law_367 rfl ?_
          refine y_scr (pc' := 369) dL_law_368 rfl ?_
          refine y_i (pc' := 370) dL_law_369 rfl ?_
          refine y_iconst (v := 1) (pc' := 371) (by decide) dL_law_370 rfl ?_
          refine y_iadd (pc' := 372) dL_law_371 rfl ?_
          refine y_top (y := nI (i + 1)) (nI_add i 1) ?_
          refine y_ld (pc' := 373) (vp_in_nI (by omega) (by omega)) dL_law_372 rfl ?_
          refine y_scr (pc' := 374) dL_law_373 rfl ?_
          refine y_i (pc' := 375) dL_law_374 rfl ?_
          refine y_iconst (v := 2) (pc' := 376) (by decide) dL_law_375 rfl ?_
          refine y_iadd (pc' := 377) dL_law_376 rfl ?_
          refine y_top (y := nI (i + 2)) (nI_add i 2) ?_
          refine y_ld (pc' := 378) (vp_in_nI (by omega) (by omega)) dL_law_377 rfl ?_
          refine y_scr (pc' := 379) dL_law_378 rfl ?_
          refine y_i (pc' := 380) dL_law_379 rfl ?_
          refine y_iconst (v := 3) (pc' := 381) (by decide) dL_law_380 rfl ?_
          refine y_iadd (pc' := 382) dL_law_381 rfl ?_
          refine y_top (y := nI (i + 3)) (nI_add i 3) ?_
          refine y_ld (pc' := 383) (vp_in_nI (by omega) (by omega)) dL_law_382 rfl ?_
          refine y_call (As := [.int _, .int _, .int _]) (rest := []) (k := 0) (ci := 8) (pc' := 386) rfl vk_L_42 mk_X9_back ⟨Nat.le_of_ble_eq_true rfl, Nat.le_of_ble_eq_true rfl⟩ ⟨by decide, rfl⟩ rfl rfl rfl rfl (Nat.le_of_ble_eq_true rfl) dL_law_383 rfl c1 ?_
          refine y_mod (pc' := 387) dL_law_386 rfl ?_
          refine y_scr (pc' := 388) dL_law_387 rfl ?_
          refine y_i (pc' := 389) dL_law_388 rfl ?_
          refine y_iconst (v := 1) (pc' := 390) (by decide) dL_law_389 rfl ?_
          refine y_iadd (pc' := 391) dL_law_390 rfl ?_
          refine y_top (y := nI (i + 1)) (nI_add i 1) ?_
          refine y_ld (pc' := 392) (vp_in_nI (by omega) (by omega)) dL_law_391 rfl ?_
          refine y_scr (pc' := 393) dL_law_392 rfl ?_
          refine y_i (pc' := 394) dL_law_393 rfl ?_
          refine y_iconst (v := 2) (pc' := 395) (by decide) dL_law_394 rfl ?_
          refine y_iadd (pc' := 396) dL_law_395 rfl ?_
          refine y_top (y := nI (i + 2)) (nI_add i 2) ?_
          refine y_ld (pc' := 397) (vp_in_nI (by omega) (by omega)) dL_law_396 rfl ?_
          refine y_scr (pc' := 398) dL_law_397 rfl ?_
          refine y_i (pc' := 399) dL_law_398 rfl ?_
          refine y_iconst (v := 3) (pc' := 400) (by decide) dL_law_399 rfl ?_
          refine y_iadd (pc' := 401) dL_law_400 rfl ?_
          refine y_top (y := nI (i + 3)) (nI_add i 3) ?_
          refine y_ld (pc' := 402) (vp_in_nI (by omega) (by omega)) dL_law_401 rfl ?_
          refine y_call (As := [.int _, .int _, .int _]) (rest := [.int _]) (k := 18) (ci := 9) (pc' := 405) rfl vk_L_45 mk_X10_back ⟨Nat.le_of_ble_eq_true rfl, Nat.le_of_ble_eq_true rfl⟩ ⟨by decide, rfl⟩ rfl rfl rfl rfl (Nat.le_of_ble_eq_true rfl) dL_law_402 rfl c2 ?_
          exact y_icmp_eq (tgt := 831) (by decide) dL_law_405 (fin σ2 c3)
        | 7, _ =>
          refine y_tswIn (off := 377) (tgt := 410) (by decide) (by decide) (by decide) (by decide) dL_law_33 ?_
          obtain ⟨rr, σ1, σ2, c1, c2, c3⟩ := s_grid hR (p := xs (nI (i + 1)).toNatClampNeg) (x := xs (nI (i + 2)).toNatClampNeg) (y := xs (nI (i + 3)).toNatClampNeg) (s := xs (nI (i + 4)).toNatClampNeg) (c := xs (nI (i + 5)).toNatClampNeg) (r := xs (nI (i + 6)).toNatClampNeg)
          refine y_cls (pc' := 411) dL_law_410 rfl ?_
          refine y_scr (pc' := 412) dL_law_411 rfl ?_
          refine y_i (pc' := 413) dL_law_412 rfl ?_
          refine y_iconst (v := 1) (pc' := 414) (by decide) dL_law_413 rfl ?_
          refine y_iadd (pc' := 415) dL_law_414 rfl ?_
          refine y_top (y := nI (i + 1)) (nI_add i 1) ?_
          refine y_ld (pc' := 416) (vp_in_nI (by omega) (by omega)) dL_law_415 rfl ?_
          refine y_scr (pc' := 417) dL_law_416 rfl ?_
          refine y_i (pc' := 418) dL_law_417 rfl ?_
          refine y_iconst (v := 2) (pc' := 419) (by decide) dL_law_418 rfl ?_
          refine y_iadd (pc' := 420) dL_law_419 rfl ?_
          refine y_top (y := nI (i + 2)) (nI_add i 2) ?_
          refine y_ld (pc' := 421) (vp_in_nI (by omega) (by omega)) dL_law_420 rfl ?_
          refine y_scr (pc' := 422) dL_law_421 rfl ?_
          refine y_i (pc' := 423) dL_law_422 rfl ?_
          refine y_iconst (v := 3) (pc' := 424) (by decide) dL_law_423 rfl ?_
          refine y_iadd (pc' := 425) dL_law_424 rfl ?_
          refine y_top (y := nI (i + 3)) (nI_add i 3) ?_
          refine y_ld (pc' := 426) (vp_in_nI (by omega) (by omega)) dL_law_425 rfl ?_
          refine y_scr (pc' := 427) dL_law_426 rfl ?_
          refine y_i (pc' := 428) dL_law_427 rfl ?_
          refine y_iconst (v := 4) (pc' := 429) (by decide) dL_law_428 rfl ?_
          refine y_iadd (pc' := 430) dL_law_429 rfl ?_
          refine y_top (y := nI (i + 4)) (nI_add i 4) ?_
          refine y_ld (pc' := 431) (vp_in_nI (by omega) (by omega)) dL_law_430 rfl ?_
          refine y_scr (pc' := 432) dL_law_431 rfl ?_
          refine y_i (pc' := 433) dL_law_432 rfl ?_
          refine y_iconst (v := 5) (pc' := 434) (by decide) dL_law_433 rfl ?_
          refine y_iadd (pc' := 435) dL_law_434 rfl ?_
          refine y_top (y := nI (i + 5)) (nI_add i 5) ?_
          refine y_ld (pc' := 436) (vp_in_nI (by omega) (by omega)) dL_law_435 rfl ?_
          refine y_scr (pc' := 437) dL_law_436 rfl ?_
          refine y_i (pc' := 438) dL_law_437 rfl ?_
          refine y_bipush (v := 6) (pc' := 440) (by decide) dL_law_438 rfl ?_
          refine y_iadd (pc' := 441) dL_law_440 rfl ?_
          refine y_top (y := nI (i + 6)) (nI_add i 6) ?_
          refine y_ld (pc' := 442) (vp_in_nI (by omega) (by omega)) dL_law_441 rfl ?_
          refine y_call (As := [.int _, .int _, .int _, .int _, .int _, .int _]) (rest := []) (k := 0) (ci := 8) (pc' := 445) rfl vk_L_46 mk_X9_grid ⟨Nat.le_of_ble_eq_true rfl, Nat.le_of_ble_eq_true rfl⟩ ⟨by decide, rfl⟩ rfl rfl rfl rfl (Nat.le_of_ble_eq_true rfl) dL_law_442 rfl c1 ?_
          refine y_mod (pc' := 446) dL_law_445 rfl ?_
          refine y_scr (pc' := 447) dL_law_446 rfl ?_
          refine y_i (pc' := 448) dL_law_447 rfl ?_
          refine y_iconst (v := 1) (pc' := 449) (by decide) dL_law_448 rfl ?_
          refine y_iadd (pc' := 450) dL_law_449 rfl ?_
          refine y_top (y := nI (i + 1)) (nI_add i 1) ?_
          refine y_ld (pc' := 451) (vp_in_nI (by omega) (by omega)) dL_law_450 rfl ?_
          refine y_scr (pc' := 452) dL_law_451 rfl ?_
          refine y_i (pc' := 453) dL_law_452 rfl ?_
          refine y_iconst (v := 2) (pc' := 454) (by decide) dL_law_453 rfl ?_
          refine y_iadd (pc' := 455) dL_law_454 rfl ?_
          refine y_top (y := nI (i + 2)) (nI_add i 2) ?_
          refine y_ld (pc' := 456) (vp_in_nI (by omega) (by omega)) dL_law_455 rfl ?_
          refine y_scr (pc' := 457) dL_law_456 rfl ?_
          refine y_i (pc' := 458) dL_law_457 rfl ?_
          refine y_iconst (v := 3) (pc' := 459) (by decide) dL_law_458 rfl ?_
          refine y_iadd (pc' := 460) dL_law_459 rfl ?_
          refine y_top (y := nI (i + 3)) (nI_add i 3) ?_
          refine y_ld (pc' := 461) (vp_in_nI (by omega) (by omega)) dL_law_460 rfl ?_
          refine y_scr (pc' := 462) dL_law_461 rfl ?_
          refine y_i (pc' := 463) dL_law_462 rfl ?_
          refine y_iconst (v := 4) (pc' := 464) (by decide) dL_law_463 rfl ?_
          refine y_iadd (pc' := 465) dL_law_464 rfl ?_
          refine y_top (y := nI (i + 4)) (nI_add i 4) ?_
          refine y_ld (pc' := 466) (vp_in_nI (by omega) (by omega)) dL_law_465 rfl ?_
          refine y_scr (pc' := 467) dL_law_466 rfl ?_
          refine y_i (pc' := 468) dL_law_467 rfl ?_
          refine y_iconst (v := 5) (pc' := 469) (by decide) dL_law_468 rfl ?_
          refine y_iadd (pc' := 470) dL_law_469 rfl ?_
          refine y_top (y := nI (i + 5)) (nI_add i 5) ?_
          refine y_ld (pc' := 471) (vp_in_nI (by omega) (by omega)) dL_law_470 rfl ?_
          refine y_scr (pc' := 472) dL_law_471 rfl ?_
          refine y_i (pc' := 473) dL_law_472 rfl ?_
          refine y_bipush (v := 6) (pc' := 475) (by decide) dL_law_473 rfl ?_
          refine y_iadd (pc' := 476) dL_law_475 rfl ?_
          refine y_top (y := nI (i + 6)) (nI_add i 6) ?_
          refine y_ld (pc' := 477) (vp_in_nI (by omega) (by omega)) dL_law_476 rfl ?_
          refine y_call (As := [.int _, .int _, .int _, .int _, .int _, .int _]) (rest := [.int _]) (k := 18) (ci := 9) (pc' := 480) rfl vk_L_50 mk_X10_grid ⟨Nat.le_of_ble_eq_true rfl, Nat.le_of_ble_eq_true rfl⟩ ⟨by decide, rfl⟩ rfl rfl rfl rfl (Nat.le_of_ble_eq_true rfl) dL_law_477 rfl c2 ?_
          exact y_icmp_eq (tgt := 831) (by decide) dL_law_480 (fin σ2 c3)
        | 8, _ =>
          refine y_tswIn (off := 452) (tgt := 485) (by decide) (by decide) (by decide) (by decide) dL_law_33 ?_
          obtain ⟨rr, σ1, σ2, c1, c2, c3⟩ := s_node hR (g := xs (nI (i + 1)).toNatClampNeg) (c := xs (nI (i + 2)).toNatClampNeg) (r := xs (nI (i + 3)).toNatClampNeg) (dx := xs (nI (i + 4)).toNatClampNeg) (dy := xs (nI (i + 5)).toNatClampNeg)
          refine y_cls (pc' := 486) dL_law_485 rfl ?_
          refine y_scr (pc' := 487) dL_law_486 rfl ?_
          refine y_i (pc' := 488) dL_law_487 rfl ?_
          refine y_iconst (v := 1) (pc' := 489) (by decide) dL_law_488 rfl ?_
          refine y_iadd (pc' := 490) dL_law_489 rfl ?_
          refine y_top (y := nI (i + 1)) (nI_add i 1) ?_
          refine y_ld (pc' := 491) (vp_in_nI (by omega) (by omega)) dL_law_490 rfl ?_
          refine y_scr (pc' := 492) dL_law_491 rfl ?_
          refine y_i (pc' := 493) dL_law_492 rfl ?_
          refine y_iconst (v := 2) (pc' := 494) (by decide) dL_law_493 rfl ?_
          refine y_iadd (pc' := 495) dL_law_494 rfl ?_
          refine y_top (y := nI (i + 2)) (nI_add i 2) ?_
          refine y_ld (pc' := 496) (vp_in_nI (by omega) (by omega)) dL_law_495 rfl ?_
          refine y_scr (pc' := 497) dL_law_496 rfl ?_
          refine y_i (pc' := 498) dL_law_497 rfl ?_
          refine y_iconst (v := 3) (pc' := 499) (by decide) dL_law_498 rfl ?_
          refine y_iadd (pc' := 500) dL_law_499 rfl ?_
          refine y_top (y := nI (i + 3)) (nI_add i 3) ?_
          refine y_ld (pc' := 501) (vp_in_nI (by omega) (by omega)) dL_law_500 rfl ?_
          refine y_scr (pc' := 502) dL_law_501 rfl ?_
          refine y_i (pc' := 503) dL_law_502 rfl ?_
          refine y_iconst (v := 4) (pc' := 504) (by decide) dL_law_503 rfl ?_
          refine y_iadd (pc' := 505) dL_law_504 rfl ?_
          refine y_top (y := nI (i + 4)) (nI_add i 4) ?_
          refine y_ld (pc' := 506) (vp_in_nI (by omega) (by omega)) dL_law_505 rfl ?_
          refine y_scr (pc' := 507) dL_law_506 rfl ?_
          refine y_i (pc' := 508) dL_law_507 rfl ?_
          refine y_iconst (v := 5) (pc' := 509) (by decide) dL_law_508 rfl ?_
          refine y_iadd (pc' := 510) dL_law_509 rfl ?_
          refine y_top (y := nI (i + 5)) (nI_add i 5) ?_
          refine y_ld (pc' := 511) (vp_in_nI (by omega) (by omega)) dL_law_510 rfl ?_
          refine y_call (As := [.int _, .int _, .int _, .int _, .int _]) (rest := []) (k := 0) (ci := 8) (pc' := 514) rfl vk_L_51 mk_X9_node ⟨Nat.le_of_ble_eq_true rfl, Nat.le_of_ble_eq_true rfl⟩ ⟨by decide, rfl⟩ rfl rfl rfl rfl (Nat.le_of_ble_eq_true rfl) dL_law_511 rfl c1 ?_
          refine y_mod (pc' := 515) dL_law_514 rfl ?_
          refine y_scr (pc' := 516) dL_law_515 rfl ?_
          refine y_i (pc' := 517) dL_law_516 rfl ?_
          refine y_iconst (v := 1) (pc' := 518) (by decide) dL_law_517 rfl ?_
          refine y_iadd (pc' := 519) dL_law_518 rfl ?_
          refine y_top (y := nI (i + 1)) (nI_add i 1) ?_
          refine y_ld (pc' := 520) (vp_in_nI (by omega) (by omega)) dL_law_519 rfl ?_
          refine y_scr (pc' := 521) dL_law_520 rfl ?_
          refine y_i (pc' := 522) dL_law_521 rfl ?_
          refine y_iconst (v := 2) (pc' := 523) (by decide) dL_law_522 rfl ?_
          refine y_iadd (pc' := 524) dL_law_523 rfl ?_
          refine y_top (y := nI (i + 2)) (nI_add i 2) ?_
          refine y_ld (pc' := 525) (vp_in_nI (by omega) (by omega)) dL_law_524 rfl ?_
          refine y_scr (pc' := 526) dL_law_525 rfl ?_
          refine y_i (pc' := 527) dL_law_526 rfl ?_
          refine y_iconst (v := 3) (pc' := 528) (by decide) dL_law_527 rfl ?_
          refine y_iadd (pc' := 529) dL_law_528 rfl ?_
          refine y_top (y := nI (i + 3)) (nI_add i 3) ?_
          refine y_ld (pc' := 530) (vp_in_nI (by omega) (by omega)) dL_law_529 rfl ?_
          refine y_scr (pc' := 531) dL_law_530 rfl ?_
          refine y_i (pc' := 532) dL_law_531 rfl ?_
          refine y_iconst (v := 4) (pc' := 533) (by decide) dL_law_532 rfl ?_
          refine y_iadd (pc' := 534) dL_law_533 rfl ?_
          refine y_top (y := nI (i + 4)) (nI_add i 4) ?_
          refine y_ld (pc' := 535) (vp_in_nI (by omega) (by omega)) dL_law_534 rfl ?_
          refine y_scr (pc' := 536) dL_law_535 rfl ?_
          refine y_i (pc' := 537) dL_law_536 rfl ?_
          refine y_iconst (v := 5) (pc' := 538) (by decide) dL_law_537 rfl ?_
          refine y_iadd (pc' := 539) dL_law_538 rfl ?_
          refine y_top (y := nI (i + 5)) (nI_add i 5) ?_
          refine y_ld (pc' := 540) (vp_in_nI (by omega) (by omega)) dL_law_539 rfl ?_
          refine y_call (As := [.int _, .int _, .int _, .int _, .int _]) (rest := [.int _]) (k := 18) (ci := 9) (pc' := 543) rfl vk_L_55 mk_X10_node ⟨Nat.le_of_ble_eq_true rfl, Nat.le_of_ble_eq_true rfl⟩ ⟨by decide, rfl⟩ rfl rfl rfl rfl (Nat.le_of_ble_eq_true rfl) dL_law_540 rfl c2 ?_
          exact y_icmp_eq (tgt := 831) (by decide) dL_law_543 (fin σ2 c3)
        | 9, _ =>
          refine y_tswIn (off := 515) (tgt := 548) (by decide) (by decide) (by decide) (by decide) dL_law_33 ?_
          obtain ⟨rr, σ1, σ2, c1, c2, c3⟩ := s_fill hR (g := xs (nI (i + 1)).toNatClampNeg) (dx := xs (nI (i + 2)).toNatClampNeg) (dy := xs (nI (i + 3)).toNatClampNeg)
          refine y_cls (pc' := 549) dL_law_548 rfl ?_
          refine y_scr (pc' := 550) dL_law_549 rfl ?_
          refine y_i (pc' := 551) dL_law_550 rfl ?_
          refine y_iconst (v := 1) (pc' := 552) (by decide) dL_law_551 rfl ?_
          refine y_iadd (pc' := 553) dL_law_552 rfl ?_
          refine y_top (y := nI (i + 1)) (nI_add i 1) ?_
          refine y_ld (pc' := 554) (vp_in_nI (by omega) (by omega)) dL_law_553 rfl ?_
          refine y_scr (pc' := 555) dL_law_554 rfl ?_
          refine y_i (pc' := 556) dL_law_555 rfl ?_
          refine y_iconst (v := 2) (pc' := 557) (by decide) dL_law_556 rfl ?_
          refine y_iadd (pc' := 558) dL_law_557 rfl ?_
          refine y_top (y := nI (i + 2)) (nI_add i 2) ?_
          refine y_ld (pc' := 559) (vp_in_nI (by omega) (by omega)) dL_law_558 rfl ?_
          refine y_scr (pc' := 560) dL_law_559 rfl ?_
          refine y_i (pc' := 561) dL_law_560 rfl ?_
          refine y_iconst (v := 3) (pc' := 562) (by decide) dL_law_561 rfl ?_
          refine y_iadd (pc' := 563) dL_law_562 rfl ?_
          refine y_top (y := nI (i + 3)) (nI_add i 3) ?_
          refine y_ld (pc' := 564) (vp_in_nI (by omega) (by omega)) dL_law_563 rfl ?_
          refine y_call (As := [.int _, .int _, .int _]) (rest := []) (k := 0) (ci := 8) (pc' := 567) rfl vk_L_56 mk_X9_fill ⟨Nat.le_of_ble_eq_true rfl, Nat.le_of_ble_eq_true rfl⟩ ⟨by decide, rfl⟩ rfl rfl rfl rfl (Nat.le_of_ble_eq_true rfl) dL_law_564 rfl c1 ?_
          refine y_mod (pc' := 568) dL_law_567 rfl ?_
          refine y_scr (pc' := 569) dL_law_568 rfl ?_
          refine y_i (pc' := 570) dL_law_569 rfl ?_
          refine y_iconst (v := 1) (pc' := 571) (by decide) dL_law_570 rfl ?_
          refine y_iadd (pc' := 572) dL_law_571 rfl ?_
          refine y_top (y := nI (i + 1)) (nI_add i 1) ?_
          refine y_ld (pc' := 573) (vp_in_nI (by omega) (by omega)) dL_law_572 rfl ?_
          refine y_scr (pc' := 574) dL_law_573 rfl ?_
          refine y_i (pc' := 575) dL_law_574 rfl ?_
          refine y_iconst (v := 2) (pc' := 576) (by decide) dL_law_575 rfl ?_
          refine y_iadd (pc' := 577) dL_law_576 rfl ?_
          refine y_top (y := nI (i + 2)) (nI_add i 2) ?_
          refine y_ld (pc' := 578) (vp_in_nI (by omega) (by omega)) dL_law_577 rfl ?_
          refine y_scr (pc' := 579) dL_law_578 rfl ?_
          refine y_i (pc' := 580) dL_law_579 rfl ?_
          refine y_iconst (v := 3) (pc' := 581) (by decide) dL_law_580 rfl ?_
          refine y_iadd (pc' := 582) dL_law_581 rfl ?_
          refine y_top (y := nI (i + 3)) (nI_add i 3) ?_
          refine y_ld (pc' := 583) (vp_in_nI (by omega) (by omega)) dL_law_582 rfl ?_
          refine y_call (As := [.int _, .int _, .int _]) (rest := [.int _]) (k := 18) (ci := 9) (pc' := 586) rfl vk_L_59 mk_X10_fill ⟨Nat.le_of_ble_eq_true rfl, Nat.le_of_ble_eq_true rfl⟩ ⟨by decide, rfl⟩ rfl rfl rfl rfl (Nat.le_of_ble_eq_true rfl) dL_law_583 rfl c2 ?_
          exact y_icmp_eq (tgt := 831) (by decide) dL_law_586 (fin σ2 c3)
        | 10, _ =>
          refine y_tswIn (off := 558) (tgt := 591) (by decide) (by decide) (by decide) (by decide) dL_law_33 ?_
          obtain ⟨rr, σ1, σ2, c1, c2, c3⟩ := s_fit hR (g := xs (nI (i + 1)).toNatClampNeg)
          refine y_cls (pc' := 592) dL_law_591 rfl ?_
          refine y_scr (pc' := 593) dL_law_592 rfl ?_
          refine y_i (pc' := 594) dL_law_593 rfl ?_
          refine y_iconst (v := 1) (pc' := 595) (by decide) dL_law_594 rfl ?_
          refine y_iadd (pc' := 596) dL_law_595 rfl ?_
          refine y_top (y := nI (i + 1)) (nI_add i 1) ?_
          refine y_ld (pc' := 597) (vp_in_nI (by omega) (by omega)) dL_law_596 rfl ?_
          refine y_call (As := [.int _]) (rest := []) (k := 0) (ci := 8) (pc' := 600) rfl vk_L_60 mk_X9_fit ⟨Nat.le_of_ble_eq_true rfl, Nat.le_of_ble_eq_true rfl⟩ ⟨by decide, rfl⟩ rfl rfl rfl rfl (Nat.le_of_ble_eq_true rfl) dL_law_597 rfl c1 ?_
          refine y_mod (pc' := 601) dL_law_600 rfl ?_
          refine y_scr (pc' := 602) dL_law_601 rfl ?_
          refine y_i (pc' := 603) dL_law_602 rfl ?_
          refine y_iconst (v := 1) (pc' := 604) (by decide) dL_law_603 rfl ?_
          refine y_iadd (pc' := 605) dL_law_604 rfl ?_
          refine y_top (y := nI (i + 1)) (nI_add i 1) ?_
          refine y_ld (pc' := 606) (vp_in_nI (by omega) (by omega)) dL_law_605 rfl ?_
          refine y_call (As := [.int _]) (rest := [.int _]) (k := 18) (ci := 9) (pc' := 609) rfl vk_L_63 mk_X10_fit ⟨Nat.le_of_ble_eq_true rfl, Nat.le_of_ble_eq_true rfl⟩ ⟨by decide, rfl⟩ rfl rfl rfl rfl (Nat.le_of_ble_eq_true rfl) dL_law_606 rfl c2 ?_
          exact y_icmp_eq (tgt := 831) (by decide) dL_law_609 (fin σ2 c3)
        | 11, _ =>
          refine y_tswIn (off := 581) (tgt := 614) (by decide) (by decide) (by decide) (by decide) dL_law_33 ?_
          obtain ⟨rr, σ1, σ2, c1, c2, c3⟩ := s_drop hR (g := xs (nI (i + 1)).toNatClampNeg)
          refine y_cls (pc' := 615) dL_law_614 rfl ?_
          refine y_scr (pc' := 616) dL_law_615 rfl ?_
          refine y_i (pc' := 617) dL_law_616 rfl ?_
          refine y_iconst (v := 1) (pc' := 618) (by decide) dL_law_617 rfl ?_
          refine y_iadd (pc' := 619) dL_law_618 rfl ?_
          refine y_top (y := nI (i + 1)) (nI_add i 1) ?_
          refine y_ld (pc' := 620) (vp_in_nI (by omega) (by omega)) dL_law_619 rfl ?_
          refine y_call (As := [.int _]) (rest := []) (k := 0) (ci := 8) (pc' := 623) rfl vk_L_64 mk_X9_drop ⟨Nat.le_of_ble_eq_true rfl, Nat.le_of_ble_eq_true rfl⟩ ⟨by decide, rfl⟩ rfl rfl rfl rfl (Nat.le_of_ble_eq_true rfl) dL_law_620 rfl c1 ?_
          refine y_mod (pc' := 624) dL_law_623 rfl ?_
          refine y_scr (pc' := 625) dL_law_624 rfl ?_
          refine y_i (pc' := 626) dL_law_625 rfl ?_
          refine y_iconst (v := 1) (pc' := 627) (by decide) dL_law_626 rfl ?_
          refine y_iadd (pc' := 628) dL_law_627 rfl ?_
          refine y_top (y := nI (i + 1)) (nI_add i 1) ?_
          refine y_ld (pc' := 629) (vp_in_nI (by omega) (by omega)) dL_law_628 rfl ?_
          refine y_call (As := [.int _]) (rest := [.int _]) (k := 18) (ci := 9) (pc' := 632) rfl vk_L_67 mk_X10_drop ⟨Nat.le_of_ble_eq_true rfl, Nat.le_of_ble_eq_true rfl⟩ ⟨by decide, rfl⟩ rfl rfl rfl rfl (Nat.le_of_ble_eq_true rfl) dL_law_629 rfl c2 ?_
          exact y_icmp_eq (tgt := 831) (by decide) dL_law_632 (fin σ2 c3)
        | 12, _ =>
          refine y_tswIn (off := 604) (tgt := 637) (by decide) (by decide) (by decide) (by decide) dL_law_33 ?_
          obtain ⟨rr, σ1, σ2, c1, c2, c3⟩ := s_rule hR (x := xs (nI (i + 1)).toNatClampNeg)
          refine y_cls (pc' := 638) dL_law_637 rfl ?_
          refine y_scr (pc' := 639) dL_law_638 rfl ?_
          refine y_i (pc' := 640) dL_law_639 rfl ?_
          refine y_iconst (v := 1) (pc' := 641) (by decide) dL_law_640 rfl ?_
          refine y_iadd (pc' := 642) dL_law_641 rfl ?_
          refine y_top (y := nI (i + 1)) (nI_add i 1) ?_
          refine y_ld (pc' := 643) (vp_in_nI (by omega) (by omega)) dL_law_642 rfl ?_
          refine y_call (As := [.int _]) (rest := []) (k := 0) (ci := 8) (pc' := 646) rfl vk_L_68 mk_X9_rule ⟨Nat.le_of_ble_eq_true rfl, Nat.le_of_ble_eq_true rfl⟩ ⟨by decide, rfl⟩ rfl rfl rfl rfl (Nat.le_of_ble_eq_true rfl) dL_law_643 rfl c1 ?_
          refine y_mod (pc' := 647) dL_law_646 rfl ?_
          refine y_scr (pc' := 648) dL_law_647 rfl ?_
          refine y_i (pc' := 649) dL_law_648 rfl ?_
          refine y_iconst (v := 1) (pc' := 650) (by decide) dL_law_649 rfl ?_
          refine y_iadd (pc' := 651) dL_law_650 rfl ?_
          refine y_top (y := nI (i + 1)) (nI_add i 1) ?_
          refine y_ld (pc' := 652) (vp_in_nI (by omega) (by omega)) dL_law_651 rfl ?_
          refine y_call (As := [.int _]) (rest := [.int _]) (k := 18) (ci := 9) (pc' := 655) rfl vk_L_71 mk_X10_rule ⟨Nat.le_of_ble_eq_true rfl, Nat.le_of_ble_eq_true rfl⟩ ⟨by decide, rfl⟩ rfl rfl rfl rfl (Nat.le_of_ble_eq_true rfl) dL_law_652 rfl c2 ?_
          exact y_icmp_eq (tgt := 831) (by decide) dL_law_655 (fin σ2 c3)
        | 13, _ =>
          refine y_tswIn (off := 627) (tgt := 660) (by decide) (by decide) (by decide) (by decide) dL_law_33 ?_
          obtain ⟨rr, σ1, σ2, c1, c2, c3⟩ := s_drift hR (x := xs (nI (i + 1)).toNatClampNeg)
          refine y_cls (pc' := 661) dL_law_660 rfl ?_
          refine y_scr (pc' := 662) dL_law_661 rfl ?_
          refine y_i (pc' := 663) dL_law_662 rfl ?_
          refine y_iconst (v := 1) (pc' := 664) (by decide) dL_law_663 rfl ?_
          refine y_iadd (pc' := 665) dL_law_664 rfl ?_
          refine y_top (y := nI (i + 1)) (nI_add i 1) ?_
          refine y_ld (pc' := 666) (vp_in_nI (by omega) (by omega)) dL_law_665 rfl ?_
          refine y_call (As := [.int _]) (rest := []) (k := 0) (ci := 8) (pc' := 669) rfl vk_L_72 mk_X9_drift ⟨Nat.le_of_ble_eq_true rfl, Nat.le_of_ble_eq_true rfl⟩ ⟨by decide, rfl⟩ rfl rfl rfl rfl (Nat.le_of_ble_eq_true rfl) dL_law_666 rfl c1 ?_
          refine y_mod (pc' := 670) dL_law_669 rfl ?_
          refine y_scr (pc' := 671) dL_law_670 rfl ?_
          refine y_i (pc' := 672) dL_law_671 rfl ?_
          refine y_iconst (v := 1) (pc' := 673) (by decide) dL_law_672 rfl ?_
          refine y_iadd (pc' := 674) dL_law_673 rfl ?_
          refine y_top (y := nI (i + 1)) (nI_add i 1) ?_
          refine y_ld (pc' := 675) (vp_in_nI (by omega) (by omega)) dL_law_674 rfl ?_
          refine y_call (As := [.int _]) (rest := [.int _]) (k := 18) (ci := 9) (pc' := 678) rfl vk_L_75 mk_X10_drift ⟨Nat.le_of_ble_eq_true rfl, Nat.le_of_ble_eq_true rfl⟩ ⟨by decide, rfl⟩ rfl rfl rfl rfl (Nat.le_of_ble_eq_true rfl) dL_law_675 rfl c2 ?_
          exact y_icmp_eq (tgt := 831) (by decide) dL_law_678 (fin σ2 c3)
        | 14, _ =>
          refine y_tswIn (off := 650) (tgt := 683) (by decide) (by decide) (by decide) (by decide) dL_law_33 ?_
          obtain ⟨rr, σ1, σ2, c1, c2, c3⟩ := s_undo hR (x := xs (nI (i + 1)).toNatClampNeg)
          refine y_cls (pc' := 684) dL_law_683 rfl ?_
          refine y_scr (pc' := 685) dL_law_684 rfl ?_
          refine y_i (pc' := 686) dL_law_685 rfl ?_
          refine y_iconst (v := 1) (pc' := 687) (by decide) dL_law_686 rfl ?_
          refine y_iadd (pc' := 688) dL_law_687 rfl ?_
          refine y_top (y := nI (i + 1)) (nI_add i 1) ?_
          refine y_ld (pc' := 689) (vp_in_nI (by omega) (by omega)) dL_law_688 rfl ?_
          refine y_call (As := [.int _]) (rest := []) (k := 0) (ci := 8) (pc' := 692) rfl vk_L_76 mk_X9_undo ⟨Nat.le_of_ble_eq_true rfl, Nat.le_of_ble_eq_true rfl⟩ ⟨by decide, rfl⟩ rfl rfl rfl rfl (Nat.le_of_ble_eq_true rfl) dL_law_689 rfl c1 ?_
          refine y_mod (pc' := 693) dL_law_692 rfl ?_
          refine y_scr (pc' := 694) dL_law_693 rfl ?_
          refine y_i (pc' := 695) dL_law_694 rfl ?_
          refine y_iconst (v := 1) (pc' := 696) (by decide) dL_law_695 rfl ?_
          refine y_iadd (pc' := 697) dL_law_696 rfl ?_
          refine y_top (y := nI (i + 1)) (nI_add i 1) ?_
          refine y_ld (pc' := 698) (vp_in_nI (by omega) (by omega)) dL_law_697 rfl ?_
          refine y_call (As := [.int _]) (rest := [.int _]) (k := 18) (ci := 9) (pc' := 701) rfl vk_L_79 mk_X10_undo ⟨Nat.le_of_ble_eq_true rfl, Nat.le_of_ble_eq_true rfl⟩ ⟨by decide, rfl⟩ rfl rfl rfl rfl (Nat.le_of_ble_eq_true rfl) dL_law_698 rfl c2 ?_
          exact y_icmp_eq (tgt := 831) (by decide) dL_law_701 (fin σ2 c3)
        | 15, _ =>
          refine y_tswIn (off := 673) (tgt := 706) (by decide) (by decide) (by decide) (by decide) dL_law_33 ?_
          obtain ⟨rr, σ1, σ2, c1, c2, c3⟩ := s_write hR (x := xs (nI (i + 1)).toNatClampNeg) (y := xs (nI (i + 2)).toNatClampNeg) (z := xs (nI (i + 3)).toNatClampNeg)
          refine y_cls (pc' := 707) dL_law_706 rfl ?_
          refine y_scr (pc' := 708) dL_law_707 rfl ?_
          refine y_i (pc' := 709) dL_law_708 rfl ?_
          refine y_iconst (v := 1) (pc' := 710) (by decide) dL_law_709 rfl ?_
          refine y_iadd (pc' := 711) dL_law_710 rfl ?_
          refine y_top (y := nI (i + 1)) (nI_add i 1) ?_
          refine y_ld (pc' := 712) (vp_in_nI (by omega) (by omega)) dL_law_711 rfl ?_
          refine y_scr (pc' := 713) dL_law_712 rfl ?_
          refine y_i (pc' := 714) dL_law_713 rfl ?_
          refine y_iconst (v := 2) (pc' := 715) (by decide) dL_law_714 rfl ?_
          refine y_iadd (pc' := 716) dL_law_715 rfl ?_
          refine y_top (y := nI (i + 2)) (nI_add i 2) ?_
          refine y_ld (pc' := 717) (vp_in_nI (by omega) (by omega)) dL_law_716 rfl ?_
          refine y_scr (pc' := 718) dL_law_717 rfl ?_
          refine y_i (pc' := 719) dL_law_718 rfl ?_
          refine y_iconst (v := 3) (pc' := 720) (by decide) dL_law_719 rfl ?_
          refine y_iadd (pc' := 721) dL_law_720 rfl ?_
          refine y_top (y := nI (i + 3)) (nI_add i 3) ?_
          refine y_ld (pc' := 722) (vp_in_nI (by omega) (by omega)) dL_law_721 rfl ?_
          refine y_call (As := [.int _, .int _, .int _]) (rest := []) (k := 0) (ci := 8) (pc' := 725) rfl vk_L_80 mk_X9_write ⟨Nat.le_of_ble_eq_true rfl, Nat.le_of_ble_eq_true rfl⟩ ⟨by decide, rfl⟩ rfl rfl rfl rfl (Nat.le_of_ble_eq_true rfl) dL_law_722 rfl c1 ?_
          refine y_mod (pc' := 726) dL_law_725 rfl ?_
          refine y_scr (pc' := 727) dL_law_726 rfl ?_
          refine y_i (pc' := 728) dL_law_727 rfl ?_
          refine y_iconst (v := 1) (pc' := 729) (by decide) dL_law_728 rfl ?_
          refine y_iadd (pc' := 730) dL_law_729 rfl ?_
          refine y_top (y := nI (i + 1)) (nI_add i 1) ?_
          refine y_ld (pc' := 731) (vp_in_nI (by omega) (by omega)) dL_law_730 rfl ?_
          refine y_scr (pc' := 732) dL_law_731 rfl ?_
          refine y_i (pc' := 733) dL_law_732 rfl ?_
          refine y_iconst (v := 2) (pc' := 734) (by decide) dL_law_733 rfl ?_
          refine y_iadd (pc' := 735) dL_law_734 rfl ?_
          refine y_top (y := nI (i + 2)) (nI_add i 2) ?_
          refine y_ld (pc' := 736) (vp_in_nI (by omega) (by omega)) dL_law_735 rfl ?_
          refine y_scr (pc' := 737) dL_law_736 rfl ?_
          refine y_i (pc' := 738) dL_law_737 rfl ?_
          refine y_iconst (v := 3) (pc' := 739) (by decide) dL_law_738 rfl ?_
          refine y_iadd (pc' := 740) dL_law_739 rfl ?_
          refine y_top (y := nI (i + 3)) (nI_add i 3) ?_
          refine y_ld (pc' := 741) (vp_in_nI (by omega) (by omega)) dL_law_740 rfl ?_
          refine y_call (As := [.int _, .int _, .int _]) (rest := [.int _]) (k := 18) (ci := 9) (pc' := 744) rfl vk_L_83 mk_X10_write ⟨Nat.le_of_ble_eq_true rfl, Nat.le_of_ble_eq_true rfl⟩ ⟨by decide, rfl⟩ rfl rfl rfl rfl (Nat.le_of_ble_eq_true rfl) dL_law_741 rfl c2 ?_
          exact y_icmp_eq (tgt := 831) (by decide) dL_law_744 (fin σ2 c3)
        | 16, _ =>
          refine y_tswIn (off := 716) (tgt := 749) (by decide) (by decide) (by decide) (by decide) dL_law_33 ?_
          obtain ⟨rr, σ1, σ2, c1, c2, c3⟩ := s_tear hR
          refine y_cls (pc' := 750) dL_law_749 rfl ?_
          refine y_call (As := []) (rest := []) (k := 0) (ci := 8) (pc' := 753) rfl vk_L_84 mk_X9_tear ⟨Nat.le_of_ble_eq_true rfl, Nat.le_of_ble_eq_true rfl⟩ ⟨by decide, rfl⟩ rfl rfl rfl rfl (Nat.le_of_ble_eq_true rfl) dL_law_750 rfl c1 ?_
          refine y_mod (pc' := 754) dL_law_753 rfl ?_
          refine y_call (As := []) (rest := [.int _]) (k := 18) (ci := 9) (pc' := 757) rfl vk_L_88 mk_X10_tear ⟨Nat.le_of_ble_eq_true rfl, Nat.le_of_ble_eq_true rfl⟩ ⟨by decide, rfl⟩ rfl rfl rfl rfl (Nat.le_of_ble_eq_true rfl) dL_law_754 rfl c2 ?_
          exact y_icmp_eq (tgt := 831) (by decide) dL_law_757 (fin σ2 c3)
        | 17, _ =>
          refine y_tswIn (off := 729) (tgt := 762) (by decide) (by decide) (by decide) (by decide) dL_law_33 ?_
          obtain ⟨rr, σ1, σ2, c1, c2, c3⟩ := s_seed hR (x := xs (nI (i + 1)).toNatClampNeg)
          refine y_cls (pc' := 763) dL_law_762 rfl ?_
          refine y_scr (pc' := 764) dL_law_763 rfl ?_
          refine y_i (pc' := 765) dL_law_764 rfl ?_
          refine y_iconst (v := 1) (pc' := 766) (by decide) dL_law_765 rfl ?_
          refine y_iadd (pc' := 767) dL_law_766 rfl ?_
          refine y_top (y := nI (i + 1)) (nI_add i 1) ?_
          refine y_ld (pc' := 768) (vp_in_nI (by omega) (by omega)) dL_law_767 rfl ?_
          refine y_call (As := [.int _]) (rest := []) (k := 0) (ci := 8) (pc' := 771) rfl vk_L_89 mk_X9_seed ⟨Nat.le_of_ble_eq_true rfl, Nat.le_of_ble_eq_true rfl⟩ ⟨by decide, rfl⟩ rfl rfl rfl rfl (Nat.le_of_ble_eq_true rfl) dL_law_768 rfl c1 ?_
          refine y_mod (pc' := 772) dL_law_771 rfl ?_
          refine y_scr (pc' := 773) dL_law_772 rfl ?_
          refine y_i (pc' := 774) dL_law_773 rfl ?_
          refine y_iconst (v := 1) (pc' := 775) (by decide) dL_law_774 rfl ?_
          refine y_iadd (pc' := 776) dL_law_775 rfl ?_
          refine y_top (y := nI (i + 1)) (nI_add i 1) ?_
          refine y_ld (pc' := 777) (vp_in_nI (by omega) (by omega)) dL_law_776 rfl ?_
          refine y_call (As := [.int _]) (rest := [.int _]) (k := 18) (ci := 9) (pc' := 780) rfl vk_L_92 mk_X10_seed ⟨Nat.le_of_ble_eq_true rfl, Nat.le_of_ble_eq_true rfl⟩ ⟨by decide, rfl⟩ rfl rfl rfl rfl (Nat.le_of_ble_eq_true rfl) dL_law_777 rfl c2 ?_
          exact y_icmp_eq (tgt := 831) (by decide) dL_law_780 (fin σ2 c3)
        | 18, _ =>
          refine y_tswIn (off := 752) (tgt := 785) (by decide) (by decide) (by decide) (by decide) dL_law_33 ?_
          obtain ⟨rr, σ1, σ2, c1, c2, c3⟩ := s_keep hR (x := xs (nI (i + 1)).toNatClampNeg)
          refine y_cls (pc' := 786) dL_law_785 rfl ?_
          refine y_scr (pc' := 787) dL_law_786 rfl ?_
          refine y_i (pc' := 788) dL_law_787 rfl ?_
          refine y_iconst (v := 1) (pc' := 789) (by decide) dL_law_788 rfl ?_
          refine y_iadd (pc' := 790) dL_law_789 rfl ?_
          refine y_top (y := nI (i + 1)) (nI_add i 1) ?_
          refine y_ld (pc' := 791) (vp_in_nI (by omega) (by omega)) dL_law_790 rfl ?_
          refine y_call (As := [.int _]) (rest := []) (k := 0) (ci := 8) (pc' := 794) rfl vk_L_93 mk_X9_keep ⟨Nat.le_of_ble_eq_true rfl, Nat.le_of_ble_eq_true rfl⟩ ⟨by decide, rfl⟩ rfl rfl rfl rfl (Nat.le_of_ble_eq_true rfl) dL_law_791 rfl c1 ?_
          refine y_mod (pc' := 795) dL_law_794 rfl ?_
          refine y_scr (pc' := 796) dL_law_795 rfl ?_
          refine y_i (pc' := 797) dL_law_796 rfl ?_
          refine y_iconst (v := 1) (pc' := 798) (by decide) dL_law_797 rfl ?_
          refine y_iadd (pc' := 799) dL_law_798 rfl ?_
          refine y_top (y := nI (i + 1)) (nI_add i 1) ?_
          refine y_ld (pc' := 800) (vp_in_nI (by omega) (by omega)) dL_law_799 rfl ?_
          refine y_call (As := [.int _]) (rest := [.int _]) (k := 18) (ci := 9) (pc' := 803) rfl vk_L_96 mk_X10_keep ⟨Nat.le_of_ble_eq_true rfl, Nat.le_of_ble_eq_true rfl⟩ ⟨by decide, rfl⟩ rfl rfl rfl rfl (Nat.le_of_ble_eq_true rfl) dL_law_800 rfl c2 ?_
          exact y_icmp_eq (tgt := 831) (by decide) dL_law_803 (fin σ2 c3)
        | 19, _ =>
          refine y_tswIn (off := 775) (tgt := 808) (by decide) (by decide) (by decide) (by decide) dL_law_33 ?_
          obtain ⟨rr, σ1, σ2, c1, c2, c3⟩ := s_goBack hR (x := xs (nI (i + 1)).toNatClampNeg)
          refine y_cls (pc' := 809) dL_law_808 rfl ?_
          refine y_scr (pc' := 810) dL_law_809 rfl ?_
          refine y_i (pc' := 811) dL_law_810 rfl ?_
          refine y_iconst (v := 1) (pc' := 812) (by decide) dL_law_811 rfl ?_
          refine y_iadd (pc' := 813) dL_law_812 rfl ?_
          refine y_top (y := nI (i + 1)) (nI_add i 1) ?_
          refine y_ld (pc' := 814) (vp_in_nI (by omega) (by omega)) dL_law_813 rfl ?_
          refine y_call (As := [.int _]) (rest := []) (k := 0) (ci := 8) (pc' := 817) rfl vk_L_97 mk_X9_goBack ⟨Nat.le_of_ble_eq_true rfl, Nat.le_of_ble_eq_true rfl⟩ ⟨by decide, rfl⟩ rfl rfl rfl rfl (Nat.le_of_ble_eq_true rfl) dL_law_814 rfl c1 ?_
          refine y_mod (pc' := 818) dL_law_817 rfl ?_
          refine y_scr (pc' := 819) dL_law_818 rfl ?_
          refine y_i (pc' := 820) dL_law_819 rfl ?_
          refine y_iconst (v := 1) (pc' := 821) (by decide) dL_law_820 rfl ?_
          refine y_iadd (pc' := 822) dL_law_821 rfl ?_
          refine y_top (y := nI (i + 1)) (nI_add i 1) ?_
          refine y_ld (pc' := 823) (vp_in_nI (by omega) (by omega)) dL_law_822 rfl ?_
          refine y_call (As := [.int _]) (rest := [.int _]) (k := 18) (ci := 9) (pc' := 826) rfl vk_L_100 mk_X10_goBack ⟨Nat.le_of_ble_eq_true rfl, Nat.le_of_ble_eq_true rfl⟩ ⟨by decide, rfl⟩ rfl rfl rfl rfl (Nat.le_of_ble_eq_true rfl) dL_law_823 rfl c2 ?_
          exact y_icmp_eq (tgt := 831) (by decide) dL_law_826 (fin σ2 c3)
        | j + 20, h => exact absurd h (by omega)
      · exact y_tswOut (tgt := 831) (Or.inr (by rw [nI_toInt (by omega)]; omega)) (by decide) dL_law_33 (fin σ hR)
