/-- the grid to which a place belongs, of the first n -/
noncomputable def owS (v : Nat → Int32) (px py : Nat) : Nat → Int32
  | 0 => -1
  | n + 1 => pif (mtc v (owS v px py n) px py n) (nI n) (owS v px py n)
theorem chF_spec (v : Nat → Int32) (p : Int32) (px py : Nat) : ∀ n i, (chF v p px py i n = -1 ∧ ∀ j, i ≤ j → j < i + n → ¬ mtc v p px py j) ∨ ∃ h, chF v p px py i n = nI h ∧ i ≤ h ∧ h < i + n ∧ mtc v p px py h ∧ ∀ j, i ≤ j → j < h → ¬ mtc v p px py j
  | 0, i => Or.inl ⟨rfl, fun j h1 h2 => absurd h2 (by omega)⟩
  | n + 1, i => by
    by_cases hm : mtc v p px py i
    · refine Or.inr ⟨i, ?_, by omega, by omega, hm, fun j h1 h2 => absurd h2 (by omega)⟩
      rw [chF, pif_t hm]
    · have e : chF v p px py i (n + 1) = chF v p px py (i + 1) n := by rw [chF, pif_f hm]
      rcases chF_spec v p px py n (i + 1) with ⟨h1, h2⟩ | ⟨h, h1, h2, h3, h4, h5⟩
      · refine Or.inl ⟨e.trans h1, fun j g1 g2 => ?_⟩
        by_cases hj : j = i
        · subst hj; exact hm
        · exact h2 j (by omega) (by omega)
      · refine Or.inr ⟨h, e.trans h1, by omega, by omega, h4, fun j g1 g2 => ?_⟩
        by_cases hj : j = i
        · subst hj; exact hm
        · exact h5 j (by omega) g2
theorem owS_stay {v : Nat → Int32} {p : Int32} {px py n0 : Nat} (h0 : owS v px py n0 = p) : ∀ k, (∀ j, n0 ≤ j → j < n0 + k → ¬ mtc v p px py j) → owS v px py (n0 + k) = p
  | 0, _ => h0
  | k + 1, h => by
    have ih := owS_stay h0 k (fun j h1 h2 => h j h1 (by omega))
    rw [← Nat.add_assoc, owS, ih, pif_f (h (n0 + k) (by omega) (by omega))]
theorem owS_next {v : Nat → Int32} {p : Int32} {px py n0 h : Nat} (h0 : owS v px py n0 = p) (hn : n0 ≤ h) (hm : mtc v p px py h) (hj : ∀ j, n0 ≤ j → j < h → ¬ mtc v p px py j) : owS v px py (h + 1) = nI h := by
  have e := owS_stay h0 (h - n0) (fun j h1 h2 => hj j h1 (by omega))
  rw [show n0 + (h - n0) = h by omega] at e
  rw [owS, e, pif_t hm]
theorem owS_spec (v : Nat → Int32) (px py : Nat) : ∀ n, owS v px py n = -1 ∨ ∃ g, g < n ∧ owS v px py n = nI g ∧ onS v g px py
  | 0 => Or.inl rfl
  | n + 1 => by
    by_cases h : mtc v (owS v px py n) px py n
    · exact Or.inr ⟨n, by omega, by rw [owS, pif_t h], h.2⟩
    · rw [owS, pif_f h]
      rcases owS_spec v px py n with h1 | ⟨g, h1, h2⟩
      · exact Or.inl h1
      · exact Or.inr ⟨g, by omega, h2⟩
theorem par_lt {v : Nat → Int32} (hv : Ok v) {g G : Nat} (hg : g < cN v) (h : v (2 + 6 * g) = nI G) (hG : G < 2 ^ 31) : G < g := by
  rcases (hv.2.2.2.2 g hg).1 with h1 | ⟨j, h1, h2, -⟩
  · exact absurd (h1.symm.trans h) (m1_ne G hG)
  · have h6 := hv.c6
    have := ni_inj (by omega) hG (h2.symm.trans h)
    omega

set_option maxRecDepth 100000 in
set_option maxHeartbeats 4000000 in
theorem l_X10_belongs {σ : St} {px py : Nat} (hv : Ok (σ.1 19)) (hpx : px < 2 ^ 31) (hpy : py < 2 ^ 31) : ∀ (n G : Nat) (z : Int32), cN (σ.1 19) < G + n → G < cN (σ.1 19) → owS (σ.1 19) px py (G + 1) = nI G → Ex M_X10_belongs (some (.int (owS (σ.1 19) px py (cN (σ.1 19)))), σ) 11 [some (.ref 18), some (.int (nI px)), some (.int (nI py)), some (.int z), some (.int (nI G))] [] σ := by
  intro n
  induction n with
  | zero =>
    intro G z hn hG hw
    exact absurd hn (by omega)
  | succ n ih =>
    intro G z hn hG hw
    have h6 := hv.c6
    refine x_iload (pc' := 13) rfl dX10_belongs_11 rfl ?_
    refine x_iconst (v := (-1)) (pc' := 14) (by decide) dX10_belongs_13 rfl ?_
    refine x_icmp_eq (tgt := 32) (pc' := 17) (by decide) dX10_belongs_14 rfl (fun c14 => absurd c14 (fun q => m1_ne G (by omega) q.symm)) (fun c14 => ?_)
    refine x_iload (pc' := 19) rfl dX10_belongs_17 rfl ?_
    refine x_istore_n (lv' := [_, _, _, _, _]) (pc' := 20) (by decide) rfl dX10_belongs_19 rfl ?_
    refine x_aload_n (pc' := 21) rfl dX10_belongs_20 rfl ?_
    refine x_iload_n (pc' := 22) rfl dX10_belongs_21 rfl ?_
    refine x_iload_n (pc' := 23) rfl dX10_belongs_22 rfl ?_
    refine x_iload_n (pc' := 24) rfl dX10_belongs_23 rfl ?_
    refine x_callVi (As := [.int _, .int _, .int _]) (rest := []) (ci := 9) (pc' := 27) rfl vk_X10_78 mk_X10_child (by decide) (by first | assumption | exact ⟨by decide, rfl⟩) (by decide) rfl (Nat.le_of_ble_eq_true rfl) dX10_belongs_24 rfl (c_X10_child hv hpx hpy) ?_
    rcases chF_spec (σ.1 19) (nI G) px py (cN (σ.1 19)) 0 with ⟨e, hno⟩ | ⟨h, e, h1, h2, h3, h4⟩
    · rw [e]
      refine x_istore (lv' := [_, _, _, _, _]) (pc' := 29) (by decide) rfl dX10_belongs_27 rfl ?_
      refine x_goto (tgt := 11) (by decide) dX10_belongs_29 ?_
      refine x_iload (pc' := 13) rfl dX10_belongs_11 rfl ?_
      refine x_iconst (v := (-1)) (pc' := 14) (by decide) dX10_belongs_13 rfl ?_
      refine x_icmp_eq (tgt := 32) (pc' := 17) (by decide) dX10_belongs_14 rfl (fun c14 => ?_) (fun c14 => absurd rfl c14)
      refine x_iload_n (pc' := 33) rfl dX10_belongs_32 rfl ?_
      exact x_iret rfl dX10_belongs_33 (ret_i (by have q := owS_stay hw (cN (σ.1 19) - (G + 1)) (fun j g1 g2 => hno j (by omega) (by omega)); rw [show G + 1 + (cN (σ.1 19) - (G + 1)) = cN (σ.1 19) by omega] at q; exact q.symm))
    · rw [e]
      have hlt : G < h := par_lt hv (by omega) h3.1 (by omega)
      have hw2 := owS_next hw (by omega) h3 (fun j g1 g2 => h4 j (by omega) g2)
      refine x_istore (lv' := [_, _, _, _, _]) (pc' := 29) (by decide) rfl dX10_belongs_27 rfl ?_
      refine x_goto (tgt := 11) (by decide) dX10_belongs_29 ?_
      exact ih h _ (by omega) (by omega) hw2
set_option maxRecDepth 100000 in
set_option maxHeartbeats 4000000 in
theorem c_X10_belongs {σ : St} {px py : Nat} (hv : Ok (σ.1 19)) (hpx : px < 2 ^ 31) (hpy : py < 2 ^ 31) : Ct yX10_belongs M_X10_belongs [.ref 18, .int (nI px), .int (nI py)] σ (some (.int (owS (σ.1 19) px py (cN (σ.1 19)))), σ) := by
  refine ct_of (k := 2) rfl rfl rfl (Nat.le_of_ble_eq_true rfl) ?_
  refine x_aload_n (pc' := 1) rfl dX10_belongs_0 rfl ?_
  refine x_iconst (v := (-1)) (pc' := 2) (by decide) dX10_belongs_1 rfl ?_
  refine x_iload_n (pc' := 3) rfl dX10_belongs_2 rfl ?_
  refine x_iload_n (pc' := 4) rfl dX10_belongs_3 rfl ?_
  refine x_callVi (As := [.int _, .int _, .int _]) (rest := []) (ci := 9) (pc' := 7) rfl vk_X10_78 mk_X10_child (by decide) (by first | assumption | exact ⟨by decide, rfl⟩) (by decide) rfl (Nat.le_of_ble_eq_true rfl) dX10_belongs_4 rfl (c_X10_child hv hpx hpy) ?_
  have h6 := hv.c6
  rcases chF_spec (σ.1 19) (-1) px py (cN (σ.1 19)) 0 with ⟨e, hno⟩ | ⟨h, e, h1, h2, h3, h4⟩
  · rw [e]
    refine x_istore_n (lv' := [_, _, _, _, _]) (pc' := 8) (by decide) rfl dX10_belongs_7 rfl ?_
    refine x_iload_n (pc' := 9) rfl dX10_belongs_8 rfl ?_
    refine x_istore (lv' := [_, _, _, _, _]) (pc' := 11) (by decide) rfl dX10_belongs_9 rfl ?_
    refine x_iload (pc' := 13) rfl dX10_belongs_11 rfl ?_
    refine x_iconst (v := (-1)) (pc' := 14) (by decide) dX10_belongs_13 rfl ?_
    refine x_icmp_eq (tgt := 32) (pc' := 17) (by decide) dX10_belongs_14 rfl (fun c14 => ?_) (fun c14 => absurd rfl c14)
    refine x_iload_n (pc' := 33) rfl dX10_belongs_32 rfl ?_
    exact x_iret rfl dX10_belongs_33 (ret_i (by have q := owS_stay (v := σ.1 19) (px := px) (py := py) (n0 := 0) rfl (cN (σ.1 19)) (fun j g1 g2 => hno j g1 g2); rw [Nat.zero_add] at q; exact q.symm))
  · rw [e]
    refine x_istore_n (lv' := [_, _, _, _, _]) (pc' := 8) (by decide) rfl dX10_belongs_7 rfl ?_
    refine x_iload_n (pc' := 9) rfl dX10_belongs_8 rfl ?_
    refine x_istore (lv' := [_, _, _, _, _]) (pc' := 11) (by decide) rfl dX10_belongs_9 rfl ?_
    exact l_X10_belongs hv hpx hpy (cN (σ.1 19) + 1) h _ (by omega) (by omega) (owS_next (n0 := 0) rfl (by omega) h3 (fun j g1 g2 => h4 j g1 g2))
set_option maxRecDepth 100000 in
set_option maxHeartbeats 4000000 in
theorem v_X10_belongs {σ : St} {v0 : Nat → Int32} (hs : σ.1 19 = v0) {px py : Nat} (hv : Ok v0) (hpx : px < 2 ^ 31) (hpy : py < 2 ^ 31) : Ct yX10_belongs M_X10_belongs [.ref 18, .int (nI px), .int (nI py)] σ (some (.int (owS v0 px py (cN v0))), σ) := by
  subst hs
  exact c_X10_belongs hv hpx hpy
/-- n by d, rounded, as the reference has it -/
def rnd (n d : Int64) : Int64 := if 0 ≤ (2 * n + d) - (2 * n + d) / (2 * d) * (2 * d) then (2 * n + d) / (2 * d) else (2 * n + d) / (2 * d) - 1
set_option maxRecDepth 100000 in
set_option maxHeartbeats 4000000 in
theorem c_X10_rounded {σ : St} {n d : Int64} (h : ¬ 2 * d = 0) : Ct yX10_rounded M_X10_rounded [.long n, .long d] σ (some (.long (rnd n d)), σ) := by
  refine ct_of (k := 4) rfl rfl rfl (Nat.le_of_ble_eq_true rfl) ?_
  refine x_ldc2 (pc' := 3) kl_X10_81 dX10_rounded_0 rfl ?_
  refine x_lload_n (pc' := 4) rfl dX10_rounded_3 rfl ?_
  refine x_lmul (pc' := 5) dX10_rounded_4 rfl ?_
  refine x_lload_n (pc' := 6) rfl dX10_rounded_5 rfl ?_
  refine x_ladd (pc' := 7) dX10_rounded_6 rfl ?_
  refine x_lstore (lv' := [_, _, _, _, _, _, _, _]) (pc' := 9) (by decide) rfl dX10_rounded_7 rfl ?_
  refine x_lload (pc' := 11) rfl dX10_rounded_9 rfl ?_
  refine x_ldc2 (pc' := 14) kl_X10_81 dX10_rounded_11 rfl ?_
  refine x_lload_n (pc' := 15) rfl dX10_rounded_14 rfl ?_
  refine x_lmul (pc' := 16) dX10_rounded_15 rfl ?_
  refine x_ldiv (pc' := 17) h dX10_rounded_16 rfl ?_
  refine x_lstore (lv' := [_, _, _, _, _, _, _, _]) (pc' := 19) (by decide) rfl dX10_rounded_17 rfl ?_
  refine x_lload (pc' := 21) rfl dX10_rounded_19 rfl ?_
  refine x_ldc2 (pc' := 24) kl_X10_81 dX10_rounded_21 rfl ?_
  refine x_lload_n (pc' := 25) rfl dX10_rounded_24 rfl ?_
  refine x_lmul (pc' := 26) dX10_rounded_25 rfl ?_
  refine x_lrem (pc' := 27) h dX10_rounded_26 rfl ?_
  refine x_lconst (v := 0) (pc' := 28) (by decide) dX10_rounded_27 rfl ?_
  refine x_lcmp (pc' := 29) dX10_rounded_28 rfl ?_
  refine x_if_ge (tgt := 39) (pc' := 32) (by decide) dX10_rounded_29 rfl (fun c29 => ?_) (fun c29 => ?_)
  · refine x_lload (pc' := 41) rfl dX10_rounded_39 rfl ?_
    exact x_lret rfl dX10_rounded_41 (ret_l (by rw [rnd, if_pos ((lg_cmp_ge _ _).mp c29)]))
  · refine x_lload (pc' := 34) rfl dX10_rounded_32 rfl ?_
    refine x_lconst (v := 1) (pc' := 35) (by decide) dX10_rounded_34 rfl ?_
    refine x_lsub (pc' := 36) dX10_rounded_35 rfl ?_
    refine x_goto (tgt := 41) (by decide) dX10_rounded_36 ?_
    exact x_lret rfl dX10_rounded_41 (ret_l (by rw [rnd, if_neg (fun q => c29 ((lg_cmp_ge _ _).mpr q))]))
def betw (ru : Int32) (e f g h : Int32) (u v d : Int64) : Int32 :=
  if ru = 0 then (rnd (e.toInt64 * (d - u) * (d - v) + f.toInt64 * u * (d - v) + g.toInt64 * (d - u) * v + h.toInt64 * u * v) (d * d)).toInt32
  else if ru = 1 then (if d ≤ 2 * v then (if d ≤ 2 * u then h else g) else (if d ≤ 2 * u then f else e))
  else (rnd (if v ≤ u then e.toInt64 * d + (f - e).toInt64 * u + (h - f).toInt64 * v else e.toInt64 * d + (h - g).toInt64 * u + (g - e).toInt64 * v) d).toInt32
set_option maxRecDepth 100000 in
set_option maxHeartbeats 4000000 in
theorem c_X10_between {σ : St} {e f g h : Int32} {u v d : Int64} (h1 : ¬ 2 * d = 0) (h2 : ¬ 2 * (d * d) = 0) : Ct yX10_between M_X10_between [.ref 18, .int e, .int f, .int g, .int h, .long u, .long v, .long d] σ (some (.int (betw (σ.1 19 1) e f g h u v d)), σ) := by
  refine ct_of (k := 2) rfl rfl rfl (Nat.le_of_ble_eq_true rfl) ?_
  refine x_aload_n (pc' := 1) rfl dX10_between_0 rfl ?_
  refine x_get (v := .ref 19) (pc' := 4) fk_X10_7 (by first | assumption | exact ⟨by decide, rfl⟩) rfl dX10_between_1 rfl ?_
  refine x_iconst (v := 1) (pc' := 5) (by decide) dX10_between_4 rfl ?_
  refine x_ialdn (N := 338) (n := 1) (pc' := 6) (by first | assumption | exact ⟨by decide, rfl⟩) (by decide) rfl (by decide) dX10_between_5 rfl ?_
  refine x_if_ne (tgt := 67) (pc' := 9) (by decide) dX10_between_6 rfl (fun c6 => ?_) (fun c6 => ?_)
  · refine x_aload_n (pc' := 68) rfl dX10_between_67 rfl ?_
    refine x_get (v := .ref 19) (pc' := 71) fk_X10_7 (by first | assumption | exact ⟨by decide, rfl⟩) rfl dX10_between_68 rfl ?_
    refine x_iconst (v := 1) (pc' := 72) (by decide) dX10_between_71 rfl ?_
    refine x_ialdn (N := 338) (n := 1) (pc' := 73) (by first | assumption | exact ⟨by decide, rfl⟩) (by decide) rfl (by decide) dX10_between_72 rfl ?_
    refine x_iconst (v := 1) (pc' := 74) (by decide) dX10_between_73 rfl ?_
    refine x_icmp_ne (tgt := 145) (pc' := 77) (by decide) dX10_between_74 rfl (fun c74 => ?_) (fun c74 => ?_)
    · have hb : betw (σ.1 19 1) e f g h u v d = (rnd (if v ≤ u then e.toInt64 * d + (f - e).toInt64 * u + (h - f).toInt64 * v else e.toInt64 * d + (h - g).toInt64 * u + (g - e).toInt64 * v) d).toInt32 := by
        rw [betw, if_neg c6, if_neg c74]
      rw [hb]
      refine x_lload (pc' := 147) rfl dX10_between_145 rfl ?_
      refine x_lload (pc' := 149) rfl dX10_between_147 rfl ?_
      refine x_lcmp (pc' := 150) dX10_between_149 rfl ?_
      refine x_if_lt (tgt := 178) (pc' := 153) (by decide) dX10_between_150 rfl (fun c150 => ?_) (fun c150 => ?_)
      · refine x_iload_n (pc' := 179) rfl dX10_between_178 rfl ?_
        refine x_i2l (pc' := 180) dX10_between_179 rfl ?_
        refine x_lload (pc' := 182) rfl dX10_between_180 rfl ?_
        refine x_lmul (pc' := 183) dX10_between_182 rfl ?_
        refine x_iload (pc' := 185) rfl dX10_between_183 rfl ?_
        refine x_iload_n (pc' := 186) rfl dX10_between_185 rfl ?_
        refine x_isub (pc' := 187) dX10_between_186 rfl ?_
        refine x_i2l (pc' := 188) dX10_between_187 rfl ?_
        refine x_lload (pc' := 190) rfl dX10_between_188 rfl ?_
        refine x_lmul (pc' := 191) dX10_between_190 rfl ?_
        refine x_ladd (pc' := 192) dX10_between_191 rfl ?_
        refine x_iload_n (pc' := 193) rfl dX10_between_192 rfl ?_
        refine x_iload_n (pc' := 194) rfl dX10_between_193 rfl ?_
        refine x_isub (pc' := 195) dX10_between_194 rfl ?_
        refine x_i2l (pc' := 196) dX10_between_195 rfl ?_
        refine x_lload (pc' := 198) rfl dX10_between_196 rfl ?_
        refine x_lmul (pc' := 199) dX10_between_198 rfl ?_
        refine x_ladd (pc' := 200) dX10_between_199 rfl ?_
        refine x_lload (pc' := 202) rfl dX10_between_200 rfl ?_
        refine x_callSi (As := [.long _, .long _]) (rest := []) (pc' := 205) rfl sk_X10_83 mk_X10_rounded (by decide) rfl (Nat.le_of_ble_eq_true rfl) dX10_between_202 rfl (c_X10_rounded h1) ?_
        refine x_l2i (pc' := 206) dX10_between_205 rfl ?_
        exact x_iret rfl dX10_between_206 (ret_i (by rw [if_neg (l_nle.mpr ((lg_cmp_lt _ _).mp c150))]))
      · refine x_iload_n (pc' := 154) rfl dX10_between_153 rfl ?_
        refine x_i2l (pc' := 155) dX10_between_154 rfl ?_
        refine x_lload (pc' := 157) rfl dX10_between_155 rfl ?_
        refine x_lmul (pc' := 158) dX10_between_157 rfl ?_
        refine x_iload_n (pc' := 159) rfl dX10_between_158 rfl ?_
        refine x_iload_n (pc' := 160) rfl dX10_between_159 rfl ?_
        refine x_isub (pc' := 161) dX10_between_160 rfl ?_
        refine x_i2l (pc' := 162) dX10_between_161 rfl ?_
        refine x_lload (pc' := 164) rfl dX10_between_162 rfl ?_
        refine x_lmul (pc' := 165) dX10_between_164 rfl ?_
        refine x_ladd (pc' := 166) dX10_between_165 rfl ?_
        refine x_iload (pc' := 168) rfl dX10_between_166 rfl ?_
        refine x_iload_n (pc' := 169) rfl dX10_between_168 rfl ?_
        refine x_isub (pc' := 170) dX10_between_169 rfl ?_
        refine x_i2l (pc' := 171) dX10_between_170 rfl ?_
        refine x_lload (pc' := 173) rfl dX10_between_171 rfl ?_
        refine x_lmul (pc' := 174) dX10_between_173 rfl ?_
        refine x_ladd (pc' := 175) dX10_between_174 rfl ?_
        refine x_goto (tgt := 200) (by decide) dX10_between_175 ?_
        refine x_lload (pc' := 202) rfl dX10_between_200 rfl ?_
        refine x_callSi (As := [.long _, .long _]) (rest := []) (pc' := 205) rfl sk_X10_83 mk_X10_rounded (by decide) rfl (Nat.le_of_ble_eq_true rfl) dX10_between_202 rfl (c_X10_rounded h1) ?_
        refine x_l2i (pc' := 206) dX10_between_205 rfl ?_
        exact x_iret rfl dX10_between_206 (ret_i (by rw [if_pos (l_nlt.mp (fun q => c150 ((lg_cmp_lt _ _).mpr q)))]))
    · have hb : betw (σ.1 19 1) e f g h u v d = (if d ≤ 2 * v then (if d ≤ 2 * u then h else g) else (if d ≤ 2 * u then f else e)) := by
        rw [betw, if_neg c6, if_pos c74]
      rw [hb]
      refine x_ldc2 (pc' := 80) kl_X10_81 dX10_between_77 rfl ?_
      refine x_lload (pc' := 82) rfl dX10_between_80 rfl ?_
      refine x_lmul (pc' := 83) dX10_between_82 rfl ?_
      refine x_lload (pc' := 85) rfl dX10_between_83 rfl ?_
      refine x_lcmp (pc' := 86) dX10_between_85 rfl ?_
      refine x_if_lt (tgt := 93) (pc' := 89) (by decide) dX10_between_86 rfl (fun c86 => ?_) (fun c86 => ?_)
      · refine x_iconst (v := 0) (pc' := 94) (by decide) dX10_between_93 rfl ?_
        refine x_istore (lv' := [_, _, _, _, _, _, _, _, _, _, _, _, _]) (pc' := 96) (by decide) rfl dX10_between_94 rfl ?_
        refine x_ldc2 (pc' := 99) kl_X10_81 dX10_between_96 rfl ?_
        refine x_lload (pc' := 101) rfl dX10_between_99 rfl ?_
        refine x_lmul (pc' := 102) dX10_between_101 rfl ?_
        refine x_lload (pc' := 104) rfl dX10_between_102 rfl ?_
        refine x_lcmp (pc' := 105) dX10_between_104 rfl ?_
        refine x_if_lt (tgt := 112) (pc' := 108) (by decide) dX10_between_105 rfl (fun c105 => ?_) (fun c105 => ?_)
        · refine x_iconst (v := 0) (pc' := 113) (by decide) dX10_between_112 rfl ?_
          refine x_istore (lv' := [_, _, _, _, _, _, _, _, _, _, _, _, _]) (pc' := 115) (by decide) rfl dX10_between_113 rfl ?_
          refine x_iload (pc' := 117) rfl dX10_between_115 rfl ?_
          refine x_if_eq (tgt := 134) (pc' := 120) (by decide) dX10_between_117 rfl (fun c117 => ?_) (fun c117 => absurd rfl c117)
          refine x_iload (pc' := 136) rfl dX10_between_134 rfl ?_
          refine x_if_eq (tgt := 143) (pc' := 139) (by decide) dX10_between_136 rfl (fun c136 => ?_) (fun c136 => absurd rfl c136)
          refine x_iload_n (pc' := 144) rfl dX10_between_143 rfl ?_
          exact x_iret rfl dX10_between_144 (ret_i (by rw [if_neg (l_nle.mpr ((lg_cmp_lt _ _).mp c105)), if_neg (l_nle.mpr ((lg_cmp_lt _ _).mp c86))]))
        · refine x_iconst (v := 1) (pc' := 109) (by decide) dX10_between_108 rfl ?_
          refine x_goto (tgt := 113) (by decide) dX10_between_109 ?_
          refine x_istore (lv' := [_, _, _, _, _, _, _, _, _, _, _, _, _]) (pc' := 115) (by decide) rfl dX10_between_113 rfl ?_
          refine x_iload (pc' := 117) rfl dX10_between_115 rfl ?_
          refine x_if_eq (tgt := 134) (pc' := 120) (by decide) dX10_between_117 rfl (fun c117 => absurd c117 (by decide)) (fun c117 => ?_)
          refine x_iload (pc' := 122) rfl dX10_between_120 rfl ?_
          refine x_if_eq (tgt := 130) (pc' := 125) (by decide) dX10_between_122 rfl (fun c122 => ?_) (fun c122 => absurd rfl c122)
          refine x_iload_n (pc' := 131) rfl dX10_between_130 rfl ?_
          refine x_goto (tgt := 144) (by decide) dX10_between_131 ?_
          exact x_iret rfl dX10_between_144 (ret_i (by rw [if_pos (l_nlt.mp (fun q => c105 ((lg_cmp_lt _ _).mpr q))), if_neg (l_nle.mpr ((lg_cmp_lt _ _).mp c86))]))
      · refine x_iconst (v := 1) (pc' := 90) (by decide) dX10_between_89 rfl ?_
        refine x_goto (tgt := 94) (by decide) dX10_between_90 ?_
        refine x_istore (lv' := [_, _, _, _, _, _, _, _, _, _, _, _, _]) (pc' := 96) (by decide) rfl dX10_between_94 rfl ?_
        refine x_ldc2 (pc' := 99) kl_X10_81 dX10_between_96 rfl ?_
        refine x_lload (pc' := 101) rfl dX10_between_99 rfl ?_
        refine x_lmul (pc' := 102) dX10_between_101 rfl ?_
        refine x_lload (pc' := 104) rfl dX10_between_102 rfl ?_
        refine x_lcmp (pc' := 105) dX10_between_104 rfl ?_
        refine x_if_lt (tgt := 112) (pc' := 108) (by decide) dX10_between_105 rfl (fun c105 => ?_) (fun c105 => ?_)
        · refine x_iconst (v := 0) (pc' := 113) (by decide) dX10_between_112 rfl ?_
          refine x_istore (lv' := [_, _, _, _, _, _, _, _, _, _, _, _, _]) (pc' := 115) (by decide) rfl dX10_between_113 rfl ?_
          refine x_iload (pc' := 117) rfl dX10_between_115 rfl ?_
          refine x_if_eq (tgt := 134) (pc' := 120) (by decide) dX10_between_117 rfl (fun c117 => ?_) (fun c117 => absurd rfl c117)
          refine x_iload (pc' := 136) rfl dX10_between_134 rfl ?_
          refine x_if_eq (tgt := 143) (pc' := 139) (by decide) dX10_between_136 rfl (fun c136 => absurd c136 (by decide)) (fun c136 => ?_)
          refine x_iload_n (pc' := 140) rfl dX10_between_139 rfl ?_
          refine x_goto (tgt := 144) (by decide) dX10_between_140 ?_
          exact x_iret rfl dX10_between_144 (ret_i (by rw [if_neg (l_nle.mpr ((lg_cmp_lt _ _).mp c105)), if_pos (l_nlt.mp (fun q => c86 ((lg_cmp_lt _ _).mpr q)))]))
        · refine x_iconst (v := 1) (pc' := 109) (by decide) dX10_between_108 rfl ?_
          refine x_goto (tgt := 113) (by decide) dX10_between_109 ?_
          refine x_istore (lv' := [_, _, _, _, _, _, _, _, _, _, _, _, _]) (pc' := 115) (by decide) rfl dX10_between_113 rfl ?_
          refine x_iload (pc' := 117) rfl dX10_between_115 rfl ?_
          refine x_if_eq (tgt := 134) (pc' := 120) (by decide) dX10_between_117 rfl (fun c117 => absurd c117 (by decide)) (fun c117 => ?_)
          refine x_iload (pc' := 122) rfl dX10_between_120 rfl ?_
          refine x_if_eq (tgt := 130) (pc' := 125) (by decide) dX10_between_122 rfl (fun c122 => absurd c122 (by decide)) (fun c122 => ?_)
          refine x_iload (pc' := 127) rfl dX10_between_125 rfl ?_
          refine x_goto (tgt := 144) (by decide) dX10_between_127 ?_
          exact x_iret rfl dX10_between_144 (ret_i (by rw [if_pos (l_nlt.mp (fun q => c105 ((lg_cmp_lt _ _).mpr q))), if_pos (l_nlt.mp (fun q => c86 ((lg_cmp_lt _ _).mpr q)))]))
  · refine x_iload_n (pc' := 10) rfl dX10_between_9 rfl ?_
    refine x_i2l (pc' := 11) dX10_between_10 rfl ?_
    refine x_lload (pc' := 13) rfl dX10_between_11 rfl ?_
    refine x_lload (pc' := 15) rfl dX10_between_13 rfl ?_
    refine x_lsub (pc' := 16) dX10_between_15 rfl ?_
    refine x_lmul (pc' := 17) dX10_between_16 rfl ?_
    refine x_lload (pc' := 19) rfl dX10_between_17 rfl ?_
    refine x_lload (pc' := 21) rfl dX10_between_19 rfl ?_
    refine x_lsub (pc' := 22) dX10_between_21 rfl ?_
    refine x_lmul (pc' := 23) dX10_between_22 rfl ?_
    refine x_iload_n (pc' := 24) rfl dX10_between_23 rfl ?_
    refine x_i2l (pc' := 25) dX10_between_24 rfl ?_
    refine x_lload (pc' := 27) rfl dX10_between_25 rfl ?_
    refine x_lmul (pc' := 28) dX10_between_27 rfl ?_
    refine x_lload (pc' := 30) rfl dX10_between_28 rfl ?_
    refine x_lload (pc' := 32) rfl dX10_between_30 rfl ?_
    refine x_lsub (pc' := 33) dX10_between_32 rfl ?_
    refine x_lmul (pc' := 34) dX10_between_33 rfl ?_
    refine x_ladd (pc' := 35) dX10_between_34 rfl ?_
    refine x_iload_n (pc' := 36) rfl dX10_between_35 rfl ?_
    refine x_i2l (pc' := 37) dX10_between_36 rfl ?_
    refine x_lload (pc' := 39) rfl dX10_between_37 rfl ?_
    refine x_lload (pc' := 41) rfl dX10_between_39 rfl ?_
    refine x_lsub (pc' := 42) dX10_between_41 rfl ?_
    refine x_lmul (pc' := 43) dX10_between_42 rfl ?_
    refine x_lload (pc' := 45) rfl dX10_between_43 rfl ?_
    refine x_lmul (pc' := 46) dX10_between_45 rfl ?_
    refine x_ladd (pc' := 47) dX10_between_46 rfl ?_
    refine x_iload (pc' := 49) rfl dX10_between_47 rfl ?_
    refine x_i2l (pc' := 50) dX10_between_49 rfl ?_
    refine x_lload (pc' := 52) rfl dX10_between_50 rfl ?_
    refine x_lmul (pc' := 53) dX10_between_52 rfl ?_
    refine x_lload (pc' := 55) rfl dX10_between_53 rfl ?_
    refine x_lmul (pc' := 56) dX10_between_55 rfl ?_
    refine x_ladd (pc' := 57) dX10_between_56 rfl ?_
    refine x_lload (pc' := 59) rfl dX10_between_57 rfl ?_
    refine x_lload (pc' := 61) rfl dX10_between_59 rfl ?_
    refine x_lmul (pc' := 62) dX10_between_61 rfl ?_
    refine x_callSi (As := [.long _, .long _]) (rest := []) (pc' := 65) rfl sk_X10_83 mk_X10_rounded (by decide) rfl (Nat.le_of_ble_eq_true rfl) dX10_between_62 rfl (c_X10_rounded h2) ?_
    refine x_l2i (pc' := 66) dX10_between_65 rfl ?_
    exact x_iret rfl dX10_between_66 (ret_i (by rw [betw, if_pos c6]))
set_option maxRecDepth 100000 in
set_option maxHeartbeats 4000000 in
theorem v_X10_between {σ : St} {v0 : Nat → Int32} (hs : σ.1 19 = v0) {e f g h : Int32} {u v d : Int64} (h1 : ¬ 2 * d = 0) (h2 : ¬ 2 * (d * d) = 0) : Ct yX10_between M_X10_between [.ref 18, .int e, .int f, .int g, .int h, .long u, .long v, .long d] σ (some (.int (betw (v0 1) e f g h u v d)), σ) := by
  subst hs
  exact c_X10_between h1 h2
