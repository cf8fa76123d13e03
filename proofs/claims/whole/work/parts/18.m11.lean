theorem pA_app (σ : St) (k : Nat) (f : Nat → Int32) (a b : Nat) : (pA σ k f).1 a b = if a = k then f b else σ.1 a b := rfl
theorem pA_at (σ : St) (k : Nat) (f : Nat → Int32) : (pA σ k f).1 k = f := by
  funext b
  rw [pA_app, if_pos rfl]
theorem pA_pI (σ : St) (k j : Nat) (f : Nat → Int32) (x : Int32) : pI (pA σ k f) k j x = pA σ k (upd f j x) := by
  refine st_ext (fun a b => ?_) rfl
  rw [pI_app, pA_app, pA_app]
  by_cases ha : a = k
  · rw [if_pos ha, if_pos ha]
    by_cases hb : b = j
    · rw [if_pos ⟨ha, hb⟩]; simp [upd, hb]
    · rw [if_neg (fun q => hb q.2)]; simp [upd, hb]
  · rw [if_neg (fun q => ha q.1), if_neg ha, if_neg ha]
theorem pA_self (σ : St) (k : Nat) : pA σ k (σ.1 k) = σ := by
  refine st_ext (fun a b => ?_) rfl
  rw [pA_app]
  by_cases ha : a = k
  · rw [if_pos ha, ha]
  · rw [if_neg ha]
theorem pI_pA (σ : St) (k j : Nat) (x : Int32) : pI σ k j x = pA σ k (upd (σ.1 k) j x) := by
  have h := pA_pI σ k j (σ.1 k) x
  rwa [pA_self] at h
theorem pA_pA (σ : St) (k : Nat) (f f' : Nat → Int32) : pA (pA σ k f) k f' = pA σ k f' := by
  refine st_ext (fun a b => ?_) rfl
  rw [pA_app, pA_app, pA_app]
  by_cases ha : a = k
  · rw [if_pos ha, if_pos ha]
  · rw [if_neg ha, if_neg ha, if_neg ha]
theorem upd_app (f : Nat → Int32) (j : Nat) (x : Int32) (b : Nat) : upd f j x b = if b = j then x else f b := by
  by_cases h : b = j <;> simp [upd, h]
/-! ===== what is ahead of each deed ===== -/
def shP (p : Nat → Int32) (k j : Nat) : Int32 := if j < k then p (j + 338) else p j
def cpP (p v : Nat → Int32) (U k j : Nat) : Int32 := if 338 * U ≤ j ∧ j < 338 * U + k then v (j - 338 * U) else p j
theorem shP_0 (p : Nat → Int32) : shP p 0 = p := funext fun j => if_neg (by omega)
theorem shP_s (p : Nat → Int32) (k : Nat) : upd (shP p k) k (shP p k (k + 338)) = shP p (k + 1) := by
  funext j
  rw [upd_app]
  unfold shP
  by_cases h : j = k
  · rw [if_pos h, if_neg (by omega), if_pos (by omega), h]
  · rw [if_neg h]
    by_cases h2 : j < k
    · rw [if_pos h2, if_pos (by omega)]
    · rw [if_neg h2, if_neg (by omega)]
theorem cpP_0 (p v : Nat → Int32) (U : Nat) : cpP p v U 0 = p := funext fun j => if_neg (by omega)
theorem cpP_s (p v : Nat → Int32) (U k : Nat) : upd (cpP p v U k) (338 * U + k) (v k) = cpP p v U (k + 1) := by
  funext j
  rw [upd_app]
  unfold cpP
  by_cases h : j = 338 * U + k
  · rw [if_pos h, if_pos (by omega), h, Nat.add_sub_cancel_left]
  · rw [if_neg h]
    by_cases h2 : 338 * U ≤ j ∧ j < 338 * U + k
    · rw [if_pos h2, if_pos (by omega)]
    · rw [if_neg h2, if_neg (by omega)]
/-- the state now is put ahead of the earlier ones; of the 16 the oldest goes -/
def Push (σ σ' : St) (U : Nat) : Prop := σ'.1 18 3 = nI (min (U + 1) 16) ∧ (∀ j, j < 338 → σ'.1 20 (338 * (min (U + 1) 16 - 1) + j) = σ.1 19 j) ∧ (∀ i, i + 1 < min (U + 1) 16 → ∀ j, j < 338 → σ'.1 20 (338 * (min (U + 1) 16 - 1 - (i + 1)) + j) = σ.1 20 (338 * (U - 1 - i) + j)) ∧ (∀ k j, k ≠ 20 → ¬ (k = 18 ∧ j = 3) → σ'.1 k j = σ.1 k j) ∧ σ'.2 = σ.2
theorem Push.row {σ σ' : St} {U : Nat} (h : Push σ σ' U) {k : Nat} (h1 : k ≠ 20) (h2 : k ≠ 18) : σ'.1 k = σ.1 k := funext fun j => h.2.2.2.1 k j h1 (fun q => h2 q.1)
set_option maxRecDepth 100000 in
set_option maxHeartbeats 4000000 in
theorem l_X10_notes2 {ρ : St} {p : Nat → Int32} {U : Nat} {out : Option Value × St} (hU : ρ.1 18 3 = nI U) (hU15 : U ≤ 15) (kk : Ex M_X10_notes out 86 [some (.ref 18), some (.int (nI 338))] [] (pA ρ 20 (cpP p (ρ.1 19) U 338))) : ∀ (n k : Nat), k + n = 338 → Ex M_X10_notes out 52 [some (.ref 18), some (.int (nI k))] [] (pA ρ 20 (cpP p (ρ.1 19) U k)) := by
  intro n
  induction n with
  | zero =>
    intro k hk
    obtain rfl : k = 338 := by omega
    refine x_iload_n (pc' := 53) rfl dX10_notes_52 rfl ?_
    refine x_sipush (v := 338) (pc' := 56) (by decide) dX10_notes_53 rfl ?_
    refine x_icmp_ge (tgt := 86) (pc' := 59) (by decide) dX10_notes_56 rfl (fun c56 => ?_) (fun c56 => absurd (by decide) c56)
    exact kk
  | succ n ih =>
    intro k hk
    have hU2 : (pA ρ 20 (cpP p (ρ.1 19) U k)).1 18 3 = nI U := hU
    refine x_iload_n (pc' := 53) rfl dX10_notes_52 rfl ?_
    refine x_sipush (v := 338) (pc' := 56) (by decide) dX10_notes_53 rfl ?_
    refine x_icmp_ge (tgt := 86) (pc' := 59) (by decide) dX10_notes_56 rfl (fun c56 => absurd c56 (nI_ge (b := 338) (by omega) (by decide))) (fun c56 => ?_)
    refine x_aload_n (pc' := 60) rfl dX10_notes_59 rfl ?_
    refine x_get (v := .ref 20) (pc' := 63) fk_X10_13 (by first | assumption | exact ⟨by decide, rfl⟩) rfl dX10_notes_60 rfl ?_
    refine x_sipush (v := 338) (pc' := 66) (by decide) dX10_notes_63 rfl ?_
    refine x_aload_n (pc' := 67) rfl dX10_notes_66 rfl ?_
    refine x_get (v := .int _) (pc' := 70) fk_X10_166 (by first | assumption | exact ⟨by decide, rfl⟩) rfl dX10_notes_67 rfl ?_
    refine x_imul (pc' := 71) dX10_notes_70 rfl ?_
    refine x_iload_n (pc' := 72) rfl dX10_notes_71 rfl ?_
    refine x_iadd (pc' := 73) dX10_notes_72 rfl ?_
    refine x_aload_n (pc' := 74) rfl dX10_notes_73 rfl ?_
    refine x_get (v := .ref 19) (pc' := 77) fk_X10_7 (by first | assumption | exact ⟨by decide, rfl⟩) rfl dX10_notes_74 rfl ?_
    refine x_iload_n (pc' := 78) rfl dX10_notes_77 rfl ?_
    refine x_ialdn (N := 338) (n := k) (pc' := 79) (by first | assumption | exact ⟨by decide, rfl⟩) (by decide) rfl (by omega) dX10_notes_78 rfl ?_
    refine x_iastn (N := 5408) (n := 338 * U + k) (pc' := 80) (by first | assumption | exact ⟨by decide, rfl⟩) (by decide) (by rw [hU2]; simp only [lit32, pk_mul, nI_add]) (by omega) dX10_notes_79 rfl ?_
    refine x_st (pA_pI _ _ _ _ _) ?_
    refine x_st (σ' := pA ρ 20 (cpP p (ρ.1 19) U (k + 1))) (by rw [pA_ne (by decide), cpP_s]) ?_
    refine x_iinc (lv' := [_, _]) (pc' := 83) rfl (nI_1 k) (by decide) rfl dX10_notes_80 rfl ?_
    refine x_goto (tgt := 52) (by decide) dX10_notes_83 ?_
    exact ih (k + 1) (by omega)
set_option maxRecDepth 100000 in
set_option maxHeartbeats 4000000 in
theorem l_X10_notes1 {σ : St} {out : Option Value × St} (kk : Ex M_X10_notes out 40 [some (.ref 18), some (.int (nI 5070))] [] (pA σ 20 (shP (σ.1 20) 5070))) : ∀ (n k : Nat), k + n = 5070 → Ex M_X10_notes out 11 [some (.ref 18), some (.int (nI k))] [] (pA σ 20 (shP (σ.1 20) k)) := by
  intro n
  induction n with
  | zero =>
    intro k hk
    obtain rfl : k = 5070 := by omega
    refine x_iload_n (pc' := 12) rfl dX10_notes_11 rfl ?_
    refine x_sipush (v := 5070) (pc' := 15) (by decide) dX10_notes_12 rfl ?_
    refine x_icmp_ge (tgt := 40) (pc' := 18) (by decide) dX10_notes_15 rfl (fun c15 => ?_) (fun c15 => absurd (by decide) c15)
    exact kk
  | succ n ih =>
    intro k hk
    refine x_iload_n (pc' := 12) rfl dX10_notes_11 rfl ?_
    refine x_sipush (v := 5070) (pc' := 15) (by decide) dX10_notes_12 rfl ?_
    refine x_icmp_ge (tgt := 40) (pc' := 18) (by decide) dX10_notes_15 rfl (fun c15 => absurd c15 (nI_ge (b := 5070) (by omega) (by decide))) (fun c15 => ?_)
    refine x_aload_n (pc' := 19) rfl dX10_notes_18 rfl ?_
    refine x_get (v := .ref 20) (pc' := 22) fk_X10_13 (by first | assumption | exact ⟨by decide, rfl⟩) rfl dX10_notes_19 rfl ?_
    refine x_iload_n (pc' := 23) rfl dX10_notes_22 rfl ?_
    refine x_aload_n (pc' := 24) rfl dX10_notes_23 rfl ?_
    refine x_get (v := .ref 20) (pc' := 27) fk_X10_13 (by first | assumption | exact ⟨by decide, rfl⟩) rfl dX10_notes_24 rfl ?_
    refine x_iload_n (pc' := 28) rfl dX10_notes_27 rfl ?_
    refine x_sipush (v := 338) (pc' := 31) (by decide) dX10_notes_28 rfl ?_
    refine x_iadd (pc' := 32) dX10_notes_31 rfl ?_
    refine x_ialdn (N := 5408) (n := k + 338) (pc' := 33) (by first | assumption | exact ⟨by decide, rfl⟩) (by decide) (nI_add k 338) (by omega) dX10_notes_32 rfl ?_
    refine x_iastn (N := 5408) (n := k) (pc' := 34) (by first | assumption | exact ⟨by decide, rfl⟩) (by decide) rfl (by omega) dX10_notes_33 rfl ?_
    refine x_st (pA_pI _ _ _ _ _) ?_
    refine x_st (σ' := pA σ 20 (shP (σ.1 20) (k + 1))) (by rw [pA_at, shP_s]) ?_
    refine x_iinc (lv' := [_, _]) (pc' := 37) rfl (nI_1 k) (by decide) rfl dX10_notes_34 rfl ?_
    refine x_goto (tgt := 11) (by decide) dX10_notes_37 ?_
    exact ih (k + 1) (by omega)
theorem push_a {σ : St} {U : Nat} (h : U ≤ 15) : Push σ (pI (pA σ 20 (cpP (σ.1 20) (σ.1 19) U 338)) 18 3 (nI (U + 1))) U := by
  have hm : min (U + 1) 16 = U + 1 := Nat.min_eq_left (by omega)
  rw [Push, hm]
  refine ⟨by rw [pI_app, if_pos ⟨rfl, rfl⟩], fun j hj => ?_, fun i hi j hj => ?_, fun k j h1 h2 => ?_, rfl⟩
  · rw [pI_ne (by decide), pA_at, cpP, if_pos (by omega)]
    exact congrArg (σ.1 19) (by omega)
  · rw [pI_ne (by decide), pA_at, cpP, if_neg (by omega)]
    exact congrArg (σ.1 20) (by omega)
  · rw [pI_app, if_neg h2, pA_app, if_neg h1]
theorem push_b {σ : St} : Push σ (pI (pA (pI (pA σ 20 (shP (σ.1 20) 5070)) 18 3 (nI 15)) 20 (cpP (shP (σ.1 20) 5070) (σ.1 19) 15 338)) 18 3 (nI 16)) 16 := by
  rw [Push, show min (16 + 1) 16 = 16 from rfl]
  refine ⟨by rw [pI_app, if_pos ⟨rfl, rfl⟩], fun j hj => ?_, fun i hi j hj => ?_, fun k j h1 h2 => ?_, rfl⟩
  · rw [pI_ne (by decide), pA_at, cpP, if_pos (by omega)]
    exact congrArg (σ.1 19) (by omega)
  · rw [pI_ne (by decide), pA_at, cpP, if_neg (by omega), shP, if_pos (by omega)]
    exact congrArg (σ.1 20) (by omega)
  · rw [pI_app, if_neg h2, pA_app, if_neg h1, pI_app, if_neg h2, pA_app, if_neg h1]
set_option maxRecDepth 100000 in
set_option maxHeartbeats 4000000 in
theorem c_X10_notes {σ : St} {U : Nat} (hU : σ.1 18 3 = nI U) (hU16 : U ≤ 16) : ∃ σ', Ct yX10_notes M_X10_notes [.ref 18] σ (none, σ') ∧ Push σ σ' U := by
  by_cases h : U = 16
  · subst h
    refine ⟨_, ?_, push_b⟩
    refine ct_of (k := 1) rfl rfl rfl (Nat.le_of_ble_eq_true rfl) ?_
    refine x_aload_n (pc' := 1) rfl dX10_notes_0 rfl ?_
    refine x_get (v := .int _) (pc' := 4) fk_X10_166 (by first | assumption | exact ⟨by decide, rfl⟩) rfl dX10_notes_1 rfl ?_
    refine x_bipush (v := 16) (pc' := 6) (by decide) dX10_notes_4 rfl ?_
    refine x_icmp_ne (tgt := 50) (pc' := 9) (by decide) dX10_notes_6 rfl (fun c6 => absurd hU c6) (fun c6 => ?_)
    refine x_iconst (v := 0) (pc' := 10) (by decide) dX10_notes_9 rfl ?_
    refine x_istore_n (lv' := [_, _]) (pc' := 11) (by decide) rfl dX10_notes_10 rfl ?_
    refine x_st (by rw [shP_0, pA_self] : σ = pA σ 20 (shP (σ.1 20) 0)) ?_
    refine l_X10_notes1 ?_ _ 0 (Nat.zero_add _)
    refine x_aload_n (pc' := 41) rfl dX10_notes_40 rfl ?_
    refine x_dup (pc' := 42) rfl dX10_notes_41 rfl ?_
    refine x_get (v := .int _) (pc' := 45) fk_X10_166 (by first | assumption | exact ⟨by decide, rfl⟩) rfl dX10_notes_42 rfl ?_
    refine x_iconst (v := 1) (pc' := 46) (by decide) dX10_notes_45 rfl ?_
    refine x_isub (pc' := 47) dX10_notes_46 rfl ?_
    refine x_top (y := nI 15) (by rw [show (pA σ 20 (shP (σ.1 20) 5070)).1 18 3 = nI 16 from hU]; decide) ?_
    refine x_puti (pc' := 50) fk_X10_166 pk_9_3 rfl (by first | assumption | exact ⟨by decide, rfl⟩) dX10_notes_47 rfl ?_
    refine x_iconst (v := 0) (pc' := 51) (by decide) dX10_notes_50 rfl ?_
    refine x_istore_n (lv' := [_, _]) (pc' := 52) (by decide) rfl dX10_notes_51 rfl ?_
    refine x_st (σ' := pA (pI (pA σ 20 (shP (σ.1 20) 5070)) 18 3 (nI 15)) 20 (cpP (shP (σ.1 20) 5070) (σ.1 19) 15 0)) (by rw [cpP_0]; exact (pA_self (pI (pA σ 20 (shP (σ.1 20) 5070)) 18 3 (nI 15)) 20).symm) ?_
    refine l_X10_notes2 (ρ := pI (pA σ 20 (shP (σ.1 20) 5070)) 18 3 (nI 15)) (U := 15) rfl (by decide) ?_ _ 0 (Nat.zero_add _)
    refine x_aload_n (pc' := 87) rfl dX10_notes_86 rfl ?_
    refine x_dup (pc' := 88) rfl dX10_notes_87 rfl ?_
    refine x_get (v := .int _) (pc' := 91) fk_X10_166 (by first | assumption | exact ⟨by decide, rfl⟩) rfl dX10_notes_88 rfl ?_
    refine x_iconst (v := 1) (pc' := 92) (by decide) dX10_notes_91 rfl ?_
    refine x_iadd (pc' := 93) dX10_notes_92 rfl ?_
    refine x_puti (pc' := 96) fk_X10_166 pk_9_3 rfl (by first | assumption | exact ⟨by decide, rfl⟩) dX10_notes_93 rfl ?_
    exact x_vret rfl dX10_notes_96 rfl
  · refine ⟨_, ?_, push_a (by omega)⟩
    refine ct_of (k := 1) rfl rfl rfl (Nat.le_of_ble_eq_true rfl) ?_
    refine x_aload_n (pc' := 1) rfl dX10_notes_0 rfl ?_
    refine x_get (v := .int _) (pc' := 4) fk_X10_166 (by first | assumption | exact ⟨by decide, rfl⟩) rfl dX10_notes_1 rfl ?_
    refine x_bipush (v := 16) (pc' := 6) (by decide) dX10_notes_4 rfl ?_
    refine x_icmp_ne (tgt := 50) (pc' := 9) (by decide) dX10_notes_6 rfl (fun c6 => ?_) (fun c6 => absurd c6 (fun q => h (ni_inj (by omega) (by decide) (hU.symm.trans q))))
    refine x_iconst (v := 0) (pc' := 51) (by decide) dX10_notes_50 rfl ?_
    refine x_istore_n (lv' := [_, _]) (pc' := 52) (by decide) rfl dX10_notes_51 rfl ?_
    refine x_st (by rw [cpP_0, pA_self] : σ = pA σ 20 (cpP (σ.1 20) (σ.1 19) U 0)) ?_
    refine l_X10_notes2 hU (by omega) ?_ _ 0 (Nat.zero_add _)
    refine x_aload_n (pc' := 87) rfl dX10_notes_86 rfl ?_
    refine x_dup (pc' := 88) rfl dX10_notes_87 rfl ?_
    refine x_get (v := .int _) (pc' := 91) fk_X10_166 (by first | assumption | exact ⟨by decide, rfl⟩) rfl dX10_notes_88 rfl ?_
    refine x_iconst (v := 1) (pc' := 92) (by decide) dX10_notes_91 rfl ?_
    refine x_iadd (pc' := 93) dX10_notes_92 rfl ?_
    refine x_top (y := nI (U + 1)) (by rw [show (pA σ 20 (cpP (σ.1 20) (σ.1 19) U 338)).1 18 3 = nI U from hU]; exact nI_1 U) ?_
    refine x_puti (pc' := 96) fk_X10_166 pk_9_3 rfl (by first | assumption | exact ⟨by decide, rfl⟩) dX10_notes_93 rfl ?_
    exact x_vret rfl dX10_notes_96 rfl
def set2 (v : Nat → Int32) (i : Nat) (a b : Int32) : Nat → Int32 := upd (upd v i a) (i + 1) b
noncomputable def chg (v : Nat → Int32) (i : Nat) (a b : Int32) : Nat := pif (¬ v i = a ∨ ¬ v (i + 1) = b) 1 0
theorem chg_1 {v : Nat → Int32} {i : Nat} {a b : Int32} (h : ¬ nI (chg v i a b) = 0) : chg v i a b = 1 := by
  by_cases hq : ¬ v i = a ∨ ¬ v (i + 1) = b
  · rw [chg, pif_t hq]
  · rw [chg, pif_f hq] at h
    exact absurd rfl h
def ndI (G K R : Nat) : Nat := 38 + 50 * G + 2 * (5 * R + K)
set_option maxRecDepth 100000 in
set_option maxHeartbeats 4000000 in
theorem c_X10_sets {σ : St} {g c r dx dy : Int32} {G K R : Nat} (hg : g = nI G) (hc : c = nI K) (hr : r = nI R) (hG : G < 6) (hK : K < 5) (hR : R < 5) : Ct yX10_sets M_X10_sets [.ref 18, .int g, .int c, .int r, .int dx, .int dy] σ (some (.int (nI (chg (σ.1 19) (ndI G K R) dx dy))), pA σ 19 (set2 (σ.1 19) (ndI G K R) dx dy)) := by
  subst hg
  subst hc
  subst hr
  refine ct_of (k := 2) rfl rfl rfl (Nat.le_of_ble_eq_true rfl) ?_
  refine x_iload_n (pc' := 1) rfl dX10_sets_0 rfl ?_
  refine x_iload_n (pc' := 2) rfl dX10_sets_1 rfl ?_
  refine x_iload_n (pc' := 3) rfl dX10_sets_2 rfl ?_
  refine x_callSi (As := [.int _, .int _, .int _]) (rest := []) (pc' := 6) rfl sk_X10_62 mk_X10_at (by decide) rfl (Nat.le_of_ble_eq_true rfl) dX10_sets_3 rfl c_X10_at ?_
  refine x_top (y := nI (ndI G K R)) (by unfold ndI; simp only [lit32, pk_mul, nI_add]) ?_
  refine x_istore (lv' := [_, _, _, _, _, _, _, _]) (pc' := 8) (by decide) rfl dX10_sets_6 rfl ?_
  refine x_aload_n (pc' := 9) rfl dX10_sets_8 rfl ?_
  refine x_get (v := .ref 19) (pc' := 12) fk_X10_7 (by first | assumption | exact ⟨by decide, rfl⟩) rfl dX10_sets_9 rfl ?_
  refine x_iload (pc' := 14) rfl dX10_sets_12 rfl ?_
  refine x_ialdn (N := 338) (n := ndI G K R) (pc' := 15) (by first | assumption | exact ⟨by decide, rfl⟩) (by decide) rfl (by unfold ndI; omega) dX10_sets_14 rfl ?_
  refine x_iload (pc' := 17) rfl dX10_sets_15 rfl ?_
  refine x_icmp_ne (tgt := 34) (pc' := 20) (by decide) dX10_sets_17 rfl (fun c17 => ?_) (fun c17 => ?_)
  · refine x_iconst (v := 1) (pc' := 35) (by decide) dX10_sets_34 rfl ?_
    refine x_goto (tgt := 39) (by decide) dX10_sets_35 ?_
    refine x_top (y := nI (chg (σ.1 19) (ndI G K R) dx dy)) (by rw [chg, pif_t (Or.inl c17)]; rfl) ?_
    refine x_istore (lv' := [_, _, _, _, _, _, _, _]) (pc' := 41) (by decide) rfl dX10_sets_39 rfl ?_
    refine x_aload_n (pc' := 42) rfl dX10_sets_41 rfl ?_
    refine x_get (v := .ref 19) (pc' := 45) fk_X10_7 (by first | assumption | exact ⟨by decide, rfl⟩) rfl dX10_sets_42 rfl ?_
    refine x_iload (pc' := 47) rfl dX10_sets_45 rfl ?_
    refine x_iload (pc' := 49) rfl dX10_sets_47 rfl ?_
    refine x_iastn (N := 338) (n := ndI G K R) (pc' := 50) (by first | assumption | exact ⟨by decide, rfl⟩) (by decide) rfl (by unfold ndI; omega) dX10_sets_49 rfl ?_
    refine x_aload_n (pc' := 51) rfl dX10_sets_50 rfl ?_
    refine x_get (v := .ref 19) (pc' := 54) fk_X10_7 (by first | assumption | exact ⟨by decide, rfl⟩) rfl dX10_sets_51 rfl ?_
    refine x_iload (pc' := 56) rfl dX10_sets_54 rfl ?_
    refine x_iconst (v := 1) (pc' := 57) (by decide) dX10_sets_56 rfl ?_
    refine x_iadd (pc' := 58) dX10_sets_57 rfl ?_
    refine x_iload (pc' := 60) rfl dX10_sets_58 rfl ?_
    refine x_iastn (N := 338) (n := ndI G K R + 1) (pc' := 61) (by first | assumption | exact ⟨by decide, rfl⟩) (by decide) (nI_1 _) (by unfold ndI; omega) dX10_sets_60 rfl ?_
    refine x_st (σ' := pA σ 19 (set2 (σ.1 19) (ndI G K R) dx dy)) (by rw [pI_pA σ, pA_pI, set2]) ?_
    refine x_iload (pc' := 63) rfl dX10_sets_61 rfl ?_
    refine x_if_eq (tgt := 70) (pc' := 66) (by decide) dX10_sets_63 rfl (fun c63 => ?_) (fun c63 => ?_)
    · refine x_iconst (v := 0) (pc' := 71) (by decide) dX10_sets_70 rfl ?_
      exact x_iret rfl dX10_sets_71 (by rw [c63])
    · refine x_iconst (v := 1) (pc' := 67) (by decide) dX10_sets_66 rfl ?_
      refine x_goto (tgt := 71) (by decide) dX10_sets_67 ?_
      exact x_iret rfl dX10_sets_71 (by rw [chg_1 c63]; rfl)
  · refine x_aload_n (pc' := 21) rfl dX10_sets_20 rfl ?_
    refine x_get (v := .ref 19) (pc' := 24) fk_X10_7 (by first | assumption | exact ⟨by decide, rfl⟩) rfl dX10_sets_21 rfl ?_
    refine x_iload (pc' := 26) rfl dX10_sets_24 rfl ?_
    refine x_iconst (v := 1) (pc' := 27) (by decide) dX10_sets_26 rfl ?_
    refine x_iadd (pc' := 28) dX10_sets_27 rfl ?_
    refine x_ialdn (N := 338) (n := ndI G K R + 1) (pc' := 29) (by first | assumption | exact ⟨by decide, rfl⟩) (by decide) (nI_1 _) (by unfold ndI; omega) dX10_sets_28 rfl ?_
    refine x_iload (pc' := 31) rfl dX10_sets_29 rfl ?_
    refine x_icmp_eq (tgt := 38) (pc' := 34) (by decide) dX10_sets_31 rfl (fun c31 => ?_) (fun c31 => ?_)
    · refine x_iconst (v := 0) (pc' := 39) (by decide) dX10_sets_38 rfl ?_
      refine x_top (y := nI (chg (σ.1 19) (ndI G K R) dx dy)) (by rw [chg, pif_f (fun q => q.elim (fun h => h c17) (fun h => h c31))]; rfl) ?_
      refine x_istore (lv' := [_, _, _, _, _, _, _, _]) (pc' := 41) (by decide) rfl dX10_sets_39 rfl ?_
      refine x_aload_n (pc' := 42) rfl dX10_sets_41 rfl ?_
      refine x_get (v := .ref 19) (pc' := 45) fk_X10_7 (by first | assumption | exact ⟨by decide, rfl⟩) rfl dX10_sets_42 rfl ?_
      refine x_iload (pc' := 47) rfl dX10_sets_45 rfl ?_
      refine x_iload (pc' := 49) rfl dX10_sets_47 rfl ?_
      refine x_iastn (N := 338) (n := ndI G K R) (pc' := 50) (by first | assumption | exact ⟨by decide, rfl⟩) (by decide) rfl (by unfold ndI; omega) dX10_sets_49 rfl ?_
      refine x_aload_n (pc' := 51) rfl dX10_sets_50 rfl ?_
      refine x_get (v := .ref 19) (pc' := 54) fk_X10_7 (by first | assumption | exact ⟨by decide, rfl⟩) rfl dX10_sets_51 rfl ?_
      refine x_iload (pc' := 56) rfl dX10_sets_54 rfl ?_
      refine x_iconst (v := 1) (pc' := 57) (by decide) dX10_sets_56 rfl ?_
      refine x_iadd (pc' := 58) dX10_sets_57 rfl ?_
      refine x_iload (pc' := 60) rfl dX10_sets_58 rfl ?_
      refine x_iastn (N := 338) (n := ndI G K R + 1) (pc' := 61) (by first | assumption | exact ⟨by decide, rfl⟩) (by decide) (nI_1 _) (by unfold ndI; omega) dX10_sets_60 rfl ?_
      refine x_st (σ' := pA σ 19 (set2 (σ.1 19) (ndI G K R) dx dy)) (by rw [pI_pA σ, pA_pI, set2]) ?_
      refine x_iload (pc' := 63) rfl dX10_sets_61 rfl ?_
      refine x_if_eq (tgt := 70) (pc' := 66) (by decide) dX10_sets_63 rfl (fun c63 => ?_) (fun c63 => ?_)
      · refine x_iconst (v := 0) (pc' := 71) (by decide) dX10_sets_70 rfl ?_
        exact x_iret rfl dX10_sets_71 (by rw [c63])
      · refine x_iconst (v := 1) (pc' := 67) (by decide) dX10_sets_66 rfl ?_
        refine x_goto (tgt := 71) (by decide) dX10_sets_67 ?_
        exact x_iret rfl dX10_sets_71 (by rw [chg_1 c63]; rfl)
    · refine x_iconst (v := 1) (pc' := 35) (by decide) dX10_sets_34 rfl ?_
      refine x_goto (tgt := 39) (by decide) dX10_sets_35 ?_
      refine x_top (y := nI (chg (σ.1 19) (ndI G K R) dx dy)) (by rw [chg, pif_t (Or.inr c31)]; rfl) ?_
      refine x_istore (lv' := [_, _, _, _, _, _, _, _]) (pc' := 41) (by decide) rfl dX10_sets_39 rfl ?_
      refine x_aload_n (pc' := 42) rfl dX10_sets_41 rfl ?_
      refine x_get (v := .ref 19) (pc' := 45) fk_X10_7 (by first | assumption | exact ⟨by decide, rfl⟩) rfl dX10_sets_42 rfl ?_
      refine x_iload (pc' := 47) rfl dX10_sets_45 rfl ?_
      refine x_iload (pc' := 49) rfl dX10_sets_47 rfl ?_
      refine x_iastn (N := 338) (n := ndI G K R) (pc' := 50) (by first | assumption | exact ⟨by decide, rfl⟩) (by decide) rfl (by unfold ndI; omega) dX10_sets_49 rfl ?_
      refine x_aload_n (pc' := 51) rfl dX10_sets_50 rfl ?_
      refine x_get (v := .ref 19) (pc' := 54) fk_X10_7 (by first | assumption | exact ⟨by decide, rfl⟩) rfl dX10_sets_51 rfl ?_
      refine x_iload (pc' := 56) rfl dX10_sets_54 rfl ?_
      refine x_iconst (v := 1) (pc' := 57) (by decide) dX10_sets_56 rfl ?_
      refine x_iadd (pc' := 58) dX10_sets_57 rfl ?_
      refine x_iload (pc' := 60) rfl dX10_sets_58 rfl ?_
      refine x_iastn (N := 338) (n := ndI G K R + 1) (pc' := 61) (by first | assumption | exact ⟨by decide, rfl⟩) (by decide) (nI_1 _) (by unfold ndI; omega) dX10_sets_60 rfl ?_
      refine x_st (σ' := pA σ 19 (set2 (σ.1 19) (ndI G K R) dx dy)) (by rw [pI_pA σ, pA_pI, set2]) ?_
      refine x_iload (pc' := 63) rfl dX10_sets_61 rfl ?_
      refine x_if_eq (tgt := 70) (pc' := 66) (by decide) dX10_sets_63 rfl (fun c63 => ?_) (fun c63 => ?_)
      · refine x_iconst (v := 0) (pc' := 71) (by decide) dX10_sets_70 rfl ?_
        exact x_iret rfl dX10_sets_71 (by rw [c63])
      · refine x_iconst (v := 1) (pc' := 67) (by decide) dX10_sets_66 rfl ?_
        refine x_goto (tgt := 71) (by decide) dX10_sets_67 ?_
        exact x_iret rfl dX10_sets_71 (by rw [chg_1 c63]; rfl)
set_option maxRecDepth 100000 in
set_option maxHeartbeats 4000000 in
theorem v_X10_sets {σ : St} {v0 : Nat → Int32} (hs : σ.1 19 = v0) {g c r dx dy : Int32} {G K R : Nat} (hg : g = nI G) (hc : c = nI K) (hr : r = nI R) (hG : G < 6) (hK : K < 5) (hR : R < 5) : Ct yX10_sets M_X10_sets [.ref 18, .int g, .int c, .int r, .int dx, .int dy] σ (some (.int (nI (chg v0 (ndI G K R) dx dy))), pA σ 19 (set2 v0 (ndI G K R) dx dy)) := by
  subst hs
  exact c_X10_sets hg hc hr hG hK hR
def ofsP (dx dy : Int32) : Prop := (-999 ≤ dx ∧ dx ≤ 999) ∧ -999 ≤ dy ∧ dy ≤ 999
theorem in_9 (x : Int32) : ((-999 : Int64) ≤ x.toInt64 ∧ x.toInt64 ≤ 999) ↔ (-999 ≤ x ∧ x ≤ 999) := in_c x (-999) 999 (by decide) (by decide)
theorem ofsP.sm {dx dy : Int32} (h : ofsP dx dy) : Sm dx ∧ Sm dy := by
  obtain ⟨⟨h1, h2⟩, h3, h4⟩ := h
  rw [sI_le] at h1 h2 h3 h4
  exact ⟨⟨h1, h2⟩, h3, h4⟩
set_option maxRecDepth 100000 in
set_option maxHeartbeats 4000000 in
theorem c_X10_isOffset {σ : St} {dx dy : Int32} : Ct yX10_isOffset M_X10_isOffset [.int dx, .int dy] σ (some (.int (pb (ofsP dx dy))), σ) := by
  refine ct_of (k := 0) rfl rfl rfl (Nat.le_of_ble_eq_true rfl) ?_
  refine x_iload_n (pc' := 1) rfl dX10_isOffset_0 rfl ?_
  refine x_i2l (pc' := 2) dX10_isOffset_1 rfl ?_
  refine x_ldc2 (pc' := 5) kl_X10_226 dX10_isOffset_2 rfl ?_
  refine x_ldc2 (pc' := 8) kl_X10_228 dX10_isOffset_5 rfl ?_
  refine x_callSi (As := [.long _, .long _, .long _]) (rest := []) (pc' := 11) rfl sk_X10_50 mk_X10_in (by decide) rfl (Nat.le_of_ble_eq_true rfl) dX10_isOffset_8 rfl c_X10_in ?_
  refine x_if_eq (tgt := 32) (pc' := 14) (by decide) dX10_isOffset_11 rfl (fun c11 => ?_) (fun c11 => ?_)
  · refine x_iconst (v := 0) (pc' := 33) (by decide) dX10_isOffset_32 rfl ?_
    exact x_zret rfl (by first | rfl | exact b01_nar _ | exact pb_nar _) dX10_isOffset_33 (ret_i (pb_0 (fun h => b01_0.mp c11 ((in_9 dx).mpr h.1))).symm)
  · refine x_iload_n (pc' := 15) rfl dX10_isOffset_14 rfl ?_
    refine x_i2l (pc' := 16) dX10_isOffset_15 rfl ?_
    refine x_ldc2 (pc' := 19) kl_X10_226 dX10_isOffset_16 rfl ?_
    refine x_ldc2 (pc' := 22) kl_X10_228 dX10_isOffset_19 rfl ?_
    refine x_callSi (As := [.long _, .long _, .long _]) (rest := []) (pc' := 25) rfl sk_X10_50 mk_X10_in (by decide) rfl (Nat.le_of_ble_eq_true rfl) dX10_isOffset_22 rfl c_X10_in ?_
    refine x_if_eq (tgt := 32) (pc' := 28) (by decide) dX10_isOffset_25 rfl (fun c25 => ?_) (fun c25 => ?_)
    · refine x_iconst (v := 0) (pc' := 33) (by decide) dX10_isOffset_32 rfl ?_
      exact x_zret rfl (by first | rfl | exact b01_nar _ | exact pb_nar _) dX10_isOffset_33 (ret_i (pb_0 (fun h => b01_0.mp c25 ((in_9 dy).mpr h.2))).symm)
    · refine x_iconst (v := 1) (pc' := 29) (by decide) dX10_isOffset_28 rfl ?_
      refine x_goto (tgt := 33) (by decide) dX10_isOffset_29 ?_
      exact x_zret rfl (by first | rfl | exact b01_nar _ | exact pb_nar _) dX10_isOffset_33 (ret_i (pb_1 ⟨(in_9 dx).mp (Classical.not_not.mp (fun h => c11 (b01_0.mpr h))), (in_9 dy).mp (Classical.not_not.mp (fun h => c25 (b01_0.mpr h)))⟩).symm)
