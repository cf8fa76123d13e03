/-- a deed of the reference: the row is another, the one ahead of it is kept -/
def DeedM (σ σ' : St) (U : Nat) (v' : Nat → Int32) : Prop := σ'.1 18 3 = nI (min (U + 1) 16) ∧ (∀ j, j < 338 → σ'.1 20 (338 * (min (U + 1) 16 - 1) + j) = σ.1 19 j) ∧ (∀ i, i + 1 < min (U + 1) 16 → ∀ j, j < 338 → σ'.1 20 (338 * (min (U + 1) 16 - 1 - (i + 1)) + j) = σ.1 20 (338 * (U - 1 - i) + j)) ∧ σ'.1 19 = v' ∧ (∀ k j, k ≠ 18 → k ≠ 19 → k ≠ 20 → k ≠ 27 → k ≠ 28 → σ'.1 k j = σ.1 k j) ∧ (∀ j, j ≠ 0 → j ≠ 3 → j ≠ 12 → j ≠ 13 → σ'.1 18 j = σ.1 18 j) ∧ σ'.2 = σ.2
theorem deed_of {σ τ : St} {U : Nat} (hp : Push (pI σ 18 0 0) τ U) (v' : Nat → Int32) : DeedM σ (pA τ 19 v') U v' := by
  obtain ⟨h1, h2, h3, h4, h5⟩ := hp
  refine ⟨h1, h2, h3, pA_at _ _ _, fun k j k1 k2 k3 _ _ => ?_, fun j j0 j3 _ _ => ?_, h5⟩
  · rw [pA_ne k2, h4 k j k3 (fun q => k1 q.1), pI_ne k1]
  · rw [pA_ne (by decide), h4 18 j (by decide) (fun q => j3 q.2), pI_app, if_neg (fun q => j0 q.2)]
theorem set2_lo {v : Nat → Int32} {i j : Nat} {a b : Int32} (h : j < i) : set2 v i a b j = v j := by
  rw [set2, upd_app, if_neg (by omega), upd_app, if_neg (by omega)]
set_option maxRecDepth 100000 in
set_option maxHeartbeats 4000000 in
theorem a_X10_node {σ : St} {dx dy : Int32} {G K R : Nat} (hv : Ok (σ.1 19)) (hG : G < cN (σ.1 19)) (hK : K < fN (σ.1 19) G 4) (hR : R < fN (σ.1 19) G 5) (ho : ofsP dx dy) {U : Nat} (hU : σ.1 18 3 = nI U) (hU16 : U ≤ 16) : ∃ σ', Ct yX10_node M_X10_node [.ref 18, .int (nI G), .int (nI K), .int (nI R), .int dx, .int dy] σ (some (.int (nI (chg (σ.1 19) (ndI G K R) dx dy))), σ') ∧ DeedM σ σ' U (set2 (σ.1 19) (ndI G K R) dx dy) := by
  obtain ⟨τ, hN, hpu⟩ := c_X10_notes (σ := pI σ 18 0 0) hU hU16
  have hs : τ.1 19 = σ.1 19 := by rw [hpu.row (by decide) (by decide), pI_ne (by decide)]
  have hs0 : (pI σ 18 0 0).1 19 = σ.1 19 := pI_ne (by decide)
  obtain ⟨g6, c5, r5, c2, r2, s1, s64⟩ := hv.b hG
  have hf := hv.F hG
  have hnd : nodS (σ.1 19) (nI G) (nI K) (nI R) := by
    have e : (nI G).toNatClampNeg = G := nI_clamp (by omega)
    rw [nodS, grS, e, hv.c0, hf.at (by omega) (by omega), hf.at (by omega) (by omega)]
    exact ⟨⟨nI_pos' (by omega), nI_lt hG (by have := hv.c6; omega)⟩, ⟨nI_pos' (by omega), nI_lt hK (by omega)⟩, nI_pos' (by omega), nI_lt hR (by omega)⟩
  refine ⟨_, ?_, deed_of hpu _⟩
  refine ct_of (k := 0) rfl rfl rfl (Nat.le_of_ble_eq_true rfl) ?_
  refine x_aload_n (pc' := 1) rfl dX10_node_0 rfl ?_
  refine x_iconst (v := 0) (pc' := 2) (by decide) dX10_node_1 rfl ?_
  refine x_puti (pc' := 5) fk_X10_46 pk_9_0 rfl (by first | assumption | exact ⟨by decide, rfl⟩) dX10_node_2 rfl ?_
  refine x_aload_n (pc' := 6) rfl dX10_node_5 rfl ?_
  refine x_iload_n (pc' := 7) rfl dX10_node_6 rfl ?_
  refine x_iload_n (pc' := 8) rfl dX10_node_7 rfl ?_
  refine x_iload_n (pc' := 9) rfl dX10_node_8 rfl ?_
  refine x_callVi (As := [.int _, .int _, .int _]) (rest := []) (ci := 9) (pc' := 12) rfl vk_X10_179 mk_X10_isNode (by decide) (by first | assumption | exact ⟨by decide, rfl⟩) (by decide) rfl (Nat.le_of_ble_eq_true rfl) dX10_node_9 rfl (v_X10_isNode hs0 hv) ?_
  refine x_if_ne (tgt := 18) (pc' := 15) (by decide) dX10_node_12 rfl (fun c12 => ?_) (fun c12 => absurd c12 (by rw [pb_1 hnd]; decide))
  refine x_iload (pc' := 20) rfl dX10_node_18 rfl ?_
  refine x_iload (pc' := 22) rfl dX10_node_20 rfl ?_
  refine x_callSi (As := [.int _, .int _]) (rest := []) (pc' := 25) rfl sk_X10_230 mk_X10_isOffset (by decide) rfl (Nat.le_of_ble_eq_true rfl) dX10_node_22 rfl c_X10_isOffset ?_
  refine x_if_ne (tgt := 31) (pc' := 28) (by decide) dX10_node_25 rfl (fun c25 => ?_) (fun c25 => absurd c25 (by rw [pb_1 ho]; decide))
  refine x_aload_n (pc' := 32) rfl dX10_node_31 rfl ?_
  refine x_callVv (As := []) (rest := []) (ci := 9) (pc' := 35) rfl vk_X10_223 mk_X10_notes (by decide) (by first | assumption | exact ⟨by decide, rfl⟩) (by decide) rfl (Nat.le_of_ble_eq_true rfl) dX10_node_32 rfl hN ?_
  refine x_aload_n (pc' := 36) rfl dX10_node_35 rfl ?_
  refine x_iload_n (pc' := 37) rfl dX10_node_36 rfl ?_
  refine x_iload_n (pc' := 38) rfl dX10_node_37 rfl ?_
  refine x_iload_n (pc' := 39) rfl dX10_node_38 rfl ?_
  refine x_iload (pc' := 41) rfl dX10_node_39 rfl ?_
  refine x_iload (pc' := 43) rfl dX10_node_41 rfl ?_
  refine x_callVi (As := [.int _, .int _, .int _, .int _, .int _]) (rest := []) (ci := 9) (pc' := 46) rfl vk_X10_233 mk_X10_sets (by decide) (by first | assumption | exact ⟨by decide, rfl⟩) (by decide) rfl (Nat.le_of_ble_eq_true rfl) dX10_node_43 rfl (v_X10_sets hs rfl rfl rfl g6 (by omega) (by omega)) ?_
  exact x_iret rfl dX10_node_46 rfl
set_option maxRecDepth 100000 in
set_option maxHeartbeats 4000000 in
theorem r_X10_node {σ : St} {g c r dx dy : Int32} (hv : Ok (σ.1 19)) (hn : ¬ (nodS (σ.1 19) g c r ∧ ofsP dx dy)) : ∃ σ', Ct yX10_node M_X10_node [.ref 18, .int g, .int c, .int r, .int dx, .int dy] σ (some (.int (pif (nodS (σ.1 19) g c r) (-1000000002) (-1000000001))), σ') ∧ ScM σ σ' := by
  have hs0 : (pI σ 18 0 0).1 19 = σ.1 19 := pI_ne (by decide)
  refine ⟨_, ?_, ScM.thr σ 0⟩
  by_cases h : nodS (σ.1 19) g c r
  · rw [pif_t h]
    refine ct_of (k := 0) rfl rfl rfl (Nat.le_of_ble_eq_true rfl) ?_
    refine x_aload_n (pc' := 1) rfl dX10_node_0 rfl ?_
    refine x_iconst (v := 0) (pc' := 2) (by decide) dX10_node_1 rfl ?_
    refine x_puti (pc' := 5) fk_X10_46 pk_9_0 rfl (by first | assumption | exact ⟨by decide, rfl⟩) dX10_node_2 rfl ?_
    refine x_aload_n (pc' := 6) rfl dX10_node_5 rfl ?_
    refine x_iload_n (pc' := 7) rfl dX10_node_6 rfl ?_
    refine x_iload_n (pc' := 8) rfl dX10_node_7 rfl ?_
    refine x_iload_n (pc' := 9) rfl dX10_node_8 rfl ?_
    refine x_callVi (As := [.int _, .int _, .int _]) (rest := []) (ci := 9) (pc' := 12) rfl vk_X10_179 mk_X10_isNode (by decide) (by first | assumption | exact ⟨by decide, rfl⟩) (by decide) rfl (Nat.le_of_ble_eq_true rfl) dX10_node_9 rfl (v_X10_isNode hs0 hv) ?_
    refine x_if_ne (tgt := 18) (pc' := 15) (by decide) dX10_node_12 rfl (fun c12 => ?_) (fun c12 => absurd c12 (by rw [pb_1 h]; decide))
    refine x_iload (pc' := 20) rfl dX10_node_18 rfl ?_
    refine x_iload (pc' := 22) rfl dX10_node_20 rfl ?_
    refine x_callSi (As := [.int _, .int _]) (rest := []) (pc' := 25) rfl sk_X10_230 mk_X10_isOffset (by decide) rfl (Nat.le_of_ble_eq_true rfl) dX10_node_22 rfl c_X10_isOffset ?_
    refine x_if_ne (tgt := 31) (pc' := 28) (by decide) dX10_node_25 rfl (fun c25 => absurd (pb_0 (fun q => hn ⟨h, q⟩)) c25) (fun c25 => ?_)
    refine x_ldc (pc' := 30) kc_X10_169 dX10_node_28 rfl ?_
    exact x_iret rfl dX10_node_30 rfl
  · rw [pif_f h]
    refine ct_of (k := 0) rfl rfl rfl (Nat.le_of_ble_eq_true rfl) ?_
    refine x_aload_n (pc' := 1) rfl dX10_node_0 rfl ?_
    refine x_iconst (v := 0) (pc' := 2) (by decide) dX10_node_1 rfl ?_
    refine x_puti (pc' := 5) fk_X10_46 pk_9_0 rfl (by first | assumption | exact ⟨by decide, rfl⟩) dX10_node_2 rfl ?_
    refine x_aload_n (pc' := 6) rfl dX10_node_5 rfl ?_
    refine x_iload_n (pc' := 7) rfl dX10_node_6 rfl ?_
    refine x_iload_n (pc' := 8) rfl dX10_node_7 rfl ?_
    refine x_iload_n (pc' := 9) rfl dX10_node_8 rfl ?_
    refine x_callVi (As := [.int _, .int _, .int _]) (rest := []) (ci := 9) (pc' := 12) rfl vk_X10_179 mk_X10_isNode (by decide) (by first | assumption | exact ⟨by decide, rfl⟩) (by decide) rfl (Nat.le_of_ble_eq_true rfl) dX10_node_9 rfl (v_X10_isNode hs0 hv) ?_
    refine x_if_ne (tgt := 18) (pc' := 15) (by decide) dX10_node_12 rfl (fun c12 => absurd (pb_0 h) c12) (fun c12 => ?_)
    refine x_ldc (pc' := 17) kc_X10_170 dX10_node_15 rfl ?_
    exact x_iret rfl dX10_node_17 rfl
def flV (v : Nat → Int32) (C G : Nat) (dx dy : Int32) : Nat → Nat → Int32
  | 0 => v
  | k + 1 => set2 (flV v C G dx dy k) (ndI G (k % C) (k / C)) dx dy
noncomputable def flN (v : Nat → Int32) (C G : Nat) (dx dy : Int32) (n : Nat) : Nat := sumN (fun k => chg (flV v C G dx dy k) (ndI G (k % C) (k / C)) dx dy) n
theorem flV_lo (v : Nat → Int32) (C G : Nat) (dx dy : Int32) {j : Nat} (h : j < 38) : ∀ k, flV v C G dx dy k j = v j
  | 0 => rfl
  | k + 1 => by rw [flV, set2_lo (by unfold ndI; omega), flV_lo v C G dx dy h k]
set_option maxRecDepth 100000 in
set_option maxHeartbeats 4000000 in
theorem l_X10_fill {σ τ : St} {dx dy : Int32} {G : Nat} (hv : Ok (σ.1 19)) (hG : G < cN (σ.1 19)) : ∀ (n k : Nat), k + n = fN (σ.1 19) G 4 * fN (σ.1 19) G 5 → Ex M_X10_fill (some (.int (nI (flN (σ.1 19) (fN (σ.1 19) G 4) G dx dy (fN (σ.1 19) G 4 * fN (σ.1 19) G 5)))), pA τ 19 (flV (σ.1 19) (fN (σ.1 19) G 4) G dx dy (fN (σ.1 19) G 4 * fN (σ.1 19) G 5))) 37 [some (.ref 18), some (.int (nI G)), some (.int dx), some (.int dy), some (.int (nI (flN (σ.1 19) (fN (σ.1 19) G 4) G dx dy k))), some (.int (nI k))] [] (pA τ 19 (flV (σ.1 19) (fN (σ.1 19) G 4) G dx dy k)) := by
  intro n
  induction n with
  | zero =>
    intro k hk
    obtain ⟨g6, c5, r5, c2, r2, s1, s64⟩ := hv.b hG
    have hf := hv.F hG
    have hm : fN (σ.1 19) G 4 * fN (σ.1 19) G 5 ≤ 5 * 5 := Nat.mul_le_mul c5 r5
    have hs : (pA τ 19 (flV (σ.1 19) (fN (σ.1 19) G 4) G dx dy k)).1 19 = flV (σ.1 19) (fN (σ.1 19) G 4) G dx dy k := pA_at _ _ _
    have e4 : flV (σ.1 19) (fN (σ.1 19) G 4) G dx dy k (2 + 6 * G + 4) = nI (fN (σ.1 19) G 4) := by rw [flV_lo _ _ _ _ _ (by omega)]; exact hf.at (by omega) (by omega)
    have e5 : flV (σ.1 19) (fN (σ.1 19) G 4) G dx dy k (2 + 6 * G + 5) = nI (fN (σ.1 19) G 5) := by rw [flV_lo _ _ _ _ _ (by omega)]; exact hf.at (by omega) (by omega)
    obtain rfl : k = fN (σ.1 19) G 4 * fN (σ.1 19) G 5 := by omega
    refine x_iload (pc' := 39) rfl dX10_fill_37 rfl ?_
    refine x_aload_n (pc' := 40) rfl dX10_fill_39 rfl ?_
    refine x_iload_n (pc' := 41) rfl dX10_fill_40 rfl ?_
    refine x_iconst (v := 4) (pc' := 42) (by decide) dX10_fill_41 rfl ?_
    refine x_callVi (As := [.int _, .int _]) (rest := [.int _]) (ci := 9) (pc' := 45) rfl vk_X10_58 mk_X10_its (by decide) (by first | assumption | exact ⟨by decide, rfl⟩) (by decide) rfl (Nat.le_of_ble_eq_true rfl) dX10_fill_42 rfl (v_X10_its hs (E := 4) rfl rfl (by omega)) ?_
    refine x_aload_n (pc' := 46) rfl dX10_fill_45 rfl ?_
    refine x_iload_n (pc' := 47) rfl dX10_fill_46 rfl ?_
    refine x_iconst (v := 5) (pc' := 48) (by decide) dX10_fill_47 rfl ?_
    refine x_callVi (As := [.int _, .int _]) (rest := [.int _, .int _]) (ci := 9) (pc' := 51) rfl vk_X10_58 mk_X10_its (by decide) (by first | assumption | exact ⟨by decide, rfl⟩) (by decide) rfl (Nat.le_of_ble_eq_true rfl) dX10_fill_48 rfl (v_X10_its hs (E := 5) rfl rfl (by omega)) ?_
    refine x_imul (pc' := 52) dX10_fill_51 rfl ?_
    refine x_icmp_ge (tgt := 91) (pc' := 55) (by decide) dX10_fill_52 rfl (fun c52 => ?_) (fun c52 => absurd (by rw [e4, e5, pk_mul]; exact nI_le (by omega) (by omega)) c52)
    refine x_iload (pc' := 93) rfl dX10_fill_91 rfl ?_
    exact x_iret rfl dX10_fill_93 rfl
  | succ n ih =>
    intro k hk
    obtain ⟨g6, c5, r5, c2, r2, s1, s64⟩ := hv.b hG
    have hf := hv.F hG
    have hm : fN (σ.1 19) G 4 * fN (σ.1 19) G 5 ≤ 5 * 5 := Nat.mul_le_mul c5 r5
    have hs : (pA τ 19 (flV (σ.1 19) (fN (σ.1 19) G 4) G dx dy k)).1 19 = flV (σ.1 19) (fN (σ.1 19) G 4) G dx dy k := pA_at _ _ _
    have e4 : flV (σ.1 19) (fN (σ.1 19) G 4) G dx dy k (2 + 6 * G + 4) = nI (fN (σ.1 19) G 4) := by rw [flV_lo _ _ _ _ _ (by omega)]; exact hf.at (by omega) (by omega)
    have e5 : flV (σ.1 19) (fN (σ.1 19) G 4) G dx dy k (2 + 6 * G + 5) = nI (fN (σ.1 19) G 5) := by rw [flV_lo _ _ _ _ _ (by omega)]; exact hf.at (by omega) (by omega)
    obtain ⟨k1, k2⟩ := kmod (k := k) (C := fN (σ.1 19) G 4) (R := fN (σ.1 19) G 5) (by omega) (by omega)
    refine x_iload (pc' := 39) rfl dX10_fill_37 rfl ?_
    refine x_aload_n (pc' := 40) rfl dX10_fill_39 rfl ?_
    refine x_iload_n (pc' := 41) rfl dX10_fill_40 rfl ?_
    refine x_iconst (v := 4) (pc' := 42) (by decide) dX10_fill_41 rfl ?_
    refine x_callVi (As := [.int _, .int _]) (rest := [.int _]) (ci := 9) (pc' := 45) rfl vk_X10_58 mk_X10_its (by decide) (by first | assumption | exact ⟨by decide, rfl⟩) (by decide) rfl (Nat.le_of_ble_eq_true rfl) dX10_fill_42 rfl (v_X10_its hs (E := 4) rfl rfl (by omega)) ?_
    refine x_aload_n (pc' := 46) rfl dX10_fill_45 rfl ?_
    refine x_iload_n (pc' := 47) rfl dX10_fill_46 rfl ?_
    refine x_iconst (v := 5) (pc' := 48) (by decide) dX10_fill_47 rfl ?_
    refine x_callVi (As := [.int _, .int _]) (rest := [.int _, .int _]) (ci := 9) (pc' := 51) rfl vk_X10_58 mk_X10_its (by decide) (by first | assumption | exact ⟨by decide, rfl⟩) (by decide) rfl (Nat.le_of_ble_eq_true rfl) dX10_fill_48 rfl (v_X10_its hs (E := 5) rfl rfl (by omega)) ?_
    refine x_imul (pc' := 52) dX10_fill_51 rfl ?_
    refine x_icmp_ge (tgt := 91) (pc' := 55) (by decide) dX10_fill_52 rfl (fun c52 => absurd c52 (by rw [e4, e5, pk_mul]; exact nI_ge (by omega) (by omega))) (fun c52 => ?_)
    refine x_iload (pc' := 57) rfl dX10_fill_55 rfl ?_
    refine x_aload_n (pc' := 58) rfl dX10_fill_57 rfl ?_
    refine x_iload_n (pc' := 59) rfl dX10_fill_58 rfl ?_
    refine x_iload (pc' := 61) rfl dX10_fill_59 rfl ?_
    refine x_aload_n (pc' := 62) rfl dX10_fill_61 rfl ?_
    refine x_iload_n (pc' := 63) rfl dX10_fill_62 rfl ?_
    refine x_iconst (v := 4) (pc' := 64) (by decide) dX10_fill_63 rfl ?_
    refine x_callVi (As := [.int _, .int _]) (rest := [.int _, .int _, .ref _, .int _]) (ci := 9) (pc' := 67) rfl vk_X10_58 mk_X10_its (by decide) (by first | assumption | exact ⟨by decide, rfl⟩) (by decide) rfl (Nat.le_of_ble_eq_true rfl) dX10_fill_64 rfl (v_X10_its hs (E := 4) rfl rfl (by omega)) ?_
    refine x_irem (pc' := 68) (by rw [e4]; exact nI_ne0 (by omega) (by omega)) dX10_fill_67 rfl ?_
    refine x_iload (pc' := 70) rfl dX10_fill_68 rfl ?_
    refine x_aload_n (pc' := 71) rfl dX10_fill_70 rfl ?_
    refine x_iload_n (pc' := 72) rfl dX10_fill_71 rfl ?_
    refine x_iconst (v := 4) (pc' := 73) (by decide) dX10_fill_72 rfl ?_
    refine x_callVi (As := [.int _, .int _]) (rest := [.int _, .int _, .int _, .ref _, .int _]) (ci := 9) (pc' := 76) rfl vk_X10_58 mk_X10_its (by decide) (by first | assumption | exact ⟨by decide, rfl⟩) (by decide) rfl (Nat.le_of_ble_eq_true rfl) dX10_fill_73 rfl (v_X10_its hs (E := 4) rfl rfl (by omega)) ?_
    refine x_idiv (pc' := 77) (by rw [e4]; exact nI_ne0 (by omega) (by omega)) dX10_fill_76 rfl ?_
    refine x_iload_n (pc' := 78) rfl dX10_fill_77 rfl ?_
    refine x_iload_n (pc' := 79) rfl dX10_fill_78 rfl ?_
    refine x_callVi (As := [.int _, .int _, .int _, .int _, .int _]) (rest := [.int _]) (ci := 9) (pc' := 82) rfl vk_X10_233 mk_X10_sets (by decide) (by first | assumption | exact ⟨by decide, rfl⟩) (by decide) rfl (Nat.le_of_ble_eq_true rfl) dX10_fill_79 rfl (v_X10_sets hs rfl (by rw [e4]; exact pk_rem (by omega) (by omega) (by omega)) (by rw [e4]; exact pk_div (by omega) (by omega) (by omega)) g6 (by omega) (by omega)) ?_
    refine x_st (pA_pA _ _ _ _) ?_
    refine x_iadd (pc' := 83) dX10_fill_82 rfl ?_
    refine x_top (nI_add _ _) ?_
    refine x_istore (lv' := [_, _, _, _, _, _]) (pc' := 85) (by decide) rfl dX10_fill_83 rfl ?_
    refine x_iinc (lv' := [_, _, _, _, _, _]) (pc' := 88) rfl (nI_1 k) (by decide) rfl dX10_fill_85 rfl ?_
    refine x_goto (tgt := 37) (by decide) dX10_fill_88 ?_
    exact ih (k + 1) (by omega)
set_option maxRecDepth 100000 in
set_option maxHeartbeats 4000000 in
theorem a_X10_fill {σ : St} {dx dy : Int32} {G : Nat} (hv : Ok (σ.1 19)) (hG : G < cN (σ.1 19)) (ho : ofsP dx dy) {U : Nat} (hU : σ.1 18 3 = nI U) (hU16 : U ≤ 16) : ∃ σ', Ct yX10_fill M_X10_fill [.ref 18, .int (nI G), .int dx, .int dy] σ (some (.int (nI (flN (σ.1 19) (fN (σ.1 19) G 4) G dx dy (fN (σ.1 19) G 4 * fN (σ.1 19) G 5)))), σ') ∧ DeedM σ σ' U (flV (σ.1 19) (fN (σ.1 19) G 4) G dx dy (fN (σ.1 19) G 4 * fN (σ.1 19) G 5)) := by
  obtain ⟨τ, hN, hpu⟩ := c_X10_notes (σ := pI σ 18 0 0) hU hU16
  have hs : τ.1 19 = σ.1 19 := by rw [hpu.row (by decide) (by decide), pI_ne (by decide)]
  have hs0 : (pI σ 18 0 0).1 19 = σ.1 19 := pI_ne (by decide)
  have hg : 0 ≤ nI G ∧ nI G < nI (cN (σ.1 19)) := ⟨nI_pos' (by have := hv.c6; omega), nI_lt hG (by have := hv.c6; omega)⟩
  refine ⟨_, ?_, deed_of hpu _⟩
  refine ct_of (k := 2) rfl rfl rfl (Nat.le_of_ble_eq_true rfl) ?_
  refine x_aload_n (pc' := 1) rfl dX10_fill_0 rfl ?_
  refine x_iconst (v := 0) (pc' := 2) (by decide) dX10_fill_1 rfl ?_
  refine x_puti (pc' := 5) fk_X10_46 pk_9_0 rfl (by first | assumption | exact ⟨by decide, rfl⟩) dX10_fill_2 rfl ?_
  refine x_aload_n (pc' := 6) rfl dX10_fill_5 rfl ?_
  refine x_iload_n (pc' := 7) rfl dX10_fill_6 rfl ?_
  refine x_callVi (As := [.int _]) (rest := []) (ci := 9) (pc' := 10) rfl vk_X10_54 mk_X10_isGrid (by decide) (by first | assumption | exact ⟨by decide, rfl⟩) (by decide) rfl (Nat.le_of_ble_eq_true rfl) dX10_fill_7 rfl (c_X10_isGrid (σ := pI σ 18 0 0) hv.c0 hv.c6) ?_
  refine x_if_ne (tgt := 16) (pc' := 13) (by decide) dX10_fill_10 rfl (fun c10 => ?_) (fun c10 => absurd c10 (by rw [b1 hg]; decide))
  refine x_iload_n (pc' := 17) rfl dX10_fill_16 rfl ?_
  refine x_iload_n (pc' := 18) rfl dX10_fill_17 rfl ?_
  refine x_callSi (As := [.int _, .int _]) (rest := []) (pc' := 21) rfl sk_X10_230 mk_X10_isOffset (by decide) rfl (Nat.le_of_ble_eq_true rfl) dX10_fill_18 rfl c_X10_isOffset ?_
  refine x_if_ne (tgt := 27) (pc' := 24) (by decide) dX10_fill_21 rfl (fun c21 => ?_) (fun c21 => absurd c21 (by rw [pb_1 ho]; decide))
  refine x_aload_n (pc' := 28) rfl dX10_fill_27 rfl ?_
  refine x_callVv (As := []) (rest := []) (ci := 9) (pc' := 31) rfl vk_X10_223 mk_X10_notes (by decide) (by first | assumption | exact ⟨by decide, rfl⟩) (by decide) rfl (Nat.le_of_ble_eq_true rfl) dX10_fill_28 rfl hN ?_
  refine x_iconst (v := 0) (pc' := 32) (by decide) dX10_fill_31 rfl ?_
  refine x_istore (lv' := [_, _, _, _, _, _]) (pc' := 34) (by decide) rfl dX10_fill_32 rfl ?_
  refine x_iconst (v := 0) (pc' := 35) (by decide) dX10_fill_34 rfl ?_
  refine x_istore (lv' := [_, _, _, _, _, _]) (pc' := 37) (by decide) rfl dX10_fill_35 rfl ?_
  refine x_st (σ' := pA τ 19 (σ.1 19)) (by rw [← hs, pA_self]) ?_
  exact l_X10_fill hv hG _ 0 (Nat.zero_add _)
set_option maxRecDepth 100000 in
set_option maxHeartbeats 4000000 in
theorem r_X10_fill {σ : St} {g dx dy : Int32} (hv : Ok (σ.1 19)) (hn : ¬ (grS (σ.1 19) g ∧ ofsP dx dy)) : ∃ σ', Ct yX10_fill M_X10_fill [.ref 18, .int g, .int dx, .int dy] σ (some (.int (pif (grS (σ.1 19) g) (-1000000002) (-1000000001))), σ') ∧ ScM σ σ' := by
  refine ⟨_, ?_, ScM.thr σ 0⟩
  by_cases h : grS (σ.1 19) g
  · rw [pif_t h]
    refine ct_of (k := 2) rfl rfl rfl (Nat.le_of_ble_eq_true rfl) ?_
    refine x_aload_n (pc' := 1) rfl dX10_fill_0 rfl ?_
    refine x_iconst (v := 0) (pc' := 2) (by decide) dX10_fill_1 rfl ?_
    refine x_puti (pc' := 5) fk_X10_46 pk_9_0 rfl (by first | assumption | exact ⟨by decide, rfl⟩) dX10_fill_2 rfl ?_
    refine x_aload_n (pc' := 6) rfl dX10_fill_5 rfl ?_
    refine x_iload_n (pc' := 7) rfl dX10_fill_6 rfl ?_
    refine x_callVi (As := [.int _]) (rest := []) (ci := 9) (pc' := 10) rfl vk_X10_54 mk_X10_isGrid (by decide) (by first | assumption | exact ⟨by decide, rfl⟩) (by decide) rfl (Nat.le_of_ble_eq_true rfl) dX10_fill_7 rfl (c_X10_isGrid (σ := pI σ 18 0 0) hv.c0 hv.c6) ?_
    refine x_if_ne (tgt := 16) (pc' := 13) (by decide) dX10_fill_10 rfl (fun c10 => ?_) (fun c10 => absurd c10 (by rw [b1 ((grS_iff hv).mpr h)]; decide))
    refine x_iload_n (pc' := 17) rfl dX10_fill_16 rfl ?_
    refine x_iload_n (pc' := 18) rfl dX10_fill_17 rfl ?_
    refine x_callSi (As := [.int _, .int _]) (rest := []) (pc' := 21) rfl sk_X10_230 mk_X10_isOffset (by decide) rfl (Nat.le_of_ble_eq_true rfl) dX10_fill_18 rfl c_X10_isOffset ?_
    refine x_if_ne (tgt := 27) (pc' := 24) (by decide) dX10_fill_21 rfl (fun c21 => absurd (pb_0 (fun q => hn ⟨h, q⟩)) c21) (fun c21 => ?_)
    refine x_ldc (pc' := 26) kc_X10_169 dX10_fill_24 rfl ?_
    exact x_iret rfl dX10_fill_26 rfl
  · rw [pif_f h]
    refine ct_of (k := 2) rfl rfl rfl (Nat.le_of_ble_eq_true rfl) ?_
    refine x_aload_n (pc' := 1) rfl dX10_fill_0 rfl ?_
    refine x_iconst (v := 0) (pc' := 2) (by decide) dX10_fill_1 rfl ?_
    refine x_puti (pc' := 5) fk_X10_46 pk_9_0 rfl (by first | assumption | exact ⟨by decide, rfl⟩) dX10_fill_2 rfl ?_
    refine x_aload_n (pc' := 6) rfl dX10_fill_5 rfl ?_
    refine x_iload_n (pc' := 7) rfl dX10_fill_6 rfl ?_
    refine x_callVi (As := [.int _]) (rest := []) (ci := 9) (pc' := 10) rfl vk_X10_54 mk_X10_isGrid (by decide) (by first | assumption | exact ⟨by decide, rfl⟩) (by decide) rfl (Nat.le_of_ble_eq_true rfl) dX10_fill_7 rfl (c_X10_isGrid (σ := pI σ 18 0 0) hv.c0 hv.c6) ?_
    refine x_if_ne (tgt := 16) (pc' := 13) (by decide) dX10_fill_10 rfl (fun c10 => absurd (b0 (fun q => h ((grS_iff hv).mp q))) c10) (fun c10 => ?_)
    refine x_ldc (pc' := 15) kc_X10_170 dX10_fill_13 rfl ?_
    exact x_iret rfl dX10_fill_15 rfl
set_option maxRecDepth 100000 in
set_option maxHeartbeats 4000000 in
theorem a_X10_rule {σ : St} {x : Int32} (hx : 0 ≤ x ∧ x < 3) {U : Nat} (hU : σ.1 18 3 = nI U) (hU16 : U ≤ 16) : ∃ σ', Ct yX10_rule M_X10_rule [.ref 18, .int x] σ (some (.int (σ.1 19 1)), σ') ∧ DeedM σ σ' U (upd (σ.1 19) 1 x) := by
  obtain ⟨τ, hN, hpu⟩ := c_X10_notes (σ := pI σ 18 0 0) hU hU16
  have hs : τ.1 19 = σ.1 19 := by rw [hpu.row (by decide) (by decide), pI_ne (by decide)]
  have hs0 : (pI σ 18 0 0).1 19 = σ.1 19 := pI_ne (by decide)
  refine ⟨_, ?_, deed_of hpu _⟩
  refine ct_of (k := 1) rfl rfl rfl (Nat.le_of_ble_eq_true rfl) ?_
  refine x_aload_n (pc' := 1) rfl dX10_rule_0 rfl ?_
  refine x_iconst (v := 0) (pc' := 2) (by decide) dX10_rule_1 rfl ?_
  refine x_puti (pc' := 5) fk_X10_46 pk_9_0 rfl (by first | assumption | exact ⟨by decide, rfl⟩) dX10_rule_2 rfl ?_
  refine x_iload_n (pc' := 6) rfl dX10_rule_5 rfl ?_
  refine x_i2l (pc' := 7) dX10_rule_6 rfl ?_
  refine x_lconst (v := 0) (pc' := 8) (by decide) dX10_rule_7 rfl ?_
  refine x_ldc2 (pc' := 11) kl_X10_81 dX10_rule_8 rfl ?_
  refine x_callSi (As := [.long _, .long _, .long _]) (rest := []) (pc' := 14) rfl sk_X10_50 mk_X10_in (by decide) rfl (Nat.le_of_ble_eq_true rfl) dX10_rule_11 rfl c_X10_in ?_
  refine x_if_ne (tgt := 20) (pc' := 17) (by decide) dX10_rule_14 rfl (fun c14 => ?_) (fun c14 => absurd c14 (by rw [b1 ((in_k x (N := 2) (by decide) (by decide)).mpr hx)]; decide))
  refine x_aload_n (pc' := 21) rfl dX10_rule_20 rfl ?_
  refine x_callVv (As := []) (rest := []) (ci := 9) (pc' := 24) rfl vk_X10_223 mk_X10_notes (by decide) (by first | assumption | exact ⟨by decide, rfl⟩) (by decide) rfl (Nat.le_of_ble_eq_true rfl) dX10_rule_21 rfl hN ?_
  refine x_aload_n (pc' := 25) rfl dX10_rule_24 rfl ?_
  refine x_get (v := .ref 19) (pc' := 28) fk_X10_7 (by first | assumption | exact ⟨by decide, rfl⟩) rfl dX10_rule_25 rfl ?_
  refine x_iconst (v := 1) (pc' := 29) (by decide) dX10_rule_28 rfl ?_
  refine x_ialdn (N := 338) (n := 1) (pc' := 30) (by first | assumption | exact ⟨by decide, rfl⟩) (by decide) rfl (by decide) dX10_rule_29 rfl ?_
  refine x_istore_n (lv' := [_, _, _]) (pc' := 31) (by decide) rfl dX10_rule_30 rfl ?_
  refine x_aload_n (pc' := 32) rfl dX10_rule_31 rfl ?_
  refine x_get (v := .ref 19) (pc' := 35) fk_X10_7 (by first | assumption | exact ⟨by decide, rfl⟩) rfl dX10_rule_32 rfl ?_
  refine x_iconst (v := 1) (pc' := 36) (by decide) dX10_rule_35 rfl ?_
  refine x_iload_n (pc' := 37) rfl dX10_rule_36 rfl ?_
  refine x_iastn (N := 338) (n := 1) (pc' := 38) (by first | assumption | exact ⟨by decide, rfl⟩) (by decide) rfl (by decide) dX10_rule_37 rfl ?_
  refine x_iload_n (pc' := 39) rfl dX10_rule_38 rfl ?_
  exact x_iret rfl dX10_rule_39 (by rw [pI_pA, hs])
set_option maxRecDepth 100000 in
set_option maxHeartbeats 4000000 in
theorem r_X10_rule {σ : St} {x : Int32} (hx : ¬ (0 ≤ x ∧ x < 3)) : ∃ σ', Ct yX10_rule M_X10_rule [.ref 18, .int x] σ (some (.int (-1000000002)), σ') ∧ ScM σ σ' := by
  refine ⟨_, ?_, ScM.thr σ 0⟩
  refine ct_of (k := 1) rfl rfl rfl (Nat.le_of_ble_eq_true rfl) ?_
  refine x_aload_n (pc' := 1) rfl dX10_rule_0 rfl ?_
  refine x_iconst (v := 0) (pc' := 2) (by decide) dX10_rule_1 rfl ?_
  refine x_puti (pc' := 5) fk_X10_46 pk_9_0 rfl (by first | assumption | exact ⟨by decide, rfl⟩) dX10_rule_2 rfl ?_
  refine x_iload_n (pc' := 6) rfl dX10_rule_5 rfl ?_
  refine x_i2l (pc' := 7) dX10_rule_6 rfl ?_
  refine x_lconst (v := 0) (pc' := 8) (by decide) dX10_rule_7 rfl ?_
  refine x_ldc2 (pc' := 11) kl_X10_81 dX10_rule_8 rfl ?_
  refine x_callSi (As := [.long _, .long _, .long _]) (rest := []) (pc' := 14) rfl sk_X10_50 mk_X10_in (by decide) rfl (Nat.le_of_ble_eq_true rfl) dX10_rule_11 rfl c_X10_in ?_
  refine x_if_ne (tgt := 20) (pc' := 17) (by decide) dX10_rule_14 rfl (fun c14 => absurd (b0 (fun q => hx ((in_k x (N := 2) (by decide) (by decide)).mp q))) c14) (fun c14 => ?_)
  refine x_ldc (pc' := 19) kc_X10_169 dX10_rule_17 rfl ?_
  exact x_iret rfl dX10_rule_19 rfl
