theorem drI_lt {v : Nat → Int32} {s : Nat} (hs : s < 2 ^ 31) : ∀ n, (drI v s n).2 < 2 ^ 31
  | 0 => hs
  | n + 1 => sd_lt _
theorem HistC.seed {σ : St} {U : Nat} {t : Nat → Nat → Int32} (h : HistC σ U t) (x : Int32) : HistC (pI σ 9 0 x) U t := by
  obtain ⟨h1, h2, N, h3, h4, h5⟩ := h
  exact ⟨h1, h2, N, h3, h4, fun i hi => (h5 i hi).seed x⟩
/-- the frame of a drift -/
def FrS (σ σ' : St) : Prop := (∀ a b, a ≠ 1 → a ≠ 9 → (∀ s, s ≤ 16 → ¬ Own s a) → σ'.1 a b = σ.1 a b) ∧ σ'.2 = σ.2
theorem no9 : ∀ s, s ≤ 16 → ¬ Own s 9 := fun s hs => by unfold Own; omega
set_option maxRecDepth 100000 in
set_option maxHeartbeats 4000000 in
theorem l_X9_drift {σ : St} {v : Nat → Int32} {U : Nat} {t : Nat → Nat → Int32} (h : SR σ 0 v) (hA : ∀ s, s < 19 → Sh σ s) (ht : HistC σ U t) {s n : Nat} (hc : 0 < cN v) (hs : s < 2 ^ 31) (hn : n ≤ 12) : ∀ (m k : Nat) (τ : St), k + m = n → SR τ 0 (drI v s k).1 → τ.1 9 0 = nI (drI v s k).2 → HistC τ (min (U + k) 16) (pushD v s t k) → FrS σ τ → ∃ σ', Ex M_X9_drift (some (.int (nI (nmS (drI v s n).1))), σ') 28 [some (.ref 0), some (.int (nI n)), some (.int (nI k))] [] τ ∧ SR σ' 0 (drI v s n).1 ∧ σ'.1 9 0 = nI (drI v s n).2 ∧ HistC σ' (min (U + n) 16) (pushD v s t n) ∧ FrS σ σ' := by
  have hk0 : Is 29 0 7 := is_sh (s := 0) (by decide)
  intro m
  induction m with
  | zero =>
    intro k τ hk a1 a2 a3 a4
    obtain rfl : k = n := by omega
    refine ⟨τ, ?_, a1, a2, a3, a4⟩
    refine x_iload_n (pc' := 29) rfl dX9_drift_28 rfl ?_
    refine x_iload_n (pc' := 30) rfl dX9_drift_29 rfl ?_
    refine x_icmp_ge (tgt := 61) (pc' := 33) (by decide) dX9_drift_30 rfl (fun c30 => ?_) (fun c30 => absurd (nI_le (Nat.le_refl _) (by omega)) c30)
    refine x_aload_n (pc' := 62) rfl dX9_drift_61 rfl ?_
    refine x_get (v := .ref 29) (pc' := 65) fk_X9_12 (by first | assumption | exact ⟨by decide, rfl⟩) rfl dX9_drift_62 rfl ?_
    refine x_callVi (As := []) (rest := []) (ci := 7) (pc' := 68) rfl vk_X9_68 mk_X8_shiftedNodes (by decide) (by first | assumption | exact ⟨by decide, rfl⟩) (by decide) rfl (Nat.le_of_ble_eq_true rfl) dX9_drift_65 rfl (c_X8_shiftedNodes a1.2) ?_
    exact x_iret rfl dX9_drift_68 rfl
  | succ m ih =>
    intro k τ hk a1 a2 a3 a4
    have hcu : cN (drI v s k).1 = cN v := lo_cN (drI_ok h.2.2.2 s k).2
    obtain ⟨ρ, hE1, b1, b2, b3, b4⟩ := c_X5_push a1 (fun s hs => (hA s hs).frame (fun b => by rw [a4.2])) a3
    have e9 : ρ.1 9 0 = nI (drI v s k).2 := by rw [b3.1 9 0 (by decide) no9]; exact a2
    obtain ⟨π, hE2, c1, c2, c3, c4⟩ := c_X3_shiftNode b1 (by omega) e9 (drI_lt hs k)
    obtain ⟨σ', hE, r1⟩ := ih (k + 1) π (by omega) c1 c2 (by
      have := (b2.seed (nI (drS (drI v s k).2))).ch c3
      rw [show min (min (U + k) 16 + 1) 16 = min (U + (k + 1)) 16 by omega] at this
      exact this) ⟨fun a b h1 h9 hO => by rw [c3.1 a b (hO 0 (by decide)), pI_ne h9, b3.1 a b h1 hO, a4.1 a b h1 h9 hO], Prod.ext (by rw [c3.2.1]; exact b3.2.1.trans (congrArg Prod.fst a4.2)) (by rw [c4, b4, a4.2])⟩
    refine ⟨σ', ?_, r1⟩
    refine x_iload_n (pc' := 29) rfl dX9_drift_28 rfl ?_
    refine x_iload_n (pc' := 30) rfl dX9_drift_29 rfl ?_
    refine x_icmp_ge (tgt := 61) (pc' := 33) (by decide) dX9_drift_30 rfl (fun c30 => absurd c30 (nI_ge (by omega) (by omega))) (fun c30 => ?_)
    refine x_aload_n (pc' := 34) rfl dX9_drift_33 rfl ?_
    refine x_get (v := .ref 1) (pc' := 37) fk_X9_19 (by first | assumption | exact ⟨by decide, rfl⟩) rfl dX9_drift_34 rfl ?_
    refine x_aload_n (pc' := 38) rfl dX9_drift_37 rfl ?_
    refine x_get (v := .ref 29) (pc' := 41) fk_X9_12 (by first | assumption | exact ⟨by decide, rfl⟩) rfl dX9_drift_38 rfl ?_
    refine x_callVv (As := [.ref _]) (rest := []) (ci := 4) (pc' := 44) rfl vk_X9_229 mk_X5_push (by decide) (by first | assumption | exact ⟨by decide, rfl⟩) (by decide) rfl (Nat.le_of_ble_eq_true rfl) dX9_drift_41 rfl hE1 ?_
    refine x_aload_n (pc' := 45) rfl dX9_drift_44 rfl ?_
    refine x_get (v := .ref 9) (pc' := 48) fk_X9_43 (by first | assumption | exact ⟨by decide, rfl⟩) rfl dX9_drift_45 rfl ?_
    refine x_aload_n (pc' := 49) rfl dX9_drift_48 rfl ?_
    refine x_get (v := .ref 29) (pc' := 52) fk_X9_12 (by first | assumption | exact ⟨by decide, rfl⟩) rfl dX9_drift_49 rfl ?_
    refine x_callVv (As := [.ref _]) (rest := []) (ci := 2) (pc' := 55) rfl vk_X9_258 mk_X3_shiftNode (by decide) (by first | assumption | exact ⟨by decide, rfl⟩) (by decide) rfl (Nat.le_of_ble_eq_true rfl) dX9_drift_52 rfl hE2 ?_
    refine x_iinc (lv' := [_, _, _]) (pc' := 58) rfl (nI_1 k) (by decide) rfl dX9_drift_55 rfl ?_
    refine x_goto (tgt := 28) (by decide) dX9_drift_58 ?_
    exact hE
set_option maxRecDepth 100000 in
set_option maxHeartbeats 4000000 in
theorem d_X9_drift {σ : St} {v : Nat → Int32} {U : Nat} {t : Nat → Nat → Int32} (h : SR σ 0 v) (hA : ∀ s, s < 19 → Sh σ s) (ht : HistC σ U t) {s n : Nat} (hc : 0 < cN v) (hs0 : σ.1 9 0 = nI s) (hs : s < 2 ^ 31) (h1 : 1 ≤ n) (hn : n ≤ 12) : ∃ σ', Ct yX9_drift M_X9_drift [.ref 0, .int (nI n)] σ (some (.int (nI (nmS (drI v s n).1))), σ') ∧ SR σ' 0 (drI v s n).1 ∧ σ'.1 9 0 = nI (drI v s n).2 ∧ HistC σ' (min (U + n) 16) (pushD v s t n) ∧ FrS σ σ' := by
  have hk0 : Is 29 0 7 := is_sh (s := 0) (by decide)
  have h6 := h.2.2.2.c6
  obtain ⟨σ', hE, r1⟩ := l_X9_drift h hA ht hc hs hn n 0 σ (Nat.zero_add _) h hs0 (by rw [Nat.add_zero, Nat.min_eq_left ht.2.1]; exact ht) ⟨fun _ _ _ _ _ => rfl, rfl⟩
  refine ⟨σ', ?_, r1⟩
  refine ct_of (k := 1) rfl rfl rfl (Nat.le_of_ble_eq_true rfl) ?_
  refine x_iload_n (pc' := 1) rfl dX9_drift_0 rfl ?_
  refine x_iconst (v := 1) (pc' := 2) (by decide) dX9_drift_1 rfl ?_
  refine x_bipush (v := 12) (pc' := 4) (by decide) dX9_drift_2 rfl ?_
  refine x_callSi (As := [.int _, .int _, .int _]) (rest := []) (pc' := 7) rfl sk_X9_143 mk_X9_isWithin (by decide) rfl (Nat.le_of_ble_eq_true rfl) dX9_drift_4 rfl c_X9_isWithin ?_
  refine x_if_ne (tgt := 13) (pc' := 10) (by decide) dX9_drift_7 rfl (fun c7 => ?_) (fun c7 => absurd c7 (by rw [pb_1 ⟨nI_le (a := 1) h1 (by omega), nI_le (b := 12) hn (by decide)⟩]; decide))
  refine x_aload_n (pc' := 14) rfl dX9_drift_13 rfl ?_
  refine x_get (v := .ref 29) (pc' := 17) fk_X9_12 (by first | assumption | exact ⟨by decide, rfl⟩) rfl dX9_drift_14 rfl ?_
  refine x_callVi (As := []) (rest := []) (ci := 7) (pc' := 20) rfl vk_X9_61 mk_X8_size (by decide) (by first | assumption | exact ⟨by decide, rfl⟩) (by decide) rfl (Nat.le_of_ble_eq_true rfl) dX9_drift_17 rfl (c_X8_size hk0) ?_
  refine x_top h.2.n ?_
  refine x_if_ne (tgt := 26) (pc' := 23) (by decide) dX9_drift_20 rfl (fun c20 => ?_) (fun c20 => absurd c20 (nI_ne0 hc (by omega)))
  refine x_iconst (v := 0) (pc' := 27) (by decide) dX9_drift_26 rfl ?_
  refine x_istore_n (lv' := [_, _, _]) (pc' := 28) (by decide) rfl dX9_drift_27 rfl ?_
  exact hE
set_option maxRecDepth 100000 in
set_option maxHeartbeats 4000000 in
theorem f_X9_drift {σ : St} {v : Nat → Int32} (hR : Rp σ 29 v) {x : Int32} (hno : ¬ ((1 ≤ x ∧ x ≤ 12) ∧ 0 < cN v)) : Ct yX9_drift M_X9_drift [.ref 0, .int x] σ (some (.int (pif (1 ≤ x ∧ x ≤ 12) (-1000000003) (-1000000002))), σ) := by
  have hk0 := hR.1.1
  by_cases hx : 1 ≤ x ∧ x ≤ 12
  · rw [pif_t hx]
    have hc : cN v = 0 := by
      have : ¬ 0 < cN v := fun q => hno ⟨hx, q⟩
      omega
    refine ct_of (k := 1) rfl rfl rfl (Nat.le_of_ble_eq_true rfl) ?_
    refine x_iload_n (pc' := 1) rfl dX9_drift_0 rfl ?_
    refine x_iconst (v := 1) (pc' := 2) (by decide) dX9_drift_1 rfl ?_
    refine x_bipush (v := 12) (pc' := 4) (by decide) dX9_drift_2 rfl ?_
    refine x_callSi (As := [.int _, .int _, .int _]) (rest := []) (pc' := 7) rfl sk_X9_143 mk_X9_isWithin (by decide) rfl (Nat.le_of_ble_eq_true rfl) dX9_drift_4 rfl c_X9_isWithin ?_
    refine x_if_ne (tgt := 13) (pc' := 10) (by decide) dX9_drift_7 rfl (fun c7 => ?_) (fun c7 => absurd c7 (by rw [pb_1 hx]; decide))
    refine x_aload_n (pc' := 14) rfl dX9_drift_13 rfl ?_
    refine x_get (v := .ref 29) (pc' := 17) fk_X9_12 (by first | assumption | exact ⟨by decide, rfl⟩) rfl dX9_drift_14 rfl ?_
    refine x_callVi (As := []) (rest := []) (ci := 7) (pc' := 20) rfl vk_X9_61 mk_X8_size (by decide) (by first | assumption | exact ⟨by decide, rfl⟩) (by decide) rfl (Nat.le_of_ble_eq_true rfl) dX9_drift_17 rfl (c_X8_size hk0) ?_
    refine x_top hR.n ?_
    refine x_if_ne (tgt := 26) (pc' := 23) (by decide) dX9_drift_20 rfl (fun c20 => absurd (by rw [hc]; rfl) c20) (fun c20 => ?_)
    refine x_ldc (pc' := 25) kc_X9_227 dX9_drift_23 rfl ?_
    exact x_iret rfl dX9_drift_25 rfl
  · rw [pif_f hx]
    refine ct_of (k := 1) rfl rfl rfl (Nat.le_of_ble_eq_true rfl) ?_
    refine x_iload_n (pc' := 1) rfl dX9_drift_0 rfl ?_
    refine x_iconst (v := 1) (pc' := 2) (by decide) dX9_drift_1 rfl ?_
    refine x_bipush (v := 12) (pc' := 4) (by decide) dX9_drift_2 rfl ?_
    refine x_callSi (As := [.int _, .int _, .int _]) (rest := []) (pc' := 7) rfl sk_X9_143 mk_X9_isWithin (by decide) rfl (Nat.le_of_ble_eq_true rfl) dX9_drift_4 rfl c_X9_isWithin ?_
    refine x_if_ne (tgt := 13) (pc' := 10) (by decide) dX9_drift_7 rfl (fun c7 => absurd (pb_0 hx) c7) (fun c7 => ?_)
    refine x_ldc (pc' := 12) kc_X9_102 dX9_drift_10 rfl ?_
    exact x_iret rfl dX9_drift_12 rfl
set_option maxRecDepth 100000 in
set_option maxHeartbeats 4000000 in
theorem d_X9_undo {σ : St} {v : Nat → Int32} {U : Nat} {t : Nat → Nat → Int32} (h : SR σ 0 v) (ht : HistC σ U t) {n : Nat} (h1 : 1 ≤ n) (hn : n ≤ U) : ∃ σ', Ct yX9_undo M_X9_undo [.ref 0, .int (nI n)] σ (some (.int (nI (U - n))), σ') ∧ SR σ' 0 (t (n - 1)) ∧ HistC σ' (U - n) (fun i => t (i + n)) ∧ FrD σ σ' ∧ σ'.2.2 = σ.2.2 := by
  have hU := ht.2.1
  have hk0 : Is 29 0 7 := is_sh (s := 0) (by decide)
  obtain ⟨σ', hE, r1, r2, r3⟩ := c_X5_takeBack h ht h1 hn
  refine ⟨σ', ?_, r1, r2, r3⟩
  refine ct_of (k := 0) rfl rfl rfl (Nat.le_of_ble_eq_true rfl) ?_
  refine x_iload_n (pc' := 1) rfl dX9_undo_0 rfl ?_
  refine x_iconst (v := 1) (pc' := 2) (by decide) dX9_undo_1 rfl ?_
  refine x_bipush (v := 16) (pc' := 4) (by decide) dX9_undo_2 rfl ?_
  refine x_callSi (As := [.int _, .int _, .int _]) (rest := []) (pc' := 7) rfl sk_X9_143 mk_X9_isWithin (by decide) rfl (Nat.le_of_ble_eq_true rfl) dX9_undo_4 rfl c_X9_isWithin ?_
  refine x_if_ne (tgt := 13) (pc' := 10) (by decide) dX9_undo_7 rfl (fun c7 => ?_) (fun c7 => absurd c7 (by rw [pb_1 ⟨nI_le (a := 1) h1 (by omega), nI_le (b := 16) (by omega) (by decide)⟩]; decide))
  refine x_iload_n (pc' := 14) rfl dX9_undo_13 rfl ?_
  refine x_aload_n (pc' := 15) rfl dX9_undo_14 rfl ?_
  refine x_get (v := .ref 1) (pc' := 18) fk_X9_19 (by first | assumption | exact ⟨by decide, rfl⟩) rfl dX9_undo_15 rfl ?_
  refine x_callVi (As := []) (rest := [.int _]) (ci := 4) (pc' := 21) rfl vk_X9_98 mk_X5_size (by decide) (by first | assumption | exact ⟨by decide, rfl⟩) (by decide) rfl (Nat.le_of_ble_eq_true rfl) dX9_undo_18 rfl c_X5_size ?_
  refine x_icmp_le (tgt := 27) (pc' := 24) (by decide) dX9_undo_21 rfl (fun c21 => ?_) (fun c21 => absurd (by rw [ht.1]; exact nI_le hn (by omega)) c21)
  refine x_aload_n (pc' := 28) rfl dX9_undo_27 rfl ?_
  refine x_get (v := .ref 1) (pc' := 31) fk_X9_19 (by first | assumption | exact ⟨by decide, rfl⟩) rfl dX9_undo_28 rfl ?_
  refine x_aload_n (pc' := 32) rfl dX9_undo_31 rfl ?_
  refine x_get (v := .ref 29) (pc' := 35) fk_X9_12 (by first | assumption | exact ⟨by decide, rfl⟩) rfl dX9_undo_32 rfl ?_
  refine x_iload_n (pc' := 36) rfl dX9_undo_35 rfl ?_
  refine x_callVv (As := [.ref _, .int _]) (rest := []) (ci := 4) (pc' := 39) rfl vk_X9_261 mk_X5_takeBack (by decide) (by first | assumption | exact ⟨by decide, rfl⟩) (by decide) rfl (Nat.le_of_ble_eq_true rfl) dX9_undo_36 rfl hE ?_
  refine x_aload_n (pc' := 40) rfl dX9_undo_39 rfl ?_
  refine x_get (v := .ref 1) (pc' := 43) fk_X9_19 (by first | assumption | exact ⟨by decide, rfl⟩) rfl dX9_undo_40 rfl ?_
  refine x_callVi (As := []) (rest := []) (ci := 4) (pc' := 46) rfl vk_X9_98 mk_X5_size (by decide) (by first | assumption | exact ⟨by decide, rfl⟩) (by decide) rfl (Nat.le_of_ble_eq_true rfl) dX9_undo_43 rfl c_X5_size ?_
  exact x_iret rfl dX9_undo_46 (ret_i r2.1)
set_option maxRecDepth 100000 in
set_option maxHeartbeats 4000000 in
theorem f_X9_undo {σ : St} {x : Int32} {U : Nat} (hU : σ.1 1 2 = nI U) (hU16 : U ≤ 16) (hno : ¬ ((1 ≤ x ∧ x ≤ 16) ∧ x ≤ nI U)) : Ct yX9_undo M_X9_undo [.ref 0, .int x] σ (some (.int (pif (1 ≤ x ∧ x ≤ 16) (-1000000003) (-1000000002))), σ) := by
  by_cases hx : 1 ≤ x ∧ x ≤ 16
  · rw [pif_t hx]
    refine ct_of (k := 0) rfl rfl rfl (Nat.le_of_ble_eq_true rfl) ?_
    refine x_iload_n (pc' := 1) rfl dX9_undo_0 rfl ?_
    refine x_iconst (v := 1) (pc' := 2) (by decide) dX9_undo_1 rfl ?_
    refine x_bipush (v := 16) (pc' := 4) (by decide) dX9_undo_2 rfl ?_
    refine x_callSi (As := [.int _, .int _, .int _]) (rest := []) (pc' := 7) rfl sk_X9_143 mk_X9_isWithin (by decide) rfl (Nat.le_of_ble_eq_true rfl) dX9_undo_4 rfl c_X9_isWithin ?_
    refine x_if_ne (tgt := 13) (pc' := 10) (by decide) dX9_undo_7 rfl (fun c7 => ?_) (fun c7 => absurd c7 (by rw [pb_1 hx]; decide))
    refine x_iload_n (pc' := 14) rfl dX9_undo_13 rfl ?_
    refine x_aload_n (pc' := 15) rfl dX9_undo_14 rfl ?_
    refine x_get (v := .ref 1) (pc' := 18) fk_X9_19 (by first | assumption | exact ⟨by decide, rfl⟩) rfl dX9_undo_15 rfl ?_
    refine x_callVi (As := []) (rest := [.int _]) (ci := 4) (pc' := 21) rfl vk_X9_98 mk_X5_size (by decide) (by first | assumption | exact ⟨by decide, rfl⟩) (by decide) rfl (Nat.le_of_ble_eq_true rfl) dX9_undo_18 rfl c_X5_size ?_
    refine x_icmp_le (tgt := 27) (pc' := 24) (by decide) dX9_undo_21 rfl (fun c21 => absurd c21 (by rw [hU]; exact fun q => hno ⟨hx, q⟩)) (fun c21 => ?_)
    refine x_ldc (pc' := 26) kc_X9_227 dX9_undo_24 rfl ?_
    exact x_iret rfl dX9_undo_26 rfl
  · rw [pif_f hx]
    refine ct_of (k := 0) rfl rfl rfl (Nat.le_of_ble_eq_true rfl) ?_
    refine x_iload_n (pc' := 1) rfl dX9_undo_0 rfl ?_
    refine x_iconst (v := 1) (pc' := 2) (by decide) dX9_undo_1 rfl ?_
    refine x_bipush (v := 16) (pc' := 4) (by decide) dX9_undo_2 rfl ?_
    refine x_callSi (As := [.int _, .int _, .int _]) (rest := []) (pc' := 7) rfl sk_X9_143 mk_X9_isWithin (by decide) rfl (Nat.le_of_ble_eq_true rfl) dX9_undo_4 rfl c_X9_isWithin ?_
    refine x_if_ne (tgt := 13) (pc' := 10) (by decide) dX9_undo_7 rfl (fun c7 => absurd (pb_0 hx) c7) (fun c7 => ?_)
    refine x_ldc (pc' := 12) kc_X9_102 dX9_undo_10 rfl ?_
    exact x_iret rfl dX9_undo_12 rfl
set_option maxRecDepth 100000 in
set_option maxHeartbeats 4000000 in
theorem d_X9_write {σ : St} {x y z : Int32} {E : Nat} (hE : σ.1 5 3 = nI E) (h20 : E < 20) (hp : plc x y) : Ct yX9_write M_X9_write [.ref 0, .int x, .int y, .int z] σ (some (.int (nI (E + 1))), pI (pI (pI (pI σ 6 E x) 7 E y) 8 E z) 5 3 (nI (E + 1))) := by
  refine ct_of (k := 0) rfl rfl rfl (Nat.le_of_ble_eq_true rfl) ?_
  refine x_iload_n (pc' := 1) rfl dX9_write_0 rfl ?_
  refine x_iload_n (pc' := 2) rfl dX9_write_1 rfl ?_
  refine x_callSi (As := [.int _, .int _]) (rest := []) (pc' := 5) rfl sk_X9_187 mk_X9_isPlace (by decide) rfl (Nat.le_of_ble_eq_true rfl) dX9_write_2 rfl c_X9_isPlace ?_
  refine x_if_ne (tgt := 11) (pc' := 8) (by decide) dX9_write_5 rfl (fun c5 => ?_) (fun c5 => absurd c5 (by rw [pb_1 hp]; decide))
  refine x_aload_n (pc' := 12) rfl dX9_write_11 rfl ?_
  refine x_get (v := .ref 5) (pc' := 15) fk_X9_36 (by first | assumption | exact ⟨by decide, rfl⟩) rfl dX9_write_12 rfl ?_
  refine x_iload_n (pc' := 16) rfl dX9_write_15 rfl ?_
  refine x_iload_n (pc' := 17) rfl dX9_write_16 rfl ?_
  refine x_iload_n (pc' := 18) rfl dX9_write_17 rfl ?_
  refine x_callVi (As := [.int _, .int _, .int _]) (rest := []) (ci := 0) (pc' := 21) rfl vk_X9_265 mk_X0_add (by decide) (by first | assumption | exact ⟨by decide, rfl⟩) (by decide) rfl (Nat.le_of_ble_eq_true rfl) dX9_write_18 rfl (t_X0_add hE h20) ?_
  refine x_if_eq (tgt := 34) (pc' := 24) (by decide) dX9_write_21 rfl (fun c21 => absurd c21 (by decide)) (fun c21 => ?_)
  refine x_aload_n (pc' := 25) rfl dX9_write_24 rfl ?_
  refine x_get (v := .ref 5) (pc' := 28) fk_X9_36 (by first | assumption | exact ⟨by decide, rfl⟩) rfl dX9_write_25 rfl ?_
  refine x_callVi (As := []) (rest := []) (ci := 0) (pc' := 31) rfl vk_X9_93 mk_X0_size (by decide) (by first | assumption | exact ⟨by decide, rfl⟩) (by decide) rfl (Nat.le_of_ble_eq_true rfl) dX9_write_28 rfl c_X0_size ?_
  refine x_goto (tgt := 36) (by decide) dX9_write_31 ?_
  exact x_iret rfl dX9_write_36 rfl
set_option maxRecDepth 100000 in
set_option maxHeartbeats 4000000 in
theorem f_X9_write {σ : St} {x y z : Int32} {E : Nat} (hE : σ.1 5 3 = nI E) (hno : ¬ (plc x y ∧ E < 20)) (hE20 : E ≤ 20) : Ct yX9_write M_X9_write [.ref 0, .int x, .int y, .int z] σ (some (.int (pif (plc x y) (-1000000004) (-1000000002))), σ) := by
  by_cases hp : plc x y
  · rw [pif_t hp]
    refine ct_of (k := 0) rfl rfl rfl (Nat.le_of_ble_eq_true rfl) ?_
    refine x_iload_n (pc' := 1) rfl dX9_write_0 rfl ?_
    refine x_iload_n (pc' := 2) rfl dX9_write_1 rfl ?_
    refine x_callSi (As := [.int _, .int _]) (rest := []) (pc' := 5) rfl sk_X9_187 mk_X9_isPlace (by decide) rfl (Nat.le_of_ble_eq_true rfl) dX9_write_2 rfl c_X9_isPlace ?_
    refine x_if_ne (tgt := 11) (pc' := 8) (by decide) dX9_write_5 rfl (fun c5 => ?_) (fun c5 => absurd c5 (by rw [pb_1 hp]; decide))
    refine x_aload_n (pc' := 12) rfl dX9_write_11 rfl ?_
    refine x_get (v := .ref 5) (pc' := 15) fk_X9_36 (by first | assumption | exact ⟨by decide, rfl⟩) rfl dX9_write_12 rfl ?_
    refine x_iload_n (pc' := 16) rfl dX9_write_15 rfl ?_
    refine x_iload_n (pc' := 17) rfl dX9_write_16 rfl ?_
    refine x_iload_n (pc' := 18) rfl dX9_write_17 rfl ?_
    refine x_callVi (As := [.int _, .int _, .int _]) (rest := []) (ci := 0) (pc' := 21) rfl vk_X9_265 mk_X0_add (by decide) (by first | assumption | exact ⟨by decide, rfl⟩) (by decide) rfl (Nat.le_of_ble_eq_true rfl) dX9_write_18 rfl (f_X0_add hE (fun q => hno ⟨hp, q⟩) (by omega)) ?_
    refine x_if_eq (tgt := 34) (pc' := 24) (by decide) dX9_write_21 rfl (fun c21 => ?_) (fun c21 => absurd rfl c21)
    refine x_ldc (pc' := 36) kc_X9_228 dX9_write_34 rfl ?_
    exact x_iret rfl dX9_write_36 rfl
  · rw [pif_f hp]
    refine ct_of (k := 0) rfl rfl rfl (Nat.le_of_ble_eq_true rfl) ?_
    refine x_iload_n (pc' := 1) rfl dX9_write_0 rfl ?_
    refine x_iload_n (pc' := 2) rfl dX9_write_1 rfl ?_
    refine x_callSi (As := [.int _, .int _]) (rest := []) (pc' := 5) rfl sk_X9_187 mk_X9_isPlace (by decide) rfl (Nat.le_of_ble_eq_true rfl) dX9_write_2 rfl c_X9_isPlace ?_
    refine x_if_ne (tgt := 11) (pc' := 8) (by decide) dX9_write_5 rfl (fun c5 => absurd (pb_0 hp) c5) (fun c5 => ?_)
    refine x_ldc (pc' := 10) kc_X9_102 dX9_write_8 rfl ?_
    exact x_iret rfl dX9_write_10 rfl
set_option maxRecDepth 100000 in
set_option maxHeartbeats 4000000 in
theorem d_X9_tear {σ : St}  : Ct yX9_tear M_X9_tear [.ref 0] σ (some (.int (σ.1 5 3)), pI σ 5 3 0) := by
  refine ct_of (k := 1) rfl rfl rfl (Nat.le_of_ble_eq_true rfl) ?_
  refine x_aload_n (pc' := 1) rfl dX9_tear_0 rfl ?_
  refine x_get (v := .ref 5) (pc' := 4) fk_X9_36 (by first | assumption | exact ⟨by decide, rfl⟩) rfl dX9_tear_1 rfl ?_
  refine x_callVi (As := []) (rest := []) (ci := 0) (pc' := 7) rfl vk_X9_93 mk_X0_size (by decide) (by first | assumption | exact ⟨by decide, rfl⟩) (by decide) rfl (Nat.le_of_ble_eq_true rfl) dX9_tear_4 rfl c_X0_size ?_
  refine x_istore_n (lv' := [_, _]) (pc' := 8) (by decide) rfl dX9_tear_7 rfl ?_
  refine x_aload_n (pc' := 9) rfl dX9_tear_8 rfl ?_
  refine x_get (v := .ref 5) (pc' := 12) fk_X9_36 (by first | assumption | exact ⟨by decide, rfl⟩) rfl dX9_tear_9 rfl ?_
  refine x_callVv (As := []) (rest := []) (ci := 0) (pc' := 15) rfl vk_X9_267 mk_X0_clear (by decide) (by first | assumption | exact ⟨by decide, rfl⟩) (by decide) rfl (Nat.le_of_ble_eq_true rfl) dX9_tear_12 rfl c_X0_clear ?_
  refine x_iload_n (pc' := 16) rfl dX9_tear_15 rfl ?_
  exact x_iret rfl dX9_tear_16 rfl
set_option maxRecDepth 100000 in
set_option maxHeartbeats 4000000 in
theorem d_X9_seed {σ : St} {x : Int32} (hx : 0 ≤ x) : Ct yX9_seed M_X9_seed [.ref 0, .int x] σ (some (.int (σ.1 9 0)), pI σ 9 0 x) := by
  refine ct_of (k := 1) rfl rfl rfl (Nat.le_of_ble_eq_true rfl) ?_
  refine x_iload_n (pc' := 1) rfl dX9_seed_0 rfl ?_
  refine x_if_ge (tgt := 7) (pc' := 4) (by decide) dX9_seed_1 rfl (fun c1 => ?_) (fun c1 => absurd hx c1)
  refine x_aload_n (pc' := 8) rfl dX9_seed_7 rfl ?_
  refine x_get (v := .ref 9) (pc' := 11) fk_X9_43 (by first | assumption | exact ⟨by decide, rfl⟩) rfl dX9_seed_8 rfl ?_
  refine x_callVi (As := []) (rest := []) (ci := 2) (pc' := 14) rfl vk_X9_99 mk_X3_seedNow (by decide) (by first | assumption | exact ⟨by decide, rfl⟩) (by decide) rfl (Nat.le_of_ble_eq_true rfl) dX9_seed_11 rfl c_X3_seedNow ?_
  refine x_istore_n (lv' := [_, _, _]) (pc' := 15) (by decide) rfl dX9_seed_14 rfl ?_
  refine x_aload_n (pc' := 16) rfl dX9_seed_15 rfl ?_
  refine x_get (v := .ref 9) (pc' := 19) fk_X9_43 (by first | assumption | exact ⟨by decide, rfl⟩) rfl dX9_seed_16 rfl ?_
  refine x_iload_n (pc' := 20) rfl dX9_seed_19 rfl ?_
  refine x_callVv (As := [.int _]) (rest := []) (ci := 2) (pc' := 23) rfl vk_X9_270 mk_X3_setSeed (by decide) (by first | assumption | exact ⟨by decide, rfl⟩) (by decide) rfl (Nat.le_of_ble_eq_true rfl) dX9_seed_20 rfl c_X3_setSeed ?_
  refine x_iload_n (pc' := 24) rfl dX9_seed_23 rfl ?_
  exact x_iret rfl dX9_seed_24 rfl
set_option maxRecDepth 100000 in
set_option maxHeartbeats 4000000 in
theorem f_X9_seed {σ : St} {x : Int32} (hx : ¬ 0 ≤ x) : Ct yX9_seed M_X9_seed [.ref 0, .int x] σ (some (.int (-1000000002)), σ) := by
  refine ct_of (k := 1) rfl rfl rfl (Nat.le_of_ble_eq_true rfl) ?_
  refine x_iload_n (pc' := 1) rfl dX9_seed_0 rfl ?_
  refine x_if_ge (tgt := 7) (pc' := 4) (by decide) dX9_seed_1 rfl (fun c1 => absurd c1 hx) (fun c1 => ?_)
  refine x_ldc (pc' := 6) kc_X9_102 dX9_seed_4 rfl ?_
  exact x_iret rfl dX9_seed_6 rfl
set_option maxRecDepth 100000 in
set_option maxHeartbeats 4000000 in
theorem t_X9_imageOf {σ : St} {i : Nat} (hi : i < 2) : Ct yX9_imageOf M_X9_imageOf [.ref 0, .int (nI i)] σ (some (.ref (3 + i)), σ) := by
  match i, hi with
  | 0, _ =>
    refine ct_of (k := 0) rfl rfl rfl (Nat.le_of_ble_eq_true rfl) ?_
    refine x_iload_n (pc' := 1) rfl dX9_imageOf_0 rfl ?_
    refine x_if_ne (tgt := 9) (pc' := 4) (by decide) dX9_imageOf_1 rfl (fun c1 => absurd rfl c1) (fun c1 => ?_)
    refine x_aload_n (pc' := 5) rfl dX9_imageOf_4 rfl ?_
    refine x_get (v := .ref 3) (pc' := 8) fk_X9_26 (by first | assumption | exact ⟨by decide, rfl⟩) rfl dX9_imageOf_5 rfl ?_
    exact x_aret (Or.inr ⟨_, rfl⟩) rfl dX9_imageOf_8 rfl
  | 1, _ =>
    refine ct_of (k := 0) rfl rfl rfl (Nat.le_of_ble_eq_true rfl) ?_
    refine x_iload_n (pc' := 1) rfl dX9_imageOf_0 rfl ?_
    refine x_if_ne (tgt := 9) (pc' := 4) (by decide) dX9_imageOf_1 rfl (fun c1 => ?_) (fun c1 => absurd c1 (by decide))
    refine x_iload_n (pc' := 10) rfl dX9_imageOf_9 rfl ?_
    refine x_iconst (v := 1) (pc' := 11) (by decide) dX9_imageOf_10 rfl ?_
    refine x_icmp_ne (tgt := 21) (pc' := 14) (by decide) dX9_imageOf_11 rfl (fun c11 => absurd rfl c11) (fun c11 => ?_)
    refine x_aload_n (pc' := 15) rfl dX9_imageOf_14 rfl ?_
    refine x_get (v := .ref 4) (pc' := 18) fk_X9_30 (by first | assumption | exact ⟨by decide, rfl⟩) rfl dX9_imageOf_15 rfl ?_
    refine x_goto (tgt := 22) (by decide) dX9_imageOf_18 ?_
    exact x_aret (Or.inr ⟨_, rfl⟩) rfl dX9_imageOf_22 rfl
set_option maxRecDepth 100000 in
set_option maxHeartbeats 4000000 in
theorem f_X9_imageOf {σ : St} {x : Int32} (hx : ¬ (0 ≤ x ∧ x < 2)) : Ct yX9_imageOf M_X9_imageOf [.ref 0, .int x] σ (some .null, σ) := by
  refine ct_of (k := 0) rfl rfl rfl (Nat.le_of_ble_eq_true rfl) ?_
  refine x_iload_n (pc' := 1) rfl dX9_imageOf_0 rfl ?_
  refine x_if_ne (tgt := 9) (pc' := 4) (by decide) dX9_imageOf_1 rfl (fun c1 => ?_) (fun c1 => absurd c1 (fun q => hx (by rw [q]; decide)))
  refine x_iload_n (pc' := 10) rfl dX9_imageOf_9 rfl ?_
  refine x_iconst (v := 1) (pc' := 11) (by decide) dX9_imageOf_10 rfl ?_
  refine x_icmp_ne (tgt := 21) (pc' := 14) (by decide) dX9_imageOf_11 rfl (fun c11 => ?_) (fun c11 => absurd c11 (fun q => hx (by rw [q]; decide)))
  refine x_null (pc' := 22) dX9_imageOf_21 rfl ?_
  exact x_aret (Or.inl rfl) rfl dX9_imageOf_22 rfl
set_option maxRecDepth 100000 in
set_option maxHeartbeats 4000000 in
theorem d_X9_keep {σ : St} {v : Nat → Int32} {i : Nat} (hi : i < 2) (h : SR σ 0 v) (hA : ∀ s, s < 19 → Sh σ s) : ∃ τ, Ct yX9_keep M_X9_keep [.ref 0, .int (nI i)] σ (some (.int 1), pI (pI (pI τ (3 + i) 1 (σ.1 9 0)) (3 + i) 2 1) 1 2 0) ∧ SR τ (17 + i) v ∧ ChS σ τ (17 + i) ∧ τ.2.2 = σ.2.2 := by
  have hk : Is (3 + i) 0 5 := by
    match i, hi with
    | 0, _ => exact ⟨by decide, rfl⟩
    | 1, _ => exact ⟨by decide, rfl⟩
  obtain ⟨τ, hE, r1⟩ := c_X6_take hi h hA
  refine ⟨τ, ?_, r1⟩
  refine ct_of (k := 1) rfl rfl rfl (Nat.le_of_ble_eq_true rfl) ?_
  refine x_aload_n (pc' := 1) rfl dX9_keep_0 rfl ?_
  refine x_iload_n (pc' := 2) rfl dX9_keep_1 rfl ?_
  refine x_callVi (As := [.int _]) (rest := []) (ci := 8) (pc' := 5) rfl vk_X9_273 mk_X9_imageOf (by decide) (by first | assumption | exact ⟨by decide, rfl⟩) (by decide) rfl (Nat.le_of_ble_eq_true rfl) dX9_keep_2 rfl (t_X9_imageOf hi) ?_
  refine x_astore_n (lv' := [_, _, _]) (pc' := 6) (by decide) rfl dX9_keep_5 rfl ?_
  refine x_aload_n (pc' := 7) rfl dX9_keep_6 rfl ?_
  refine x_ifnonnull (tgt := 13) (by decide) dX9_keep_7 ?_
  refine x_aload_n (pc' := 14) rfl dX9_keep_13 rfl ?_
  refine x_aload_n (pc' := 15) rfl dX9_keep_14 rfl ?_
  refine x_get (v := .ref 29) (pc' := 18) fk_X9_12 (by first | assumption | exact ⟨by decide, rfl⟩) rfl dX9_keep_15 rfl ?_
  refine x_aload_n (pc' := 19) rfl dX9_keep_18 rfl ?_
  refine x_get (v := .ref 9) (pc' := 22) fk_X9_43 (by first | assumption | exact ⟨by decide, rfl⟩) rfl dX9_keep_19 rfl ?_
  refine x_callVv (As := [.ref _, .ref _]) (rest := []) (ci := 5) (pc' := 25) rfl vk_X9_277 mk_X6_take (by decide) (by first | assumption | exact ⟨by decide, rfl⟩) (by decide) rfl (Nat.le_of_ble_eq_true rfl) dX9_keep_22 rfl hE ?_
  refine x_aload_n (pc' := 26) rfl dX9_keep_25 rfl ?_
  refine x_get (v := .ref 1) (pc' := 29) fk_X9_19 (by first | assumption | exact ⟨by decide, rfl⟩) rfl dX9_keep_26 rfl ?_
  refine x_callVv (As := []) (rest := []) (ci := 4) (pc' := 32) rfl vk_X9_281 mk_X5_clear (by decide) (by first | assumption | exact ⟨by decide, rfl⟩) (by decide) rfl (Nat.le_of_ble_eq_true rfl) dX9_keep_29 rfl c_X5_clear ?_
  refine x_iconst (v := 1) (pc' := 33) (by decide) dX9_keep_32 rfl ?_
  exact x_iret rfl dX9_keep_33 rfl
set_option maxRecDepth 100000 in
set_option maxHeartbeats 4000000 in
theorem f_X9_keep {σ : St} {x : Int32} (hx : ¬ (0 ≤ x ∧ x < 2)) : Ct yX9_keep M_X9_keep [.ref 0, .int x] σ (some (.int (-1000000001)), σ) := by
  refine ct_of (k := 1) rfl rfl rfl (Nat.le_of_ble_eq_true rfl) ?_
  refine x_aload_n (pc' := 1) rfl dX9_keep_0 rfl ?_
  refine x_iload_n (pc' := 2) rfl dX9_keep_1 rfl ?_
  refine x_callVi (As := [.int _]) (rest := []) (ci := 8) (pc' := 5) rfl vk_X9_273 mk_X9_imageOf (by decide) (by first | assumption | exact ⟨by decide, rfl⟩) (by decide) rfl (Nat.le_of_ble_eq_true rfl) dX9_keep_2 rfl (f_X9_imageOf hx) ?_
  refine x_astore_nN (lv' := [_, _, _]) (pc' := 6) (by decide) rfl dX9_keep_5 rfl ?_
  refine x_aload_nN (pc' := 7) rfl dX9_keep_6 rfl ?_
  refine x_ifnonnullN (pc' := 10) dX9_keep_7 rfl ?_
  refine x_ldc (pc' := 12) kc_X9_103 dX9_keep_10 rfl ?_
  exact x_iret rfl dX9_keep_12 rfl
set_option maxRecDepth 100000 in
set_option maxHeartbeats 4000000 in
theorem d_X9_goBack {σ : St} {v : Nat → Int32} {i : Nat} (hi : i < 2) (h : SR σ (17 + i) v) (hA : Sh σ 0) (hz : σ.1 (3 + i) 2 = 1) : ∃ τ, Ct yX9_goBack M_X9_goBack [.ref 0, .int (nI i)] σ (some (.int 1), pI (pI τ 9 0 (σ.1 (3 + i) 1)) 1 2 0) ∧ SR τ 0 v ∧ ChS σ τ 0 ∧ τ.2.2 = σ.2.2 := by
  have hk : Is (3 + i) 0 5 := by
    match i, hi with
    | 0, _ => exact ⟨by decide, rfl⟩
    | 1, _ => exact ⟨by decide, rfl⟩
  obtain ⟨τ, hE, r1⟩ := c_X6_give hi h hA
  refine ⟨τ, ?_, r1⟩
  refine ct_of (k := 1) rfl rfl rfl (Nat.le_of_ble_eq_true rfl) ?_
  refine x_aload_n (pc' := 1) rfl dX9_goBack_0 rfl ?_
  refine x_iload_n (pc' := 2) rfl dX9_goBack_1 rfl ?_
  refine x_callVi (As := [.int _]) (rest := []) (ci := 8) (pc' := 5) rfl vk_X9_273 mk_X9_imageOf (by decide) (by first | assumption | exact ⟨by decide, rfl⟩) (by decide) rfl (Nat.le_of_ble_eq_true rfl) dX9_goBack_2 rfl (t_X9_imageOf hi) ?_
  refine x_astore_n (lv' := [_, _, _]) (pc' := 6) (by decide) rfl dX9_goBack_5 rfl ?_
  refine x_aload_n (pc' := 7) rfl dX9_goBack_6 rfl ?_
  refine x_ifnonnull (tgt := 13) (by decide) dX9_goBack_7 ?_
  refine x_aload_n (pc' := 14) rfl dX9_goBack_13 rfl ?_
  refine x_callVi (As := []) (rest := []) (ci := 5) (pc' := 17) rfl vk_X9_282 mk_X6_wasTaken (by decide) (by first | assumption | exact ⟨by decide, rfl⟩) (by decide) rfl (Nat.le_of_ble_eq_true rfl) dX9_goBack_14 rfl (c_X6_wasTaken hi (Or.inr hz)) ?_
  refine x_if_ne (tgt := 23) (pc' := 20) (by decide) dX9_goBack_17 rfl (fun c17 => ?_) (fun c17 => absurd c17 (by rw [hz]; decide))
  refine x_aload_n (pc' := 24) rfl dX9_goBack_23 rfl ?_
  refine x_aload_n (pc' := 25) rfl dX9_goBack_24 rfl ?_
  refine x_get (v := .ref 29) (pc' := 28) fk_X9_12 (by first | assumption | exact ⟨by decide, rfl⟩) rfl dX9_goBack_25 rfl ?_
  refine x_aload_n (pc' := 29) rfl dX9_goBack_28 rfl ?_
  refine x_get (v := .ref 9) (pc' := 32) fk_X9_43 (by first | assumption | exact ⟨by decide, rfl⟩) rfl dX9_goBack_29 rfl ?_
  refine x_callVv (As := [.ref _, .ref _]) (rest := []) (ci := 5) (pc' := 35) rfl vk_X9_285 mk_X6_give (by decide) (by first | assumption | exact ⟨by decide, rfl⟩) (by decide) rfl (Nat.le_of_ble_eq_true rfl) dX9_goBack_32 rfl hE ?_
  refine x_aload_n (pc' := 36) rfl dX9_goBack_35 rfl ?_
  refine x_get (v := .ref 1) (pc' := 39) fk_X9_19 (by first | assumption | exact ⟨by decide, rfl⟩) rfl dX9_goBack_36 rfl ?_
  refine x_callVv (As := []) (rest := []) (ci := 4) (pc' := 42) rfl vk_X9_281 mk_X5_clear (by decide) (by first | assumption | exact ⟨by decide, rfl⟩) (by decide) rfl (Nat.le_of_ble_eq_true rfl) dX9_goBack_39 rfl c_X5_clear ?_
  refine x_iconst (v := 1) (pc' := 43) (by decide) dX9_goBack_42 rfl ?_
  exact x_iret rfl dX9_goBack_43 rfl
set_option maxRecDepth 100000 in
set_option maxHeartbeats 4000000 in
theorem f_X9_goBack {σ : St} {x : Int32} (hno : ¬ ((0 ≤ x ∧ x < 2) ∧ ¬ σ.1 22 x.toNatClampNeg = 0)) (hz : ∀ i, i < 2 → σ.1 22 i = 0 → σ.1 (3 + i) 2 = 0) : Ct yX9_goBack M_X9_goBack [.ref 0, .int x] σ (some (.int (pif (0 ≤ x ∧ x < 2) (-1000000003) (-1000000001))), σ) := by
  by_cases hx : 0 ≤ x ∧ x < 2
  · rw [pif_t hx]
    obtain ⟨i, hi, rfl⟩ := i_in (n := 2) (by decide) hx.1 hx.2
    have hk : Is (3 + i) 0 5 := by
      match i, hi with
      | 0, _ => exact ⟨by decide, rfl⟩
      | 1, _ => exact ⟨by decide, rfl⟩
    rw [nI_clamp (by omega)] at hno
    have h0 := hz i hi (Classical.not_not.mp (fun q => hno ⟨hx, q⟩))
    refine ct_of (k := 1) rfl rfl rfl (Nat.le_of_ble_eq_true rfl) ?_
    refine x_aload_n (pc' := 1) rfl dX9_goBack_0 rfl ?_
    refine x_iload_n (pc' := 2) rfl dX9_goBack_1 rfl ?_
    refine x_callVi (As := [.int _]) (rest := []) (ci := 8) (pc' := 5) rfl vk_X9_273 mk_X9_imageOf (by decide) (by first | assumption | exact ⟨by decide, rfl⟩) (by decide) rfl (Nat.le_of_ble_eq_true rfl) dX9_goBack_2 rfl (t_X9_imageOf hi) ?_
    refine x_astore_n (lv' := [_, _, _]) (pc' := 6) (by decide) rfl dX9_goBack_5 rfl ?_
    refine x_aload_n (pc' := 7) rfl dX9_goBack_6 rfl ?_
    refine x_ifnonnull (tgt := 13) (by decide) dX9_goBack_7 ?_
    refine x_aload_n (pc' := 14) rfl dX9_goBack_13 rfl ?_
    refine x_callVi (As := []) (rest := []) (ci := 5) (pc' := 17) rfl vk_X9_282 mk_X6_wasTaken (by decide) (by first | assumption | exact ⟨by decide, rfl⟩) (by decide) rfl (Nat.le_of_ble_eq_true rfl) dX9_goBack_14 rfl (c_X6_wasTaken hi (Or.inl h0)) ?_
    refine x_if_ne (tgt := 23) (pc' := 20) (by decide) dX9_goBack_17 rfl (fun c17 => absurd h0 c17) (fun c17 => ?_)
    refine x_ldc (pc' := 22) kc_X9_227 dX9_goBack_20 rfl ?_
    exact x_iret rfl dX9_goBack_22 rfl
  · rw [pif_f hx]
    refine ct_of (k := 1) rfl rfl rfl (Nat.le_of_ble_eq_true rfl) ?_
    refine x_aload_n (pc' := 1) rfl dX9_goBack_0 rfl ?_
    refine x_iload_n (pc' := 2) rfl dX9_goBack_1 rfl ?_
    refine x_callVi (As := [.int _]) (rest := []) (ci := 8) (pc' := 5) rfl vk_X9_273 mk_X9_imageOf (by decide) (by first | assumption | exact ⟨by decide, rfl⟩) (by decide) rfl (Nat.le_of_ble_eq_true rfl) dX9_goBack_2 rfl (f_X9_imageOf hx) ?_
    refine x_astore_nN (lv' := [_, _, _]) (pc' := 6) (by decide) rfl dX9_goBack_5 rfl ?_
    refine x_aload_nN (pc' := 7) rfl dX9_goBack_6 rfl ?_
    refine x_ifnonnullN (pc' := 10) dX9_goBack_7 rfl ?_
    refine x_ldc (pc' := 12) kc_X9_103 dX9_goBack_10 rfl ?_
    exact x_iret rfl dX9_goBack_12 rfl
