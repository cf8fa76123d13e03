/-! ===== the class: Sheet, what is read ===== -/
def ShF (σ : St) (k : Nat) : Prop := Is k 0 7 ∧ Is (k + 1) 4 6 ∧ ∀ g, g < 6 → isG (σ.2.2 (k + 1) g)
/-- the sheet at k is the row v -/
def Rep (σ : St) (k : Nat) (v : Nat → Int32) : Prop := σ.1 k 1 = v 0 ∧ σ.1 k 2 = v 1 ∧ ∀ g, g < cN v → GRep σ (σ.2.2 (k + 1) g) v g
def Rp (σ : St) (k : Nat) (v : Nat → Int32) : Prop := ShF σ k ∧ Rep σ k v ∧ Ok v
theorem Rp.n {σ : St} {k : Nat} {v : Nat → Int32} (h : Rp σ k v) : σ.1 k 1 = nI (cN v) := h.2.1.1.trans h.2.2.1
theorem Rp.g {σ : St} {k : Nat} {v : Nat → Int32} (h : Rp σ k v) {g : Nat} (hg : g < cN v) : isG (σ.2.2 (k + 1) g) ∧ GRep σ (σ.2.2 (k + 1) g) v g ∧ OkF v g ∧ OkO v g := by
  have h6 := h.2.2.c6
  exact ⟨h.1.2.2 g (by omega), h.2.1.2.2 g hg, h.2.2.F hg, (h.2.2.2.2.2.2 g hg).2.2⟩
set_option maxRecDepth 100000 in
set_option maxHeartbeats 4000000 in
theorem c_X8_size {σ : St} {k : Nat} (hk : Is k 0 7) : Ct yX8_size M_X8_size [.ref k] σ (some (.int (σ.1 k 1)), σ) := by
  refine ct_of (k := 0) rfl rfl rfl (Nat.le_of_ble_eq_true rfl) ?_
  refine x_aload_n (pc' := 1) rfl dX8_size_0 rfl ?_
  refine x_get (v := .int _) (pc' := 4) fk_X8_18 (by first | assumption | exact ⟨by decide, rfl⟩) rfl dX8_size_1 rfl ?_
  exact x_iret rfl dX8_size_4 rfl
set_option maxRecDepth 100000 in
set_option maxHeartbeats 4000000 in
theorem c_X8_ruleNow {σ : St} {k : Nat} (hk : Is k 0 7) : Ct yX8_ruleNow M_X8_ruleNow [.ref k] σ (some (.int (σ.1 k 2)), σ) := by
  refine ct_of (k := 0) rfl rfl rfl (Nat.le_of_ble_eq_true rfl) ?_
  refine x_aload_n (pc' := 1) rfl dX8_ruleNow_0 rfl ?_
  refine x_get (v := .int _) (pc' := 4) fk_X8_22 (by first | assumption | exact ⟨by decide, rfl⟩) rfl dX8_ruleNow_1 rfl ?_
  exact x_iret rfl dX8_ruleNow_4 rfl
set_option maxRecDepth 100000 in
set_option maxHeartbeats 4000000 in
theorem c_X8_setRule {σ : St} {k : Nat} {x : Int32} (hk : Is k 0 7) : Ct yX8_setRule M_X8_setRule [.ref k, .int x] σ (none, pI σ k 2 x) := by
  refine ct_of (k := 0) rfl rfl rfl (Nat.le_of_ble_eq_true rfl) ?_
  refine x_aload_n (pc' := 1) rfl dX8_setRule_0 rfl ?_
  refine x_iload_n (pc' := 2) rfl dX8_setRule_1 rfl ?_
  refine x_puti (pc' := 5) fk_X8_22 pk_7_2 rfl (by first | assumption | exact ⟨by decide, rfl⟩) dX8_setRule_2 rfl ?_
  exact x_vret rfl dX8_setRule_5 rfl
set_option maxRecDepth 100000 in
set_option maxHeartbeats 4000000 in
theorem t_X8_at {σ : St} {k N G : Nat} {g : Int32} (hs : ShF σ k) (hc : σ.1 k 1 = nI N) (hN : N ≤ 6) (hg : g = nI G) (hG : G < N) : Ct yX8_at M_X8_at [.ref k, .int g] σ (some (.ref (σ.2.2 (k + 1) G)), σ) := by
  subst hg
  obtain ⟨h0, h1, h2⟩ := id hs
  refine ct_of (k := 0) rfl rfl rfl (Nat.le_of_ble_eq_true rfl) ?_
  refine x_iload_n (pc' := 1) rfl dX8_at_0 rfl ?_
  refine x_if_lt (tgt := 30) (pc' := 4) (by decide) dX8_at_1 rfl (fun c1 => absurd c1 (nI_pos (by omega))) (fun c1 => ?_)
  refine x_iload_n (pc' := 5) rfl dX8_at_4 rfl ?_
  refine x_aload_n (pc' := 6) rfl dX8_at_5 rfl ?_
  refine x_get (v := .int _) (pc' := 9) fk_X8_18 (by first | assumption | exact ⟨by decide, rfl⟩) rfl dX8_at_6 rfl ?_
  refine x_icmp_ge (tgt := 30) (pc' := 12) (by decide) dX8_at_9 rfl (fun c9 => absurd c9 (by rw [hc]; exact nI_ge hG (by omega))) (fun c9 => ?_)
  refine x_iload_n (pc' := 13) rfl dX8_at_12 rfl ?_
  refine x_aload_n (pc' := 14) rfl dX8_at_13 rfl ?_
  refine x_get (v := .ref _) (pc' := 17) fk_X8_11 (by first | assumption | exact ⟨by decide, rfl⟩) rfl dX8_at_14 rfl ?_
  refine x_alen (a := 4) (n := 6) (v := 6) (pc' := 18) (by decide) (by first | assumption | exact ⟨by decide, rfl⟩) (by decide) dX8_at_17 rfl ?_
  refine x_icmp_ge (tgt := 30) (pc' := 21) (by decide) dX8_at_18 rfl (fun c18 => absurd c18 (nI_ge (b := 6) (by omega) (by decide))) (fun c18 => ?_)
  refine x_aload_n (pc' := 22) rfl dX8_at_21 rfl ?_
  refine x_get (v := .ref _) (pc' := 25) fk_X8_11 (by first | assumption | exact ⟨by decide, rfl⟩) rfl dX8_at_22 rfl ?_
  refine x_iload_n (pc' := 26) rfl dX8_at_25 rfl ?_
  refine x_aaldGn (N := 6) (n := G) (pc' := 27) (by first | assumption | exact ⟨by decide, rfl⟩) (by decide) rfl (by omega) dX8_at_26 rfl ?_
  refine x_goto (tgt := 31) (by decide) dX8_at_27 ?_
  exact x_aret (Or.inr ⟨_, rfl⟩) rfl dX8_at_31 rfl
set_option maxRecDepth 100000 in
set_option maxHeartbeats 4000000 in
theorem f_X8_at {σ : St} {k N : Nat} {g : Int32} (hs : ShF σ k) (hc : σ.1 k 1 = nI N) (hN : N ≤ 6) (hg : ¬ (0 ≤ g ∧ g < nI N)) : Ct yX8_at M_X8_at [.ref k, .int g] σ (some .null, σ) := by
  obtain ⟨h0, h1, h2⟩ := id hs
  refine ct_of (k := 0) rfl rfl rfl (Nat.le_of_ble_eq_true rfl) ?_
  refine x_iload_n (pc' := 1) rfl dX8_at_0 rfl ?_
  refine x_if_lt (tgt := 30) (pc' := 4) (by decide) dX8_at_1 rfl (fun c1 => ?_) (fun c1 => ?_)
  · refine x_null (pc' := 31) dX8_at_30 rfl ?_
    exact x_aret (Or.inl rfl) rfl dX8_at_31 rfl
  · refine x_iload_n (pc' := 5) rfl dX8_at_4 rfl ?_
    refine x_aload_n (pc' := 6) rfl dX8_at_5 rfl ?_
    refine x_get (v := .int _) (pc' := 9) fk_X8_18 (by first | assumption | exact ⟨by decide, rfl⟩) rfl dX8_at_6 rfl ?_
    refine x_icmp_ge (tgt := 30) (pc' := 12) (by decide) dX8_at_9 rfl (fun c9 => ?_) (fun c9 => absurd (by rw [hc]; exact i_nlt.mp (fun q => hg ⟨i_nlt.mp c1, q⟩)) c9)
    refine x_null (pc' := 31) dX8_at_30 rfl ?_
    exact x_aret (Or.inl rfl) rfl dX8_at_31 rfl
set_option maxRecDepth 100000 in
set_option maxHeartbeats 4000000 in
theorem l_X8_owner {σ : St} {k : Nat} {v : Nat → Int32} (hR : Rp σ k v) {px py : Nat} (hpx : px < 2 ^ 31) (hpy : py < 2 ^ 31) : ∀ (n g : Nat) (D : Option Value), g + n = cN v → Ex M_X8_owner (some (.int (owS v px py (cN v))), σ) 5 [some (.ref k), some (.int (nI px)), some (.int (nI py)), some (.int (owS v px py g)), some (.int (nI g)), D] [] σ := by
  have hv := hR.2.2
  have h6 := hv.c6
  obtain ⟨hk0, hk1, hk2⟩ := id hR.1
  have hn := hR.n
  intro n
  induction n with
  | zero =>
    intro g D hg
    obtain rfl : g = cN v := by omega
    refine x_iload (pc' := 7) rfl dX8_owner_5 rfl ?_
    refine x_aload_n (pc' := 8) rfl dX8_owner_7 rfl ?_
    refine x_get (v := .int _) (pc' := 11) fk_X8_18 (by first | assumption | exact ⟨by decide, rfl⟩) rfl dX8_owner_8 rfl ?_
    refine x_icmp_ge (tgt := 55) (pc' := 14) (by decide) dX8_owner_11 rfl (fun c11 => ?_) (fun c11 => absurd (show σ.1 k 1 ≤ nI (cN v) by rw [hn]; exact nI_le (by omega) (by omega)) c11)
    refine x_iload_n (pc' := 56) rfl dX8_owner_55 rfl ?_
    exact x_iret rfl dX8_owner_56 rfl
  | succ n ih =>
    intro g D hg
    obtain ⟨hq, hr, hf, hO⟩ := hR.g (g := g) (by omega)
    obtain ⟨hq0, hq1⟩ := id hq
    obtain ⟨g6, c5, r5, c2, r2, s1, s64⟩ := hv.b (g := g) (by omega)
    have ep := hr.par
    refine x_iload (pc' := 7) rfl dX8_owner_5 rfl ?_
    refine x_aload_n (pc' := 8) rfl dX8_owner_7 rfl ?_
    refine x_get (v := .int _) (pc' := 11) fk_X8_18 (by first | assumption | exact ⟨by decide, rfl⟩) rfl dX8_owner_8 rfl ?_
    refine x_icmp_ge (tgt := 55) (pc' := 14) (by decide) dX8_owner_11 rfl (fun c11 => absurd c11 (show ¬ σ.1 k 1 ≤ nI g by rw [hn]; exact nI_ge (by omega) (by omega))) (fun c11 => ?_)
    refine x_aload_n (pc' := 15) rfl dX8_owner_14 rfl ?_
    refine x_iload (pc' := 17) rfl dX8_owner_15 rfl ?_
    refine x_callVi (As := [.int _]) (rest := []) (ci := 7) (pc' := 20) rfl vk_X8_25 mk_X8_at (by decide) (by first | assumption | exact ⟨by decide, rfl⟩) (by decide) rfl (Nat.le_of_ble_eq_true rfl) dX8_owner_17 rfl (t_X8_at hR.1 hn h6 rfl (by omega)) ?_
    refine x_astore (lv' := [_, _, _, _, _, _]) (pc' := 22) (by decide) rfl dX8_owner_20 rfl ?_
    refine x_aload (pc' := 24) rfl dX8_owner_22 rfl ?_
    refine x_ifnull (pc' := 27) dX8_owner_24 rfl ?_
    refine x_aload (pc' := 29) rfl dX8_owner_27 rfl ?_
    refine x_get (v := .int _) (pc' := 32) fk_X8_49 (by first | assumption | exact ⟨by decide, rfl⟩) rfl dX8_owner_29 rfl ?_
    refine x_iload_n (pc' := 33) rfl dX8_owner_32 rfl ?_
    skip
    refine x_icmp_ne (tgt := 49) (pc' := 36) (by decide) dX8_owner_33 rfl (fun c33 => ?_) (fun c33 => ?_)
    · have e : owS v px py (g + 1) = owS v px py g := by rw [owS, pif_f (fun q => c33 (ep.trans q.1))]
      have ih2 := ih (g + 1) (some (.ref (σ.2.2 (k + 1) g))) (by omega)
      rw [e] at ih2
      refine x_iinc (lv' := [_, _, _, _, _, _]) (pc' := 52) rfl (nI_1 g) (by decide) rfl dX8_owner_49 rfl ?_
      refine x_goto (tgt := 5) (by decide) dX8_owner_52 ?_
      exact ih2
    · refine x_aload (pc' := 38) rfl dX8_owner_36 rfl ?_
      refine x_iload_n (pc' := 39) rfl dX8_owner_38 rfl ?_
      refine x_iload_n (pc' := 40) rfl dX8_owner_39 rfl ?_
      refine x_callVi (As := [.int _, .int _]) (rest := []) (ci := 3) (pc' := 43) rfl vk_X8_68 mk_X4_isOnGround (by decide) (by first | assumption | exact ⟨by decide, rfl⟩) (by decide) rfl (Nat.le_of_ble_eq_true rfl) dX8_owner_40 rfl (c_X4_isOnGround hq hr hf hpx hpy) ?_
      refine x_if_eq (tgt := 49) (pc' := 46) (by decide) dX8_owner_43 rfl (fun c43 => ?_) (fun c43 => ?_)
      · have e : owS v px py (g + 1) = owS v px py g := by rw [owS, pif_f (fun q => pb_iff.mp c43 q.2)]
        have ih2 := ih (g + 1) (some (.ref (σ.2.2 (k + 1) g))) (by omega)
        rw [e] at ih2
        refine x_iinc (lv' := [_, _, _, _, _, _]) (pc' := 52) rfl (nI_1 g) (by decide) rfl dX8_owner_49 rfl ?_
        refine x_goto (tgt := 5) (by decide) dX8_owner_52 ?_
        exact ih2
      · refine x_iload (pc' := 48) rfl dX8_owner_46 rfl ?_
        refine x_istore_n (lv' := [_, _, _, _, _, _]) (pc' := 49) (by decide) rfl dX8_owner_48 rfl ?_
        have e : owS v px py (g + 1) = nI g := by rw [owS, pif_t ⟨ep.symm.trans c33, pb_n c43⟩]
        have ih2 := ih (g + 1) (some (.ref (σ.2.2 (k + 1) g))) (by omega)
        rw [e] at ih2
        refine x_iinc (lv' := [_, _, _, _, _, _]) (pc' := 52) rfl (nI_1 g) (by decide) rfl dX8_owner_49 rfl ?_
        refine x_goto (tgt := 5) (by decide) dX8_owner_52 ?_
        exact ih2
set_option maxRecDepth 100000 in
set_option maxHeartbeats 4000000 in
theorem c_X8_owner {σ : St} {k : Nat} {v : Nat → Int32} (hR : Rp σ k v) {px py : Nat} (hpx : px < 2 ^ 31) (hpy : py < 2 ^ 31) : Ct yX8_owner M_X8_owner [.ref k, .int (nI px), .int (nI py)] σ (some (.int (owS v px py (cN v))), σ) := by
  have hv := hR.2.2
  have h6 := hv.c6
  obtain ⟨hk0, hk1, hk2⟩ := id hR.1
  have hn := hR.n
  refine ct_of (k := 3) rfl rfl rfl (Nat.le_of_ble_eq_true rfl) ?_
  refine x_iconst (v := (-1)) (pc' := 1) (by decide) dX8_owner_0 rfl ?_
  refine x_istore_n (lv' := [_, _, _, _, _, _]) (pc' := 2) (by decide) rfl dX8_owner_1 rfl ?_
  refine x_iconst (v := 0) (pc' := 3) (by decide) dX8_owner_2 rfl ?_
  refine x_istore (lv' := [_, _, _, _, _, _]) (pc' := 5) (by decide) rfl dX8_owner_3 rfl ?_
  exact l_X8_owner hR hpx hpy _ 0 _ (Nat.zero_add _)
set_option maxRecDepth 100000 in
set_option maxHeartbeats 4000000 in
theorem c_X8_placeOffset {σ : St} {k : Nat} {v : Nat → Int32} (hR : Rp σ k v) {x y w : Int32} {px py W : Nat} (hx : x = nI px) (hy : y = nI py) (hw : w = nI W) (hpx : px ≤ 64000) (hpy : py ≤ 64000) (hW : W < 2) : Ct yX8_placeOffset M_X8_placeOffset [.ref k, .int x, .int y, .int w] σ (some (.int (mvS v px py W)), σ) := by
  subst hx
  subst hy
  subst hw
  have hv := hR.2.2
  have h6 := hv.c6
  obtain ⟨hk0, hk1, hk2⟩ := id hR.1
  have hn := hR.n
  refine ct_of (k := 1) rfl rfl rfl (Nat.le_of_ble_eq_true rfl) ?_
  by_cases ho : owS v px py (cN v) = -1
  · rw [mvS, pif_t ho]
    refine x_aload_n (pc' := 1) rfl dX8_placeOffset_0 rfl ?_
    refine x_aload_n (pc' := 2) rfl dX8_placeOffset_1 rfl ?_
    refine x_iload_n (pc' := 3) rfl dX8_placeOffset_2 rfl ?_
    refine x_iload_n (pc' := 4) rfl dX8_placeOffset_3 rfl ?_
    refine x_callVi (As := [.int _, .int _]) (rest := [.ref _]) (ci := 7) (pc' := 7) rfl vk_X8_72 mk_X8_owner (by decide) (by first | assumption | exact ⟨by decide, rfl⟩) (by decide) rfl (Nat.le_of_ble_eq_true rfl) dX8_placeOffset_4 rfl (c_X8_owner hR (by omega) (by omega)) ?_
    refine x_callVi (As := [.int _]) (rest := []) (ci := 7) (pc' := 10) rfl vk_X8_25 mk_X8_at (by decide) (by first | assumption | exact ⟨by decide, rfl⟩) (by decide) rfl (Nat.le_of_ble_eq_true rfl) dX8_placeOffset_7 rfl (f_X8_at hR.1 hn h6 (fun q => by rw [ho] at q; exact absurd q.1 (by decide))) ?_
    refine x_astoreN (lv' := [_, _, _, _, _]) (pc' := 12) (by decide) rfl dX8_placeOffset_10 rfl ?_
    refine x_aloadN (pc' := 14) rfl dX8_placeOffset_12 rfl ?_
    refine x_ifnonnullN (pc' := 17) dX8_placeOffset_14 rfl ?_
    refine x_iconst (v := 0) (pc' := 18) (by decide) dX8_placeOffset_17 rfl ?_
    refine x_goto (tgt := 33) (by decide) dX8_placeOffset_18 ?_
    exact x_iret rfl dX8_placeOffset_33 rfl
  · obtain ⟨g, hg1, hg2, hg3⟩ := (owS_spec v px py (cN v)).resolve_left ho
    obtain ⟨hq, hr, hf, hO⟩ := hR.g hg1
    obtain ⟨hq0, hq1⟩ := id hq
    rw [mvS, pif_f ho, hg2, nI_clamp (by omega)]
    refine x_aload_n (pc' := 1) rfl dX8_placeOffset_0 rfl ?_
    refine x_aload_n (pc' := 2) rfl dX8_placeOffset_1 rfl ?_
    refine x_iload_n (pc' := 3) rfl dX8_placeOffset_2 rfl ?_
    refine x_iload_n (pc' := 4) rfl dX8_placeOffset_3 rfl ?_
    refine x_callVi (As := [.int _, .int _]) (rest := [.ref _]) (ci := 7) (pc' := 7) rfl vk_X8_72 mk_X8_owner (by decide) (by first | assumption | exact ⟨by decide, rfl⟩) (by decide) rfl (Nat.le_of_ble_eq_true rfl) dX8_placeOffset_4 rfl (c_X8_owner hR (by omega) (by omega)) ?_
    refine x_callVi (As := [.int _]) (rest := []) (ci := 7) (pc' := 10) rfl vk_X8_25 mk_X8_at (by decide) (by first | assumption | exact ⟨by decide, rfl⟩) (by decide) rfl (Nat.le_of_ble_eq_true rfl) dX8_placeOffset_7 rfl (t_X8_at hR.1 hn h6 hg2 hg1) ?_
    refine x_astore (lv' := [_, _, _, _, _]) (pc' := 12) (by decide) rfl dX8_placeOffset_10 rfl ?_
    refine x_aload (pc' := 14) rfl dX8_placeOffset_12 rfl ?_
    refine x_ifnonnull (tgt := 21) (by decide) dX8_placeOffset_14 ?_
    refine x_aload (pc' := 23) rfl dX8_placeOffset_21 rfl ?_
    refine x_aload_n (pc' := 24) rfl dX8_placeOffset_23 rfl ?_
    refine x_get (v := .int _) (pc' := 27) fk_X8_22 (by first | assumption | exact ⟨by decide, rfl⟩) rfl dX8_placeOffset_24 rfl ?_
    refine x_iload_n (pc' := 28) rfl dX8_placeOffset_27 rfl ?_
    refine x_iload_n (pc' := 29) rfl dX8_placeOffset_28 rfl ?_
    refine x_iload_n (pc' := 30) rfl dX8_placeOffset_29 rfl ?_
    refine x_callVi (As := [.int _, .int _, .int _, .int _]) (rest := []) (ci := 3) (pc' := 33) rfl vk_X8_75 mk_X4_offsetBy (by decide) (by first | assumption | exact ⟨by decide, rfl⟩) (by decide) rfl (Nat.le_of_ble_eq_true rfl) dX8_placeOffset_30 rfl (c_X4_offsetBy hq hr hf hO hg3 hR.2.1.2.1 rfl rfl rfl hW) ?_
    exact x_iret rfl dX8_placeOffset_33 rfl
set_option maxRecDepth 100000 in
set_option maxHeartbeats 4000000 in
theorem l_X8_shiftedN {σ : St} {k : Nat} {v : Nat → Int32} (hR : Rp σ k v) : ∀ (n g : Nat) (D : Option Value), g + n = cN v → Ex M_X8_shiftedNodes (some (.int (nI (nmS v))), σ) 4 [some (.ref k), some (.int (nI (sumN (nmG v) g))), some (.int (nI g)), D] [] σ := by
  have hv := hR.2.2
  have h6 := hv.c6
  obtain ⟨hk0, hk1, hk2⟩ := id hR.1
  have hn := hR.n
  intro n
  induction n with
  | zero =>
    intro g D hg
    obtain rfl : g = cN v := by omega
    refine x_iload_n (pc' := 5) rfl dX8_shiftedNodes_4 rfl ?_
    refine x_aload_n (pc' := 6) rfl dX8_shiftedNodes_5 rfl ?_
    refine x_get (v := .int _) (pc' := 9) fk_X8_18 (by first | assumption | exact ⟨by decide, rfl⟩) rfl dX8_shiftedNodes_6 rfl ?_
    refine x_icmp_ge (tgt := 39) (pc' := 12) (by decide) dX8_shiftedNodes_9 rfl (fun c9 => ?_) (fun c9 => absurd (show σ.1 k 1 ≤ nI (cN v) by rw [hn]; exact nI_le (by omega) (by omega)) c9)
    refine x_iload_n (pc' := 40) rfl dX8_shiftedNodes_39 rfl ?_
    exact x_iret rfl dX8_shiftedNodes_40 rfl
  | succ n ih =>
    intro g D hg
    obtain ⟨hq, hr, hf, hO⟩ := hR.g (g := g) (by omega)
    obtain ⟨hq0, hq1⟩ := id hq
    obtain ⟨g6, c5, r5, c2, r2, s1, s64⟩ := hv.b (g := g) (by omega)
    refine x_iload_n (pc' := 5) rfl dX8_shiftedNodes_4 rfl ?_
    refine x_aload_n (pc' := 6) rfl dX8_shiftedNodes_5 rfl ?_
    refine x_get (v := .int _) (pc' := 9) fk_X8_18 (by first | assumption | exact ⟨by decide, rfl⟩) rfl dX8_shiftedNodes_6 rfl ?_
    refine x_icmp_ge (tgt := 39) (pc' := 12) (by decide) dX8_shiftedNodes_9 rfl (fun c9 => absurd c9 (show ¬ σ.1 k 1 ≤ nI g by rw [hn]; exact nI_ge (by omega) (by omega))) (fun c9 => ?_)
    refine x_aload_n (pc' := 13) rfl dX8_shiftedNodes_12 rfl ?_
    refine x_iload_n (pc' := 14) rfl dX8_shiftedNodes_13 rfl ?_
    refine x_callVi (As := [.int _]) (rest := []) (ci := 7) (pc' := 17) rfl vk_X8_25 mk_X8_at (by decide) (by first | assumption | exact ⟨by decide, rfl⟩) (by decide) rfl (Nat.le_of_ble_eq_true rfl) dX8_shiftedNodes_14 rfl (t_X8_at hR.1 hn h6 rfl (by omega)) ?_
    refine x_astore_n (lv' := [_, _, _, _]) (pc' := 18) (by decide) rfl dX8_shiftedNodes_17 rfl ?_
    refine x_iload_n (pc' := 19) rfl dX8_shiftedNodes_18 rfl ?_
    refine x_aload_n (pc' := 20) rfl dX8_shiftedNodes_19 rfl ?_
    refine x_ifnonnull (tgt := 27) (by decide) dX8_shiftedNodes_20 ?_
    refine x_aload_n (pc' := 28) rfl dX8_shiftedNodes_27 rfl ?_
    refine x_callVi (As := []) (rest := [.int _]) (ci := 3) (pc' := 31) rfl vk_X8_65 mk_X4_shiftedNodes (by decide) (by first | assumption | exact ⟨by decide, rfl⟩) (by decide) rfl (Nat.le_of_ble_eq_true rfl) dX8_shiftedNodes_28 rfl (c_X4_shiftedNodes hq hr hf) ?_
    refine x_iadd (pc' := 32) dX8_shiftedNodes_31 rfl ?_
    refine x_top (nI_add _ _) ?_
    refine x_istore_n (lv' := [_, _, _, _]) (pc' := 33) (by decide) rfl dX8_shiftedNodes_32 rfl ?_
    refine x_iinc (lv' := [_, _, _, _]) (pc' := 36) rfl (nI_1 g) (by decide) rfl dX8_shiftedNodes_33 rfl ?_
    refine x_goto (tgt := 4) (by decide) dX8_shiftedNodes_36 ?_
    exact ih (g + 1) _ (by omega)
set_option maxRecDepth 100000 in
set_option maxHeartbeats 4000000 in
theorem c_X8_shiftedNodes {σ : St} {k : Nat} {v : Nat → Int32} (hR : Rp σ k v) : Ct yX8_shiftedNodes M_X8_shiftedNodes [.ref k] σ (some (.int (nI (nmS v))), σ) := by
  have hv := hR.2.2
  have h6 := hv.c6
  obtain ⟨hk0, hk1, hk2⟩ := id hR.1
  have hn := hR.n
  refine ct_of (k := 3) rfl rfl rfl (Nat.le_of_ble_eq_true rfl) ?_
  refine x_iconst (v := 0) (pc' := 1) (by decide) dX8_shiftedNodes_0 rfl ?_
  refine x_istore_n (lv' := [_, _, _, _]) (pc' := 2) (by decide) rfl dX8_shiftedNodes_1 rfl ?_
  refine x_iconst (v := 0) (pc' := 3) (by decide) dX8_shiftedNodes_2 rfl ?_
  refine x_istore_n (lv' := [_, _, _, _]) (pc' := 4) (by decide) rfl dX8_shiftedNodes_3 rfl ?_
  exact l_X8_shiftedN hR _ 0 _ (Nat.zero_add _)
set_option maxRecDepth 100000 in
set_option maxHeartbeats 4000000 in
theorem l_X8_children {σ : St} {k : Nat} {v : Nat → Int32} (hR : Rp σ k v) {x : Int32} : ∀ (n g : Nat) (D : Option Value), g + n = cN v → Ex M_X8_children (some (.int (nI (chN v x (cN v)))), σ) 4 [some (.ref k), some (.int x), some (.int (nI (chN v x g))), some (.int (nI g)), D] [] σ := by
  have hv := hR.2.2
  have h6 := hv.c6
  obtain ⟨hk0, hk1, hk2⟩ := id hR.1
  have hn := hR.n
  intro n
  induction n with
  | zero =>
    intro g D hg
    obtain rfl : g = cN v := by omega
    refine x_iload_n (pc' := 5) rfl dX8_children_4 rfl ?_
    refine x_aload_n (pc' := 6) rfl dX8_children_5 rfl ?_
    refine x_get (v := .int _) (pc' := 9) fk_X8_18 (by first | assumption | exact ⟨by decide, rfl⟩) rfl dX8_children_6 rfl ?_
    refine x_icmp_ge (tgt := 47) (pc' := 12) (by decide) dX8_children_9 rfl (fun c9 => ?_) (fun c9 => absurd (show σ.1 k 1 ≤ nI (cN v) by rw [hn]; exact nI_le (by omega) (by omega)) c9)
    refine x_iload_n (pc' := 48) rfl dX8_children_47 rfl ?_
    exact x_iret rfl dX8_children_48 rfl
  | succ n ih =>
    intro g D hg
    obtain ⟨hq, hr, hf, hO⟩ := hR.g (g := g) (by omega)
    obtain ⟨hq0, hq1⟩ := id hq
    obtain ⟨g6, c5, r5, c2, r2, s1, s64⟩ := hv.b (g := g) (by omega)
    have ep := hr.par
    refine x_iload_n (pc' := 5) rfl dX8_children_4 rfl ?_
    refine x_aload_n (pc' := 6) rfl dX8_children_5 rfl ?_
    refine x_get (v := .int _) (pc' := 9) fk_X8_18 (by first | assumption | exact ⟨by decide, rfl⟩) rfl dX8_children_6 rfl ?_
    refine x_icmp_ge (tgt := 47) (pc' := 12) (by decide) dX8_children_9 rfl (fun c9 => absurd c9 (show ¬ σ.1 k 1 ≤ nI g by rw [hn]; exact nI_ge (by omega) (by omega))) (fun c9 => ?_)
    refine x_aload_n (pc' := 13) rfl dX8_children_12 rfl ?_
    refine x_iload_n (pc' := 14) rfl dX8_children_13 rfl ?_
    refine x_callVi (As := [.int _]) (rest := []) (ci := 7) (pc' := 17) rfl vk_X8_25 mk_X8_at (by decide) (by first | assumption | exact ⟨by decide, rfl⟩) (by decide) rfl (Nat.le_of_ble_eq_true rfl) dX8_children_14 rfl (t_X8_at hR.1 hn h6 rfl (by omega)) ?_
    refine x_astore (lv' := [_, _, _, _, _]) (pc' := 19) (by decide) rfl dX8_children_17 rfl ?_
    refine x_iload_n (pc' := 20) rfl dX8_children_19 rfl ?_
    refine x_aload (pc' := 22) rfl dX8_children_20 rfl ?_
    refine x_ifnull (pc' := 25) dX8_children_22 rfl ?_
    refine x_aload (pc' := 27) rfl dX8_children_25 rfl ?_
    refine x_get (v := .int _) (pc' := 30) fk_X8_49 (by first | assumption | exact ⟨by decide, rfl⟩) rfl dX8_children_27 rfl ?_
    refine x_iload_n (pc' := 31) rfl dX8_children_30 rfl ?_
    refine x_icmp_ne (tgt := 38) (pc' := 34) (by decide) dX8_children_31 rfl (fun c31 => ?_) (fun c31 => ?_)
    · refine x_iconst (v := 0) (pc' := 39) (by decide) dX8_children_38 rfl ?_
      refine x_top (y := nI (pif (v (2 + 6 * g) = x) 1 0)) (by rw [pif_f (P := v (2 + 6 * g) = x) (fun q => c31 (ep.trans q))]; rfl) ?_
      refine x_iadd (pc' := 40) dX8_children_39 rfl ?_
      refine x_top (y := nI (chN v x (g + 1))) (nI_add _ _) ?_
      refine x_istore_n (lv' := [_, _, _, _, _]) (pc' := 41) (by decide) rfl dX8_children_40 rfl ?_
      refine x_iinc (lv' := [_, _, _, _, _]) (pc' := 44) rfl (nI_1 g) (by decide) rfl dX8_children_41 rfl ?_
      refine x_goto (tgt := 4) (by decide) dX8_children_44 ?_
      exact ih (g + 1) _ (by omega)
    · refine x_iconst (v := 1) (pc' := 35) (by decide) dX8_children_34 rfl ?_
      refine x_goto (tgt := 39) (by decide) dX8_children_35 ?_
      refine x_top (y := nI (pif (v (2 + 6 * g) = x) 1 0)) (by rw [pif_t (P := v (2 + 6 * g) = x) (ep.symm.trans c31)]; rfl) ?_
      refine x_iadd (pc' := 40) dX8_children_39 rfl ?_
      refine x_top (y := nI (chN v x (g + 1))) (nI_add _ _) ?_
      refine x_istore_n (lv' := [_, _, _, _, _]) (pc' := 41) (by decide) rfl dX8_children_40 rfl ?_
      refine x_iinc (lv' := [_, _, _, _, _]) (pc' := 44) rfl (nI_1 g) (by decide) rfl dX8_children_41 rfl ?_
      refine x_goto (tgt := 4) (by decide) dX8_children_44 ?_
      exact ih (g + 1) _ (by omega)
set_option maxRecDepth 100000 in
set_option maxHeartbeats 4000000 in
theorem c_X8_children {σ : St} {k : Nat} {v : Nat → Int32} (hR : Rp σ k v) {x : Int32} : Ct yX8_children M_X8_children [.ref k, .int x] σ (some (.int (nI (chN v x (cN v)))), σ) := by
  have hv := hR.2.2
  have h6 := hv.c6
  obtain ⟨hk0, hk1, hk2⟩ := id hR.1
  have hn := hR.n
  refine ct_of (k := 3) rfl rfl rfl (Nat.le_of_ble_eq_true rfl) ?_
  refine x_iconst (v := 0) (pc' := 1) (by decide) dX8_children_0 rfl ?_
  refine x_istore_n (lv' := [_, _, _, _, _]) (pc' := 2) (by decide) rfl dX8_children_1 rfl ?_
  refine x_iconst (v := 0) (pc' := 3) (by decide) dX8_children_2 rfl ?_
  refine x_istore_n (lv' := [_, _, _, _, _]) (pc' := 4) (by decide) rfl dX8_children_3 rfl ?_
  exact l_X8_children hR _ 0 _ (Nat.zero_add _)
theorem dpS_fuel {v : Nat → Int32} (hv : Ok v) : ∀ (f g : Nat), g < f → g < cN v → dpS v (f + 1) g = dpS v f g
  | 0, _, h, _ => absurd h (by omega)
  | f + 1, g, h, hg => by
    by_cases hp : v (2 + 6 * g) = -1
    · rw [dpS, pif_t hp, dpS, pif_t hp]
    · obtain ⟨p1, p2⟩ := par_ok hv hg hp
      rw [dpS, pif_f hp, dpS_fuel hv f (pN v g) (by omega) (by omega)]
      conv => rhs; rw [dpS, pif_f hp]
theorem dpS_fuel2 {v : Nat → Int32} (hv : Ok v) {g : Nat} (hg : g < cN v) : ∀ d, dpS v (g + 1 + d) g = dpS v (g + 1) g
  | 0 => rfl
  | d + 1 => by rw [← Nat.add_assoc, dpS_fuel hv _ _ (by omega) hg, dpS_fuel2 hv hg d]
set_option maxRecDepth 100000 in
set_option maxHeartbeats 4000000 in
theorem l_X8_pa0 {σ : St} {k : Nat} {v : Nat → Int32} (hR : Rp σ k v) {x : Int32} {a b : Nat} (hb6 : b < 6) : ∀ (i : Nat) (D : Option Value), i ≤ b → i ≤ cN v → Ex M_X8_parentsAbove (some (.int (nI a)), σ) 12 [some (.ref k), some (.int x), some (.int (nI a)), some (.int (nI b)), some (.int (nI i - 1)), D] [] σ := by
  have hv := hR.2.2
  have h6 := hv.c6
  obtain ⟨hk0, hk1, hk2⟩ := id hR.1
  have hn := hR.n
  intro i
  induction i with
  | zero =>
    intro D hb hi
    refine x_iload (pc' := 14) rfl dX8_parentsAbove_12 rfl ?_
    refine x_if_lt (tgt := 60) (pc' := 17) (by decide) dX8_parentsAbove_14 rfl (fun c14 => ?_) (fun c14 => absurd (by decide) c14)
    refine x_iload_n (pc' := 61) rfl dX8_parentsAbove_60 rfl ?_
    exact x_iret rfl dX8_parentsAbove_61 rfl
  | succ i ih =>
    intro D hb hi
    rw [nI_pred]
    obtain ⟨hq, hr, hf, hO⟩ := hR.g (g := i) (by omega)
    obtain ⟨hq0, hq1⟩ := id hq
    refine x_iload (pc' := 14) rfl dX8_parentsAbove_12 rfl ?_
    refine x_if_lt (tgt := 60) (pc' := 17) (by decide) dX8_parentsAbove_14 rfl (fun c14 => absurd c14 (nI_pos (by omega))) (fun c14 => ?_)
    refine x_aload_n (pc' := 18) rfl dX8_parentsAbove_17 rfl ?_
    refine x_iload (pc' := 20) rfl dX8_parentsAbove_18 rfl ?_
    refine x_callVi (As := [.int _]) (rest := []) (ci := 7) (pc' := 23) rfl vk_X8_25 mk_X8_at (by decide) (by first | assumption | exact ⟨by decide, rfl⟩) (by decide) rfl (Nat.le_of_ble_eq_true rfl) dX8_parentsAbove_20 rfl (t_X8_at hR.1 hn h6 rfl (by omega)) ?_
    refine x_astore (lv' := [_, _, _, _, _, _]) (pc' := 25) (by decide) rfl dX8_parentsAbove_23 rfl ?_
    refine x_iload (pc' := 27) rfl dX8_parentsAbove_25 rfl ?_
    refine x_iload_n (pc' := 28) rfl dX8_parentsAbove_27 rfl ?_
    refine x_icmp_ne (tgt := 54) (pc' := 31) (by decide) dX8_parentsAbove_28 rfl (fun c28 => ?_) (fun c28 => absurd c28 (fun q => absurd (ni_inj (by omega) (by omega) q) (by omega)))
    refine x_iinc (lv' := [_, _, _, _, _, _]) (pc' := 57) rfl (show nI i + Int32.ofInt (-1) = nI i - 1 by rw [Int32.sub_eq_add_neg]; rfl) (by decide) rfl dX8_parentsAbove_54 rfl ?_
    refine x_goto (tgt := 12) (by decide) dX8_parentsAbove_57 ?_
    exact ih _ (by omega) (by omega)
set_option maxRecDepth 100000 in
set_option maxHeartbeats 4000000 in
theorem l_X8_pa {σ : St} {k : Nat} {v : Nat → Int32} (hR : Rp σ k v) {x : Int32} : ∀ (i a b : Nat) (D : Option Value), b < i → i ≤ cN v → Ex M_X8_parentsAbove (some (.int (nI (a + dpS v i b))), σ) 12 [some (.ref k), some (.int x), some (.int (nI a)), some (.int (nI b)), some (.int (nI i - 1)), D] [] σ := by
  have hv := hR.2.2
  have h6 := hv.c6
  obtain ⟨hk0, hk1, hk2⟩ := id hR.1
  have hn := hR.n
  intro i
  induction i with
  | zero =>
    intro a b D hb hi
    exact absurd hb (by omega)
  | succ i ih =>
    intro a b D hb hi
    rw [nI_pred]
    obtain ⟨hq, hr, hf, hO⟩ := hR.g (g := i) (by omega)
    obtain ⟨hq0, hq1⟩ := id hq
    have ep := hr.par
    by_cases hbi : b = i
    · subst hbi
      by_cases hp : v (2 + 6 * b) = -1
      · rw [dpS, pif_t hp]
        refine x_iload (pc' := 14) rfl dX8_parentsAbove_12 rfl ?_
        refine x_if_lt (tgt := 60) (pc' := 17) (by decide) dX8_parentsAbove_14 rfl (fun c14 => absurd c14 (nI_pos (by omega))) (fun c14 => ?_)
        refine x_aload_n (pc' := 18) rfl dX8_parentsAbove_17 rfl ?_
        refine x_iload (pc' := 20) rfl dX8_parentsAbove_18 rfl ?_
        refine x_callVi (As := [.int _]) (rest := []) (ci := 7) (pc' := 23) rfl vk_X8_25 mk_X8_at (by decide) (by first | assumption | exact ⟨by decide, rfl⟩) (by decide) rfl (Nat.le_of_ble_eq_true rfl) dX8_parentsAbove_20 rfl (t_X8_at hR.1 hn h6 rfl (by omega)) ?_
        refine x_astore (lv' := [_, _, _, _, _, _]) (pc' := 25) (by decide) rfl dX8_parentsAbove_23 rfl ?_
        refine x_iload (pc' := 27) rfl dX8_parentsAbove_25 rfl ?_
        refine x_iload_n (pc' := 28) rfl dX8_parentsAbove_27 rfl ?_
        refine x_icmp_ne (tgt := 54) (pc' := 31) (by decide) dX8_parentsAbove_28 rfl (fun c28 => absurd rfl c28) (fun c28 => ?_)
        refine x_aload (pc' := 33) rfl dX8_parentsAbove_31 rfl ?_
        refine x_ifnull (pc' := 36) dX8_parentsAbove_33 rfl ?_
        refine x_aload (pc' := 38) rfl dX8_parentsAbove_36 rfl ?_
        refine x_get (v := .int _) (pc' := 41) fk_X8_49 (by first | assumption | exact ⟨by decide, rfl⟩) rfl dX8_parentsAbove_38 rfl ?_
        refine x_iconst (v := (-1)) (pc' := 42) (by decide) dX8_parentsAbove_41 rfl ?_
        refine x_icmp_eq (tgt := 54) (pc' := 45) (by decide) dX8_parentsAbove_42 rfl (fun c42 => ?_) (fun c42 => absurd (ep.trans hp) c42)
        refine x_iinc (lv' := [_, _, _, _, _, _]) (pc' := 57) rfl (show nI b + Int32.ofInt (-1) = nI b - 1 by rw [Int32.sub_eq_add_neg]; rfl) (by decide) rfl dX8_parentsAbove_54 rfl ?_
        refine x_goto (tgt := 12) (by decide) dX8_parentsAbove_57 ?_
        exact l_X8_pa0 hR (by omega) b _ (Nat.le_refl _) (by omega)
      · obtain ⟨p1, p2⟩ := par_ok hv (by omega) hp
        rw [dpS, pif_f hp, ← Nat.add_assoc]
        refine x_iload (pc' := 14) rfl dX8_parentsAbove_12 rfl ?_
        refine x_if_lt (tgt := 60) (pc' := 17) (by decide) dX8_parentsAbove_14 rfl (fun c14 => absurd c14 (nI_pos (by omega))) (fun c14 => ?_)
        refine x_aload_n (pc' := 18) rfl dX8_parentsAbove_17 rfl ?_
        refine x_iload (pc' := 20) rfl dX8_parentsAbove_18 rfl ?_
        refine x_callVi (As := [.int _]) (rest := []) (ci := 7) (pc' := 23) rfl vk_X8_25 mk_X8_at (by decide) (by first | assumption | exact ⟨by decide, rfl⟩) (by decide) rfl (Nat.le_of_ble_eq_true rfl) dX8_parentsAbove_20 rfl (t_X8_at hR.1 hn h6 rfl (by omega)) ?_
        refine x_astore (lv' := [_, _, _, _, _, _]) (pc' := 25) (by decide) rfl dX8_parentsAbove_23 rfl ?_
        refine x_iload (pc' := 27) rfl dX8_parentsAbove_25 rfl ?_
        refine x_iload_n (pc' := 28) rfl dX8_parentsAbove_27 rfl ?_
        refine x_icmp_ne (tgt := 54) (pc' := 31) (by decide) dX8_parentsAbove_28 rfl (fun c28 => absurd rfl c28) (fun c28 => ?_)
        refine x_aload (pc' := 33) rfl dX8_parentsAbove_31 rfl ?_
        refine x_ifnull (pc' := 36) dX8_parentsAbove_33 rfl ?_
        refine x_aload (pc' := 38) rfl dX8_parentsAbove_36 rfl ?_
        refine x_get (v := .int _) (pc' := 41) fk_X8_49 (by first | assumption | exact ⟨by decide, rfl⟩) rfl dX8_parentsAbove_38 rfl ?_
        refine x_iconst (v := (-1)) (pc' := 42) (by decide) dX8_parentsAbove_41 rfl ?_
        refine x_icmp_eq (tgt := 54) (pc' := 45) (by decide) dX8_parentsAbove_42 rfl (fun c42 => absurd c42 (fun q => hp (ep.symm.trans q))) (fun c42 => ?_)
        refine x_aload (pc' := 47) rfl dX8_parentsAbove_45 rfl ?_
        refine x_get (v := .int _) (pc' := 50) fk_X8_49 (by first | assumption | exact ⟨by decide, rfl⟩) rfl dX8_parentsAbove_47 rfl ?_
        refine x_top (ep.trans p2) ?_
        refine x_istore_n (lv' := [_, _, _, _, _, _]) (pc' := 51) (by decide) rfl dX8_parentsAbove_50 rfl ?_
        refine x_iinc (lv' := [_, _, _, _, _, _]) (pc' := 54) rfl (nI_1 a) (by decide) rfl dX8_parentsAbove_51 rfl ?_
        refine x_iinc (lv' := [_, _, _, _, _, _]) (pc' := 57) rfl (show nI b + Int32.ofInt (-1) = nI b - 1 by rw [Int32.sub_eq_add_neg]; rfl) (by decide) rfl dX8_parentsAbove_54 rfl ?_
        refine x_goto (tgt := 12) (by decide) dX8_parentsAbove_57 ?_
        exact ih (a + 1) (pN v b) _ p1 (by omega)
    · rw [show dpS v (i + 1) b = dpS v i b from dpS_fuel hv i b (by omega) (by omega)]
      refine x_iload (pc' := 14) rfl dX8_parentsAbove_12 rfl ?_
      refine x_if_lt (tgt := 60) (pc' := 17) (by decide) dX8_parentsAbove_14 rfl (fun c14 => absurd c14 (nI_pos (by omega))) (fun c14 => ?_)
      refine x_aload_n (pc' := 18) rfl dX8_parentsAbove_17 rfl ?_
      refine x_iload (pc' := 20) rfl dX8_parentsAbove_18 rfl ?_
      refine x_callVi (As := [.int _]) (rest := []) (ci := 7) (pc' := 23) rfl vk_X8_25 mk_X8_at (by decide) (by first | assumption | exact ⟨by decide, rfl⟩) (by decide) rfl (Nat.le_of_ble_eq_true rfl) dX8_parentsAbove_20 rfl (t_X8_at hR.1 hn h6 rfl (by omega)) ?_
      refine x_astore (lv' := [_, _, _, _, _, _]) (pc' := 25) (by decide) rfl dX8_parentsAbove_23 rfl ?_
      refine x_iload (pc' := 27) rfl dX8_parentsAbove_25 rfl ?_
      refine x_iload_n (pc' := 28) rfl dX8_parentsAbove_27 rfl ?_
      refine x_icmp_ne (tgt := 54) (pc' := 31) (by decide) dX8_parentsAbove_28 rfl (fun c28 => ?_) (fun c28 => absurd c28 (fun q => hbi (ni_inj (by omega) (by omega) q).symm))
      refine x_iinc (lv' := [_, _, _, _, _, _]) (pc' := 57) rfl (show nI i + Int32.ofInt (-1) = nI i - 1 by rw [Int32.sub_eq_add_neg]; rfl) (by decide) rfl dX8_parentsAbove_54 rfl ?_
      refine x_goto (tgt := 12) (by decide) dX8_parentsAbove_57 ?_
      exact ih a b _ (by omega) (by omega)
set_option maxRecDepth 100000 in
set_option maxHeartbeats 4000000 in
theorem c_X8_parentsAbove {σ : St} {k : Nat} {v : Nat → Int32} (hR : Rp σ k v) {G : Nat} (hG : G < cN v) : Ct yX8_parentsAbove M_X8_parentsAbove [.ref k, .int (nI G)] σ (some (.int (nI (dpS v (G + 1) G))), σ) := by
  have hv := hR.2.2
  have h6 := hv.c6
  obtain ⟨hk0, hk1, hk2⟩ := id hR.1
  have hn := hR.n
  refine ct_of (k := 4) rfl rfl rfl (Nat.le_of_ble_eq_true rfl) ?_
  refine x_iconst (v := 0) (pc' := 1) (by decide) dX8_parentsAbove_0 rfl ?_
  refine x_istore_n (lv' := [_, _, _, _, _, _]) (pc' := 2) (by decide) rfl dX8_parentsAbove_1 rfl ?_
  refine x_iload_n (pc' := 3) rfl dX8_parentsAbove_2 rfl ?_
  refine x_istore_n (lv' := [_, _, _, _, _, _]) (pc' := 4) (by decide) rfl dX8_parentsAbove_3 rfl ?_
  refine x_aload_n (pc' := 5) rfl dX8_parentsAbove_4 rfl ?_
  refine x_get (v := .int _) (pc' := 8) fk_X8_18 (by first | assumption | exact ⟨by decide, rfl⟩) rfl dX8_parentsAbove_5 rfl ?_
  refine x_iconst (v := 1) (pc' := 9) (by decide) dX8_parentsAbove_8 rfl ?_
  refine x_isub (pc' := 10) dX8_parentsAbove_9 rfl ?_
  rw [hn]
  refine x_istore (lv' := [_, _, _, _, _, _]) (pc' := 12) (by decide) rfl dX8_parentsAbove_10 rfl ?_
  have e : dpS v (cN v) G = dpS v (G + 1) G := by rw [← dpS_fuel2 hv hG (cN v - (G + 1))]; congr 1; omega
  have q := l_X8_pa (x := nI G) hR (cN v) 0 G none hG (Nat.le_refl _)
  rw [Nat.zero_add, e] at q
  exact q
def inU (v : Nat → Int32) (P X Y S W H : Nat) : Prop := S < fN v P 3 ∧ fN v P 1 ≤ X ∧ X + W ≤ fN v P 1 + (fN v P 4 - 1) * fN v P 3 ∧ fN v P 2 ≤ Y ∧ Y + H ≤ fN v P 2 + (fN v P 5 - 1) * fN v P 3
theorem inU_iff {v : Nat → Int32} {P X Y S W H : Nat} : inU v P X Y S W H ↔ inP v P X Y S W H := by
  unfold inU inP onS stS
  simp only [Nat.zero_mul, Nat.add_zero]
  show _ ↔ S < fN v P 3 ∧ ((64 * fN v P 1 ≤ 64 * X ∧ 64 * X ≤ 64 * (fN v P 1 + (fN v P 4 - 1) * fN v P 3)) ∧ 64 * fN v P 2 ≤ 64 * Y ∧ 64 * Y ≤ 64 * (fN v P 2 + (fN v P 5 - 1) * fN v P 3)) ∧ (64 * fN v P 1 ≤ 64 * (X + W) ∧ 64 * (X + W) ≤ 64 * (fN v P 1 + (fN v P 4 - 1) * fN v P 3)) ∧ 64 * fN v P 2 ≤ 64 * (Y + H) ∧ 64 * (Y + H) ≤ 64 * (fN v P 2 + (fN v P 5 - 1) * fN v P 3)
  omega
set_option maxRecDepth 100000 in
set_option maxHeartbeats 4000000 in
theorem c_X8_fitsParent {σ : St} {k : Nat} {v : Nat → Int32} (hR : Rp σ k v) {p : Int32} {X Y S W H : Nat} (hp : p = -1 ∨ ∃ P, P < cN v ∧ p = nI P) (hS : S ≤ 64) (hX : X ≤ 1000) (hY : Y ≤ 1000) (hW : W ≤ 256) (hH : H ≤ 256) : Ct yX8_fitsParent M_X8_fitsParent [.ref k, .int p, .int (nI S), .int (nI X), .int (nI Y), .int (nI (X + W)), .int (nI (Y + H))] σ (some (.int (pb (p = -1 ∨ inP v p.toNatClampNeg X Y S W H))), σ) := by
  have hv := hR.2.2
  have h6 := hv.c6
  obtain ⟨hk0, hk1, hk2⟩ := id hR.1
  have hn := hR.n
  refine ct_of (k := 1) rfl rfl rfl (Nat.le_of_ble_eq_true rfl) ?_
  by_cases hp1 : p = -1
  · rw [pb_1 (Or.inl hp1)]
    refine x_aload_n (pc' := 1) rfl dX8_fitsParent_0 rfl ?_
    refine x_iload_n (pc' := 2) rfl dX8_fitsParent_1 rfl ?_
    refine x_callVi (As := [.int _]) (rest := []) (ci := 7) (pc' := 5) rfl vk_X8_25 mk_X8_at (by decide) (by first | assumption | exact ⟨by decide, rfl⟩) (by decide) rfl (Nat.le_of_ble_eq_true rfl) dX8_fitsParent_2 rfl (f_X8_at hR.1 hn h6 (fun q => by rw [hp1] at q; exact absurd q.1 (by decide))) ?_
    refine x_astoreN (lv' := [_, _, _, _, _, _, _, _]) (pc' := 7) (by decide) rfl dX8_fitsParent_5 rfl ?_
    refine x_aloadN (pc' := 9) rfl dX8_fitsParent_7 rfl ?_
    refine x_ifnullN (tgt := 60) (by decide) dX8_fitsParent_9 ?_
    refine x_iconst (v := 1) (pc' := 61) (by decide) dX8_fitsParent_60 rfl ?_
    refine x_goto (tgt := 65) (by decide) dX8_fitsParent_61 ?_
    exact x_zret rfl (by first | rfl | exact b01_nar _ | exact pb_nar _ | exact chg_nar _ _ _ _) dX8_fitsParent_65 rfl
  · obtain ⟨g, hg1, rfl⟩ := hp.resolve_left hp1
    obtain ⟨hq, hr, hf, hO⟩ := hR.g hg1
    obtain ⟨hq0, hq1⟩ := id hq
    obtain ⟨g6, c5, r5, c2, r2, s1, s64⟩ := hv.b hg1
    have eX : σ.1 (σ.2.2 (k + 1) g) 2 = nI (fN v g 1) := hr.at hf (e := 1) (by decide) (by decide)
    have eY : σ.1 (σ.2.2 (k + 1) g) 3 = nI (fN v g 2) := hr.at hf (e := 2) (by decide) (by decide)
    have eS : σ.1 (σ.2.2 (k + 1) g) 4 = nI (fN v g 3) := hr.at hf (e := 3) (by decide) (by decide)
    obtain ⟨-, -, -, -, -, -, -, b1, b2⟩ := id hf
    have ei : ((nI g) = -1 ∨ inP v (nI g).toNatClampNeg X Y S W H) ↔ inU v g X Y S W H := by
      rw [nI_clamp (by omega), inU_iff]
      exact ⟨fun h => h.resolve_left hp1, Or.inr⟩
    rw [pb_c ei]
    refine x_aload_n (pc' := 1) rfl dX8_fitsParent_0 rfl ?_
    refine x_iload_n (pc' := 2) rfl dX8_fitsParent_1 rfl ?_
    refine x_callVi (As := [.int _]) (rest := []) (ci := 7) (pc' := 5) rfl vk_X8_25 mk_X8_at (by decide) (by first | assumption | exact ⟨by decide, rfl⟩) (by decide) rfl (Nat.le_of_ble_eq_true rfl) dX8_fitsParent_2 rfl (t_X8_at hR.1 hn h6 rfl hg1) ?_
    refine x_astore (lv' := [_, _, _, _, _, _, _, _]) (pc' := 7) (by decide) rfl dX8_fitsParent_5 rfl ?_
    refine x_aload (pc' := 9) rfl dX8_fitsParent_7 rfl ?_
    refine x_ifnull (pc' := 12) dX8_fitsParent_9 rfl ?_
    refine x_iload_n (pc' := 13) rfl dX8_fitsParent_12 rfl ?_
    refine x_aload (pc' := 15) rfl dX8_fitsParent_13 rfl ?_
    refine x_get (v := .int _) (pc' := 18) fk_X8_33 (by first | assumption | exact ⟨by decide, rfl⟩) rfl dX8_fitsParent_15 rfl ?_
    refine x_top eS ?_
    refine x_icmp_ge (tgt := 64) (pc' := 21) (by decide) dX8_fitsParent_18 rfl (fun c18 => ?_) (fun c18 => ?_)
    · refine x_iconst (v := 0) (pc' := 65) (by decide) dX8_fitsParent_64 rfl ?_
      exact x_zret rfl (by first | rfl | exact b01_nar _ | exact pb_nar _ | exact chg_nar _ _ _ _) dX8_fitsParent_65 (ret_i (pb_0 (fun q => nI_ge q.1 (by omega) c18)).symm)
    · refine x_iload_n (pc' := 22) rfl dX8_fitsParent_21 rfl ?_
      refine x_aload (pc' := 24) rfl dX8_fitsParent_22 rfl ?_
      refine x_get (v := .int _) (pc' := 27) fk_X8_36 (by first | assumption | exact ⟨by decide, rfl⟩) rfl dX8_fitsParent_24 rfl ?_
      refine x_top eX ?_
      refine x_icmp_lt (tgt := 64) (pc' := 30) (by decide) dX8_fitsParent_27 rfl (fun c27 => ?_) (fun c27 => ?_)
      · refine x_iconst (v := 0) (pc' := 65) (by decide) dX8_fitsParent_64 rfl ?_
        exact x_zret rfl (by first | rfl | exact b01_nar _ | exact pb_nar _ | exact chg_nar _ _ _ _) dX8_fitsParent_65 (ret_i (pb_0 (fun q => i_nlt.mpr (nI_le q.2.1 (by omega)) c27)).symm)
      · refine x_iload (pc' := 32) rfl dX8_fitsParent_30 rfl ?_
        refine x_aload (pc' := 34) rfl dX8_fitsParent_32 rfl ?_
        refine x_callVi (As := []) (rest := [.int _]) (ci := 3) (pc' := 37) rfl vk_X8_39 mk_X4_right (by decide) (by first | assumption | exact ⟨by decide, rfl⟩) (by decide) rfl (Nat.le_of_ble_eq_true rfl) dX8_fitsParent_34 rfl (c_X4_right hq hr hf) ?_
        refine x_icmp_gt (tgt := 64) (pc' := 40) (by decide) dX8_fitsParent_37 rfl (fun c37 => ?_) (fun c37 => ?_)
        · refine x_iconst (v := 0) (pc' := 65) (by decide) dX8_fitsParent_64 rfl ?_
          exact x_zret rfl (by first | rfl | exact b01_nar _ | exact pb_nar _ | exact chg_nar _ _ _ _) dX8_fitsParent_65 (ret_i (pb_0 (fun q => i_nlt.mpr (nI_le q.2.2.1 (by omega)) c37)).symm)
        · refine x_iload (pc' := 42) rfl dX8_fitsParent_40 rfl ?_
          refine x_aload (pc' := 44) rfl dX8_fitsParent_42 rfl ?_
          refine x_get (v := .int _) (pc' := 47) fk_X8_43 (by first | assumption | exact ⟨by decide, rfl⟩) rfl dX8_fitsParent_44 rfl ?_
          refine x_top eY ?_
          refine x_icmp_lt (tgt := 64) (pc' := 50) (by decide) dX8_fitsParent_47 rfl (fun c47 => ?_) (fun c47 => ?_)
          · refine x_iconst (v := 0) (pc' := 65) (by decide) dX8_fitsParent_64 rfl ?_
            exact x_zret rfl (by first | rfl | exact b01_nar _ | exact pb_nar _ | exact chg_nar _ _ _ _) dX8_fitsParent_65 (ret_i (pb_0 (fun q => i_nlt.mpr (nI_le q.2.2.2.1 (by omega)) c47)).symm)
          · refine x_iload (pc' := 52) rfl dX8_fitsParent_50 rfl ?_
            refine x_aload (pc' := 54) rfl dX8_fitsParent_52 rfl ?_
            refine x_callVi (As := []) (rest := [.int _]) (ci := 3) (pc' := 57) rfl vk_X8_46 mk_X4_bottom (by decide) (by first | assumption | exact ⟨by decide, rfl⟩) (by decide) rfl (Nat.le_of_ble_eq_true rfl) dX8_fitsParent_54 rfl (c_X4_bottom hq hr hf) ?_
            refine x_icmp_gt (tgt := 64) (pc' := 60) (by decide) dX8_fitsParent_57 rfl (fun c57 => ?_) (fun c57 => ?_)
            · refine x_iconst (v := 0) (pc' := 65) (by decide) dX8_fitsParent_64 rfl ?_
              exact x_zret rfl (by first | rfl | exact b01_nar _ | exact pb_nar _ | exact chg_nar _ _ _ _) dX8_fitsParent_65 (ret_i (pb_0 (fun q => i_nlt.mpr (nI_le q.2.2.2.2 (by omega)) c57)).symm)
            · refine x_iconst (v := 1) (pc' := 61) (by decide) dX8_fitsParent_60 rfl ?_
              refine x_goto (tgt := 65) (by decide) dX8_fitsParent_61 ?_
              exact x_zret rfl (by first | rfl | exact b01_nar _ | exact pb_nar _ | exact chg_nar _ _ _ _) dX8_fitsParent_65 (ret_i (pb_1 ⟨(nI_ltI (by omega) (by omega)).mp (i_nle.mp c18), (nI_leI (by omega) (by omega)).mp (i_nlt.mp c27), (nI_leI (by omega) (by omega)).mp (i_nlt.mp c37), (nI_leI (by omega) (by omega)).mp (i_nlt.mp c47), (nI_leI (by omega) (by omega)).mp (i_nlt.mp c57)⟩).symm)
set_option maxRecDepth 100000 in
set_option maxHeartbeats 4000000 in
theorem l_X8_isApart {σ : St} {k : Nat} {v : Nat → Int32} (hR : Rp σ k v) {p : Int32} {X Y W H : Nat} (hX : X ≤ 1000) (hY : Y ≤ 1000) (hW : W ≤ 256) (hH : H ≤ 256) : ∀ (n g : Nat) (D : Option Value), g + n = cN v → Ex M_X8_isApart (some (.int (pb (apF v p X Y W H g))), σ) 3 [some (.ref k), some (.int p), some (.int (nI X)), some (.int (nI Y)), some (.int (nI (X + W))), some (.int (nI (Y + H))), some (.int (nI g)), D] [] σ := by
  have hv := hR.2.2
  have h6 := hv.c6
  obtain ⟨hk0, hk1, hk2⟩ := id hR.1
  have hn := hR.n
  intro n
  induction n with
  | zero =>
    intro g D hg
    obtain rfl : g = cN v := by omega
    rw [pb_1 (show apF v p X Y W H (cN v) from fun j h1 h2 => absurd h2 (by omega))]
    refine x_iload (pc' := 5) rfl dX8_isApart_3 rfl ?_
    refine x_aload_n (pc' := 6) rfl dX8_isApart_5 rfl ?_
    refine x_get (v := .int _) (pc' := 9) fk_X8_18 (by first | assumption | exact ⟨by decide, rfl⟩) rfl dX8_isApart_6 rfl ?_
    refine x_icmp_ge (tgt := 80) (pc' := 12) (by decide) dX8_isApart_9 rfl (fun c9 => ?_) (fun c9 => absurd (show σ.1 k 1 ≤ nI (cN v) by rw [hn]; exact nI_le (by omega) (by omega)) c9)
    refine x_iconst (v := 1) (pc' := 81) (by decide) dX8_isApart_80 rfl ?_
    exact x_zret rfl (by first | rfl | exact b01_nar _ | exact pb_nar _ | exact chg_nar _ _ _ _) dX8_isApart_81 rfl
  | succ n ih =>
    intro g D hg
    obtain ⟨hq, hr, hf, hO⟩ := hR.g (g := g) (by omega)
    obtain ⟨hq0, hq1⟩ := id hq
    obtain ⟨g6, c5, r5, c2, r2, s1, s64⟩ := hv.b (g := g) (by omega)
    have ep := hr.par
    have eX : σ.1 (σ.2.2 (k + 1) g) 2 = nI (fN v g 1) := hr.at hf (e := 1) (by decide) (by decide)
    have eY : σ.1 (σ.2.2 (k + 1) g) 3 = nI (fN v g 2) := hr.at hf (e := 2) (by decide) (by decide)
    obtain ⟨-, -, -, -, -, -, -, b1, b2⟩ := id hf
    have nx : ¬ (v (2 + 6 * g) = p ∧ ovl v g X Y W H) → pb (apF v p X Y W H g) = pb (apF v p X Y W H (g + 1)) := fun hno => pb_c ⟨fun h j h1 h2 => h j (by omega) h2, fun h j h1 h2 h3 => (Nat.eq_or_lt_of_le h1).elim (fun e => by subst e; exact fun q => hno ⟨h3, q⟩) (fun e => h j e h2 h3)⟩
    refine x_iload (pc' := 5) rfl dX8_isApart_3 rfl ?_
    refine x_aload_n (pc' := 6) rfl dX8_isApart_5 rfl ?_
    refine x_get (v := .int _) (pc' := 9) fk_X8_18 (by first | assumption | exact ⟨by decide, rfl⟩) rfl dX8_isApart_6 rfl ?_
    refine x_icmp_ge (tgt := 80) (pc' := 12) (by decide) dX8_isApart_9 rfl (fun c9 => absurd c9 (show ¬ σ.1 k 1 ≤ nI g by rw [hn]; exact nI_ge (by omega) (by omega))) (fun c9 => ?_)
    refine x_aload_n (pc' := 13) rfl dX8_isApart_12 rfl ?_
    refine x_iload (pc' := 15) rfl dX8_isApart_13 rfl ?_
    refine x_callVi (As := [.int _]) (rest := []) (ci := 7) (pc' := 18) rfl vk_X8_25 mk_X8_at (by decide) (by first | assumption | exact ⟨by decide, rfl⟩) (by decide) rfl (Nat.le_of_ble_eq_true rfl) dX8_isApart_15 rfl (t_X8_at hR.1 hn h6 rfl (by omega)) ?_
    refine x_astore (lv' := [_, _, _, _, _, _, _, _]) (pc' := 20) (by decide) rfl dX8_isApart_18 rfl ?_
    refine x_aload (pc' := 22) rfl dX8_isApart_20 rfl ?_
    refine x_ifnull (pc' := 25) dX8_isApart_22 rfl ?_
    refine x_aload (pc' := 27) rfl dX8_isApart_25 rfl ?_
    refine x_get (v := .int _) (pc' := 30) fk_X8_49 (by first | assumption | exact ⟨by decide, rfl⟩) rfl dX8_isApart_27 rfl ?_
    refine x_iload_n (pc' := 31) rfl dX8_isApart_30 rfl ?_
    refine x_icmp_ne (tgt := 74) (pc' := 34) (by decide) dX8_isApart_31 rfl (fun c31 => ?_) (fun c31 => ?_)
    · rw [nx (fun q => c31 (ep.trans q.1))]
      refine x_iinc (lv' := [_, _, _, _, _, _, _, _]) (pc' := 77) rfl (nI_1 g) (by decide) rfl dX8_isApart_74 rfl ?_
      refine x_goto (tgt := 3) (by decide) dX8_isApart_77 ?_
      exact ih (g + 1) _ (by omega)
    · refine x_iload_n (pc' := 35) rfl dX8_isApart_34 rfl ?_
      refine x_aload (pc' := 37) rfl dX8_isApart_35 rfl ?_
      refine x_callVi (As := []) (rest := [.int _]) (ci := 3) (pc' := 40) rfl vk_X8_39 mk_X4_right (by decide) (by first | assumption | exact ⟨by decide, rfl⟩) (by decide) rfl (Nat.le_of_ble_eq_true rfl) dX8_isApart_37 rfl (c_X4_right hq hr hf) ?_
      refine x_icmp_ge (tgt := 74) (pc' := 43) (by decide) dX8_isApart_40 rfl (fun c40 => ?_) (fun c40 => ?_)
      · rw [nx (fun q => nI_ge q.2.1 (by omega) c40)]
        refine x_iinc (lv' := [_, _, _, _, _, _, _, _]) (pc' := 77) rfl (nI_1 g) (by decide) rfl dX8_isApart_74 rfl ?_
        refine x_goto (tgt := 3) (by decide) dX8_isApart_77 ?_
        exact ih (g + 1) _ (by omega)
      · refine x_iload (pc' := 45) rfl dX8_isApart_43 rfl ?_
        refine x_aload (pc' := 47) rfl dX8_isApart_45 rfl ?_
        refine x_get (v := .int _) (pc' := 50) fk_X8_36 (by first | assumption | exact ⟨by decide, rfl⟩) rfl dX8_isApart_47 rfl ?_
        refine x_top eX ?_
        refine x_icmp_le (tgt := 74) (pc' := 53) (by decide) dX8_isApart_50 rfl (fun c50 => ?_) (fun c50 => ?_)
        · rw [nx (fun q => nI_ge q.2.2.1 (by omega) c50)]
          refine x_iinc (lv' := [_, _, _, _, _, _, _, _]) (pc' := 77) rfl (nI_1 g) (by decide) rfl dX8_isApart_74 rfl ?_
          refine x_goto (tgt := 3) (by decide) dX8_isApart_77 ?_
          exact ih (g + 1) _ (by omega)
        · refine x_iload_n (pc' := 54) rfl dX8_isApart_53 rfl ?_
          refine x_aload (pc' := 56) rfl dX8_isApart_54 rfl ?_
          refine x_callVi (As := []) (rest := [.int _]) (ci := 3) (pc' := 59) rfl vk_X8_46 mk_X4_bottom (by decide) (by first | assumption | exact ⟨by decide, rfl⟩) (by decide) rfl (Nat.le_of_ble_eq_true rfl) dX8_isApart_56 rfl (c_X4_bottom hq hr hf) ?_
          refine x_icmp_ge (tgt := 74) (pc' := 62) (by decide) dX8_isApart_59 rfl (fun c59 => ?_) (fun c59 => ?_)
          · rw [nx (fun q => nI_ge q.2.2.2.1 (by omega) c59)]
            refine x_iinc (lv' := [_, _, _, _, _, _, _, _]) (pc' := 77) rfl (nI_1 g) (by decide) rfl dX8_isApart_74 rfl ?_
            refine x_goto (tgt := 3) (by decide) dX8_isApart_77 ?_
            exact ih (g + 1) _ (by omega)
          · refine x_iload (pc' := 64) rfl dX8_isApart_62 rfl ?_
            refine x_aload (pc' := 66) rfl dX8_isApart_64 rfl ?_
            refine x_get (v := .int _) (pc' := 69) fk_X8_43 (by first | assumption | exact ⟨by decide, rfl⟩) rfl dX8_isApart_66 rfl ?_
            refine x_top eY ?_
            refine x_icmp_le (tgt := 74) (pc' := 72) (by decide) dX8_isApart_69 rfl (fun c69 => ?_) (fun c69 => ?_)
            · rw [nx (fun q => nI_ge q.2.2.2.2 (by omega) c69)]
              refine x_iinc (lv' := [_, _, _, _, _, _, _, _]) (pc' := 77) rfl (nI_1 g) (by decide) rfl dX8_isApart_74 rfl ?_
              refine x_goto (tgt := 3) (by decide) dX8_isApart_77 ?_
              exact ih (g + 1) _ (by omega)
            · refine x_iconst (v := 0) (pc' := 73) (by decide) dX8_isApart_72 rfl ?_
              exact x_zret rfl (by first | rfl | exact b01_nar _ | exact pb_nar _ | exact chg_nar _ _ _ _) dX8_isApart_73 (ret_i (pb_0 (fun q => q g (Nat.le_refl _) (by omega) (ep.symm.trans c31) ⟨(nI_ltI (by omega) (by omega)).mp (i_nle.mp c40), (nI_ltI (by omega) (by omega)).mp (i_nle.mp c50), (nI_ltI (by omega) (by omega)).mp (i_nle.mp c59), (nI_ltI (by omega) (by omega)).mp (i_nle.mp c69)⟩)).symm)
set_option maxRecDepth 100000 in
set_option maxHeartbeats 4000000 in
theorem c_X8_isApart {σ : St} {k : Nat} {v : Nat → Int32} (hR : Rp σ k v) {p : Int32} {X Y W H : Nat} (hX : X ≤ 1000) (hY : Y ≤ 1000) (hW : W ≤ 256) (hH : H ≤ 256) : Ct yX8_isApart M_X8_isApart [.ref k, .int p, .int (nI X), .int (nI Y), .int (nI (X + W)), .int (nI (Y + H))] σ (some (.int (pb (apF v p X Y W H 0))), σ) := by
  have hv := hR.2.2
  have h6 := hv.c6
  obtain ⟨hk0, hk1, hk2⟩ := id hR.1
  have hn := hR.n
  refine ct_of (k := 2) rfl rfl rfl (Nat.le_of_ble_eq_true rfl) ?_
  refine x_iconst (v := 0) (pc' := 1) (by decide) dX8_isApart_0 rfl ?_
  refine x_istore (lv' := [_, _, _, _, _, _, _, _]) (pc' := 3) (by decide) rfl dX8_isApart_1 rfl ?_
  exact l_X8_isApart hR hX hY hW hH _ 0 _ (Nat.zero_add _)
