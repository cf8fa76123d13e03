set_option maxRecDepth 100000 in
set_option maxHeartbeats 4000000 in
theorem s_seed {σ : St} (h : RR σ) {x : Int32} : ∃ rr σ1 σ2, Ct yX9_seed M_X9_seed [.ref 0, .int x] σ (some (.int rr), σ1) ∧ Ct yX10_seed M_X10_seed [.ref 18, .int x] σ1 (some (.int rr), σ2) ∧ RR σ2 := by
  obtain ⟨U, t, u1, u2⟩ := h.hi
  obtain ⟨s, s1, s2, s3⟩ := h.sd
  by_cases ha : 0 ≤ x
  · obtain ⟨n, hn, rfl⟩ := nI_of (i_nlt.mpr ha)
    have m1 := a_X10_seed (σ := pI σ 9 0 (nI n)) ha
    have c1 := d_X9_seed (σ := σ) ha
    rw [show (pI σ 9 0 (nI n)).2.1 18 7 = lN s from s3, lN_i] at m1
    rw [s2] at c1
    have E : ∀ a b, a ≠ 9 → a ≠ 18 → (pL (pI (pI σ 9 0 (nI n)) 18 0 0) 18 7 (nI n).toInt64).1 a b = σ.1 a b := fun a b x1 x2 => by rw [pL_1, pI_ne x2, pI_ne x1]
    refine ⟨_, _, _, c1, m1, h.to (fun a b _ => rfl) (fun a b hab => E a b ?_ ?_) ?_ (fun b => ?_) ?_ ⟨U, t, u1.frame (fun b => E 1 b (by decide) (by decide)) (fun s a b _ _ q => by have := own29 q; exact E a b (by omega) (by omega)) (fun a b _ => rfl), u2.frame ?_ (fun b => E 20 b (by decide) (by decide))⟩ ⟨n, hn, ?_, ?_⟩⟩
    · rcases hab with q | q | q | q | q | q | q | q <;> first | omega | (have := own29 q; omega)
    · rcases hab with q | q | q | q | q | q | q | q <;> first | omega | (have := own29 q; omega)
    · simp [pL_1, pI_app]
    · simp [pL_app]; rfl
    · rw [show (pL (pI (pI σ 9 0 (nI n)) 18 0 0) 18 7 (nI n).toInt64).1 19 = σ.1 19 from funext fun b => E 19 b (by decide) (by decide)]
      exact h.sr.frame (fun a b q => by have := own29 q; exact E a b (by omega) (by omega)) (fun b => rfl)
    · simp [pL_1, pI_app]
    · simp [pL_1, pI_app]
    · rw [pL_app, if_pos ⟨rfl, rfl⟩, nI_l hn]
  · obtain ⟨σ2, m1, m2⟩ := r_X10_seed (σ := σ) ha
    exact ⟨_, _, _, f_X9_seed ha, m1, h.q (ScC.rf σ) m2⟩
set_option maxRecDepth 100000 in
set_option maxHeartbeats 4000000 in
theorem s_keep {σ : St} (h : RR σ) {x : Int32} : ∃ rr σ1 σ2, Ct yX9_keep M_X9_keep [.ref 0, .int x] σ (some (.int rr), σ1) ∧ Ct yX10_keep M_X10_keep [.ref 18, .int x] σ1 (some (.int rr), σ2) ∧ RR σ2 := by
  have hv := h.sr.2.2.2
  obtain ⟨U, t, u1, u2⟩ := h.hi
  obtain ⟨s, s1, s2, s3⟩ := h.sd
  by_cases ha : 0 ≤ x ∧ x < 2
  · obtain ⟨i, hi, rfl⟩ := i_in (n := 2) (by decide) ha.1 ha.2
    obtain ⟨τ, c1, c2, c3, c4⟩ := d_X9_keep hi h.sr h.sh
    have m1 := a_X10_keep (σ := pI (pI (pI τ (3 + i) 1 (σ.1 9 0)) (3 + i) 2 1) 1 2 0) hi
    obtain ⟨ρ, hρ⟩ : ∃ ρ, ρ = pI (pI (pL (pA (pI (pI (pI (pI τ (3 + i) 1 (σ.1 9 0)) (3 + i) 2 1) 1 2 0) 18 0 0) 21 (cpP ((pI (pI (pI τ (3 + i) 1 (σ.1 9 0)) (3 + i) 2 1) 1 2 0).1 21) ((pI (pI (pI τ (3 + i) 1 (σ.1 9 0)) (3 + i) 2 1) 1 2 0).1 19) i 338)) 23 i ((pI (pI (pI τ (3 + i) 1 (σ.1 9 0)) (3 + i) 2 1) 1 2 0).2.1 18 7)) 22 i 1) 18 3 0 := ⟨_, rfl⟩
    rw [← hρ] at m1
    have P : ρ.2.2 = σ.2.2 := by rw [hρ]; exact c4
    have E : ∀ a b, a ≠ 1 → a ≠ 3 + i → a ≠ 18 → a ≠ 21 → a ≠ 22 → ρ.1 a b = τ.1 a b := fun a b x1 x2 x3 x4 x5 => by rw [hρ, pI_ne x3, pI_ne x5, pL_1, pA_ne x4, pI_ne x3, pI_ne x1, pI_ne x2, pI_ne x2]
    have ET : ∀ a b, ¬ Own (17 + i) a → τ.1 a b = σ.1 a b := c3.1
    have lo : ∀ a, a < 29 → ¬ Own (17 + i) a := fun a ha q => by have := own29 q; omega
    have E2 : ∀ a b, a < 29 → a ≠ 1 → a ≠ 3 + i → a ≠ 18 → a ≠ 21 → a ≠ 22 → ρ.1 a b = σ.1 a b := fun a b x0 x1 x2 x3 x4 x5 => (E a b x1 x2 x3 x4 x5).trans (ET a b (lo a x0))
    have e18 : ∀ b, b ≠ 0 → b ≠ 3 → ρ.1 18 b = σ.1 18 b := fun b x0 x3 => by rw [hρ, pI_app, if_neg (fun q => x3 q.2), pI_ne (by decide), pL_1, pA_ne (by decide), pI_app, if_neg (fun q => x0 q.2), pI_ne (by decide), pI_ne (by omega), pI_ne (by omega)]; exact ET 18 b (lo 18 (by decide))
    have e183 : ρ.1 18 3 = nI 0 := by rw [hρ, pI_app, if_pos ⟨rfl, rfl⟩]; rfl
    have e12 : ρ.1 1 2 = nI 0 := by rw [hρ, pI_ne (by decide), pI_ne (by decide), pL_1, pA_ne (by decide), pI_ne (by decide), pI_app, if_pos ⟨rfl, rfl⟩]; rfl
    have e11 : ρ.1 1 1 = σ.1 1 1 := by rw [hρ, pI_ne (by decide), pI_ne (by decide), pL_1, pA_ne (by decide), pI_ne (by decide), pI_app, if_neg (by decide), pI_ne (by omega), pI_ne (by omega)]; exact ET 1 1 (lo 1 (by decide))
    have e19 : ∀ b, (pI (pI (pI τ (3 + i) 1 (σ.1 9 0)) (3 + i) 2 1) 1 2 0).1 19 b = σ.1 19 b := fun b => by rw [pI_ne (by decide), pI_ne (by omega), pI_ne (by omega)]; exact ET 19 b (lo 19 (by decide))
    have e21 : ∀ b, ρ.1 21 b = cpP ((pI (pI (pI τ (3 + i) 1 (σ.1 9 0)) (3 + i) 2 1) 1 2 0).1 21) ((pI (pI (pI τ (3 + i) 1 (σ.1 9 0)) (3 + i) 2 1) 1 2 0).1 19) i 338 b := fun b => by rw [hρ, pI_ne (by decide), pI_ne (by decide), pL_1, pA_at]
    have k21 : ∀ b, (pI (pI (pI τ (3 + i) 1 (σ.1 9 0)) (3 + i) 2 1) 1 2 0).1 21 b = σ.1 21 b := fun b => by rw [pI_ne (by decide), pI_ne (by omega), pI_ne (by omega)]; exact ET 21 b (lo 21 (by decide))
    have e22 : ∀ b, ρ.1 22 b = if b = i then 1 else σ.1 22 b := fun b => by
      rw [hρ, pI_ne (by decide), pI_app]
      by_cases e : b = i
      · rw [if_pos ⟨rfl, e⟩, if_pos e]
      · rw [if_neg (fun q => e q.2), if_neg e, pL_1, pA_ne (by decide), pI_ne (by decide), pI_ne (by decide), pI_ne (by omega), pI_ne (by omega)]
        exact ET 22 b (lo 22 (by decide))
    have L : ∀ a b, ¬ (a = 23 ∧ b = i) → ρ.2.1 a b = σ.2.1 a b := fun a b x1 => by
      rw [hρ]
      show (if a = 23 ∧ b = i then _ else τ.2.1 a b) = _
      rw [if_neg x1, c3.2.1]
    have L23 : ρ.2.1 23 i = lN s := by
      rw [hρ]
      show (if 23 = 23 ∧ i = i then τ.2.1 18 7 else τ.2.1 23 i) = _
      rw [if_pos ⟨rfl, rfl⟩, c3.2.1]
      exact s3
    have O : ∀ z a b, Own z a → ρ.1 a b = τ.1 a b := fun z a b q => by have := own29 q; exact E a b (by omega) (by omega) (by omega) (by omega) (by omega)
    have R6 : ρ.1 6 = σ.1 6 := funext fun b => E2 6 b (by decide) (by decide) (by omega) (by decide) (by decide) (by decide)
    have R7 : ρ.1 7 = σ.1 7 := funext fun b => E2 7 b (by decide) (by decide) (by omega) (by decide) (by decide) (by decide)
    have R8 : ρ.1 8 = σ.1 8 := funext fun b => E2 8 b (by decide) (by decide) (by omega) (by decide) (by decide) (by decide)
    have R24 : ρ.1 24 = σ.1 24 := funext fun b => E2 24 b (by decide) (by decide) (by omega) (by decide) (by decide) (by decide)
    have R25 : ρ.1 25 = σ.1 25 := funext fun b => E2 25 b (by decide) (by decide) (by omega) (by decide) (by decide) (by decide)
    have R26 : ρ.1 26 = σ.1 26 := funext fun b => E2 26 b (by decide) (by decide) (by omega) (by decide) (by decide) (by decide)
    have R19 : ρ.1 19 = σ.1 19 := funext fun b => E2 19 b (by decide) (by decide) (by omega) (by decide) (by decide) (by decide)
    obtain ⟨N, n1, n2, -⟩ := u1.2.2
    obtain ⟨B, k1, k2, k3⟩ := h.bk
    refine ⟨_, _, ρ, c1, m1, fun z hz => (h.sh z hz).frame (fun b => by rw [P]), ?_, ⟨0, t, ⟨e12, by decide, N, n1, by rw [e11]; exact n2, fun j hj => absurd hj (by omega)⟩, ⟨e183, by decide, fun j hj => absurd hj (by omega)⟩⟩, ⟨s, s1, by rw [E2 9 0 (by decide) (by decide) (by omega) (by decide) (by decide) (by decide)]; exact s2, by rw [L 18 7 (by omega)]; exact s3⟩, ⟨B, by rw [E2 5 3 (by decide) (by decide) (by omega) (by decide) (by decide) (by decide)]; exact k1, by rw [e18 8 (by decide) (by decide)]; exact k2, by rw [R6, R7]; exact k3⟩, by rw [R24, R6]; exact h.b6, by rw [R25, R7]; exact h.b7, by rw [R26, R8]; exact h.b8, fun j hj => ?_⟩
    · rw [R19]
      exact (c3.other (by omega) (by omega) h.sr).frame (fun a b q => O 0 a b q) (fun b => by rw [P, c4])
    · by_cases e : j = i
      · subst e
        refine Or.inr ⟨by rw [e22, if_pos rfl], ?_, ?_, s, s1, ?_, L23⟩
        · rw [hρ, pI_ne (by omega), pI_ne (by omega), pL_1, pA_ne (by omega), pI_ne (by omega), pI_ne (by omega), pI_app, if_pos ⟨rfl, rfl⟩]
        · refine SR.congr (SR.frame c2 (fun a b q => O _ a b q) (fun b => by rw [P, c4])) (fun b hb => ?_)
          show ρ.1 21 (338 * j + b) = σ.1 19 b
          rw [e21]
          unfold cpP
          rw [if_pos (by omega), e19, Nat.add_sub_cancel_left]
        · rw [hρ, pI_ne (by omega), pI_ne (by omega), pL_1, pA_ne (by omega), pI_ne (by omega), pI_ne (by omega), pI_app, if_neg (by omega), pI_app, if_pos ⟨rfl, rfl⟩]
          exact s2
      · have e3 : ∀ b, ρ.1 (3 + j) b = σ.1 (3 + j) b := fun b => E2 (3 + j) b (by omega) (by omega) (by omega) (by omega) (by omega) (by omega)
        rcases h.im j hj with ⟨p1, p2⟩ | ⟨p1, p2, p3, z, p4, p5, p6⟩
        · exact Or.inl ⟨by rw [e22, if_neg e]; exact p1, by rw [e3]; exact p2⟩
        · refine Or.inr ⟨by rw [e22, if_neg e]; exact p1, by rw [e3]; exact p2, ?_, z, p4, by rw [e3]; exact p5, by rw [L 23 j (by omega)]; exact p6⟩
          refine SR.congr (SR.frame (c3.other (by omega) (by omega) p3) (fun a b q => O _ a b q) (fun b => by rw [P, c4])) (fun b hb => ?_)
          show ρ.1 21 (338 * j + b) = σ.1 21 (338 * j + b)
          rw [e21]
          unfold cpP
          rw [if_neg (by omega), k21]
  · obtain ⟨σ2, m1, m2⟩ := r_X10_keep (σ := σ) ha
    exact ⟨_, _, _, f_X9_keep ha, m1, h.q (ScC.rf σ) m2⟩
set_option maxRecDepth 100000 in
set_option maxHeartbeats 4000000 in
theorem s_goBack {σ : St} (h : RR σ) {x : Int32} : ∃ rr σ1 σ2, Ct yX9_goBack M_X9_goBack [.ref 0, .int x] σ (some (.int rr), σ1) ∧ Ct yX10_goBack M_X10_goBack [.ref 18, .int x] σ1 (some (.int rr), σ2) ∧ RR σ2 := by
  obtain ⟨U, t, u1, u2⟩ := h.hi
  have hz : ∀ i, i < 2 → σ.1 22 i = 0 → σ.1 (3 + i) 2 = 0 := fun i hi q => by
    rcases h.im i hi with ⟨a, b⟩ | ⟨a, b, -⟩
    · exact b
    · rw [q] at a
      exact absurd a (by decide)
  by_cases ha : (0 ≤ x ∧ x < 2) ∧ ¬ σ.1 22 x.toNatClampNeg = 0
  · obtain ⟨i, hi, rfl⟩ := i_in (n := 2) (by decide) ha.1.1 ha.1.2
    have h22 := ha.2
    rw [nI_clamp (by omega)] at h22
    rcases h.im i hi with ⟨p1, -⟩ | ⟨p1, p2, p3, z, p4, p5, p6⟩
    · exact absurd p1 h22
    obtain ⟨τ, c1, c2, c3, c4⟩ := d_X9_goBack hi p3 h.sr.1 p2
    have lo : ∀ a, a < 29 → ¬ Own 0 a := fun a ha q => by have := own29 q; omega
    have m1 := a_X10_goBack (σ := pI (pI τ 9 0 (σ.1 (3 + i) 1)) 1 2 0) hi (by rw [pI_ne (by decide), pI_ne (by decide), c3.1 _ _ (lo 22 (by decide))]; exact h22)
    obtain ⟨ρ, hρ⟩ : ∃ ρ, ρ = pI (pL (pA (pI (pI (pI τ 9 0 (σ.1 (3 + i) 1)) 1 2 0) 18 0 0) 19 (bkP ((pI (pI τ 9 0 (σ.1 (3 + i) 1)) 1 2 0).1 19) (fun j => (pI (pI τ 9 0 (σ.1 (3 + i) 1)) 1 2 0).1 21 (338 * i + j)) 338)) 18 7 ((pI (pI τ 9 0 (σ.1 (3 + i) 1)) 1 2 0).2.1 23 i)) 18 3 0 := ⟨_, rfl⟩
    rw [← hρ] at m1
    have P : ρ.2.2 = σ.2.2 := by rw [hρ]; exact c4
    have E2 : ∀ a b, a ≠ 18 → ¬ (a = 1 ∨ a = 9 ∨ a = 19) → ρ.1 a b = τ.1 a b := fun a b x1 x2 => by rw [hρ, pI_ne x1, pL_1, pA_ne (by omega), pI_ne x1, pI_ne (by omega), pI_ne (by omega)]
    have E : ∀ a b, a < 29 → a ≠ 18 → τ.1 a b = σ.1 a b := fun a b x1 _ => c3.1 a b (lo a x1)
    have EO : ∀ a b, Own 17 a → τ.1 a b = σ.1 a b := fun a b q => c3.1 a b (own_ne (by decide) (by decide) (by decide) q)
    have EO' : ∀ a b, Own 18 a → τ.1 a b = σ.1 a b := fun a b q => c3.1 a b (own_ne (by decide) (by decide) (by decide) q)
    have e18 : ∀ b, b ≠ 0 → b ≠ 3 → ρ.1 18 b = σ.1 18 b := fun b x0 x3 => by rw [hρ, pI_app, if_neg (fun q => x3 q.2), pL_1, pA_ne (by decide), pI_app, if_neg (fun q => x0 q.2), pI_ne (by decide), pI_ne (by decide)]; exact c3.1 18 b (lo 18 (by decide))
    have e183 : ρ.1 18 3 = nI 0 := by rw [hρ, pI_app, if_pos ⟨rfl, rfl⟩]; rfl
    have e12 : ρ.1 1 2 = nI 0 := by rw [hρ, pI_ne (by decide), pL_1, pA_ne (by decide), pI_ne (by decide), pI_app, if_pos ⟨rfl, rfl⟩]; rfl
    have e11 : ρ.1 1 1 = σ.1 1 1 := by rw [hρ, pI_ne (by decide), pL_1, pA_ne (by decide), pI_ne (by decide), pI_app, if_neg (by decide), pI_ne (by decide)]; exact c3.1 1 1 (lo 1 (by decide))
    have e9 : ρ.1 9 0 = nI z := by rw [hρ, pI_ne (by decide), pL_1, pA_ne (by decide), pI_ne (by decide), pI_ne (by decide), pI_app, if_pos ⟨rfl, rfl⟩]; exact p5
    have L : ∀ a b, ¬ (a = 18 ∧ b = 7) → ρ.2.1 a b = σ.2.1 a b := fun a b x1 => by
      rw [hρ]
      show (if a = 18 ∧ b = 7 then _ else τ.2.1 a b) = _
      rw [if_neg x1, c3.2.1]
    have L7 : ρ.2.1 18 7 = lN z := by
      rw [hρ]
      show (if 18 = 18 ∧ 7 = 7 then τ.2.1 23 i else τ.2.1 18 7) = _
      rw [if_pos ⟨rfl, rfl⟩, c3.2.1]
      exact p6
    obtain ⟨N, n1, n2, -⟩ := u1.2.2
    refine ⟨_, _, ρ, c1, m1, h.to (fun a b _ => by rw [P]) (fun a b hab => ?_) (e18 8 (by decide) (by decide)) (fun b => L 23 b (by omega)) ?_ ⟨0, t, ⟨e12, by decide, N, n1, by rw [e11]; exact n2, fun j hj => absurd hj (by omega)⟩, ⟨e183, by decide, fun j hj => absurd hj (by omega)⟩⟩ ⟨z, p4, e9, L7⟩⟩
    · rcases hab with q | q | q | q | q | q | q | q
      · exact (E2 a b (by omega) (by omega)).trans (E a b (by omega) (by omega))
      · exact (E2 a b (by omega) (by omega)).trans (E a b (by omega) (by omega))
      · exact (E2 a b (by omega) (by omega)).trans (E a b (by omega) (by omega))
      · exact (E2 a b (by omega) (by omega)).trans (E a b (by omega) (by omega))
      · exact (E2 a b (by omega) (by omega)).trans (E a b (by omega) (by omega))
      · exact (E2 a b (by omega) (by omega)).trans (E a b (by omega) (by omega))
      · have := own29 q
        exact (E2 a b (by omega) (by omega)).trans (EO a b q)
      · have := own29 q
        exact (E2 a b (by omega) (by omega)).trans (EO' a b q)
    · refine SR.congr (SR.frame c2 (fun a b q => by have := own29 q; exact E2 a b (by omega) (by omega)) (fun b => by rw [P, c4])) (fun b hb => ?_)
      rw [hρ, pI_ne (by decide), pL_1, pA_at]
      unfold bkP
      rw [if_pos hb]
      show (pI (pI τ 9 0 (σ.1 (3 + i) 1)) 1 2 0).1 21 (338 * i + b) = σ.1 21 (338 * i + b)
      rw [pI_ne (by decide), pI_ne (by decide)]
      exact E 21 _ (by decide) (by decide)
  · obtain ⟨σ2, m1, m2⟩ := r_X10_goBack (σ := σ) ha
    exact ⟨_, _, _, f_X9_goBack ha hz, m1, h.q (ScC.rf σ) m2⟩
