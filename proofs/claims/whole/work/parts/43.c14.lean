theorem SR.congr {σ : St} {s : Nat} {w w' : Nat → Int32} (h : SR σ s w) (e : ∀ j, j < 338 → w' j = w j) : SR σ s w' := by
  obtain ⟨hs, hF, ⟨b1, b2, b3⟩, hv⟩ := h
  have h6 := hv.c6
  have hlo : ∀ j, j < 38 → w' j = w j := fun j hj => e j (by omega)
  have hO : ∀ g, g < cN w → ∀ c r z, c < fN w g 4 → r < fN w g 5 → z < 2 → oV w' g c r z = oV w g c r z := fun g hg c r z hc hr hz => by
    obtain ⟨g6, c5, r5, -⟩ := hv.b hg
    unfold oV
    exact e _ (by omega)
  refine ⟨hs, hF, ⟨by rw [hlo 0 (by decide)]; exact b1, by rw [hlo 1 (by decide)]; exact b2, fun g hg => ?_⟩, Ok_lo hv hlo (fun g hg c r z hc hr hz => by rw [hO g hg c r z hc hr hz]; exact (hv.2.2.2.2 g hg).2.2 c r z hc hr hz)⟩
  rw [lo_cN hlo] at hg
  obtain ⟨c1, c2⟩ := b3 g hg
  refine ⟨fun x hx => by rw [hlo _ (by omega)]; exact c1 x hx, fun c r z hc hr hz => ?_⟩
  rw [lo_fN hlo (by omega) (by decide)] at hc hr
  rw [hO g hg c r z hc hr hz]
  exact c2 c r z hc hr hz
theorem own29 {s a : Nat} (h : Own s a) : 29 ≤ a := by unfold Own at h; omega
theorem nown {a : Nat} (ha : a < 29) : ∀ s, s ≤ 16 → ¬ Own s a := fun s _ q => by have := own29 q; omega
theorem pL_1 (σ : St) (k j : Nat) (x : Int64) : (pL σ k j x).1 = σ.1 := rfl
theorem pL_app (σ : St) (k j a b : Nat) (x : Int64) : (pL σ k j x).2.1 a b = if a = k ∧ b = j then x else σ.2.1 a b := rfl
set_option maxRecDepth 100000 in
set_option maxHeartbeats 4000000 in
theorem s_drift {σ : St} (h : RR σ) {x : Int32} : ∃ rr σ1 σ2, Ct yX9_drift M_X9_drift [.ref 0, .int x] σ (some (.int rr), σ1) ∧ Ct yX10_drift M_X10_drift [.ref 18, .int x] σ1 (some (.int rr), σ2) ∧ RR σ2 := by
  have hv := h.sr.2.2.2
  obtain ⟨U, t, u1, u2⟩ := h.hi
  obtain ⟨s, s1, s2, s3⟩ := h.sd
  by_cases ha : (1 ≤ x ∧ x ≤ 12) ∧ 0 < cN (σ.1 19)
  · obtain ⟨n, n1, n2, rfl⟩ := i_rng (a := 1) (b := 12) (by decide) (by decide) ha.1
    obtain ⟨σ1, c1, c2, c3, c4, c5⟩ := d_X9_drift h.sr h.sh u1 ha.2 s2 s1 n1 n2
    have E : ∀ a b, a ≠ 1 → a ≠ 9 → a < 29 → σ1.1 a b = σ.1 a b := fun a b x1 x2 x3 => c5.1 a b x1 x2 (nown x3)
    have e19 : σ1.1 19 = σ.1 19 := funext fun b => E 19 b (by decide) (by decide) (by decide)
    have hM : HistM σ1 U t := u2.frame (E 18 3 (by decide) (by decide) (by decide)) (fun b => E 20 b (by decide) (by decide) (by decide))
    obtain ⟨σ2, m1, m2, m3, m4, m5⟩ := a_X10_drift (σ := σ1) e19 hv ha.2 (by rw [c5.2]; exact s3) s1 hM n1 n2
    refine ⟨_, _, _, c1, m1, h.to (fun a b _ => by rw [m5.2.2.1, c5.2]) (fun a b hab => ?_) ?_ (fun b => by rw [m5.2.2.2 23 b (by omega), c5.2]) ?_ ⟨_, _, c4.frame (fun b => m5.1 1 b (by decide) (by decide) (by decide) (by decide) (by decide)) (fun s a b _ _ hO => by have := own29 hO; exact m5.1 a b (by omega) (by omega) (by omega) (by omega) (by omega)) (fun a b _ => by rw [m5.2.2.1]), m4⟩ ⟨_, drI_lt s1 n, by rw [m5.1 9 0 (by decide) (by decide) (by decide) (by decide) (by decide)]; exact c3, m3⟩⟩
    · rcases hab with q | q | q | q | q | q | q | q
      · exact (m5.1 a b (by omega) (by omega) (by omega) (by omega) (by omega)).trans (E a b (by omega) (by omega) (by omega))
      · exact (m5.1 a b (by omega) (by omega) (by omega) (by omega) (by omega)).trans (E a b (by omega) (by omega) (by omega))
      · exact (m5.1 a b (by omega) (by omega) (by omega) (by omega) (by omega)).trans (E a b (by omega) (by omega) (by omega))
      · exact (m5.1 a b (by omega) (by omega) (by omega) (by omega) (by omega)).trans (E a b (by omega) (by omega) (by omega))
      · exact (m5.1 a b (by omega) (by omega) (by omega) (by omega) (by omega)).trans (E a b (by omega) (by omega) (by omega))
      · exact (m5.1 a b (by omega) (by omega) (by omega) (by omega) (by omega)).trans (E a b (by omega) (by omega) (by omega))
      · have := own29 q
        exact (m5.1 a b (by omega) (by omega) (by omega) (by omega) (by omega)).trans (c5.1 a b (by omega) (by omega) (fun s hs => own_ne (by omega) (by decide) (by omega) q))
      · have := own29 q
        exact (m5.1 a b (by omega) (by omega) (by omega) (by omega) (by omega)).trans (c5.1 a b (by omega) (by omega) (fun s hs => own_ne (by omega) (by decide) (by omega) q))
    · rw [m5.2.1 8 (by decide) (by decide) (by decide) (by decide)]
      exact E 18 8 (by decide) (by decide) (by decide)
    · rw [m2]
      exact c2.frame (fun a b hO => by have := own29 hO; exact m5.1 a b (by omega) (by omega) (by omega) (by omega) (by omega)) (fun b => by rw [m5.2.2.1])
  · obtain ⟨σ2, m1, m2⟩ := r_X10_drift (σ := σ) hv ha
    exact ⟨_, _, _, f_X9_drift h.sr.2 ha, m1, h.q (ScC.rf σ) m2⟩
set_option maxRecDepth 100000 in
set_option maxHeartbeats 4000000 in
theorem s_undo {σ : St} (h : RR σ) {x : Int32} : ∃ rr σ1 σ2, Ct yX9_undo M_X9_undo [.ref 0, .int x] σ (some (.int rr), σ1) ∧ Ct yX10_undo M_X10_undo [.ref 18, .int x] σ1 (some (.int rr), σ2) ∧ RR σ2 := by
  have hv := h.sr.2.2.2
  obtain ⟨U, t, u1, u2⟩ := h.hi
  obtain ⟨s, s1, s2, s3⟩ := h.sd
  have hU := u1.2.1
  by_cases ha : (1 ≤ x ∧ x ≤ 16) ∧ x ≤ nI U
  · obtain ⟨n, n1, n2, rfl⟩ := i_rng (a := 1) (b := 16) (by decide) (by decide) ha.1
    have hn : n ≤ U := (nI_leI (by omega) (by omega)).mp ha.2
    obtain ⟨σ1, c1, c2, c3, c4, c5⟩ := d_X9_undo h.sr u1 n1 hn
    have E : ∀ a b, a ≠ 1 → a < 29 → σ1.1 a b = σ.1 a b := fun a b x1 x3 => c4.1 a b x1 (nown x3)
    have EO : ∀ a b, Own 17 a → σ1.1 a b = σ.1 a b := fun a b q => by have := own29 q; exact c4.1 a b (by omega) (fun s hs => own_ne (by omega) (by decide) (by omega) q)
    have EO' : ∀ a b, Own 18 a → σ1.1 a b = σ.1 a b := fun a b q => by have := own29 q; exact c4.1 a b (by omega) (fun s hs => own_ne (by omega) (by decide) (by omega) q)
    have e183 : σ1.1 18 3 = nI U := (E 18 3 (by decide) (by decide)).trans u2.1
    have m1 := a_X10_undo (σ := σ1) e183 hU n1 hn
    have E2 : ∀ a b, a ≠ 18 → a ≠ 19 → (pA (pI (pI σ1 18 0 0) 18 3 (nI (U - n))) 19 (bkP (σ1.1 19) (fun j => σ1.1 20 (338 * (U - n) + j)) 338)).1 a b = σ1.1 a b := fun a b x1 x2 => by rw [pA_ne x2, pI_ne x1, pI_ne x1]
    refine ⟨_, _, _, c1, m1, h.to (fun a b _ => by show σ1.2.2 a b = _; rw [c5]) (fun a b hab => ?_) ?_ (fun b => by show σ1.2.1 23 b = _; rw [c4.2.1]) ?_ ⟨U - n, fun i => t (i + n), c3.frame (fun b => E2 1 b (by decide) (by decide)) (fun s a b _ _ hO => by have := own29 hO; exact E2 a b (by omega) (by omega)) (fun a b _ => rfl), ?_, by omega, fun i hi j hj => ?_⟩ ⟨s, s1, by rw [E2 9 0 (by decide) (by decide), E 9 0 (by decide) (by decide)]; exact s2, by show σ1.2.1 18 7 = _; rw [c4.2.1]; exact s3⟩⟩
    · rcases hab with q | q | q | q | q | q | q | q
      · exact (E2 a b (by omega) (by omega)).trans (E a b (by omega) (by omega))
      · exact (E2 a b (by omega) (by omega)).trans (E a b (by omega) (by omega))
      · exact (E2 a b (by omega) (by omega)).trans (E a b (by omega) (by omega))
      · exact (E2 a b (by omega) (by omega)).trans (E a b (by omega) (by omega))
      · exact (E2 a b (by omega) (by omega)).trans (E a b (by omega) (by omega))
      · exact (E2 a b (by omega) (by omega)).trans (E a b (by omega) (by omega))
      · have := own29 q
        exact (E2 a b (by omega) (by omega)).trans (EO a b q)
      · have := own29 q
        exact (E2 a b (by omega) (by omega)).trans (EO' a b q)
    · rw [pA_ne (by decide), pI_app, if_neg (by decide), pI_app, if_neg (by decide)]
      exact E 18 8 (by decide) (by decide)
    · rw [pA_at]
      refine SR.congr (SR.frame c2 (fun a b hO => by have := own29 hO; exact E2 a b (by omega) (by omega)) (fun b => rfl)) (fun j hj => ?_)
      unfold bkP
      rw [if_pos hj]
      show σ1.1 20 (338 * (U - n) + j) = t (n - 1) j
      rw [E 20 _ (by decide) (by decide)]
      have := u2.2.2 (n - 1) (by omega) j hj
      rw [show U - 1 - (n - 1) = U - n by omega] at this
      exact this
    · rw [pA_ne (by decide), pI_app, if_pos ⟨rfl, rfl⟩]
    · rw [E2 20 _ (by decide) (by decide), E 20 _ (by decide) (by decide)]
      have := u2.2.2 (i + n) (by omega) j hj
      rw [show U - 1 - (i + n) = U - n - 1 - i by omega] at this
      exact this
  · obtain ⟨σ2, m1, m2⟩ := r_X10_undo (σ := σ) u2.1 hU ha
    exact ⟨_, _, _, f_X9_undo u1.1 hU ha, m1, h.q (ScC.rf σ) m2⟩
theorem RR.book {σ σ' : St} (h : RR σ) (fI : ∀ a b, ¬ (5 ≤ a ∧ a ≤ 8) → a ≠ 18 → ¬ (24 ≤ a ∧ a ≤ 26) → σ'.1 a b = σ.1 a b) (f3 : σ'.1 18 3 = σ.1 18 3) (f2 : σ'.2 = σ.2) (bk : ∃ E, σ'.1 5 3 = nI E ∧ σ'.1 18 8 = nI E ∧ BkOk (σ'.1 6) (σ'.1 7) E) (b6 : σ'.1 24 = σ'.1 6) (b7 : σ'.1 25 = σ'.1 7) (b8 : σ'.1 26 = σ'.1 8) : RR σ' := by
  obtain ⟨U, t, u1, u2⟩ := h.hi
  obtain ⟨s, s1, s2, s3⟩ := h.sd
  have P : σ'.2.2 = σ.2.2 := by rw [f2]
  have O : ∀ s a b, Own s a → σ'.1 a b = σ.1 a b := fun s a b q => by have := own29 q; exact fI a b (by omega) (by omega) (by omega)
  refine ⟨fun s hs => (h.sh s hs).frame (fun b => by rw [P]), ?_, ⟨U, t, u1.frame (fun b => fI 1 b (by omega) (by omega) (by omega)) (fun s a b _ _ q => O s a b q) (fun a b _ => by rw [P]), u2.frame f3 (fun b => fI 20 b (by omega) (by omega) (by omega))⟩, ⟨s, s1, by rw [fI 9 0 (by omega) (by omega) (by omega)]; exact s2, by rw [f2]; exact s3⟩, bk, b6, b7, b8, fun i hi => ?_⟩
  · rw [show σ'.1 19 = σ.1 19 from funext fun b => fI 19 b (by omega) (by omega) (by omega)]
    exact h.sr.frame (fun a b q => O 0 a b q) (fun b => by rw [P])
  · have e21 : ∀ b, σ'.1 21 b = σ.1 21 b := fun b => fI 21 b (by omega) (by omega) (by omega)
    have e3 : ∀ b, σ'.1 (3 + i) b = σ.1 (3 + i) b := fun b => fI _ b (by omega) (by omega) (by omega)
    rcases h.im i hi with ⟨a, b⟩ | ⟨a, b, c, s, d1, d2, d3⟩
    · exact Or.inl ⟨by rw [fI 22 i (by omega) (by omega) (by omega)]; exact a, by rw [e3]; exact b⟩
    · refine Or.inr ⟨by rw [fI 22 i (by omega) (by omega) (by omega)]; exact a, by rw [e3]; exact b, ?_, s, d1, by rw [e3]; exact d2, by rw [f2]; exact d3⟩
      simp only [e21]
      exact c.frame (fun a b q => O _ a b q) (fun b => by rw [P])
set_option maxRecDepth 100000 in
set_option maxHeartbeats 4000000 in
theorem s_write {σ : St} (h : RR σ) {x y z : Int32} : ∃ rr σ1 σ2, Ct yX9_write M_X9_write [.ref 0, .int x, .int y, .int z] σ (some (.int rr), σ1) ∧ Ct yX10_write M_X10_write [.ref 18, .int x, .int y, .int z] σ1 (some (.int rr), σ2) ∧ RR σ2 := by
  obtain ⟨E, k1, k2, k3⟩ := h.bk
  have h20 := k3.1
  by_cases ha : plc x y ∧ E < 20
  · have m1 := a_X10_write (σ := pI (pI (pI (pI σ 6 E x) 7 E y) 8 E z) 5 3 (nI (E + 1))) (x := x) (y := y) (z := z) (E := E) (by rw [pI_ne (by decide), pI_ne (by decide), pI_ne (by decide), pI_ne (by decide)]; exact k2) ha.2 ha.1
    have w6 : (pI (pI (pI (pI (pI (pI (pI (pI (pI σ 6 E x) 7 E y) 8 E z) 5 3 (nI (E + 1))) 18 0 0) 24 E x) 25 E y) 26 E z) 18 8 (nI (E + 1))).1 6 = upd (σ.1 6) E x := by
      funext b
      rw [upd_app]
      simp only [pI_app]
      by_cases e : b = E
      · simp [e]
      · simp [e]
    have w7 : (pI (pI (pI (pI (pI (pI (pI (pI (pI σ 6 E x) 7 E y) 8 E z) 5 3 (nI (E + 1))) 18 0 0) 24 E x) 25 E y) 26 E z) 18 8 (nI (E + 1))).1 7 = upd (σ.1 7) E y := by
      funext b
      rw [upd_app]
      simp only [pI_app]
      by_cases e : b = E
      · simp [e]
      · simp [e]
    have w8 : (pI (pI (pI (pI (pI (pI (pI (pI (pI σ 6 E x) 7 E y) 8 E z) 5 3 (nI (E + 1))) 18 0 0) 24 E x) 25 E y) 26 E z) 18 8 (nI (E + 1))).1 8 = upd (σ.1 8) E z := by
      funext b
      rw [upd_app]
      simp only [pI_app]
      by_cases e : b = E
      · simp [e]
      · simp [e]
    have w24 : (pI (pI (pI (pI (pI (pI (pI (pI (pI σ 6 E x) 7 E y) 8 E z) 5 3 (nI (E + 1))) 18 0 0) 24 E x) 25 E y) 26 E z) 18 8 (nI (E + 1))).1 24 = upd (σ.1 24) E x := by
      funext b
      rw [upd_app]
      simp only [pI_app]
      by_cases e : b = E
      · simp [e]
      · simp [e]
    have w25 : (pI (pI (pI (pI (pI (pI (pI (pI (pI σ 6 E x) 7 E y) 8 E z) 5 3 (nI (E + 1))) 18 0 0) 24 E x) 25 E y) 26 E z) 18 8 (nI (E + 1))).1 25 = upd (σ.1 25) E y := by
      funext b
      rw [upd_app]
      simp only [pI_app]
      by_cases e : b = E
      · simp [e]
      · simp [e]
    have w26 : (pI (pI (pI (pI (pI (pI (pI (pI (pI σ 6 E x) 7 E y) 8 E z) 5 3 (nI (E + 1))) 18 0 0) 24 E x) 25 E y) 26 E z) 18 8 (nI (E + 1))).1 26 = upd (σ.1 26) E z := by
      funext b
      rw [upd_app]
      simp only [pI_app]
      by_cases e : b = E
      · simp [e]
      · simp [e]
    refine ⟨_, _, _, d_X9_write k1 ha.2 ha.1, m1, h.book (fun a b x1 x2 x3 => ?_) ?_ rfl ⟨E + 1, ?_, ?_, ?_⟩ ?_ ?_ ?_⟩
    · rw [pI_ne x2, pI_ne (by omega), pI_ne (by omega), pI_ne (by omega), pI_ne x2, pI_ne (by omega), pI_ne (by omega), pI_ne (by omega), pI_ne (by omega)]
    · simp [pI_app]
    · simp [pI_app]
    · simp [pI_app]
    · rw [w6, w7]
      refine ⟨by omega, fun k hk => ?_⟩
      rw [upd_app, upd_app]
      by_cases e : k = E
      · rw [if_pos e, if_pos e]; exact ha.1
      · rw [if_neg e, if_neg e]; exact k3.2 k (by omega)
    · rw [w24, w6, h.b6]
    · rw [w25, w7, h.b7]
    · rw [w26, w8, h.b8]
  · obtain ⟨σ2, m1, m2⟩ := r_X10_write (σ := σ) (z := z) k2 ha h20
    exact ⟨_, _, _, f_X9_write k1 ha h20, m1, h.q (ScC.rf σ) m2⟩
set_option maxRecDepth 100000 in
set_option maxHeartbeats 4000000 in
theorem s_tear {σ : St} (h : RR σ) : ∃ rr σ1 σ2, Ct yX9_tear M_X9_tear [.ref 0] σ (some (.int rr), σ1) ∧ Ct yX10_tear M_X10_tear [.ref 18] σ1 (some (.int rr), σ2) ∧ RR σ2 := by
  obtain ⟨E, k1, k2, k3⟩ := h.bk
  have m1 := c_X10_tear (σ := pI σ 5 3 0)
  have c1 := d_X9_tear (σ := σ)
  rw [show (pI σ 5 3 0).1 18 8 = σ.1 18 8 by rw [pI_ne (by decide)], k2] at m1
  rw [k1] at c1
  refine ⟨_, _, _, c1, m1, h.book (fun a b x1 x2 x3 => ?_) ?_ rfl ⟨0, ?_, ?_, ?_⟩ ?_ ?_ ?_⟩
  · rw [pI_ne x2, pI_ne x2, pI_ne (by omega)]
  · simp [pI_app]
  · simp [pI_app]; rfl
  · simp [pI_app]; rfl
  · exact ⟨by omega, fun k hk => absurd hk (by omega)⟩
  · rw [pI_ne (by decide), pI_ne (by decide), pI_ne (by decide), pI_ne (by decide), pI_ne (by decide), pI_ne (by decide)]; exact h.b6
  · rw [pI_ne (by decide), pI_ne (by decide), pI_ne (by decide), pI_ne (by decide), pI_ne (by decide), pI_ne (by decide)]; exact h.b7
  · rw [pI_ne (by decide), pI_ne (by decide), pI_ne (by decide), pI_ne (by decide), pI_ne (by decide), pI_ne (by decide)]; exact h.b8
