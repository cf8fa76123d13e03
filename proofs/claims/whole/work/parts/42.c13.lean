/-! ===== class and reference are alike ===== -/
def ImR (σ : St) (i : Nat) : Prop := (σ.1 22 i = 0 ∧ σ.1 (3 + i) 2 = 0) ∨ (σ.1 22 i = 1 ∧ σ.1 (3 + i) 2 = 1 ∧ SR σ (17 + i) (fun j => σ.1 21 (338 * i + j)) ∧ ∃ s, s < 2 ^ 31 ∧ σ.1 (3 + i) 1 = nI s ∧ σ.2.1 23 i = lN s)
def RR (σ : St) : Prop := (∀ s, s < 19 → Sh σ s) ∧ SR σ 0 (σ.1 19) ∧ (∃ U t, HistC σ U t ∧ HistM σ U t) ∧ (∃ s, s < 2 ^ 31 ∧ σ.1 9 0 = nI s ∧ σ.2.1 18 7 = lN s) ∧ (∃ E, σ.1 5 3 = nI E ∧ σ.1 18 8 = nI E ∧ BkOk (σ.1 6) (σ.1 7) E) ∧ σ.1 24 = σ.1 6 ∧ σ.1 25 = σ.1 7 ∧ σ.1 26 = σ.1 8 ∧ ∀ i, i < 2 → ImR σ i
theorem RR.sh {σ : St} (h : RR σ) : ∀ s, s < 19 → Sh σ s := h.1
theorem RR.sr {σ : St} (h : RR σ) : SR σ 0 (σ.1 19) := h.2.1
theorem RR.hi {σ : St} (h : RR σ) : ∃ U t, HistC σ U t ∧ HistM σ U t := h.2.2.1
theorem RR.sd {σ : St} (h : RR σ) : ∃ s, s < 2 ^ 31 ∧ σ.1 9 0 = nI s ∧ σ.2.1 18 7 = lN s := h.2.2.2.1
theorem RR.bk {σ : St} (h : RR σ) : ∃ E, σ.1 5 3 = nI E ∧ σ.1 18 8 = nI E ∧ BkOk (σ.1 6) (σ.1 7) E := h.2.2.2.2.1
theorem RR.b6 {σ : St} (h : RR σ) : σ.1 24 = σ.1 6 := h.2.2.2.2.2.1
theorem RR.b7 {σ : St} (h : RR σ) : σ.1 25 = σ.1 7 := h.2.2.2.2.2.2.1
theorem RR.b8 {σ : St} (h : RR σ) : σ.1 26 = σ.1 8 := h.2.2.2.2.2.2.2.1
theorem RR.im {σ : St} (h : RR σ) : ∀ i, i < 2 → ImR σ i := h.2.2.2.2.2.2.2.2
theorem HistC.frame {σ σ' : St} {U : Nat} {t : Nat → Nat → Int32} (h : HistC σ U t) (h1 : ∀ b, σ'.1 1 b = σ.1 1 b) (h2 : ∀ s a b, 1 ≤ s → s ≤ 16 → Own s a → σ'.1 a b = σ.1 a b) (h3 : ∀ a b, a ≠ 30 → σ'.2.2 a b = σ.2.2 a b) : HistC σ' U t := by
  obtain ⟨a1, a2, N, a3, a4, a5⟩ := h
  exact ⟨by rw [h1]; exact a1, a2, N, a3, by rw [h1]; exact a4, fun i hi => (a5 i hi).frame (fun a b ha => h2 _ a b (by omega) (by omega) ha) (fun b => h3 _ b (by omega))⟩
theorem HistM.frame {σ σ' : St} {U : Nat} {t : Nat → Nat → Int32} (h : HistM σ U t) (h1 : σ'.1 18 3 = σ.1 18 3) (h2 : ∀ b, σ'.1 20 b = σ.1 20 b) : HistM σ' U t := ⟨by rw [h1]; exact h.1, h.2.1, fun i hi j hj => by rw [h2]; exact h.2.2 i hi j hj⟩
theorem RR.to {σ σ' : St} (h : RR σ) (f22 : ∀ a b, a ≠ 30 → σ'.2.2 a b = σ.2.2 a b) (fI : ∀ a b, (a = 3 ∨ a = 4 ∨ (5 ≤ a ∧ a ≤ 8) ∨ a = 21 ∨ a = 22 ∨ (24 ≤ a ∧ a ≤ 26) ∨ Own 17 a ∨ Own 18 a) → σ'.1 a b = σ.1 a b) (f8 : σ'.1 18 8 = σ.1 18 8) (fL : ∀ b, σ'.2.1 23 b = σ.2.1 23 b) (sr : SR σ' 0 (σ'.1 19)) (hi : ∃ U t, HistC σ' U t ∧ HistM σ' U t) (sd : ∃ s, s < 2 ^ 31 ∧ σ'.1 9 0 = nI s ∧ σ'.2.1 18 7 = lN s) : RR σ' := by
  refine ⟨fun s hs => ?_, sr, hi, sd, ?_, ?_, ?_, ?_, fun i hi => ?_⟩
  · by_cases e : s = 0
    · subst e; exact sr.1
    · exact (h.sh s hs).frame (fun b => f22 _ b (by omega))
  · obtain ⟨E, e1, e2, e3⟩ := h.bk
    refine ⟨E, by rw [fI _ _ (by omega)]; exact e1, by rw [f8]; exact e2, ?_⟩
    rw [show σ'.1 6 = σ.1 6 from funext fun b => fI _ _ (by omega), show σ'.1 7 = σ.1 7 from funext fun b => fI _ _ (by omega)]
    exact e3
  · rw [show σ'.1 6 = σ.1 6 from funext fun b => fI _ _ (by omega), show σ'.1 24 = σ.1 24 from funext fun b => fI _ _ (by omega)]; exact h.b6
  · rw [show σ'.1 7 = σ.1 7 from funext fun b => fI _ _ (by omega), show σ'.1 25 = σ.1 25 from funext fun b => fI _ _ (by omega)]; exact h.b7
  · rw [show σ'.1 8 = σ.1 8 from funext fun b => fI _ _ (by omega), show σ'.1 26 = σ.1 26 from funext fun b => fI _ _ (by omega)]; exact h.b8
  · have e3 : ∀ b, σ'.1 (3 + i) b = σ.1 (3 + i) b := fun b => fI _ _ (by omega)
    have e21 : ∀ b, σ'.1 21 b = σ.1 21 b := fun b => fI _ _ (by omega)
    rcases h.im i hi with ⟨a, b⟩ | ⟨a, b, c, s, d1, d2, d3⟩
    · exact Or.inl ⟨by rw [fI _ _ (by omega)]; exact a, by rw [e3]; exact b⟩
    · refine Or.inr ⟨by rw [fI _ _ (by omega)]; exact a, by rw [e3]; exact b, ?_, s, d1, by rw [e3]; exact d2, by rw [fL]; exact d3⟩
      simp only [e21]
      refine c.frame (fun a b ha => fI _ _ ?_) (fun b => f22 _ b (by omega))
      rcases (show i = 0 ∨ i = 1 by omega) with rfl | rfl
      · exact Or.inr (Or.inr (Or.inr (Or.inr (Or.inr (Or.inr (Or.inl ha))))))
      · exact Or.inr (Or.inr (Or.inr (Or.inr (Or.inr (Or.inr (Or.inr ha))))))
theorem ScC.row {σ σ' : St} (h : ScC σ σ') {k : Nat} (hk : ¬ (10 ≤ k ∧ k ≤ 17)) : σ'.1 k = σ.1 k := funext fun j => h.1 k j hk
theorem RR.q {σ σ1 σ2 : St} (h : RR σ) (c : ScC σ σ1) (m : ScM σ1 σ2) : RR σ2 := by
  have E : ∀ a b, ¬ (10 ≤ a ∧ a ≤ 17) → a ≠ 18 → a ≠ 27 → a ≠ 28 → σ2.1 a b = σ.1 a b := fun a b h1 h2 h3 h4 => (m.1 a b h2 h3 h4).trans (c.1 a b h1)
  have E18 : ∀ b, b ≠ 0 → b ≠ 12 → b ≠ 13 → σ2.1 18 b = σ.1 18 b := fun b h1 h2 h3 => (m.2.1 b h1 h2 h3).trans (c.1 18 b (by omega))
  have L : ∀ a b, ¬ (10 ≤ a ∧ a ≤ 17) → σ2.2.1 a b = σ.2.1 a b := fun a b ha => by rw [m.2.2]; exact c.2.1 a b ha
  have P : σ2.2.2 = σ.2.2 := by rw [m.2.2]; exact c.2.2
  have own : ∀ s a, Own s a → 29 ≤ a := fun s a ha => by unfold Own at ha; omega
  obtain ⟨U, t, h1, h2⟩ := h.hi
  obtain ⟨s, s1, s2, s3⟩ := h.sd
  refine h.to (fun a b _ => by rw [P]) (fun a b ha => E a b ?_ ?_ ?_ ?_) (E18 8 (by decide) (by decide) (by decide)) (fun b => L 23 b (by decide)) ?_ ⟨U, t, h1.frame (fun b => E 1 b (by decide) (by decide) (by decide) (by decide)) (fun s a b _ _ ha => E a b ?_ ?_ ?_ ?_) (fun a b _ => by rw [P]), h2.frame (E18 3 (by decide) (by decide) (by decide)) (fun b => E 20 b (by decide) (by decide) (by decide) (by decide))⟩ ⟨s, s1, by rw [E 9 0 (by decide) (by decide) (by decide) (by decide)]; exact s2, by rw [L 18 7 (by decide)]; exact s3⟩
  any_goals (rcases ha with q | q | q | q | q | q | q | q <;> first | omega | (have := own _ _ q; omega))
  any_goals (have := own _ _ ha; omega)
  rw [show σ2.1 19 = σ.1 19 from funext fun b => E 19 b (by decide) (by decide) (by decide) (by decide)]
  exact h.sr.frame (fun a b ha => by have := own _ _ ha; exact E a b (by omega) (by omega) (by omega) (by omega)) (fun b => by rw [P])
theorem RR.deed {σ σ1 σ2 : St} (h : RR σ) {U : Nat} {t : Nat → Nat → Int32} {v' : Nat → Int32} (hM : HistM σ U t) (f : FrD σ σ1) (s1 : SR σ1 0 v') (h1 : HistC σ1 (min (U + 1) 16) (pushT (σ.1 19) t)) (d : DeedM σ1 σ2 U v') : RR σ2 := by
  obtain ⟨d1, d2, d3, d4, d5, d6, d7⟩ := d
  have own : ∀ s a, Own s a → 29 ≤ a := fun s a ha => by unfold Own at ha; omega
  have nO : ∀ a, a < 29 → ∀ s, s ≤ 16 → ¬ Own s a := fun a ha s _ q => by have := own _ _ q; omega
  have E : ∀ a b, a ≠ 1 → (∀ s, s ≤ 16 → ¬ Own s a) → a ≠ 18 → a ≠ 19 → a ≠ 20 → a ≠ 27 → a ≠ 28 → σ2.1 a b = σ.1 a b := fun a b x1 x2 x3 x4 x5 x6 x7 => (d5 a b x3 x4 x5 x6 x7).trans (f.1 a b x1 x2)
  have E2 : ∀ s a b, Own s a → σ2.1 a b = σ1.1 a b := fun s a b ha => by have := own _ _ ha; exact d5 a b (by omega) (by omega) (by omega) (by omega) (by omega)
  have P : σ2.2.2 = σ1.2.2 := by rw [d7]
  obtain ⟨s, e1, e2, e3⟩ := h.sd
  have r19 : ∀ b, σ1.1 19 b = σ.1 19 b := fun b => f.1 19 b (by decide) (nO 19 (by decide))
  have r20 : ∀ b, σ1.1 20 b = σ.1 20 b := fun b => f.1 20 b (by decide) (nO 20 (by decide))
  refine h.to (fun a b ha => by rw [P]; exact f.2.2 a b ha) (fun a b ha => ?_) ?_ (fun b => by rw [d7, f.2.1]) ?_ ⟨min (U + 1) 16, pushT (σ.1 19) t, h1.frame (fun b => d5 1 b (by decide) (by decide) (by decide) (by decide) (by decide)) (fun s a b _ _ ha => E2 s a b ha) (fun a b _ => by rw [P]), d1, Nat.min_le_right _ _, fun i hi j hj => ?_⟩ ⟨s, e1, by rw [E 9 0 (by decide) (nO 9 (by decide)) (by decide) (by decide) (by decide) (by decide) (by decide)]; exact e2, by rw [d7, f.2.1]; exact e3⟩
  · rcases ha with q | q | q | q | q | q | q | q
    · exact E a b (by omega) (nO a (by omega)) (by omega) (by omega) (by omega) (by omega) (by omega)
    · exact E a b (by omega) (nO a (by omega)) (by omega) (by omega) (by omega) (by omega) (by omega)
    · exact E a b (by omega) (nO a (by omega)) (by omega) (by omega) (by omega) (by omega) (by omega)
    · exact E a b (by omega) (nO a (by omega)) (by omega) (by omega) (by omega) (by omega) (by omega)
    · exact E a b (by omega) (nO a (by omega)) (by omega) (by omega) (by omega) (by omega) (by omega)
    · exact E a b (by omega) (nO a (by omega)) (by omega) (by omega) (by omega) (by omega) (by omega)
    · have := own _ _ q
      exact E a b (by omega) (fun s hs => own_ne (by omega) (by decide) (by omega) q) (by omega) (by omega) (by omega) (by omega) (by omega)
    · have := own _ _ q
      exact E a b (by omega) (fun s hs => own_ne (by omega) (by decide) (by omega) q) (by omega) (by omega) (by omega) (by omega) (by omega)
  · rw [d6 8 (by decide) (by decide) (by decide) (by decide)]
    exact f.1 18 8 (by decide) (nO 18 (by decide))
  · rw [d4]
    exact s1.frame (fun a b ha => E2 _ a b ha) (fun b => by rw [P])
  · match i, hi with
    | 0, hi => exact (d2 j hj).trans (r19 j)
    | i + 1, hi =>
      rw [d3 i hi j hj, r20]
      exact hM.2.2 i (by omega) j hj
set_option maxRecDepth 100000 in
set_option maxHeartbeats 4000000 in
theorem s_told {σ : St} (h : RR σ) {what : Int32} : ∃ rr σ1 σ2, Ct yX9_told M_X9_told [.ref 0, .int what] σ (some (.int rr), σ1) ∧ Ct yX10_told M_X10_told [.ref 18, .int what] σ1 (some (.int rr), σ2) ∧ RR σ2 := by
  obtain ⟨E, k1, k2, k3⟩ := h.bk
  obtain ⟨U, t, u1, u2⟩ := h.hi
  obtain ⟨s, s1, s2, s3⟩ := h.sd
  obtain ⟨σ1, c1, c2⟩ := q_X9_told h.sr.2 (what := what) k1 k3
  have e19 : σ1.1 19 = σ.1 19 := c2.row (by decide)
  have e24 : σ1.1 24 = σ.1 6 := (c2.row (by decide)).trans h.b6
  have e25 : σ1.1 25 = σ.1 7 := (c2.row (by decide)).trans h.b7
  have e26 : σ1.1 26 = σ.1 8 := (c2.row (by decide)).trans h.b8
  have e18 : σ1.1 18 = σ.1 18 := c2.row (by decide)
  have eL : σ1.2.1 18 7 = lN s := (c2.2.1 18 7 (by decide)).trans s3
  obtain ⟨σ2, m1, m2⟩ := c_X10_told (σ := σ1) (what := what) (E := E) (by rw [e19]; exact h.sr.2.2.2) (by rw [e18]; exact k2) (by rw [e24, e25]; exact k3)
  rw [e19, e24, e25, e26, e18, eL, lN_i, k2, u2.1] at m1
  rw [k1, u1.1, s2] at c1
  exact ⟨_, _, _, c1, m1, h.q c2 m2⟩
set_option maxRecDepth 100000 in
set_option maxHeartbeats 4000000 in
theorem s_gridAt {σ : St} (h : RR σ) {g what : Int32} : ∃ rr σ1 σ2, Ct yX9_gridAt M_X9_gridAt [.ref 0, .int g, .int what] σ (some (.int rr), σ1) ∧ Ct yX10_gridAt M_X10_gridAt [.ref 18, .int g, .int what] σ1 (some (.int rr), σ2) ∧ RR σ2 := by
  obtain ⟨σ1, c1, c2⟩ := q_X9_gridAt h.sr.2 (g := g) (what := what)
  have e19 : σ1.1 19 = σ.1 19 := c2.row (by decide)
  obtain ⟨σ2, m1, m2⟩ := c_X10_gridAt (σ := σ1) (g := g) (what := what) (by rw [e19]; exact h.sr.2.2.2)
  rw [e19] at m1
  exact ⟨_, _, _, c1, m1, h.q c2 m2⟩
set_option maxRecDepth 100000 in
set_option maxHeartbeats 4000000 in
theorem s_nodeAt {σ : St} (h : RR σ) {g c r what : Int32} : ∃ rr σ1 σ2, Ct yX9_nodeAt M_X9_nodeAt [.ref 0, .int g, .int c, .int r, .int what] σ (some (.int rr), σ1) ∧ Ct yX10_nodeAt M_X10_nodeAt [.ref 18, .int g, .int c, .int r, .int what] σ1 (some (.int rr), σ2) ∧ RR σ2 := by
  obtain ⟨σ1, c1, c2⟩ := q_X9_nodeAt h.sr.2 (g := g) (c := c) (r := r) (what := what)
  have e19 : σ1.1 19 = σ.1 19 := c2.row (by decide)
  obtain ⟨σ2, m1, m2⟩ := c_X10_nodeAt (σ := σ1) (g := g) (c := c) (r := r) (what := what) (by rw [e19]; exact h.sr.2.2.2)
  rw [e19] at m1
  exact ⟨_, _, _, c1, m1, h.q c2 m2⟩
set_option maxRecDepth 100000 in
set_option maxHeartbeats 4000000 in
theorem s_cellAt {σ : St} (h : RR σ) {g c r what : Int32} : ∃ rr σ1 σ2, Ct yX9_cellAt M_X9_cellAt [.ref 0, .int g, .int c, .int r, .int what] σ (some (.long rr), σ1) ∧ Ct yX10_cellAt M_X10_cellAt [.ref 18, .int g, .int c, .int r, .int what] σ1 (some (.long rr), σ2) ∧ RR σ2 := by
  obtain ⟨σ1, c1, c2⟩ := q_X9_cellAt h.sr.2 (g := g) (c := c) (r := r) (what := what)
  have e19 : σ1.1 19 = σ.1 19 := c2.row (by decide)
  obtain ⟨σ2, m1, m2⟩ := c_X10_cellAt (σ := σ1) (g := g) (c := c) (r := r) (what := what) (by rw [e19]; exact h.sr.2.2.2)
  rw [e19] at m1
  exact ⟨_, _, _, c1, m1, h.q c2 m2⟩
set_option maxRecDepth 100000 in
set_option maxHeartbeats 4000000 in
theorem s_which {σ : St} (h : RR σ) {x y : Int32} : ∃ rr σ1 σ2, Ct yX9_which M_X9_which [.ref 0, .int x, .int y] σ (some (.int rr), σ1) ∧ Ct yX10_which M_X10_which [.ref 18, .int x, .int y] σ1 (some (.int rr), σ2) ∧ RR σ2 := by
  obtain ⟨σ1, c1, c2⟩ := q_X9_which h.sr.2 (x := x) (y := y)
  have e19 : σ1.1 19 = σ.1 19 := c2.row (by decide)
  obtain ⟨σ2, m1, m2⟩ := c_X10_which (σ := σ1) (x := x) (y := y) (by rw [e19]; exact h.sr.2.2.2)
  rw [e19] at m1
  exact ⟨_, _, _, c1, m1, h.q c2 m2⟩
set_option maxRecDepth 100000 in
set_option maxHeartbeats 4000000 in
theorem s_moved {σ : St} (h : RR σ) {x y what : Int32} : ∃ rr σ1 σ2, Ct yX9_moved M_X9_moved [.ref 0, .int x, .int y, .int what] σ (some (.int rr), σ1) ∧ Ct yX10_moved M_X10_moved [.ref 18, .int x, .int y, .int what] σ1 (some (.int rr), σ2) ∧ RR σ2 := by
  obtain ⟨σ1, c1, c2⟩ := q_X9_moved h.sr.2 (x := x) (y := y) (what := what)
  have e19 : σ1.1 19 = σ.1 19 := c2.row (by decide)
  obtain ⟨σ2, m1, m2⟩ := c_X10_moved (σ := σ1) (x := x) (y := y) (what := what) (by rw [e19]; exact h.sr.2.2.2)
  rw [e19] at m1
  exact ⟨_, _, _, c1, m1, h.q c2 m2⟩
set_option maxRecDepth 100000 in
set_option maxHeartbeats 4000000 in
theorem s_back {σ : St} (h : RR σ) {x y what : Int32} : ∃ rr σ1 σ2, Ct yX9_back M_X9_back [.ref 0, .int x, .int y, .int what] σ (some (.int rr), σ1) ∧ Ct yX10_back M_X10_back [.ref 18, .int x, .int y, .int what] σ1 (some (.int rr), σ2) ∧ RR σ2 := by
  obtain ⟨σ1, c1, c2⟩ := q_X9_back h.sr.2 (x := x) (y := y) (what := what)
  have e19 : σ1.1 19 = σ.1 19 := c2.row (by decide)
  obtain ⟨σ2, m1, m2⟩ := c_X10_back (σ := σ1) (x := x) (y := y) (what := what) (by rw [e19]; exact h.sr.2.2.2)
  rw [e19] at m1
  exact ⟨_, _, _, c1, m1, h.q c2 m2⟩
set_option maxRecDepth 100000 in
set_option maxHeartbeats 4000000 in
theorem s_node {σ : St} (h : RR σ) {g c r dx dy : Int32} : ∃ rr σ1 σ2, Ct yX9_node M_X9_node [.ref 0, .int g, .int c, .int r, .int dx, .int dy] σ (some (.int rr), σ1) ∧ Ct yX10_node M_X10_node [.ref 18, .int g, .int c, .int r, .int dx, .int dy] σ1 (some (.int rr), σ2) ∧ RR σ2 := by
  have hv := h.sr.2.2.2
  have h6 := hv.c6
  obtain ⟨U, t, u1, u2⟩ := h.hi
  by_cases ha : nodS (σ.1 19) g c r ∧ ofsP dx dy
  · obtain ⟨G, K, R, hG, hK, hR0, rfl, rfl, rfl⟩ := nodS_nat hv ha.1
    obtain ⟨σ1, c1, c2, c3, c4⟩ := d_X9_node h.sr h.sh u1 hG hK hR0 ha.2
    have e19 : σ1.1 19 = σ.1 19 := funext fun b => c4.1 19 b (by decide) (fun s _ q => by unfold Own at q; omega)
    have e183 : σ1.1 18 3 = nI U := (c4.1 18 3 (by decide) (fun s _ q => by unfold Own at q; omega)).trans u2.1
    have m0 := a_X10_node (σ := σ1) (dx := dx) (dy := dy) (G := G) (K := K) (R := R) (by rw [e19]; exact hv) (by rw [e19]; exact hG) (by rw [e19]; exact hK) (by rw [e19]; exact hR0) ha.2 e183 u2.2.1
    obtain ⟨σ2, m1, m2⟩ := m0
    rw [e19] at m1 m2
    exact ⟨_, _, _, c1, m1, h.deed u2 c4 c2 c3 m2⟩
  · obtain ⟨σ2, m1, m2⟩ := r_X10_node (σ := σ) hv ha
    exact ⟨_, _, _, f_X9_node h.sr.2 ha, m1, h.q (ScC.rf σ) m2⟩
set_option maxRecDepth 100000 in
set_option maxHeartbeats 4000000 in
theorem s_fill {σ : St} (h : RR σ) {g dx dy : Int32} : ∃ rr σ1 σ2, Ct yX9_fill M_X9_fill [.ref 0, .int g, .int dx, .int dy] σ (some (.int rr), σ1) ∧ Ct yX10_fill M_X10_fill [.ref 18, .int g, .int dx, .int dy] σ1 (some (.int rr), σ2) ∧ RR σ2 := by
  have hv := h.sr.2.2.2
  have h6 := hv.c6
  obtain ⟨U, t, u1, u2⟩ := h.hi
  by_cases ha : grS (σ.1 19) g ∧ ofsP dx dy
  · obtain ⟨G, hG, rfl⟩ := grS_nat hv ha.1
    obtain ⟨σ1, c1, c2, c3, c4⟩ := d_X9_fill h.sr h.sh u1 hG ha.2
    have e19 : σ1.1 19 = σ.1 19 := funext fun b => c4.1 19 b (by decide) (fun s _ q => by unfold Own at q; omega)
    have e183 : σ1.1 18 3 = nI U := (c4.1 18 3 (by decide) (fun s _ q => by unfold Own at q; omega)).trans u2.1
    have m0 := a_X10_fill (σ := σ1) (dx := dx) (dy := dy) (G := G) (by rw [e19]; exact hv) (by rw [e19]; exact hG) ha.2 e183 u2.2.1
    obtain ⟨σ2, m1, m2⟩ := m0
    rw [e19] at m1 m2
    exact ⟨_, _, _, c1, m1, h.deed u2 c4 c2 c3 m2⟩
  · obtain ⟨σ2, m1, m2⟩ := r_X10_fill (σ := σ) hv ha
    exact ⟨_, _, _, f_X9_fill h.sr.2 ha, m1, h.q (ScC.rf σ) m2⟩
set_option maxRecDepth 100000 in
set_option maxHeartbeats 4000000 in
theorem s_fit {σ : St} (h : RR σ) {g : Int32} : ∃ rr σ1 σ2, Ct yX9_fit M_X9_fit [.ref 0, .int g] σ (some (.int rr), σ1) ∧ Ct yX10_fit M_X10_fit [.ref 18, .int g] σ1 (some (.int rr), σ2) ∧ RR σ2 := by
  have hv := h.sr.2.2.2
  have h6 := hv.c6
  obtain ⟨U, t, u1, u2⟩ := h.hi
  by_cases ha : grS (σ.1 19) g ∧ ¬ σ.1 19 (2 + 6 * g.toNatClampNeg) = -1
  · obtain ⟨G, hG, rfl⟩ := grS_nat hv ha.1
    have hp := ha.2
    rw [nI_clamp (by omega)] at hp
    obtain ⟨σ1, c1, c2, c3, c4⟩ := d_X9_fit h.sr h.sh u1 hG hp
    have e19 : σ1.1 19 = σ.1 19 := funext fun b => c4.1 19 b (by decide) (fun s _ q => by unfold Own at q; omega)
    have e183 : σ1.1 18 3 = nI U := (c4.1 18 3 (by decide) (fun s _ q => by unfold Own at q; omega)).trans u2.1
    have m0 := a_X10_fit (σ := σ1) (G := G) (by rw [e19]; exact hv) (by rw [e19]; exact hG) (by rw [e19]; exact hp) e183 u2.2.1
    obtain ⟨σ2, m1, m2⟩ := m0
    rw [e19] at m1 m2
    exact ⟨_, _, _, c1, m1, h.deed u2 c4 c2 c3 m2⟩
  · obtain ⟨σ2, m1, m2⟩ := r_X10_fit (σ := σ) hv ha
    exact ⟨_, _, _, f_X9_fit h.sr.2 ha, m1, h.q (ScC.rf σ) m2⟩
set_option maxRecDepth 100000 in
set_option maxHeartbeats 4000000 in
theorem s_drop {σ : St} (h : RR σ) {g : Int32} : ∃ rr σ1 σ2, Ct yX9_drop M_X9_drop [.ref 0, .int g] σ (some (.int rr), σ1) ∧ Ct yX10_drop M_X10_drop [.ref 18, .int g] σ1 (some (.int rr), σ2) ∧ RR σ2 := by
  have hv := h.sr.2.2.2
  have h6 := hv.c6
  obtain ⟨U, t, u1, u2⟩ := h.hi
  by_cases ha : grS (σ.1 19) g ∧ chN (σ.1 19) g (cN (σ.1 19)) = 0
  · obtain ⟨G, hG, rfl⟩ := grS_nat hv ha.1
    obtain ⟨σ1, c1, c2, c3, c4⟩ := d_X9_drop h.sr h.sh u1 hG ha.2
    have e19 : σ1.1 19 = σ.1 19 := funext fun b => c4.1 19 b (by decide) (fun s _ q => by unfold Own at q; omega)
    have e183 : σ1.1 18 3 = nI U := (c4.1 18 3 (by decide) (fun s _ q => by unfold Own at q; omega)).trans u2.1
    have m0 := a_X10_drop (σ := σ1) (G := G) (by rw [e19]; exact hv) (by rw [e19]; exact hG) (by rw [e19]; exact ha.2) e183 u2.2.1
    obtain ⟨σ2, m1, m2⟩ := m0
    rw [e19] at m1 m2
    exact ⟨_, _, _, c1, m1, h.deed u2 c4 c2 c3 m2⟩
  · obtain ⟨σ2, m1, m2⟩ := r_X10_drop (σ := σ) hv ha
    exact ⟨_, _, _, f_X9_drop h.sr.2 ha, m1, h.q (ScC.rf σ) m2⟩
set_option maxRecDepth 100000 in
set_option maxHeartbeats 4000000 in
theorem s_rule {σ : St} (h : RR σ) {x : Int32} : ∃ rr σ1 σ2, Ct yX9_rule M_X9_rule [.ref 0, .int x] σ (some (.int rr), σ1) ∧ Ct yX10_rule M_X10_rule [.ref 18, .int x] σ1 (some (.int rr), σ2) ∧ RR σ2 := by
  have hv := h.sr.2.2.2
  have h6 := hv.c6
  obtain ⟨U, t, u1, u2⟩ := h.hi
  by_cases ha : 0 ≤ x ∧ x < 3
  · skip
    obtain ⟨σ1, c1, c2, c3, c4⟩ := d_X9_rule h.sr h.sh u1 ha
    have e19 : σ1.1 19 = σ.1 19 := funext fun b => c4.1 19 b (by decide) (fun s _ q => by unfold Own at q; omega)
    have e183 : σ1.1 18 3 = nI U := (c4.1 18 3 (by decide) (fun s _ q => by unfold Own at q; omega)).trans u2.1
    have m0 := a_X10_rule (σ := σ1) (x := x) ha e183 u2.2.1
    obtain ⟨σ2, m1, m2⟩ := m0
    rw [e19] at m1 m2
    exact ⟨_, _, _, c1, m1, h.deed u2 c4 c2 c3 m2⟩
  · obtain ⟨σ2, m1, m2⟩ := r_X10_rule (σ := σ) ha
    exact ⟨_, _, _, f_X9_rule h.sr.2 ha, m1, h.q (ScC.rf σ) m2⟩
set_option maxRecDepth 100000 in
set_option maxHeartbeats 4000000 in
theorem s_grid {σ : St} (h : RR σ) {p x y s c r : Int32} : ∃ rr σ1 σ2, Ct yX9_grid M_X9_grid [.ref 0, .int p, .int x, .int y, .int s, .int c, .int r] σ (some (.int rr), σ1) ∧ Ct yX10_grid M_X10_grid [.ref 18, .int p, .int x, .int y, .int s, .int c, .int r] σ1 (some (.int rr), σ2) ∧ RR σ2 := by
  have hv := h.sr.2.2.2
  have h6 := hv.c6
  obtain ⟨U, t, u1, u2⟩ := h.hi
  by_cases ha : gPar (σ.1 19) p ∧ gB x y s c r ∧ gMay (σ.1 19) p x y s c r ∧ cN (σ.1 19) < 6
  · obtain ⟨hp, hb, hm, hN6⟩ := ha
    obtain ⟨X, Y, S, C, R, rfl, rfl, rfl, rfl, rfl, hX, hY, hS1, hS, hC2, hC5, hR2, hR5, hw, hh⟩ := gB_nat hb
    unfold gMay at hm
    rw [nI_clamp (by omega), nI_clamp (by omega), nI_clamp (by omega), nI_clamp (by omega), nI_clamp (by omega)] at hm
    obtain ⟨σ1, c1, c2, c3, c4⟩ := d_X9_grid h.sr h.sh u1 hp hX hY hS1 hS hC2 hC5 hR2 hR5 hw hh hm hN6
    have e19 : σ1.1 19 = σ.1 19 := funext fun b => c4.1 19 b (by decide) (fun s _ q => by unfold Own at q; omega)
    have e183 : σ1.1 18 3 = nI U := (c4.1 18 3 (by decide) (fun s _ q => by unfold Own at q; omega)).trans u2.1
    have m0 := a_X10_grid (σ := σ1) (p := p) (X := X) (Y := Y) (S := S) (C := C) (R := R) (by rw [e19]; exact hv) (by rw [e19]; exact hp) hX hY hS1 hS hC2 hC5 hR2 hR5 hw hh (by rw [e19]; exact hm) (by rw [e19]; exact hN6) e183 u2.2.1
    obtain ⟨σ2, m1, m2⟩ := m0
    rw [e19] at m1 m2
    exact ⟨_, _, _, c1, m1, h.deed u2 c4 c2 c3 m2⟩
  · obtain ⟨σ2, m1, m2⟩ := r_X10_grid (σ := σ) hv ha
    exact ⟨_, _, _, f_X9_grid h.sr.2 ha, m1, h.q (ScC.rf σ) m2⟩
