/-! ===== sheets apart ===== -/
def Own (s a : Nat) : Prop := a = 29 + 2 * s ∨ a = 29 + 2 * s + 1 ∨ (67 + 12 * s ≤ a ∧ a < 79 + 12 * s)
def Sh (σ : St) (s : Nat) : Prop := s < 19 ∧ (∀ g, g < 6 → ∃ i, i < 6 ∧ σ.2.2 (29 + 2 * s + 1) g = 67 + 12 * s + 2 * i) ∧ ∀ g g', g < 6 → g' < 6 → σ.2.2 (29 + 2 * s + 1) g = σ.2.2 (29 + 2 * s + 1) g' → g = g'
/-- sheet s is the row w -/
def SR (σ : St) (s : Nat) (w : Nat → Int32) : Prop := Sh σ s ∧ Rp σ (29 + 2 * s) w
/-- only sheet s has changed -/
def ChS (σ σ' : St) (s : Nat) : Prop := (∀ a b, ¬ Own s a → σ'.1 a b = σ.1 a b) ∧ σ'.2.1 = σ.2.1 ∧ ∀ a b, a ≠ 29 + 2 * s + 1 → σ'.2.2 a b = σ.2.2 a b
theorem is_sh {s : Nat} (h : s < 19) : Is (29 + 2 * s) 0 7 := ⟨by omega, by unfold lay; rw [if_neg (by omega), if_pos (by omega), if_pos (by omega)]⟩
theorem is_ga {s : Nat} (h : s < 19) : Is (29 + 2 * s + 1) 4 6 := ⟨by omega, by unfold lay; rw [if_neg (by omega), if_pos (by omega), if_neg (by omega)]⟩
theorem is_gr {s i : Nat} (h : s < 19) (hi : i < 6) : isG (67 + 12 * s + 2 * i) := ⟨⟨by omega, by unfold lay; rw [if_neg (by omega), if_neg (by omega), if_pos (by omega)]⟩, ⟨by omega, by unfold lay; rw [if_neg (by omega), if_neg (by omega), if_neg (by omega)]⟩⟩
theorem Sh.F {σ : St} {s : Nat} (h : Sh σ s) : ShF σ (29 + 2 * s) := by
  refine ⟨is_sh h.1, is_ga h.1, fun g hg => ?_⟩
  obtain ⟨i, hi, e⟩ := h.2.1 g hg
  rw [e]
  exact is_gr h.1 hi
theorem Sh.frame {σ σ' : St} {s : Nat} (h : Sh σ s) (h2 : ∀ b, σ'.2.2 (29 + 2 * s + 1) b = σ.2.2 (29 + 2 * s + 1) b) : Sh σ' s := by
  refine ⟨h.1, fun g hg => by rw [h2]; exact h.2.1 g hg, fun g g' hg hg' e => h.2.2 g g' hg hg' ?_⟩
  rw [h2, h2] at e
  exact e
theorem SR.frame {σ σ' : St} {s : Nat} {w : Nat → Int32} (h : SR σ s w) (h1 : ∀ a b, Own s a → σ'.1 a b = σ.1 a b) (h2 : ∀ b, σ'.2.2 (29 + 2 * s + 1) b = σ.2.2 (29 + 2 * s + 1) b) : SR σ' s w := by
  obtain ⟨hs, hF, ⟨b1, b2, b3⟩, hv⟩ := h
  have h6 := hv.c6
  refine ⟨hs.frame h2, (hs.frame h2).F, ⟨by rw [h1 _ _ (Or.inl rfl)]; exact b1, by rw [h1 _ _ (Or.inl rfl)]; exact b2, fun g hg => ?_⟩, hv⟩
  obtain ⟨c1, c2⟩ := b3 g hg
  obtain ⟨i, hi, e⟩ := hs.2.1 g (by omega)
  rw [h2]
  rw [e] at c1 c2 ⊢
  exact ⟨fun e he => by rw [h1 _ _ (Or.inr (Or.inr (by omega)))]; exact c1 e he, fun c r w hc hr hw => by rw [h1 _ _ (Or.inr (Or.inr (by omega)))]; exact c2 c r w hc hr hw⟩
theorem own_ne {s t a : Nat} (hs : s < 19) (ht : t < 19) (h : s ≠ t) (ha : Own t a) : ¬ Own s a := by
  unfold Own at *
  omega
theorem ChS.other {σ σ' : St} {s t : Nat} {w : Nat → Int32} (h : ChS σ σ' s) (hs : s < 19) (hst : s ≠ t) (ht : SR σ t w) : SR σ' t w :=
  ht.frame (fun a b ha => h.1 a b (own_ne hs ht.1.1 hst ha)) (fun b => h.2.2 _ b (by omega))
theorem ChS.sh {σ σ' : St} {s t : Nat} (h : ChS σ σ' s) (hst : s ≠ t) (ht : Sh σ t) : Sh σ' t := ht.frame (fun b => h.2.2 _ b (by omega))
theorem ChS.rf (σ : St) (s : Nat) : ChS σ σ s := ⟨fun _ _ _ => rfl, rfl, fun _ _ _ => rfl⟩
theorem ChS.trans {a b c : St} {s : Nat} (h : ChS a b s) (h2 : ChS b c s) : ChS a c s := ⟨fun k j hk => (h2.1 k j hk).trans (h.1 k j hk), h2.2.1.trans h.2.1, fun k j hk => (h2.2.2 k j hk).trans (h.2.2 k j hk)⟩
theorem ChS.pI {σ τ : St} {s : Nat} (h : ChS σ τ s) {k : Nat} (j : Nat) (x : Int32) (hk : Own s k) : ChS σ (pI τ k j x) s := by
  refine ⟨fun a b ha => ?_, h.2.1, h.2.2⟩
  rw [pI_ne (fun q => ha (by rw [q]; exact hk))]
  exact h.1 a b ha
theorem ChS.pA {σ τ : St} {s : Nat} (h : ChS σ τ s) {k : Nat} (f : Nat → Int32) (hk : Own s k) : ChS σ (pA τ k f) s := by
  refine ⟨fun a b ha => ?_, h.2.1, h.2.2⟩
  rw [pA_ne (fun q => ha (by rw [q]; exact hk))]
  exact h.1 a b ha
theorem plS_ne {σ : St} {q x : Nat} {a b c d e f : Int32} (h : x ≠ q) : (plS σ q a b c d e f).1 x = σ.1 x := by
  unfold plS
  rw [pI_ne h, pI_ne h, pI_ne h, pI_ne h, pI_ne h, pI_ne h]
theorem ChS.plS {σ τ : St} {s q : Nat} (h : ChS σ τ s) {a b c d e f : Int32} (hk : Own s q) : ChS σ (plS τ q a b c d e f) s := (((((h.pI _ _ hk).pI _ _ hk).pI _ _ hk).pI _ _ hk).pI _ _ hk).pI _ _ hk
theorem cpG_o {σ : St} {q q2 b : Nat} (h : q2 + 1 ≠ q) (hb : b < 50) : (cpG σ q q2).1 (q + 1) b = σ.1 (q2 + 1) b := by
  unfold cpG
  rw [pA_at]
  unfold va_cpy
  rw [if_pos ⟨by omega, by omega⟩, plS_ne h, Nat.zero_add, Nat.sub_zero]
theorem plS_f {σ : St} {q e : Nat} {f : Nat → Int32} (he : e < 6) : (plS σ q (f 1) (f 2) (f 3) (f 4) (f 5) (f 6)).1 q (1 + e) = f (1 + e) := by
  match e, he with
  | 0, _ => simp [plS, pI_app]
  | 1, _ => simp [plS, pI_app]
  | 2, _ => simp [plS, pI_app]
  | 3, _ => simp [plS, pI_app]
  | 4, _ => simp [plS, pI_app]
  | 5, _ => simp [plS, pI_app]
theorem cpG_f {σ : St} {q q2 e : Nat} (he : e < 6) : (cpG σ q q2).1 q (1 + e) = σ.1 q2 (1 + e) := by
  unfold cpG
  rw [pA_ne (by omega)]
  exact plS_f (f := σ.1 q2) he
theorem cpG_ne {σ : St} {q q2 x : Nat} (h : x ≠ q) (h2 : x ≠ q + 1) : (cpG σ q q2).1 x = σ.1 x := by
  unfold cpG
  rw [pA_ne h2, plS_ne h]
theorem cpG_ch {σ τ : St} {s i q2 : Nat} (h : ChS σ τ s) (hi : i < 6) : ChS σ (cpG τ (67 + 12 * s + 2 * i) q2) s := by
  unfold cpG
  exact (h.plS (Or.inr (Or.inr (by omega)))).pA _ (Or.inr (Or.inr (by omega)))
theorem cpG_gr {τ : St} {q q2 g : Nat} {w : Nat → Int32} (h : q2 + 1 ≠ q) (hf : OkF w g) (hr : GRep τ q2 w g) : GRep (cpG τ q q2) q w g := by
  obtain ⟨-, s1, s64, c2, c5, r2, r5, b1, b2⟩ := id hf
  exact ⟨fun e he => by rw [cpG_f he]; exact hr.1 e he, fun c r w hc hr0 hw => by rw [cpG_o h (by omega)]; exact hr.2 c r w hc hr0 hw⟩
theorem cpG_go {τ : St} {q q2 q3 g : Nat} {w : Nat → Int32} (h1 : q3 ≠ q) (h2 : q3 ≠ q + 1) (h3 : q3 + 1 ≠ q) (hr : GRep τ q3 w g) : GRep (cpG τ q q2) q3 w g :=
  ⟨fun e he => by rw [cpG_ne h1 h2]; exact hr.1 e he, fun c r w hc hr0 hw => by rw [cpG_ne h3 (by omega)]; exact hr.2 c r w hc hr0 hw⟩
set_option maxRecDepth 100000 in
set_option maxHeartbeats 4000000 in
theorem l_X8_copyFrom {σ : St} {s t : Nat} {w : Nat → Int32} (hs : Sh σ s) (ht : SR σ t w) (hst : s ≠ t) : ∀ (n g : Nat) (D : Option Value) (τ : St), g + n = cN w → ChS σ τ s → τ.2.2 = σ.2.2 → τ.1 (29 + 2 * s) 1 = w 0 → τ.1 (29 + 2 * s) 2 = w 1 → (∀ g', g' < g → GRep τ (σ.2.2 (29 + 2 * s + 1) g') w g') → ∃ τ', Ex M_X8_copyFrom (none, τ') 23 [some (.ref (29 + 2 * s)), some (.ref (29 + 2 * t)), some (.int (nI g)), D] [] τ ∧ ChS σ τ' s ∧ τ'.2.2 = σ.2.2 ∧ SR τ' s w := by
  have hv := ht.2.2.2
  have h6 := hv.c6
  intro n
  induction n with
  | zero =>
    intro g D τ hg hC h2 e1 e2 hA
    obtain rfl : g = cN w := by omega
    have hS : Sh τ s := hs.frame (fun b => by rw [h2])
    have hk0 := is_sh hs.1
    refine ⟨τ, ?_, hC, h2, hS, hS.F, ⟨e1, e2, fun g hg => by rw [h2]; exact hA g hg⟩, hv⟩
    refine x_iload_n (pc' := 24) rfl dX8_copyFrom_23 rfl ?_
    refine x_aload_n (pc' := 25) rfl dX8_copyFrom_24 rfl ?_
    refine x_get (v := .int _) (pc' := 28) fk_X8_18 (by first | assumption | exact ⟨by decide, rfl⟩) rfl dX8_copyFrom_25 rfl ?_
    refine x_icmp_ge (tgt := 56) (pc' := 31) (by decide) dX8_copyFrom_28 rfl (fun c28 => ?_) (fun c28 => absurd (by rw [e1, hv.c0]; exact nI_le (Nat.le_refl _) (by omega)) c28)
    exact x_vret rfl dX8_copyFrom_56 rfl
  | succ n ih =>
    intro g D τ hg hC h2 e1 e2 hA
    have hS : Sh τ s := hs.frame (fun b => by rw [h2])
    have hT : SR τ t w := hC.other hs.1 hst ht
    have hk0 := is_sh hs.1
    have hk1 := is_sh ht.1.1
    obtain ⟨i, hi, ei⟩ := hs.2.1 g (by omega)
    obtain ⟨i2, hi2, ei2⟩ := hT.1.2.1 g (by omega)
    obtain ⟨hq2, hr2, hf, -⟩ := hT.2.g (g := g) (by omega)
    have hq := hS.F.2.2 g (by omega)
    have ht19 := ht.1.1
    have hs19 := hs.1
    rw [ei2] at hr2 hq2
    have hq' : isG (τ.2.2 (29 + 2 * s + 1) g) := hq
    rw [h2, ei] at hq
    obtain ⟨hq0, -⟩ := id hq
    obtain ⟨τ', hE, r1⟩ := ih (g + 1) (some (.ref (67 + 12 * s + 2 * i))) (cpG τ (67 + 12 * s + 2 * i) (67 + 12 * t + 2 * i2)) (by omega) (cpG_ch hC hi) h2 (by rw [cpG_ne (by omega) (by omega)]; exact e1) (by rw [cpG_ne (by omega) (by omega)]; exact e2) (fun g' hg' => by
      by_cases e : g' = g
      · subst e
        rw [ei]
        exact cpG_gr (by omega) hf hr2
      · obtain ⟨i', hi', ei'⟩ := hs.2.1 g' (by omega)
        have hne : σ.2.2 (29 + 2 * s + 1) g' ≠ σ.2.2 (29 + 2 * s + 1) g := fun q => e (hs.2.2 g' g (by omega) (by omega) q)
        rw [ei, ei'] at hne
        have := hA g' (by omega)
        rw [ei'] at this ⊢
        exact cpG_go hne (by omega) (by omega) this)
    refine ⟨τ', ?_, r1⟩
    refine x_iload_n (pc' := 24) rfl dX8_copyFrom_23 rfl ?_
    refine x_aload_n (pc' := 25) rfl dX8_copyFrom_24 rfl ?_
    refine x_get (v := .int _) (pc' := 28) fk_X8_18 (by first | assumption | exact ⟨by decide, rfl⟩) rfl dX8_copyFrom_25 rfl ?_
    refine x_icmp_ge (tgt := 56) (pc' := 31) (by decide) dX8_copyFrom_28 rfl (fun c28 => absurd c28 (by rw [e1, hv.c0]; exact nI_ge (by omega) (by omega))) (fun c28 => ?_)
    refine x_aload_n (pc' := 32) rfl dX8_copyFrom_31 rfl ?_
    refine x_iload_n (pc' := 33) rfl dX8_copyFrom_32 rfl ?_
    refine x_callVi (As := [.int _]) (rest := []) (ci := 7) (pc' := 36) rfl vk_X8_25 mk_X8_at (by decide) (by first | assumption | exact ⟨by decide, rfl⟩) (by decide) rfl (Nat.le_of_ble_eq_true rfl) dX8_copyFrom_33 rfl (t_X8_at hS.F (e1.trans hv.c0) h6 rfl (by omega)) ?_
    refine x_topr (y := 67 + 12 * s + 2 * i) (by rw [h2, ei]) ?_
    refine x_astore_n (lv' := [_, _, _, _]) (pc' := 37) (by decide) rfl dX8_copyFrom_36 rfl ?_
    refine x_aload_n (pc' := 38) rfl dX8_copyFrom_37 rfl ?_
    refine x_ifnull (pc' := 41) dX8_copyFrom_38 rfl ?_
    refine x_aload_n (pc' := 42) rfl dX8_copyFrom_41 rfl ?_
    refine x_aload_n (pc' := 43) rfl dX8_copyFrom_42 rfl ?_
    refine x_iload_n (pc' := 44) rfl dX8_copyFrom_43 rfl ?_
    refine x_callVi (As := [.int _]) (rest := [.ref _]) (ci := 7) (pc' := 47) rfl vk_X8_25 mk_X8_at (by decide) (by first | assumption | exact ⟨by decide, rfl⟩) (by decide) rfl (Nat.le_of_ble_eq_true rfl) dX8_copyFrom_44 rfl (t_X8_at hT.1.F hT.2.n h6 rfl (by omega)) ?_
    refine x_topr (y := 67 + 12 * t + 2 * i2) ei2 ?_
    refine x_callVv (As := [.ref _]) (rest := []) (ci := 3) (pc' := 50) rfl vk_X8_29 mk_X4_copyFrom (by decide) (by first | assumption | exact ⟨by decide, rfl⟩) (by decide) rfl (Nat.le_of_ble_eq_true rfl) dX8_copyFrom_47 rfl (c_X4_copyFrom hq hq2) ?_
    refine x_iinc (lv' := [_, _, _, _]) (pc' := 53) rfl (nI_1 g) (by decide) rfl dX8_copyFrom_50 rfl ?_
    refine x_goto (tgt := 23) (by decide) dX8_copyFrom_53 ?_
    exact hE
set_option maxRecDepth 100000 in
set_option maxHeartbeats 4000000 in
theorem c_X8_copyFrom {σ : St} {s t : Nat} {w : Nat → Int32} (hs : Sh σ s) (ht : SR σ t w) (hst : s ≠ t) : ∃ τ', Ct yX8_copyFrom M_X8_copyFrom [.ref (29 + 2 * s), .ref (29 + 2 * t)] σ (none, τ') ∧ ChS σ τ' s ∧ τ'.2.2 = σ.2.2 ∧ SR τ' s w := by
  have hk0 := is_sh hs.1
  have hk1 := is_sh ht.1.1
  have hC : ChS σ (pI (pI σ (29 + 2 * s) 1 (w 0)) (29 + 2 * s) 2 (w 1)) s := ((ChS.rf σ s).pI _ _ (Or.inl rfl)).pI _ _ (Or.inl rfl)
  obtain ⟨τ', hE, r1⟩ := l_X8_copyFrom hs ht hst (cN w) 0 none _ (Nat.zero_add _) hC rfl (by rw [pI_app, if_neg (by omega), pI_app, if_pos ⟨rfl, rfl⟩]) (by rw [pI_app, if_pos ⟨rfl, rfl⟩]) (fun g' hg' => absurd hg' (by omega))
  refine ⟨τ', ?_, r1⟩
  refine ct_of (k := 2) rfl rfl rfl (Nat.le_of_ble_eq_true rfl) ?_
  refine x_aload_n (pc' := 1) rfl dX8_copyFrom_0 rfl ?_
  refine x_ifnonnull (tgt := 5) (by decide) dX8_copyFrom_1 ?_
  refine x_aload_n (pc' := 6) rfl dX8_copyFrom_5 rfl ?_
  refine x_aload_n (pc' := 7) rfl dX8_copyFrom_6 rfl ?_
  refine x_get (v := .int _) (pc' := 10) fk_X8_18 (by first | assumption | exact ⟨by decide, rfl⟩) rfl dX8_copyFrom_7 rfl ?_
  refine x_top ht.2.2.1.1 ?_
  refine x_puti (pc' := 13) fk_X8_18 pk_7_1 rfl (by first | assumption | exact ⟨by decide, rfl⟩) dX8_copyFrom_10 rfl ?_
  refine x_aload_n (pc' := 14) rfl dX8_copyFrom_13 rfl ?_
  refine x_aload_n (pc' := 15) rfl dX8_copyFrom_14 rfl ?_
  refine x_get (v := .int _) (pc' := 18) fk_X8_22 (by first | assumption | exact ⟨by decide, rfl⟩) rfl dX8_copyFrom_15 rfl ?_
  refine x_top (y := w 1) (by rw [pI_ne (by omega)]; exact ht.2.2.1.2.1) ?_
  refine x_puti (pc' := 21) fk_X8_22 pk_7_2 rfl (by first | assumption | exact ⟨by decide, rfl⟩) dX8_copyFrom_18 rfl ?_
  refine x_iconst (v := 0) (pc' := 22) (by decide) dX8_copyFrom_21 rfl ?_
  refine x_istore_n (lv' := [_, _, _, _]) (pc' := 23) (by decide) rfl dX8_copyFrom_22 rfl ?_
  exact hE
theorem SR.off {σ : St} {s G : Nat} {v v' f : Nat → Int32} (h : SR σ s v) (hG : G < cN v) (hv' : Ok v') (hlo : ∀ j, j < 38 → v' j = v j) (ho : ∀ g c r w, g ≠ G → g < cN v → c < fN v g 4 → r < fN v g 5 → w < 2 → oV v' g c r w = oV v g c r w) (hf : ∀ c r w, c < fN v G 4 → r < fN v G 5 → w < 2 → f (2 * (5 * r + c) + w) = oV v' G c r w) : SR (pA σ (σ.2.2 (29 + 2 * s + 1) G + 1) f) s v' ∧ ChS σ (pA σ (σ.2.2 (29 + 2 * s + 1) G + 1) f) s := by
  obtain ⟨hs, hF, ⟨b1, b2, b3⟩, hv⟩ := h
  have h6 := hv.c6
  have hs19 := hs.1
  obtain ⟨i, hi, ei⟩ := hs.2.1 G (by omega)
  rw [ei]
  refine ⟨⟨hs, hF, ⟨?_, ?_, fun g hg => ?_⟩, hv'⟩, (ChS.rf σ s).pA _ (Or.inr (Or.inr (by omega)))⟩
  · rw [pA_ne (by omega), hlo 0 (by decide)]; exact b1
  · rw [pA_ne (by omega), hlo 1 (by decide)]; exact b2
  · rw [lo_cN hlo] at hg
    obtain ⟨c1, c2⟩ := b3 g hg
    obtain ⟨i', hi', ei'⟩ := hs.2.1 g (by omega)
    show GRep _ (σ.2.2 (29 + 2 * s + 1) g) v' g
    rw [ei'] at c1 c2 ⊢
    refine ⟨fun e he => by rw [pA_ne (by omega), hlo _ (by omega)]; exact c1 e he, fun c r w hc hr hw => ?_⟩
    rw [lo_fN hlo (by omega) (by decide)] at hc hr
    by_cases e : g = G
    · subst e
      rw [ei] at ei'
      rw [ei', pA_at]
      exact hf c r w hc hr hw
    · have hne : σ.2.2 (29 + 2 * s + 1) g ≠ σ.2.2 (29 + 2 * s + 1) G := fun q => e (hs.2.2 g G (by omega) (by omega) q)
      rw [ei] at hne
      rw [pA_ne (by
        intro q
        apply hne
        have := hs.2.1 g (by omega)
        obtain ⟨i2, _, e2⟩ := this
        rw [e2]
        omega)]
      rw [ho g c r w e hg hc hr hw]
      exact c2 c r w hc hr hw
theorem oV_set2 {v : Nat → Int32} {G K R g c r w : Nat} {a b : Int32} (hK : K < 5) (hR : R < 5) (hc : c < 5) (hr : r < 5) (hw : w < 2) (h : g ≠ G) : oV (set2 v (ndI G K R) a b) g c r w = oV v g c r w := by
  unfold oV ndI
  rw [set2_app, if_neg (by omega), if_neg (by omega)]
/-- what an array of offsets and a row have in common -/
def Agr (f v : Nat → Int32) (G C R : Nat) : Prop := ∀ c r w, c < C → r < R → w < 2 → f (2 * (5 * r + c) + w) = oV v G c r w
theorem Agr.set {f v : Nat → Int32} {G C R K L : Nat} (h : Agr f v G C R) (a b : Int32) : Agr (set2 f (2 * (5 * L + K)) a b) (set2 v (ndI G K L) a b) G C R := by
  intro c r w hc hr hw
  have h0 := h c r w hc hr hw
  unfold oV ndI at *
  rw [set2_app, set2_app]
  by_cases e1 : 2 * (5 * r + c) + w = 2 * (5 * L + K) + 1
  · rw [if_pos e1, if_pos (by omega)]
  · rw [if_neg e1, if_neg (c := 38 + 50 * G + 2 * (5 * r + c) + w = 38 + 50 * G + 2 * (5 * L + K) + 1) (by omega)]
    by_cases e2 : 2 * (5 * r + c) + w = 2 * (5 * L + K)
    · rw [if_pos e2, if_pos (by omega)]
    · rw [if_neg e2, if_neg (by omega)]
      exact h0
theorem Agr.cg {f v : Nat → Int32} {G C R K L : Nat} (h : Agr f v G C R) (hK : K < C) (hL : L < R) (a b : Int32) : chg f (2 * (5 * L + K)) a b = chg v (ndI G K L) a b := by
  have h0 := h K L 0 hK hL (by decide)
  have h1 := h K L 1 hK hL (by decide)
  unfold oV at h0 h1
  unfold chg ndI
  rw [h1, show f (2 * (5 * L + K)) = v (38 + 50 * G + 2 * (5 * L + K)) from h0]
theorem SR.agr {σ : St} {s G : Nat} {v : Nat → Int32} (h : SR σ s v) (hG : G < cN v) : Agr (σ.1 (σ.2.2 (29 + 2 * s + 1) G + 1)) v G (fN v G 4) (fN v G 5) := (h.2.2.1.2.2 G hG).2
theorem fl_agr {f v : Nat → Int32} {G C R : Nat} (h : Agr f v G C R) (dx dy : Int32) : ∀ k, Agr (fcV f C dx dy k) (flV v C G dx dy k) G C R
  | 0 => h
  | k + 1 => (fl_agr h dx dy k).set dx dy
theorem fl_n {f v : Nat → Int32} {G C R : Nat} (hC : 0 < C) (h : Agr f v G C R) (dx dy : Int32) : ∀ n, n ≤ C * R → fcN f C dx dy n = flN v C G dx dy n := by
  intro n hn
  refine sumN_c n (fun k hk => ?_)
  exact (fl_agr h dx dy k).cg (Nat.mod_lt _ hC) (Nat.div_lt_of_lt_mul (by omega)) dx dy
theorem fl_ok {v : Nat → Int32} (hv : Ok v) (C G : Nat) {dx dy : Int32} (hx : Sm dx) (hy : Sm dy) : ∀ k, Ok (flV v C G dx dy k)
  | 0 => hv
  | k + 1 => Ok_set2 (fl_ok hv C G hx hy k) hx hy
theorem fl_oV {v : Nat → Int32} {C R G g c r w : Nat} (dx dy : Int32) (hC0 : 0 < C) (hC : C ≤ 5) (hR : R ≤ 5) (hc : c < 5) (hr : r < 5) (hw : w < 2) (h : g ≠ G) : ∀ k, k ≤ C * R → oV (flV v C G dx dy k) g c r w = oV v g c r w
  | 0, _ => rfl
  | k + 1, hk => by
    have h1 := Nat.mod_lt k hC0
    have h2 : k / C < R := Nat.div_lt_of_lt_mul (by omega)
    rw [flV, oV_set2 (by omega) (by omega) hc hr hw h]
    exact fl_oV dx dy hC0 hC hR hc hr hw h k (by omega)
