/-! ===== a grid less ===== -/
def sG (G g : Nat) : Nat := if g < G then g else g + 1
def rotP (G N b : Nat) : Nat := if b = N - 1 then G else if G ≤ b ∧ b < N - 1 then b + 1 else b
theorem rot_lt {G N b : Nat} (hG : G < N) (hN : N ≤ 6) (hb : b < 6) : rotP G N b < 6 := by
  unfold rotP
  split
  · omega
  · split <;> omega
theorem rot_inj {G N a b : Nat} (hG : G < N) (h : rotP G N a = rotP G N b) : a = b := by
  unfold rotP at h
  by_cases a1 : a = N - 1
  · rw [if_pos a1] at h
    by_cases b1 : b = N - 1
    · omega
    · rw [if_neg b1] at h
      by_cases b2 : G ≤ b ∧ b < N - 1
      · rw [if_pos b2] at h
        omega
      · rw [if_neg b2] at h
        omega
  · rw [if_neg a1] at h
    by_cases b1 : b = N - 1
    · rw [if_pos b1] at h
      by_cases a2 : G ≤ a ∧ a < N - 1
      · rw [if_pos a2] at h
        omega
      · rw [if_neg a2] at h
        omega
    · rw [if_neg b1] at h
      by_cases a2 : G ≤ a ∧ a < N - 1
      · rw [if_pos a2] at h
        by_cases b2 : G ≤ b ∧ b < N - 1
        · rw [if_pos b2] at h
          omega
        · rw [if_neg b2] at h
          omega
      · rw [if_neg a2] at h
        by_cases b2 : G ≤ b ∧ b < N - 1
        · rw [if_pos b2] at h
          omega
        · rw [if_neg b2] at h
          omega
theorem rot_s {G N g : Nat} (hG : G < N) (hg : g < N - 1) : rotP G N g = sG G g := by
  unfold rotP sG
  rw [if_neg (by omega)]
  by_cases h : g < G
  · rw [if_pos h, if_neg (by omega)]
  · rw [if_neg h, if_pos (by omega)]
theorem dI_f (w : Nat → Int32) (G : Nat) : ∀ n, G + n ≤ 5 → ∀ g e, e < 6 → g < 6 → dIt w G n (2 + 6 * g + e) = if G ≤ g ∧ g < G + n then w (2 + 6 * (g + 1) + e) else w (2 + 6 * g + e)
  | 0, _, g, e, _, _ => by rw [if_neg (by omega)]; rfl
  | n + 1, hn, g, e, he, hg => by
    rw [dIt]
    unfold d2P
    rw [if_neg (by omega)]
    unfold d1P
    by_cases h : g = G + n
    · rw [if_pos (by omega), show 2 + 6 * g + e + 6 = 2 + 6 * (g + 1) + e by omega, dI_f w G n (by omega) (g + 1) e he (by omega), if_neg (by omega), if_pos (by omega)]
    · rw [if_neg (by omega), dI_f w G n (by omega) g e he hg]
      by_cases h2 : G ≤ g ∧ g < G + n
      · rw [if_pos h2, if_pos (by omega)]
      · rw [if_neg h2, if_neg (by omega)]
theorem dI_o (w : Nat → Int32) (G : Nat) : ∀ n, G + n ≤ 5 → ∀ g x, x < 50 → g < 6 → dIt w G n (38 + 50 * g + x) = if G ≤ g ∧ g < G + n then w (38 + 50 * (g + 1) + x) else w (38 + 50 * g + x)
  | 0, _, g, e, _, _ => by rw [if_neg (by omega)]; rfl
  | n + 1, hn, g, e, he, hg => by
    rw [dIt]
    unfold d2P
    by_cases h : g = G + n
    · rw [if_pos (by omega)]
      unfold d1P
      rw [if_neg (by omega), show 38 + 50 * g + e + 50 = 38 + 50 * (g + 1) + e by omega, dI_o w G n (by omega) (g + 1) e he (by omega), if_neg (by omega), if_pos (by omega)]
    · rw [if_neg (by omega)]
      unfold d1P
      rw [if_neg (by omega), dI_o w G n (by omega) g e he hg]
      by_cases h2 : G ≤ g ∧ g < G + n
      · rw [if_pos h2, if_pos (by omega)]
      · rw [if_neg h2, if_neg (by omega)]
theorem pIt_p (w : Nat → Int32) (G g : Nat) : ∀ n, pIt w G n (2 + 6 * g) = if g < n then lowP G (w (2 + 6 * g)) else w (2 + 6 * g)
  | 0 => by rw [if_neg (by omega)]; rfl
  | n + 1 => by
    rw [pIt, upd_app]
    by_cases h : g = n
    · subst h
      rw [if_pos rfl, if_pos (by omega), pIt_p w G g g, if_neg (by omega)]
    · rw [if_neg (by omega), pIt_p w G g n]
      by_cases h2 : g < n
      · rw [if_pos h2, if_pos (by omega)]
      · rw [if_neg h2, if_neg (by omega)]
theorem pIt_n (w : Nat → Int32) (G : Nat) {j : Nat} : ∀ n, (∀ g, g < n → j ≠ 2 + 6 * g) → pIt w G n j = w j
  | 0, _ => rfl
  | n + 1, h => by
    rw [pIt, upd_app, if_neg (h n (by omega))]
    exact pIt_n w G n (fun g hg => h g (by omega))
noncomputable def drW (v : Nat → Int32) (G : Nat) : Nat → Int32 := dIt (upd v 0 (nI (cN v - 1))) G (cN v - 1 - G)
theorem dw_f {v : Nat → Int32} {G g e : Nat} (hN : cN v ≤ 6) (hG : G < cN v) (hg : g < cN v - 1) (he : e < 6) : drW v G (2 + 6 * g + e) = v (2 + 6 * sG G g + e) := by
  unfold drW sG
  rw [dI_f _ G _ (by omega) g e he (by omega)]
  by_cases h : g < G
  · rw [if_neg (by omega), if_pos h, upd_app, if_neg (by omega)]
  · rw [if_pos (by omega), if_neg h, upd_app, if_neg (by omega)]
theorem dw_o {v : Nat → Int32} {G g x : Nat} (hN : cN v ≤ 6) (hG : G < cN v) (hg : g < cN v - 1) (hx : x < 50) : drW v G (38 + 50 * g + x) = v (38 + 50 * sG G g + x) := by
  unfold drW sG
  rw [dI_o _ G _ (by omega) g x hx (by omega)]
  by_cases h : g < G
  · rw [if_neg (by omega), if_pos h, upd_app, if_neg (by omega)]
  · rw [if_pos (by omega), if_neg h, upd_app, if_neg (by omega)]
theorem dr_lo {v : Nat → Int32} {G : Nat} : drpV v G 0 = nI (cN v - 1) ∧ drpV v G 1 = v 1 := by
  unfold drpV
  rw [pIt_lo _ G (by decide), pIt_lo _ G (by decide), dIt_lo _ G (by decide), dIt_lo _ G (by decide)]
  exact ⟨by rw [upd_app, if_pos rfl], by rw [upd_app, if_neg (by decide)]⟩
theorem dr_p {v : Nat → Int32} {G g : Nat} (hN : cN v ≤ 6) (hG : G < cN v) (hg : g < cN v - 1) : drpV v G (2 + 6 * g) = lowP G (v (2 + 6 * sG G g)) := by
  show pIt (drW v G) G (cN v - 1) (2 + 6 * g) = _
  rw [pIt_p, if_pos hg]
  exact congrArg _ (dw_f (e := 0) hN hG hg (by decide))
theorem dr_f {v : Nat → Int32} {G g e : Nat} (hN : cN v ≤ 6) (hG : G < cN v) (hg : g < cN v - 1) (h1 : 1 ≤ e) (he : e < 6) : drpV v G (2 + 6 * g + e) = v (2 + 6 * sG G g + e) := by
  show pIt (drW v G) G (cN v - 1) (2 + 6 * g + e) = _
  rw [pIt_n _ _ _ (fun k _ => by omega)]
  exact dw_f hN hG hg he
theorem dr_o {v : Nat → Int32} {G g c r w : Nat} (hN : cN v ≤ 6) (hG : G < cN v) (hg : g < cN v - 1) (hc : c < 5) (hr : r < 5) (hw : w < 2) : oV (drpV v G) g c r w = oV v (sG G g) c r w := by
  unfold oV
  show pIt (drW v G) G (cN v - 1) _ = _
  rw [pIt_n _ _ _ (fun k _ => by omega), show 38 + 50 * g + 2 * (5 * r + c) + w = 38 + 50 * g + (2 * (5 * r + c) + w) by omega, dw_o hN hG hg (by omega), ← Nat.add_assoc]
theorem dr_c {v : Nat → Int32} {G : Nat} (hN : cN v ≤ 6) : cN (drpV v G) = cN v - 1 := by
  rw [show cN (drpV v G) = (drpV v G 0).toNatClampNeg from rfl, dr_lo.1, nI_clamp (by omega)]
theorem dr_fN {v : Nat → Int32} {G g e : Nat} (hN : cN v ≤ 6) (hG : G < cN v) (hg : g < cN v - 1) (h1 : 1 ≤ e) (he : e < 6) : fN (drpV v G) g e = fN v (sG G g) e := by
  unfold fN
  rw [dr_f hN hG hg h1 he]
theorem ch_0 {v : Nat → Int32} {x : Int32} : ∀ n, chN v x n = 0 → ∀ k, k < n → ¬ v (2 + 6 * k) = x
  | 0, _, _, hk => absurd hk (by omega)
  | n + 1, h, k, hk => by
    have h' : chN v x n + pif (v (2 + 6 * n) = x) 1 0 = 0 := h
    by_cases e : k = n
    · subst e
      intro q
      rw [pif_t q] at h'
      omega
    · exact ch_0 n (by omega) k (by omega)
theorem sG_lt {G N g : Nat} (hG : G < N) (hg : g < N - 1) : sG G g < N := by
  unfold sG
  split <;> omega
theorem dr_ok {v : Nat → Int32} {G : Nat} (hv : Ok v) (hG : G < cN v) (hch : chN v (nI G) (cN v) = 0) : Ok (drpV v G) := by
  have h6 := hv.c6
  have er : rN (drpV v G) = rN v := by unfold rN; rw [dr_lo.2]
  refine ⟨by rw [dr_c h6]; exact dr_lo.1, by rw [dr_c h6]; omega, by rw [er, dr_lo.2]; exact hv.2.2.1, by rw [er]; exact hv.2.2.2.1, fun g hg => ?_⟩
  rw [dr_c h6] at hg
  have hs := sG_lt hG hg
  obtain ⟨o1, o2, o3⟩ := hv.2.2.2.2 _ hs
  obtain ⟨g6, c5, r5, k2, l2, s1, s64⟩ := hv.b hs
  have F : ∀ e, 1 ≤ e → e < 6 → fN (drpV v G) g e = fN v (sG G g) e := fun e h1 he => dr_fN h6 hG hg h1 he
  refine ⟨?_, ?_, ?_⟩
  · unfold OkP
    rw [dr_p h6 hG hg]
    rcases o1 with q | ⟨j, j1, j2, j3⟩
    · left
      rw [q]
      unfold lowP
      rw [pif_f]
      rw [sI_lt, nI_toInt (by omega)]
      have : (-1 : Int32).toInt = -1 := rfl
      omega
    · right
      have hjG : j ≠ G := fun q => ch_0 _ hch _ hs (by rw [j2, q])
      have hs2 := hs
      by_cases hlt : G < j
      · refine ⟨j - 1, ?_, ?_, ?_⟩
        · unfold sG at j1
          split at j1 <;> omega
        · rw [j2, lowP, pif_t ((nI_ltI (by omega) (by omega)).mpr hlt)]
          exact nI_m1 (by omega)
        · have hj' : j - 1 < cN v - 1 := by omega
          have ej : sG G (j - 1) = j := by unfold sG; rw [if_neg (by omega)]; omega
          have F2 : ∀ e, 1 ≤ e → e < 6 → fN (drpV v G) (j - 1) e = fN v j e := fun e h1 he => by rw [dr_fN h6 hG hj' h1 he, ej]
          unfold Ins at *
          rw [F 1 (by decide) (by decide), F 2 (by decide) (by decide), F 3 (by decide) (by decide), F 4 (by decide) (by decide), F 5 (by decide) (by decide), F2 1 (by decide) (by decide), F2 2 (by decide) (by decide), F2 3 (by decide) (by decide), F2 4 (by decide) (by decide), F2 5 (by decide) (by decide)]
          exact j3
      · refine ⟨j, ?_, ?_, ?_⟩
        · unfold sG at j1
          split at j1 <;> omega
        · rw [j2, lowP, pif_f (fun q => hlt ((nI_ltI (by omega) (by omega)).mp q))]
        · have hj' : j < cN v - 1 := by omega
          have ej : sG G j = j := by unfold sG; rw [if_pos (by omega)]
          have F2 : ∀ e, 1 ≤ e → e < 6 → fN (drpV v G) j e = fN v j e := fun e h1 he => by rw [dr_fN h6 hG hj' h1 he, ej]
          unfold Ins at *
          rw [F 1 (by decide) (by decide), F 2 (by decide) (by decide), F 3 (by decide) (by decide), F 4 (by decide) (by decide), F 5 (by decide) (by decide), F2 1 (by decide) (by decide), F2 2 (by decide) (by decide), F2 3 (by decide) (by decide), F2 4 (by decide) (by decide), F2 5 (by decide) (by decide)]
          exact j3
  · unfold OkF at *
    rw [F 1 (by decide) (by decide), F 2 (by decide) (by decide), F 3 (by decide) (by decide), F 4 (by decide) (by decide), F 5 (by decide) (by decide)]
    refine ⟨fun e h1 he => ?_, o2.2⟩
    rw [dr_f h6 hG hg h1 he, F e h1 he]
    exact o2.1 e h1 he
  · intro c r w hc hr hw
    rw [F 4 (by decide) (by decide)] at hc
    rw [F 5 (by decide) (by decide)] at hr
    rw [dr_o h6 hG hg (by omega) (by omega) hw]
    exact o3 c r w hc hr hw
def pR (σ : St) (f : Nat → Nat) : St := (σ.1, σ.2.1, fun a b => if a = 30 then f b else σ.2.2 a b)
theorem pR_at (σ : St) (f : Nat → Nat) : (pR σ f).2.2 30 = f := by
  funext b
  show (if 30 = 30 then f b else σ.2.2 30 b) = f b
  rw [if_pos rfl]
theorem pR_self (σ : St) : pR σ (σ.2.2 30) = σ := by
  refine Prod.ext rfl (Prod.ext rfl ?_)
  funext a b
  show (if a = 30 then σ.2.2 30 b else σ.2.2 a b) = σ.2.2 a b
  by_cases h : a = 30
  · rw [if_pos h, h]
  · rw [if_neg h]
theorem pR_put (σ : St) (f : Nat → Nat) (j x : Nat) : pP (pR σ f) 30 j x = pR σ (fun b => if b = j then x else f b) := by
  refine Prod.ext rfl (Prod.ext rfl ?_)
  funext a b
  show (if a = 30 ∧ b = j then x else if a = 30 then f b else σ.2.2 a b) = if a = 30 then (if b = j then x else f b) else σ.2.2 a b
  by_cases h : a = 30
  · rw [if_pos h, if_pos h]
    by_cases h2 : b = j
    · rw [if_pos ⟨h, h2⟩, if_pos h2]
    · rw [if_neg (fun q => h2 q.2), if_neg h2]
  · rw [if_neg (fun q => h q.1), if_neg h, if_neg h]
def shG (f : Nat → Nat) (G k b : Nat) : Nat := if G ≤ b ∧ b < G + k then f (b + 1) else f b
theorem shG_0 (f : Nat → Nat) (G : Nat) : shG f G 0 = f := funext fun b => if_neg (by omega)
theorem shG_s (f : Nat → Nat) (G k : Nat) : (fun b => if b = G + k then shG f G k (G + k + 1) else shG f G k b) = shG f G (k + 1) := by
  funext b
  unfold shG
  by_cases h : b = G + k
  · rw [if_pos h, if_neg (by omega), if_pos (by omega), h]
  · rw [if_neg h]
    by_cases h2 : G ≤ b ∧ b < G + k
    · rw [if_pos h2, if_pos (by omega)]
    · rw [if_neg h2, if_neg (by omega)]
theorem shG_rot (f : Nat → Nat) {G N : Nat} (hG : G < N) : (fun b => if b = N - 1 then f G else shG f G (N - 1 - G) b) = fun b => f (rotP G N b) := by
  funext b
  unfold shG rotP
  by_cases h : b = N - 1
  · rw [if_pos h, if_pos h]
  · rw [if_neg h, if_neg h]
    by_cases h2 : G ≤ b ∧ b < N - 1
    · rw [if_pos h2, if_pos (by omega)]
    · rw [if_neg h2, if_neg (by omega)]
theorem gr_upd {τ : St} {q g k : Nat} {u : Nat → Int32} {y : Int32} (h : GRep τ q u g) (hk : g ≠ k) (hk6 : k < 6) : GRep τ q (upd u (2 + 6 * k) y) g := by
  refine ⟨fun e he => by rw [upd_app, if_neg (by omega)]; exact h.1 e he, fun c r w hc hr hw => ?_⟩
  have f4 : fN (upd u (2 + 6 * k) y) g 4 = fN u g 4 := by unfold fN; rw [upd_app, if_neg (by omega)]
  have f5 : fN (upd u (2 + 6 * k) y) g 5 = fN u g 5 := by unfold fN; rw [upd_app, if_neg (by omega)]
  rw [f4] at hc
  rw [f5] at hr
  rw [h.2 c r w hc hr hw]
  unfold oV
  rw [upd_app, if_neg (by omega)]
theorem gr_pt {τ : St} {q g k : Nat} {u : Nat → Int32} {y : Int32} (h : GRep τ k u g) (h1 : k ≠ q) (h2 : k + 1 ≠ q) : GRep (pI τ q 1 y) k u g :=
  ⟨fun e he => by rw [pI_ne h1]; exact h.1 e he, fun c r w hc hr hw => by rw [pI_ne h2]; exact h.2 c r w hc hr hw⟩
theorem gr_at {τ : St} {q g : Nat} {u : Nat → Int32} {y : Int32} (hg : g < 6) (h : GRep τ q u g) : GRep (pI τ q 1 y) q (upd u (2 + 6 * g) y) g := by
  refine ⟨fun e he => ?_, fun c r w hc hr hw => ?_⟩
  · rw [pI_app, upd_app]
    by_cases e0 : e = 0
    · subst e0
      rw [if_pos ⟨rfl, rfl⟩, if_pos (by omega)]
    · rw [if_neg (by omega), if_neg (by omega)]
      exact h.1 e he
  · have f4 : fN (upd u (2 + 6 * g) y) g 4 = fN u g 4 := by unfold fN; rw [upd_app, if_neg (by omega)]
    have f5 : fN (upd u (2 + 6 * g) y) g 5 = fN u g 5 := by unfold fN; rw [upd_app, if_neg (by omega)]
    rw [f4] at hc
    rw [f5] at hr
    rw [pI_ne (by omega), h.2 c r w hc hr hw]
    unfold oV
    rw [upd_app, if_neg (by omega)]
theorem upd_self (u : Nat → Int32) (j : Nat) : upd u j (u j) = u := by
  funext b
  rw [upd_app]
  by_cases h : b = j
  · rw [if_pos h, h]
  · rw [if_neg h]
set_option maxRecDepth 100000 in
set_option maxHeartbeats 4000000 in
theorem l_X8_lowerParentsBehind {σ : St} {w : Nat → Int32} {G N : Nat} (hS : Sh σ 0) (hN : N ≤ 6) (hG : G < 6) : ∀ (n k : Nat) (D : Option Value) (τ : St), k + n = N → ChS σ τ 0 → τ.2.2 = σ.2.2 → τ.1 29 1 = nI N → τ.1 29 2 = σ.1 29 2 → (∀ g, g < N → GRep τ (σ.2.2 30 g) (pIt w G k) g) → ∃ τ', Ex M_X8_lowerParentsBehind (none, τ') 2 [some (.ref 29), some (.int (nI G)), some (.int (nI k)), D] [] τ ∧ ChS σ τ' 0 ∧ τ'.2.2 = σ.2.2 ∧ τ'.1 29 1 = nI N ∧ τ'.1 29 2 = σ.1 29 2 ∧ ∀ g, g < N → GRep τ' (σ.2.2 30 g) (pIt w G N) g := by
  have hk0 : Is 29 0 7 := is_sh (s := 0) (by decide)
  intro n
  induction n with
  | zero =>
    intro k D τ hk hC h2 e1 e2 hA
    obtain rfl : k = N := by omega
    refine ⟨τ, ?_, hC, h2, e1, e2, hA⟩
    refine x_iload_n (pc' := 3) rfl dX8_lowerParentsBehind_2 rfl ?_
    refine x_aload_n (pc' := 4) rfl dX8_lowerParentsBehind_3 rfl ?_
    refine x_get (v := .int _) (pc' := 7) fk_X8_18 (by first | assumption | exact ⟨by decide, rfl⟩) rfl dX8_lowerParentsBehind_4 rfl ?_
    refine x_icmp_ge (tgt := 44) (pc' := 10) (by decide) dX8_lowerParentsBehind_7 rfl (fun c7 => ?_) (fun c7 => absurd (by rw [e1]; exact nI_le (Nat.le_refl _) (by omega)) c7)
    exact x_vret rfl dX8_lowerParentsBehind_44 rfl
  | succ n ih =>
    intro k D τ hk hC h2 e1 e2 hA
    have hT : Sh τ 0 := hS.frame (fun b => by rw [h2])
    obtain ⟨i, hi, ei⟩ := hS.2.1 k (by omega)
    have ei' : σ.2.2 30 k = 67 + 2 * i := ei
    have hq : isG (σ.2.2 30 k) := hS.F.2.2 k (by omega)
    obtain ⟨hq0, hq1⟩ := id hq
    have hr := hA k (by omega)
    have own : Own 0 (σ.2.2 30 k) := by rw [ei']; exact Or.inr (Or.inr (by omega))
    by_cases hlt : nI G < pIt w G k (2 + 6 * k)
    · have eU : pIt w G (k + 1) = upd (pIt w G k) (2 + 6 * k) (pIt w G k (2 + 6 * k) - 1) := by rw [pIt, lowP, pif_t hlt]
      obtain ⟨τ', hE, r1⟩ := ih (k + 1) (some (.ref (σ.2.2 30 k))) (pI τ (σ.2.2 30 k) 1 (pIt w G k (2 + 6 * k) - 1)) (by omega) (hC.pI _ _ own) h2 (by rw [pI_ne (by omega)]; exact e1) (by rw [pI_ne (by omega)]; exact e2) (fun g hg => by
        rw [eU]
        by_cases e : g = k
        · subst e
          exact gr_at (by omega) hr
        · obtain ⟨i', hi', ej⟩ := hS.2.1 g (by omega)
          have ej' : σ.2.2 30 g = 67 + 2 * i' := ej
          have hne : σ.2.2 30 g ≠ σ.2.2 30 k := fun q => e (hS.2.2 g k (by omega) (by omega) q)
          exact gr_upd (gr_pt (hA g hg) hne (by omega)) e (by omega))
      refine ⟨τ', ?_, r1⟩
      refine x_iload_n (pc' := 3) rfl dX8_lowerParentsBehind_2 rfl ?_
      refine x_aload_n (pc' := 4) rfl dX8_lowerParentsBehind_3 rfl ?_
      refine x_get (v := .int _) (pc' := 7) fk_X8_18 (by first | assumption | exact ⟨by decide, rfl⟩) rfl dX8_lowerParentsBehind_4 rfl ?_
      refine x_icmp_ge (tgt := 44) (pc' := 10) (by decide) dX8_lowerParentsBehind_7 rfl (fun c7 => absurd c7 (by rw [e1]; exact nI_ge (by omega) (by omega))) (fun c7 => ?_)
      refine x_aload_n (pc' := 11) rfl dX8_lowerParentsBehind_10 rfl ?_
      refine x_iload_n (pc' := 12) rfl dX8_lowerParentsBehind_11 rfl ?_
      refine x_callVi (As := [.int _]) (rest := []) (ci := 7) (pc' := 15) rfl vk_X8_25 mk_X8_at (by decide) (by first | assumption | exact ⟨by decide, rfl⟩) (by decide) rfl (Nat.le_of_ble_eq_true rfl) dX8_lowerParentsBehind_12 rfl (t_X8_at hT.F e1 hN rfl (by omega)) ?_
      refine x_topr (y := σ.2.2 30 k) (by rw [h2]) ?_
      refine x_astore_n (lv' := [_, _, _, _]) (pc' := 16) (by decide) rfl dX8_lowerParentsBehind_15 rfl ?_
      refine x_aload_n (pc' := 17) rfl dX8_lowerParentsBehind_16 rfl ?_
      refine x_ifnull (pc' := 20) dX8_lowerParentsBehind_17 rfl ?_
      refine x_aload_n (pc' := 21) rfl dX8_lowerParentsBehind_20 rfl ?_
      refine x_get (v := .int _) (pc' := 24) fk_X8_49 (by first | assumption | exact ⟨by decide, rfl⟩) rfl dX8_lowerParentsBehind_21 rfl ?_
      refine x_top hr.par ?_
      refine x_iload_n (pc' := 25) rfl dX8_lowerParentsBehind_24 rfl ?_
      refine x_icmp_le (tgt := 38) (pc' := 28) (by decide) dX8_lowerParentsBehind_25 rfl (fun c25 => absurd c25 (fun q => i_nlt.mpr q hlt)) (fun c25 => ?_)
      refine x_aload_n (pc' := 29) rfl dX8_lowerParentsBehind_28 rfl ?_
      refine x_dup (pc' := 30) rfl dX8_lowerParentsBehind_29 rfl ?_
      refine x_get (v := .int _) (pc' := 33) fk_X8_49 (by first | assumption | exact ⟨by decide, rfl⟩) rfl dX8_lowerParentsBehind_30 rfl ?_
      refine x_top hr.par ?_
      refine x_iconst (v := 1) (pc' := 34) (by decide) dX8_lowerParentsBehind_33 rfl ?_
      refine x_isub (pc' := 35) dX8_lowerParentsBehind_34 rfl ?_
      refine x_puti (pc' := 38) fk_X8_49 pk_3_1 rfl (by first | assumption | exact ⟨by decide, rfl⟩) dX8_lowerParentsBehind_35 rfl ?_
      refine x_iinc (lv' := [_, _, _, _]) (pc' := 41) rfl (nI_1 k) (by decide) rfl dX8_lowerParentsBehind_38 rfl ?_
      refine x_goto (tgt := 2) (by decide) dX8_lowerParentsBehind_41 ?_
      exact hE
    · have eU : pIt w G (k + 1) = pIt w G k := by rw [pIt, lowP, pif_f hlt, upd_self]
      obtain ⟨τ', hE, r1⟩ := ih (k + 1) (some (.ref (σ.2.2 30 k))) τ (by omega) hC h2 e1 e2 (fun g hg => by rw [eU]; exact hA g hg)
      refine ⟨τ', ?_, r1⟩
      refine x_iload_n (pc' := 3) rfl dX8_lowerParentsBehind_2 rfl ?_
      refine x_aload_n (pc' := 4) rfl dX8_lowerParentsBehind_3 rfl ?_
      refine x_get (v := .int _) (pc' := 7) fk_X8_18 (by first | assumption | exact ⟨by decide, rfl⟩) rfl dX8_lowerParentsBehind_4 rfl ?_
      refine x_icmp_ge (tgt := 44) (pc' := 10) (by decide) dX8_lowerParentsBehind_7 rfl (fun c7 => absurd c7 (by rw [e1]; exact nI_ge (by omega) (by omega))) (fun c7 => ?_)
      refine x_aload_n (pc' := 11) rfl dX8_lowerParentsBehind_10 rfl ?_
      refine x_iload_n (pc' := 12) rfl dX8_lowerParentsBehind_11 rfl ?_
      refine x_callVi (As := [.int _]) (rest := []) (ci := 7) (pc' := 15) rfl vk_X8_25 mk_X8_at (by decide) (by first | assumption | exact ⟨by decide, rfl⟩) (by decide) rfl (Nat.le_of_ble_eq_true rfl) dX8_lowerParentsBehind_12 rfl (t_X8_at hT.F e1 hN rfl (by omega)) ?_
      refine x_topr (y := σ.2.2 30 k) (by rw [h2]) ?_
      refine x_astore_n (lv' := [_, _, _, _]) (pc' := 16) (by decide) rfl dX8_lowerParentsBehind_15 rfl ?_
      refine x_aload_n (pc' := 17) rfl dX8_lowerParentsBehind_16 rfl ?_
      refine x_ifnull (pc' := 20) dX8_lowerParentsBehind_17 rfl ?_
      refine x_aload_n (pc' := 21) rfl dX8_lowerParentsBehind_20 rfl ?_
      refine x_get (v := .int _) (pc' := 24) fk_X8_49 (by first | assumption | exact ⟨by decide, rfl⟩) rfl dX8_lowerParentsBehind_21 rfl ?_
      refine x_top hr.par ?_
      refine x_iload_n (pc' := 25) rfl dX8_lowerParentsBehind_24 rfl ?_
      refine x_icmp_le (tgt := 38) (pc' := 28) (by decide) dX8_lowerParentsBehind_25 rfl (fun c25 => ?_) (fun c25 => absurd (i_nlt.mp hlt) c25)
      refine x_iinc (lv' := [_, _, _, _]) (pc' := 41) rfl (nI_1 k) (by decide) rfl dX8_lowerParentsBehind_38 rfl ?_
      refine x_goto (tgt := 2) (by decide) dX8_lowerParentsBehind_41 ?_
      exact hE
set_option maxRecDepth 100000 in
set_option maxHeartbeats 4000000 in
theorem l_X8_remove {σ : St} {G N : Nat} (hS : Sh σ 0) (hG : G < N) (hN : N ≤ 6) {out : Option Value × St} (kk : Ex M_X8_remove out 62 [some (.ref 29), some (.int (nI G)), some (.ref (σ.2.2 30 G)), some (.int (nI (N - 1))), some (.int (nI (N - 1)))] [] (pR σ (shG (σ.2.2 30) G (N - 1 - G)))) : ∀ (n k : Nat), G + k + n = N - 1 → Ex M_X8_remove out 34 [some (.ref 29), some (.int (nI G)), some (.ref (σ.2.2 30 G)), some (.int (nI (N - 1))), some (.int (nI (G + k)))] [] (pR σ (shG (σ.2.2 30) G k)) := by
  have hk0 : Is 29 0 7 := is_sh (s := 0) (by decide)
  have hk1 : Is 30 4 6 := is_ga (s := 0) (by decide)
  intro n
  induction n with
  | zero =>
    intro k hk
    rw [show N - 1 - G = k by omega] at kk
    rw [show G + k = N - 1 by omega]
    refine x_iload (pc' := 36) rfl dX8_remove_34 rfl ?_
    refine x_iload_n (pc' := 37) rfl dX8_remove_36 rfl ?_
    refine x_icmp_ge (tgt := 62) (pc' := 40) (by decide) dX8_remove_37 rfl (fun c37 => ?_) (fun c37 => absurd (nI_le (Nat.le_refl _) (by omega)) c37)
    exact kk
  | succ n ih =>
    intro k hk
    have hq : Is (σ.2.2 30 (G + k + 1)) 0 3 := (hS.F.2.2 (G + k + 1) (by omega)).1
    have hih := ih (k + 1) (by omega)
    rw [← shG_s, ← pR_put] at hih
    have e : shG (σ.2.2 30) G k (G + k + 1) = σ.2.2 30 (G + k + 1) := by unfold shG; rw [if_neg (by omega)]
    rw [e] at hih
    refine x_iload (pc' := 36) rfl dX8_remove_34 rfl ?_
    refine x_iload_n (pc' := 37) rfl dX8_remove_36 rfl ?_
    refine x_icmp_ge (tgt := 62) (pc' := 40) (by decide) dX8_remove_37 rfl (fun c37 => absurd c37 (nI_ge (by omega) (by omega))) (fun c37 => ?_)
    refine x_aload_n (pc' := 41) rfl dX8_remove_40 rfl ?_
    refine x_get (v := .ref _) (pc' := 44) fk_X8_11 (by first | assumption | exact ⟨by decide, rfl⟩) rfl dX8_remove_41 rfl ?_
    refine x_iload (pc' := 46) rfl dX8_remove_44 rfl ?_
    refine x_aload_n (pc' := 47) rfl dX8_remove_46 rfl ?_
    refine x_get (v := .ref _) (pc' := 50) fk_X8_11 (by first | assumption | exact ⟨by decide, rfl⟩) rfl dX8_remove_47 rfl ?_
    refine x_iload (pc' := 52) rfl dX8_remove_50 rfl ?_
    refine x_iconst (v := 1) (pc' := 53) (by decide) dX8_remove_52 rfl ?_
    refine x_iadd (pc' := 54) dX8_remove_53 rfl ?_
    refine x_aaldGn (N := 6) (n := (G + k + 1)) (pc' := 55) (by first | assumption | exact ⟨by decide, rfl⟩) (by decide) (nI_1 (G + k)) (by omega) dX8_remove_54 rfl ?_
    refine x_topr (y := σ.2.2 30 (G + k + 1)) (by rw [show (pR σ (shG (σ.2.2 30) G k)).2.2 (rf 7 0 29) = shG (σ.2.2 30) G k from pR_at _ _]; exact e) ?_
    refine x_aastGn (N := 6) (n := (G + k)) (pc' := 56) (by first | assumption | exact ⟨by decide, rfl⟩) (by first | assumption | exact ⟨by decide, rfl⟩) (by decide) rfl (by omega) dX8_remove_55 rfl ?_
    refine x_iinc (lv' := [_, _, _, _, _]) (pc' := 59) rfl (nI_1 (G + k)) (by decide) rfl dX8_remove_56 rfl ?_
    refine x_goto (tgt := 34) (by decide) dX8_remove_59 ?_
    exact hih
set_option maxRecDepth 100000 in
set_option maxHeartbeats 4000000 in
theorem c_X8_remove {σ : St} {v : Nat → Int32} {G : Nat} (h : SR σ 0 v) (hG : G < cN v) (hok : Ok (drpV v G)) : ∃ σ', Ct yX8_remove M_X8_remove [.ref 29, .int (nI G)] σ (none, σ') ∧ SR σ' 0 (drpV v G) ∧ ChS σ σ' 0 := by
  obtain ⟨hs, hF, ⟨b1, b2, b3⟩, hv⟩ := id h
  have h6 := hv.c6
  have hk0 : Is 29 0 7 := is_sh (s := 0) (by decide)
  have hk1 : Is 30 4 6 := is_ga (s := 0) (by decide)
  have hn : σ.1 29 1 = nI (cN v) := h.2.n
  have hq : Is (σ.2.2 30 G) 0 3 := (hF.2.2 G (by omega)).1
  have hS1 : Sh (pI (pR σ (fun b => σ.2.2 30 (rotP G (cN v) b))) 29 1 (nI (cN v - 1))) 0 := by
    have e : (pI (pR σ (fun b => σ.2.2 30 (rotP G (cN v) b))) 29 1 (nI (cN v - 1))).2.2 (29 + 2 * 0 + 1) = fun b => σ.2.2 30 (rotP G (cN v) b) := pR_at _ _
    refine ⟨by decide, fun g hg => ?_, fun g g' hg hg' q => ?_⟩
    · rw [e]
      exact hs.2.1 _ (rot_lt hG h6 hg)
    · rw [e] at q
      exact rot_inj hG (hs.2.2 _ _ (rot_lt hG h6 hg) (rot_lt hG h6 hg') q)
  have e30 : (pI (pR σ (fun b => σ.2.2 30 (rotP G (cN v) b))) 29 1 (nI (cN v - 1))).2.2 30 = fun b => σ.2.2 30 (rotP G (cN v) b) := pR_at _ _
  have ch0 : ChS σ (pI (pR σ (fun b => σ.2.2 30 (rotP G (cN v) b))) 29 1 (nI (cN v - 1))) 0 := by
    refine ⟨fun a b ha => ?_, rfl, fun a b ha => ?_⟩
    · rw [pI_ne (fun q => ha (Or.inl q))]
      rfl
    · show (if a = 30 then _ else σ.2.2 a b) = _
      rw [if_neg ha]
  obtain ⟨τ, hE, t1, t2, t3, t4, t5⟩ := l_X8_lowerParentsBehind (σ := pI (pR σ (fun b => σ.2.2 30 (rotP G (cN v) b))) 29 1 (nI (cN v - 1))) (w := drW v G) (G := G) (N := cN v - 1) hS1 (by omega) (by omega) (cN v - 1) 0 none _ (Nat.zero_add _) (ChS.rf _ 0) rfl rfl rfl (fun g hg => by
    have hsg := sG_lt hG hg
    obtain ⟨c1, c2⟩ := b3 (sG G g) hsg
    obtain ⟨g6, c5, r5, -⟩ := hv.b hsg
    obtain ⟨i, hi, ei⟩ := hs.2.1 (sG G g) (by omega)
    rw [e30]
    show GRep _ (σ.2.2 30 (rotP G (cN v) g)) (drW v G) g
    rw [rot_s hG hg]
    have ei' : σ.2.2 30 (sG G g) = 67 + 2 * i := ei
    refine ⟨fun e he => ?_, fun c r w hc hr hw => ?_⟩
    · rw [pI_ne (by omega), dw_f h6 hG hg he]
      exact c1 e he
    · have f4 : fN (drW v G) g 4 = fN v (sG G g) 4 := by unfold fN; rw [dw_f h6 hG hg (by decide)]
      have f5 : fN (drW v G) g 5 = fN v (sG G g) 5 := by unfold fN; rw [dw_f h6 hG hg (by decide)]
      rw [f4] at hc
      rw [f5] at hr
      rw [pI_ne (by omega)]
      refine (c2 c r w hc hr hw).trans ?_
      unfold oV
      rw [show 38 + 50 * g + 2 * (5 * r + c) + w = 38 + 50 * g + (2 * (5 * r + c) + w) by omega, dw_o h6 hG hg (by omega), ← Nat.add_assoc])
  have hcall : Ct yX8_lowerParentsBehind M_X8_lowerParentsBehind [.ref 29, .int (nI G)] (pI (pR σ (fun b => σ.2.2 30 (rotP G (cN v) b))) 29 1 (nI (cN v - 1))) (none, τ) := by
    refine ct_of (k := 2) rfl rfl rfl (Nat.le_of_ble_eq_true rfl) ?_
    refine x_iconst (v := 0) (pc' := 1) (by decide) dX8_lowerParentsBehind_0 rfl ?_
    refine x_istore_n (lv' := [_, _, _, _]) (pc' := 2) (by decide) rfl dX8_lowerParentsBehind_1 rfl ?_
    exact hE
  refine ⟨τ, ?_, ⟨hS1.frame (fun b => by rw [t2]), (hS1.frame (fun b => by rw [t2])).F, ⟨?_, ?_, fun g hg => ?_⟩, hok⟩, ch0.trans t1⟩
  · refine ct_of (k := 3) rfl rfl rfl (Nat.le_of_ble_eq_true rfl) ?_
    refine x_aload_n (pc' := 1) rfl dX8_remove_0 rfl ?_
    refine x_iload_n (pc' := 2) rfl dX8_remove_1 rfl ?_
    refine x_callVi (As := [.int _]) (rest := []) (ci := 7) (pc' := 5) rfl vk_X8_25 mk_X8_at (by decide) (by first | assumption | exact ⟨by decide, rfl⟩) (by decide) rfl (Nat.le_of_ble_eq_true rfl) dX8_remove_2 rfl (t_X8_at h.2.1 hn h6 rfl hG) ?_
    refine x_topr (y := σ.2.2 30 G) rfl ?_
    refine x_astore_n (lv' := [_, _, _, _, _]) (pc' := 6) (by decide) rfl dX8_remove_5 rfl ?_
    refine x_aload_n (pc' := 7) rfl dX8_remove_6 rfl ?_
    refine x_get (v := .int _) (pc' := 10) fk_X8_18 (by first | assumption | exact ⟨by decide, rfl⟩) rfl dX8_remove_7 rfl ?_
    refine x_iconst (v := 1) (pc' := 11) (by decide) dX8_remove_10 rfl ?_
    refine x_isub (pc' := 12) dX8_remove_11 rfl ?_
    refine x_top (y := nI (cN v - 1)) (by rw [hn]; exact nI_m1 (by omega)) ?_
    refine x_istore_n (lv' := [_, _, _, _, _]) (pc' := 13) (by decide) rfl dX8_remove_12 rfl ?_
    refine x_aload_n (pc' := 14) rfl dX8_remove_13 rfl ?_
    refine x_ifnull (pc' := 17) dX8_remove_14 rfl ?_
    refine x_iload_n (pc' := 18) rfl dX8_remove_17 rfl ?_
    refine x_if_lt (tgt := 30) (pc' := 21) (by decide) dX8_remove_18 rfl (fun c18 => absurd c18 (nI_pos (by omega))) (fun c18 => ?_)
    refine x_iload_n (pc' := 22) rfl dX8_remove_21 rfl ?_
    refine x_aload_n (pc' := 23) rfl dX8_remove_22 rfl ?_
    refine x_get (v := .ref _) (pc' := 26) fk_X8_11 (by first | assumption | exact ⟨by decide, rfl⟩) rfl dX8_remove_23 rfl ?_
    refine x_alen (a := 4) (n := 6) (v := 6) (pc' := 27) (by decide) (by first | assumption | exact ⟨by decide, rfl⟩) (by decide) dX8_remove_26 rfl ?_
    refine x_icmp_lt (tgt := 31) (pc' := 30) (by decide) dX8_remove_27 rfl (fun c27 => ?_) (fun c27 => absurd (nI_lt (b := 6) (by omega) (by decide)) c27)
    refine x_iload_n (pc' := 32) rfl dX8_remove_31 rfl ?_
    refine x_istore (lv' := [_, _, _, _, _]) (pc' := 34) (by decide) rfl dX8_remove_32 rfl ?_
    refine x_st (σ' := pR σ (shG (σ.2.2 30) G 0)) (by rw [shG_0, pR_self]) ?_
    refine l_X8_remove (k := 0) hs hG h6 ?_ (cN v - 1 - G) (by omega)
    refine x_aload_n (pc' := 63) rfl dX8_remove_62 rfl ?_
    refine x_get (v := .ref _) (pc' := 66) fk_X8_11 (by first | assumption | exact ⟨by decide, rfl⟩) rfl dX8_remove_63 rfl ?_
    refine x_iload_n (pc' := 67) rfl dX8_remove_66 rfl ?_
    refine x_aload_n (pc' := 68) rfl dX8_remove_67 rfl ?_
    refine x_aastGn (N := 6) (n := (cN v - 1)) (pc' := 69) (by first | assumption | exact ⟨by decide, rfl⟩) (by first | assumption | exact ⟨by decide, rfl⟩) (by decide) rfl (by omega) dX8_remove_68 rfl ?_
    refine x_st (σ' := pR σ (fun b => σ.2.2 30 (rotP G (cN v) b))) (by rw [← shG_rot _ hG]; exact pR_put _ _ _ _) ?_
    refine x_aload_n (pc' := 70) rfl dX8_remove_69 rfl ?_
    refine x_iload_n (pc' := 71) rfl dX8_remove_70 rfl ?_
    refine x_puti (pc' := 74) fk_X8_18 pk_7_1 rfl (by first | assumption | exact ⟨by decide, rfl⟩) dX8_remove_71 rfl ?_
    refine x_aload_n (pc' := 75) rfl dX8_remove_74 rfl ?_
    refine x_iload_n (pc' := 76) rfl dX8_remove_75 rfl ?_
    refine x_callVv (As := [.int _]) (rest := []) (ci := 7) (pc' := 79) rfl vk_X8_61 mk_X8_lowerParentsBehind (by decide) (by first | assumption | exact ⟨by decide, rfl⟩) (by decide) rfl (Nat.le_of_ble_eq_true rfl) dX8_remove_76 rfl hcall ?_
    exact x_vret rfl dX8_remove_79 rfl
  · rw [dr_lo.1]; exact t3
  · rw [dr_lo.2]
    refine t4.trans ?_
    rw [pI_app, if_neg (by omega)]
    exact b2
  · rw [dr_c h6] at hg
    rw [t2]
    exact t5 g hg
