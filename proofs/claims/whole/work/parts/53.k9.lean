theorem arrV_c {cA : ClassId} {n : Nat} {f f' : Nat → Value} (h : ∀ j, j < n → f j = f' j) : arrV cA n f = arrV cA n f' := by
  unfold arrV
  congr 1
  first
    | (congr 1; exact List.map_congr_left (fun j hj => h j (List.mem_range.mp hj)))
    | exact List.map_congr_left (fun j hj => h j (List.mem_range.mp hj))
    | (apply Array.ext <;> simp [h])
theorem at_q {D : va_G} {a n : Nat} {cA : ClassId} {f f' : Nat → Option Nat} {H : Heap} (h : va_at D Cls (a, .inl (cA, n, .inr (.inr (.inr (.inr f))))) H) (e : ∀ j, j < n → f j = f' j) : va_at D Cls (a, .inl (cA, n, .inr (.inr (.inr (.inr f'))))) H := by
  show H[a]? = some (vp_cell cA (n, .inr (.inr (.inr (.inr f')))))
  have h : H[a]? = some (vp_cell cA (n, .inr (.inr (.inr (.inr f))))) := h
  rw [vp_cell_q] at h ⊢
  rw [← arrV_c (f := fun j => va_rf (f j)) (fun j hj => by rw [e j hj])]
  exact h
def gL (D : va_G) (ct : Nat → ClassId) (ad : Nat → Nat) : Ge := (D, fun k => ad (pl k), ct)
theorem pl_sh {s : Nat} (h : s < 19) : pl (29 + 2 * s) = bs s := by
  unfold pl
  rw [if_neg (by omega), if_pos (by omega), show (29 + 2 * s - 29) / 2 = s by omega, show (29 + 2 * s - 29) % 2 = 0 by omega]
  rfl
theorem pl_ga {s : Nat} (h : s < 19) : pl (29 + 2 * s + 1) = bs s + 1 := by
  unfold pl
  rw [if_neg (by omega), if_pos (by omega), show (29 + 2 * s + 1 - 29) / 2 = s by omega, show (29 + 2 * s + 1 - 29) % 2 = 1 by omega]
theorem pl_g {s r : Nat} (hr : r < 12) : pl (67 + 12 * s + r) = bs s + 2 + r := by
  unfold pl
  rw [if_neg (by omega), if_neg (by omega), show (67 + 12 * s + r - 67) / 12 = s by omega, show (67 + 12 * s + r - 67) % 12 = r by omega]
set_option maxRecDepth 100000 in
set_option maxHeartbeats 4000000 in
theorem wld_of {D : va_G} {ct : Nat → ClassId} {ad : Nat → Nat} {H : Heap} (hP : va_P D Cls (wf ad (LX ct ad) 295) H) : va_P D Cls (wld (gL D ct ad) st0) H := by
  intro k q hq
  obtain ⟨hk, rfl⟩ := wld_inv hq
  have h := hP (pl k) _ (wf_get (pl_lt k hk))
  show va_at D Cls (ad (pl k), wE (gL D ct ad) st0 k) H
  by_cases h29 : k < 29
  · match k, h29 with
    | 0, _ => exact h
    | 1, _ => exact h
    | 2, _ =>
      refine at_q (f := fun j => if j < 16 then some (ad (15 + (2 + 14 * j))) else none) h (fun j hj => ?_)
      rw [if_pos hj]
      show some (ad (15 + (2 + 14 * j))) = some (ad (pl (31 + 2 * j)))
      rw [show 31 + 2 * j = 29 + 2 * (j + 1) by omega, pl_sh (by omega)]
      unfold bs
      rw [if_neg (by omega), if_pos (by omega), show 17 + 14 * (j + 1 - 1) = 15 + (2 + 14 * j) by omega]
    | 3, _ => exact h
    | 4, _ => exact h
    | 5, _ => exact h
    | 6, _ => exact h
    | 7, _ => exact h
    | 8, _ => exact h
    | 9, _ => exact h
    | 10, _ => exact h
    | 11, _ => exact h
    | 12, _ => exact h
    | 13, _ => exact h
    | 14, _ => exact h
    | 15, _ => exact h
    | 16, _ => exact h
    | 17, _ => exact h
    | 18, _ => exact h
    | 19, _ => exact h
    | 20, _ => exact h
    | 21, _ => exact h
    | 22, _ => exact h
    | 23, _ => exact h
    | 24, _ => exact h
    | 25, _ => exact h
    | 26, _ => exact h
    | 27, _ => exact h
    | 28, _ => exact h
    | k + 29, h => exact absurd h (by omega)
  · by_cases h67 : k < 67
    · obtain ⟨s, hs, e⟩ : ∃ s, s < 19 ∧ (k = 29 + 2 * s ∨ k = 29 + 2 * s + 1) := ⟨(k - 29) / 2, by omega, by omega⟩
      rcases e with rfl | rfl
      · rw [pl_sh hs] at h ⊢
        have e := LX_s (ct := ct) (ad := ad) hs (r := 0) (by decide)
        rw [Nat.add_zero, SX_0] at e
        rw [e] at h
        rw [wE_0 (is_sh hs).2]
        show va_at D Cls (ad (bs s), .inr (7, [.ref (ad (pl (29 + 2 * s + 1))), .int 0, .int 0])) H
        rw [pl_ga hs]
        exact h
      · rw [pl_ga hs] at h ⊢
        have e := LX_s (ct := ct) (ad := ad) hs (r := 1) (by decide)
        rw [SX_1] at e
        rw [e] at h
        rw [wE_4 (is_ga hs).2]
        refine at_q h (fun j hj => ?_)
        rw [if_pos hj]
        show some (ad (bs s + (2 + 2 * j))) = some (ad (pl (67 + 12 * ((29 + 2 * s + 1 - 30) / 2) + 2 * j)))
        rw [show (29 + 2 * s + 1 - 30) / 2 = s by omega, pl_g (by omega), Nat.add_assoc]
    · obtain ⟨s, i, hs, hi, e⟩ : ∃ s i, s < 19 ∧ i < 6 ∧ (k = 67 + 12 * s + 2 * i ∨ k = 67 + 12 * s + 2 * i + 1) := ⟨(k - 67) / 12, (k - 67) % 12 / 2, by omega, by omega, by omega⟩
      rcases e with rfl | rfl
      · rw [pl_g (by omega)] at h ⊢
        have e := LX_s (ct := ct) (ad := ad) hs (r := 2 + 2 * i) (by omega)
        rw [SX_g (by omega), if_pos (by omega), ← Nat.add_assoc] at e
        rw [e] at h
        rw [wE_0 (is_gr hs hi).1.2]
        show va_at D Cls (ad (bs s + 2 + 2 * i), .inr (3, [.ref (ad (pl (67 + 12 * s + 2 * i + 1))), .int 0, .int 0, .int 0, .int 0, .int 0, .int 0])) H
        rw [show 67 + 12 * s + 2 * i + 1 = 67 + 12 * s + (2 * i + 1) from rfl, pl_g (by omega)]
        rw [show bs s + 2 + (2 * i + 1) = bs s + (2 + 2 * i + 1) by omega]
        exact h
      · rw [show 67 + 12 * s + 2 * i + 1 = 67 + 12 * s + (2 * i + 1) from rfl, pl_g (by omega)] at h
        have e := LX_s (ct := ct) (ad := ad) hs (r := 2 + (2 * i + 1)) (by omega)
        rw [SX_g (by omega), if_neg (by omega), ← Nat.add_assoc] at e
        rw [e] at h
        rw [wE_1 (is_gr hs hi).2.2]
        rw [show 67 + 12 * s + 2 * i + 1 = 67 + 12 * s + (2 * i + 1) from rfl, pl_g (by omega)]
        exact h
theorem inj_of {D : va_G} {ct : Nat → ClassId} {ad : Nat → Nat} {A : Nat → Prop} {f : Nat → va_E} (hD : va_D A (wf ad f 295)) : Inj (gL D ct ad) := by
  intro i j hi hj e
  exact pl_inj hi hj (hD.1 _ _ _ _ (wf_get (pl_lt i hi)) (wf_get (pl_lt j hj)) e)
theorem fr_of {D : va_G} {ct : Nat → ClassId} {ad : Nat → Nat} {A : Nat → Prop} {f : Nat → va_E} (hD : va_D A (wf ad f 295)) : ∀ q, Fr (gL D ct ad) q → A q := by
  rintro q ⟨k, hk, rfl⟩
  exact hD.2 _ _ (wf_get (pl_lt k hk))
