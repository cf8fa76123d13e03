theorem SX_congr {ct : Nat → ClassId} {a a' : Nat → Nat} {r : Nat} (h : ∀ x, x < 14 → a x = a' x) (hr : r < 14) : SX 6 ct a r = SX 6 ct a' r := by
  by_cases r0 : r = 0
  · subst r0
    rw [SX_0, SX_0, h 1 (by decide)]
  · by_cases r1 : r = 1
    · subst r1
      rw [SX_1, SX_1]
      congr 7
      funext x
      by_cases hx : x < 6
      · rw [if_pos hx, if_pos hx, h _ (by omega)]
      · rw [if_neg hx, if_neg hx]
    · rw [SX_g (by omega), SX_g (by omega)]
      by_cases e : r % 2 = 0
      · rw [if_pos e, if_pos e, h (r + 1) (by omega)]
      · rw [if_neg e, if_neg e]
def HX (i : Nat) : FF := fun ct ad k => if k = 0 then .inr (4, [.ref (ad 1), .int 0, .int 0]) else if k = 1 then .inl (ct 4, 16, .inr (.inr (.inr (.inr (fun j => if j < i then some (ad (2 + 14 * j)) else none))))) else SX 6 ct (fun x => ad (2 + 14 * ((k - 2) / 14) + x)) ((k - 2) % 14)
theorem HX_0 (i : Nat) (ct : Nat → ClassId) (ad : Nat → Nat) : HX i ct ad 0 = .inr (4, [.ref (ad 1), .int 0, .int 0]) := rfl
theorem HX_1 (i : Nat) (ct : Nat → ClassId) (ad : Nat → Nat) : HX i ct ad 1 = .inl (ct 4, 16, .inr (.inr (.inr (.inr (fun j => if j < i then some (ad (2 + 14 * j)) else none))))) := rfl
theorem HX_g {i : Nat} {ct : Nat → ClassId} {ad : Nat → Nat} {k : Nat} (h : 2 ≤ k) : HX i ct ad k = SX 6 ct (fun x => ad (2 + 14 * ((k - 2) / 14) + x)) ((k - 2) % 14) := by
  unfold HX
  rw [if_neg (by omega), if_neg (by omega)]
def IX : FF := fun ct ad k => if k = 0 then .inr (5, [.ref (ad 1), .int 0, .int 0]) else SX 6 ct (fun x => ad (1 + x)) (k - 1)
set_option maxRecDepth 100000 in
set_option maxHeartbeats 4000000 in
theorem l_X5_init {D : va_G} {ct : Nat → ClassId} {h0 sz : Nat} : ∀ (n i : Nat) (ad : Nat → Nat) (f : Nat → va_E), i + n = 16 → ad 0 = h0 → (∀ j, j < 2 + 14 * i → f j = HX i ct ad j) → Ec M_X5_init D ct h0 sz (HX 16) 15 [some (.ref h0), some (.int (nI i))] [] ad f (1 + 14 * i) (16 + 351 * i) := by
  intro n
  induction n with
  | zero =>
    intro i ad f hi h00 hf
    obtain rfl : i = 16 := by omega
    refine e_iload_n (pc' := 16) rfl dX5_init_15 rfl ?_
    refine e_bipush (v := 16) (pc' := 18) (by decide) dX5_init_16 rfl ?_
    refine e_icmp_ge (tgt := 40) (pc' := 21) (by decide) dX5_init_18 rfl (fun _ => ?_) (fun c => absurd (by decide) c)
    exact e_vret rfl dX5_init_40 h00 rfl (Nat.le_of_ble_eq_true rfl) (fun j hj => hf j (by omega))
  | succ n ih =>
    intro i ad f hi h00 hf
    have f0 := hf 0 (by omega)
    rw [HX_0] at f0
    have f1 := hf 1 (by omega)
    rw [HX_1] at f1
    refine e_iload_n (pc' := 16) rfl dX5_init_15 rfl ?_
    refine e_bipush (v := 16) (pc' := 18) (by decide) dX5_init_16 rfl ?_
    refine e_icmp_ge (tgt := 40) (pc' := 21) (by decide) dX5_init_18 rfl (fun c => absurd c (nI_ge (b := 16) (by omega) (by decide))) (fun _ => ?_)
    refine e_aload_n (pc' := 22) rfl dX5_init_21 rfl ?_
    refine e_get (i := 0) (j := 0) (pc' := 25) fk_X5_11 (by omega) h00 f0 rfl dX5_init_22 rfl ?_
    refine e_iload_n (pc' := 26) rfl dX5_init_25 rfl ?_
    refine e_new (pc' := 29) nk_7 rfl clk_X5_9 (show 1 + 14 * i + 1 ≤ 225 by omega) (show 16 + 351 * i + 3 ≤ 5632 by omega) dX5_init_26 rfl (fun q => ?_)
    refine e_dup (pc' := 30) rfl dX5_init_29 rfl ?_
    refine e_topr (b := va_up ad (1 + 14 * i + 1) q (1 + 14 * i + 1)) (va_up_self _ _ _).symm ?_
    refine e_init (pc' := 33) (F' := SX 6) ik_X8_init ilk_X5_17 k_X8 ⟨Nat.le_of_ble_eq_true rfl, Nat.le_of_ble_eq_true rfl⟩ (va_up_self _ _ _) (show 1 + 14 * i + 1 + 13 ≤ 225 by omega) (show 16 + 351 * i + 3 + 348 ≤ 5632 by omega) (Nat.le_of_ble_eq_true rfl) dX5_init_30 rfl (fun ad' hq => ?_)
    rw [va_up_self] at hq
    have A1 : ∀ j, j < 2 + 14 * i → adJ (1 + 14 * i + 1) (va_up ad (1 + 14 * i + 1) q) ad' j = ad j := fun j hj => by rw [adJ_lo (by omega), va_up_ne _ _ (by omega)]
    have A2 : ∀ x, adJ (1 + 14 * i + 1) (va_up ad (1 + 14 * i + 1) q) ad' (2 + 14 * i + x) = ad' x := fun x => by rw [adJ_hi (by omega), show 2 + 14 * i + x - (1 + 14 * i + 1) = x by omega]
    have A0 : adJ (1 + 14 * i + 1) (va_up ad (1 + 14 * i + 1) q) ad' (2 + 14 * i) = q := (A2 0).trans hq
    have B1 : ∀ j, j < 2 + 14 * i → fJ (1 + 14 * i + 1) (va_up f (1 + 14 * i + 1) (.inr (7, df 7))) (SX 6 ct ad') j = f j := fun j hj => by rw [fJ_lo (by omega), va_up_ne _ _ (by omega)]
    have B2 : ∀ x, fJ (1 + 14 * i + 1) (va_up f (1 + 14 * i + 1) (.inr (7, df 7))) (SX 6 ct ad') (2 + 14 * i + x) = SX 6 ct ad' x := fun x => by rw [fJ_hi (by omega), show 2 + 14 * i + x - (1 + 14 * i + 1) = x by omega]
    have B0 : fJ (1 + 14 * i + 1) (va_up f (1 + 14 * i + 1) (.inr (7, df 7))) (SX 6 ct ad') (2 + 14 * i) = .inr (7, [.ref (ad' 1), .int 0, .int 0]) := B2 0
    refine e_aast (i := 1) (i2 := 2 + 14 * i) (t := 4) (ci := 7) (n := 16) (pc' := 34) (C0 := RX8) (T0 := TX8) (by omega) (A1 1 (by omega)) ((B1 1 (by omega)).trans f1) (show 2 + 14 * i < 1 + 14 * i + 1 + 13 + 1 by omega) A0 B0 rfl rfl (vp_in_nI (by omega) (by decide)) dX5_init_33 rfl ?_
    rw [nI_clamp (by omega)]
    refine e_iinc (pc' := 37) rfl (nI_1 i) (by decide) rfl dX5_init_34 rfl ?_
    refine e_goto (tgt := 15) (by decide) dX5_init_37 ?_
    have hih := ih (i + 1) (adJ (1 + 14 * i + 1) (va_up ad (1 + 14 * i + 1) q) ad') (va_up (fJ (1 + 14 * i + 1) (va_up f (1 + 14 * i + 1) (.inr (7, df 7))) (SX 6 ct ad')) 1 (.inl (ct 4, 16, .inr (.inr (.inr (.inr (va_up (fun j => if j < i then some (ad (2 + 14 * j)) else none) i (some q)))))))) (by omega) (by rw [A1 0 (by omega)]; exact h00) (fun j hj => by
      by_cases j1 : j = 1
      · subst j1
        rw [va_up_self, HX_1]
        congr 7
        funext x
        by_cases hx : x = i
        · subst hx
          rw [va_up_self, if_pos (by omega), A0]
        · rw [va_up_ne _ _ hx]
          by_cases hx2 : x < i
          · rw [if_pos hx2, if_pos (by omega), A1 _ (by omega)]
          · rw [if_neg hx2, if_neg (by omega)]
      · rw [va_up_ne _ _ j1]
        by_cases j0 : j = 0
        · subst j0
          rw [B1 0 (by omega), f0, HX_0, A1 1 (by omega)]
        · rw [HX_g (by omega)]
          by_cases j2 : j < 2 + 14 * i
          · rw [B1 j j2, hf j j2, HX_g (by omega)]
            exact SX_congr (fun x hx => (A1 _ (by omega)).symm) (by omega)
          · obtain ⟨x, rfl⟩ : ∃ x, j = 2 + 14 * i + x := ⟨j - (2 + 14 * i), by omega⟩
            have e1 : (2 + 14 * i + x - 2) / 14 = i := by omega
            have e2 : (2 + 14 * i + x - 2) % 14 = x := by omega
            rw [B2 x, e1, e2]
            exact SX_congr (fun y _ => (A2 y).symm) (by omega))
    rw [show 1 + 14 * (i + 1) = 1 + 14 * i + 1 + 13 by omega, show 16 + 351 * (i + 1) = 16 + 351 * i + 3 + 348 by omega] at hih
    exact hih
set_option maxRecDepth 100000 in
set_option maxHeartbeats 4000000 in
theorem k_X5 : Ck yX5_init M_X5_init 4 (HX 16) := by
  refine ck_of (k := 1) rfl rfl rfl (by decide) (fun D ct h0 sz => ?_)
  refine e_aload_n (pc' := 1) rfl dX5_init_0 rfl ?_
  refine e_objInit (pc' := 4) oi_X5 (by decide) (by decide) dX5_init_1 rfl ?_
  refine e_aload_n (pc' := 5) rfl dX5_init_4 rfl ?_
  refine e_bipush (v := 16) (pc' := 7) (by decide) dX5_init_5 rfl ?_
  refine e_anew (t := 4) (N' := 16) (pc' := 10) clk_X5_9 (Or.inr rfl) rfl (by decide +kernel) (by decide +kernel) (Nat.le_of_ble_eq_true rfl) (Nat.le_of_ble_eq_true rfl) (Nat.le_of_ble_eq_true rfl) dX5_init_7 rfl (fun q => ?_)
  refine e_putF (i := 0) (j := 0) (pc' := 13) fk_X5_11 (pf_4_0 _) (by decide) rfl rfl (Nat.le_of_ble_eq_true rfl) dX5_init_10 rfl ?_
  refine e_iconst (v := 0) (pc' := 14) (by decide) dX5_init_13 rfl ?_
  refine e_istore_n (lv' := [_, _]) (pc' := 15) (by decide) rfl dX5_init_14 rfl ?_
  refine l_X5_init 16 0 _ _ rfl rfl (fun j hj => ?_)
  match j, hj with
  | 0, _ => rfl
  | 1, _ => rfl
  | j + 2, hj => exact absurd hj (by omega)
set_option maxRecDepth 100000 in
set_option maxHeartbeats 4000000 in
theorem k_X6 : Ck yX6_init M_X6_init 5 IX := by
  refine ck_of (k := 0) rfl rfl rfl (by decide) (fun D ct h0 sz => ?_)
  refine e_aload_n (pc' := 1) rfl dX6_init_0 rfl ?_
  refine e_objInit (pc' := 4) oi_X6 (by decide) (by decide) dX6_init_1 rfl ?_
  refine e_aload_n (pc' := 5) rfl dX6_init_4 rfl ?_
  refine e_new (pc' := 8) nk_7 rfl clk_X6_7 (Nat.le_of_ble_eq_true rfl) (Nat.le_of_ble_eq_true rfl) dX6_init_5 rfl (fun q => ?_)
  refine e_dup (pc' := 9) rfl dX6_init_8 rfl ?_
  refine e_init (k := 1) (pc' := 12) (F' := SX 6) ik_X8_init ilk_X6_9 k_X8 ⟨Nat.le_of_ble_eq_true rfl, Nat.le_of_ble_eq_true rfl⟩ rfl (Nat.le_of_ble_eq_true rfl) (Nat.le_of_ble_eq_true rfl) (Nat.le_of_ble_eq_true rfl) dX6_init_9 rfl (fun ad' hq => ?_)
  refine e_putF (i := 0) (j := 0) (pc' := 15) fk_X6_10 (pf_5_0 _) (by omega) rfl rfl (Nat.le_of_ble_eq_true rfl) dX6_init_12 rfl ?_
  refine e_vret rfl dX6_init_15 rfl rfl (Nat.le_of_ble_eq_true rfl) (fun j hj => ?_)
  by_cases j0 : j = 0
  · subst j0
    rw [va_up_self]
    show _ = (Sum.inr (5, [Value.ref (adJ 1 _ ad' 1), .int 0, .int 0]) : va_E)
    rw [adJ_hi (by decide), hq]
    rfl
  · rw [va_up_ne _ _ j0, fJ_hi (by omega)]
    show _ = (if j = 0 then _ else SX 6 ct (fun x => adJ 1 _ ad' (1 + x)) (j - 1))
    rw [if_neg j0]
    refine SX_congr (fun x hx => ?_) (by have : M_X8_init.2.2.2.2.cells = 13 := rfl; omega)
    rw [adJ_hi (by omega), Nat.add_sub_cancel_left]
