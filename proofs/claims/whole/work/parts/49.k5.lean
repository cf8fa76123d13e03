def gridE (a : Nat) : va_E := .inr (3, [.ref a, .int 0, .int 0, .int 0, .int 0, .int 0, .int 0])
def SX (i : Nat) : FF := fun ct ad k => if k = 0 then .inr (7, [.ref (ad 1), .int 0, .int 0]) else if k = 1 then .inl (ct 3, 6, .inr (.inr (.inr (.inr (fun j => if j < i then some (ad (2 + 2 * j)) else none))))) else if k % 2 = 0 then gridE (ad (k + 1)) else .inl (ct 0, 50, .inl (fun _ => 0))
theorem SX_0 (i : Nat) (ct : Nat → ClassId) (ad : Nat → Nat) : SX i ct ad 0 = .inr (7, [.ref (ad 1), .int 0, .int 0]) := rfl
theorem SX_1 (i : Nat) (ct : Nat → ClassId) (ad : Nat → Nat) : SX i ct ad 1 = .inl (ct 3, 6, .inr (.inr (.inr (.inr (fun j => if j < i then some (ad (2 + 2 * j)) else none))))) := rfl
theorem SX_g {i : Nat} {ct : Nat → ClassId} {ad : Nat → Nat} {k : Nat} (h : 2 ≤ k) : SX i ct ad k = if k % 2 = 0 then gridE (ad (k + 1)) else .inl (ct 0, 50, .inl (fun _ => 0)) := by
  unfold SX
  rw [if_neg (by omega), if_neg (by omega)]
theorem adJ_lo {k j : Nat} {a b : Nat → Nat} (h : j < k) : adJ k a b j = a j := if_pos h
theorem adJ_hi {k j : Nat} {a b : Nat → Nat} (h : ¬ j < k) : adJ k a b j = b (j - k) := if_neg h
theorem fJ_lo {k j : Nat} {a b : Nat → va_E} (h : j < k) : fJ k a b j = a j := if_pos h
theorem fJ_hi {k j : Nat} {a b : Nat → va_E} (h : ¬ j < k) : fJ k a b j = b (j - k) := if_neg h
set_option maxRecDepth 100000 in
set_option maxHeartbeats 4000000 in
theorem l_X8_init {D : va_G} {ct : Nat → ClassId} {h0 sz : Nat} : ∀ (n i : Nat) (ad : Nat → Nat) (f : Nat → va_E), i + n = 6 → ad 0 = h0 → (∀ j, j < 2 + 2 * i → f j = SX i ct ad j) → Ec M_X8_init D ct h0 sz (SX 6) 15 [some (.ref h0), some (.int (nI i))] [] ad f (1 + 2 * i) (6 + 57 * i) := by
  intro n
  induction n with
  | zero =>
    intro i ad f hi h00 hf
    obtain rfl : i = 6 := by omega
    refine e_iload_n (pc' := 16) rfl dX8_init_15 rfl ?_
    refine e_bipush (v := 6) (pc' := 18) (by decide) dX8_init_16 rfl ?_
    refine e_icmp_ge (tgt := 40) (pc' := 21) (by decide) dX8_init_18 rfl (fun _ => ?_) (fun c => absurd (by decide) c)
    exact e_vret rfl dX8_init_40 h00 rfl (Nat.le_of_ble_eq_true rfl) (fun j hj => hf j (by omega))
  | succ n ih =>
    intro i ad f hi h00 hf
    have f0 := hf 0 (by omega)
    rw [SX_0] at f0
    have f1 := hf 1 (by omega)
    rw [SX_1] at f1
    refine e_iload_n (pc' := 16) rfl dX8_init_15 rfl ?_
    refine e_bipush (v := 6) (pc' := 18) (by decide) dX8_init_16 rfl ?_
    refine e_icmp_ge (tgt := 40) (pc' := 21) (by decide) dX8_init_18 rfl (fun c => absurd c (nI_ge (b := 6) (by omega) (by decide))) (fun _ => ?_)
    refine e_aload_n (pc' := 22) rfl dX8_init_21 rfl ?_
    refine e_get (i := 0) (j := 0) (pc' := 25) fk_X8_11 (by omega) h00 f0 rfl dX8_init_22 rfl ?_
    refine e_iload_n (pc' := 26) rfl dX8_init_25 rfl ?_
    refine e_new (pc' := 29) nk_3 rfl clk_X8_9 (show 1 + 2 * i + 1 ≤ 13 by omega) (show 6 + 57 * i + 7 ≤ 348 by omega) dX8_init_26 rfl (fun q => ?_)
    refine e_dup (pc' := 30) rfl dX8_init_29 rfl ?_
    refine e_topr (b := va_up ad (1 + 2 * i + 1) q (1 + 2 * i + 1)) (va_up_self _ _ _).symm ?_
    refine e_initN (pc' := 33) (F' := GX4) ik_X4_init (List.mem_cons_of_mem _ List.mem_cons_self) k_X4 ⟨Nat.le_of_ble_eq_true rfl, Nat.le_of_ble_eq_true rfl⟩ (va_up_self _ _ _) (show 1 + 2 * i + 1 + 1 ≤ 13 by omega) (show 6 + 57 * i + 7 + 50 ≤ 348 by omega) (Nat.le_of_ble_eq_true rfl) dX8_init_30 rfl (fun ad' hq => ?_)
    rw [va_up_self] at hq
    have A1 : ∀ j, j < 2 + 2 * i → adJ (1 + 2 * i + 1) (va_up ad (1 + 2 * i + 1) q) ad' j = ad j := fun j hj => by rw [adJ_lo (by omega), va_up_ne _ _ (by omega)]
    have A2 : adJ (1 + 2 * i + 1) (va_up ad (1 + 2 * i + 1) q) ad' (2 + 2 * i) = q := by rw [adJ_hi (by omega), show 2 + 2 * i - (1 + 2 * i + 1) = 0 by omega, hq]
    have A3 : adJ (1 + 2 * i + 1) (va_up ad (1 + 2 * i + 1) q) ad' (2 + 2 * i + 1) = ad' 1 := by rw [adJ_hi (by omega), show 2 + 2 * i + 1 - (1 + 2 * i + 1) = 1 by omega]
    have B1 : ∀ j, j < 2 + 2 * i → fJ (1 + 2 * i + 1) (va_up f (1 + 2 * i + 1) (.inr (3, df 3))) (GX4 ct ad') j = f j := fun j hj => by rw [fJ_lo (by omega), va_up_ne _ _ (by omega)]
    have B2 : fJ (1 + 2 * i + 1) (va_up f (1 + 2 * i + 1) (.inr (3, df 3))) (GX4 ct ad') (2 + 2 * i) = gridE (ad' 1) := by rw [fJ_hi (by omega), show 2 + 2 * i - (1 + 2 * i + 1) = 0 by omega]; rfl
    have B3 : fJ (1 + 2 * i + 1) (va_up f (1 + 2 * i + 1) (.inr (3, df 3))) (GX4 ct ad') (2 + 2 * i + 1) = .inl (ct 0, 50, .inl (fun _ => 0)) := by rw [fJ_hi (by omega), show 2 + 2 * i + 1 - (1 + 2 * i + 1) = 1 by omega]; rfl
    refine e_aast (i := 1) (i2 := 2 + 2 * i) (t := 3) (ci := 3) (n := 6) (pc' := 34) (C0 := RX4) (T0 := TX4) (by omega) (A1 1 (by omega)) ((B1 1 (by omega)).trans f1) (show 2 + 2 * i < 1 + 2 * i + 1 + 1 + 1 by omega) A2 B2 rfl rfl (vp_in_nI (by omega) (by decide)) dX8_init_33 rfl ?_
    rw [nI_clamp (by omega)]
    refine e_iinc (pc' := 37) rfl (nI_1 i) (by decide) rfl dX8_init_34 rfl ?_
    refine e_goto (tgt := 15) (by decide) dX8_init_37 ?_
    have hih := ih (i + 1) (adJ (1 + 2 * i + 1) (va_up ad (1 + 2 * i + 1) q) ad') (va_up (fJ (1 + 2 * i + 1) (va_up f (1 + 2 * i + 1) (.inr (3, df 3))) (GX4 ct ad')) 1 (.inl (ct 3, 6, .inr (.inr (.inr (.inr (va_up (fun j => if j < i then some (ad (2 + 2 * j)) else none) i (some q)))))))) (by omega) (by rw [A1 0 (by omega)]; exact h00) (fun j hj => by
      by_cases j1 : j = 1
      · subst j1
        rw [va_up_self, SX_1]
        congr 7
        funext x
        by_cases hx : x = i
        · subst hx
          rw [va_up_self, if_pos (by omega), A2]
        · rw [va_up_ne _ _ hx]
          by_cases hx2 : x < i
          · rw [if_pos hx2, if_pos (by omega), A1 _ (by omega)]
          · rw [if_neg hx2, if_neg (by omega)]
      · rw [va_up_ne _ _ j1]
        by_cases j0 : j = 0
        · subst j0
          rw [B1 0 (by omega), f0, SX_0, A1 1 (by omega)]
        · rw [SX_g (by omega)]
          by_cases j2 : j < 2 + 2 * i
          · rw [B1 j j2, hf j j2, SX_g (by omega)]
            by_cases e : j % 2 = 0
            · rw [if_pos e, if_pos e, A1 (j + 1) (by omega)]
            · rw [if_neg e, if_neg e]
          · by_cases j3 : j = 2 + 2 * i
            · subst j3
              rw [B2, if_pos (by omega), A3]
            · obtain rfl : j = 2 + 2 * i + 1 := by omega
              rw [B3, if_neg (by omega)])
    rw [show 1 + 2 * (i + 1) = 1 + 2 * i + 1 + 1 by omega, show 6 + 57 * (i + 1) = 6 + 57 * i + 7 + 50 by omega] at hih
    exact hih
set_option maxRecDepth 100000 in
set_option maxHeartbeats 4000000 in
theorem k_X8 : Ck yX8_init M_X8_init 7 (SX 6) := by
  refine ck_of (k := 1) rfl rfl rfl (by decide) (fun D ct h0 sz => ?_)
  refine e_aload_n (pc' := 1) rfl dX8_init_0 rfl ?_
  refine e_objInit (pc' := 4) oi_X8 (by decide) (by decide) dX8_init_1 rfl ?_
  refine e_aload_n (pc' := 5) rfl dX8_init_4 rfl ?_
  refine e_bipush (v := 6) (pc' := 7) (by decide) dX8_init_5 rfl ?_
  refine e_anew (t := 3) (N' := 6) (pc' := 10) clk_X8_9 (Or.inl rfl) rfl (by decide +kernel) (by decide +kernel) (Nat.le_of_ble_eq_true rfl) (Nat.le_of_ble_eq_true rfl) (Nat.le_of_ble_eq_true rfl) dX8_init_7 rfl (fun q => ?_)
  refine e_putF (i := 0) (j := 0) (pc' := 13) fk_X8_11 (pf_7_0 _) (by decide) rfl rfl (Nat.le_of_ble_eq_true rfl) dX8_init_10 rfl ?_
  refine e_iconst (v := 0) (pc' := 14) (by decide) dX8_init_13 rfl ?_
  refine e_istore_n (lv' := [_, _]) (pc' := 15) (by decide) rfl dX8_init_14 rfl ?_
  refine l_X8_init 6 0 _ _ rfl rfl (fun j hj => ?_)
  match j, hj with
  | 0, _ => rfl
  | 1, _ => rfl
  | j + 2, hj => exact absurd hj (by omega)
