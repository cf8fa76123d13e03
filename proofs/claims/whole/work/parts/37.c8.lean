theorem SR.node {σ : St} {s G K R : Nat} {v : Nat → Int32} {a b : Int32} (h : SR σ s v) (hG : G < cN v) (hK : K < fN v G 4) (hR : R < fN v G 5) (ha : Sm a) (hb : Sm b) : SR (pA σ (σ.2.2 (29 + 2 * s + 1) G + 1) (set2 (σ.1 (σ.2.2 (29 + 2 * s + 1) G + 1)) (2 * (5 * R + K)) a b)) s (set2 v (ndI G K R) a b) ∧ ChS σ (pA σ (σ.2.2 (29 + 2 * s + 1) G + 1) (set2 (σ.1 (σ.2.2 (29 + 2 * s + 1) G + 1)) (2 * (5 * R + K)) a b)) s := by
  have hv := h.2.2.2
  obtain ⟨g6, c5, r5, c2, r2, s1, s64⟩ := hv.b hG
  refine h.off hG (Ok_set2 hv ha hb) (fun j hj => set2_lo (by unfold ndI; omega)) (fun g c r w hne hg hc hr hw => ?_) ((h.agr hG).set a b)
  obtain ⟨g6', c5', r5', -⟩ := hv.b hg
  exact oV_set2 (by omega) (by omega) (by omega) (by omega) hw hne
theorem SR.fill {σ : St} {s G : Nat} {v : Nat → Int32} {a b : Int32} (h : SR σ s v) (hG : G < cN v) (ha : Sm a) (hb : Sm b) : SR (pA σ (σ.2.2 (29 + 2 * s + 1) G + 1) (fcV (σ.1 (σ.2.2 (29 + 2 * s + 1) G + 1)) (fN v G 4) a b (fN v G 4 * fN v G 5))) s (flV v (fN v G 4) G a b (fN v G 4 * fN v G 5)) ∧ ChS σ (pA σ (σ.2.2 (29 + 2 * s + 1) G + 1) (fcV (σ.1 (σ.2.2 (29 + 2 * s + 1) G + 1)) (fN v G 4) a b (fN v G 4 * fN v G 5))) s := by
  have hv := h.2.2.2
  obtain ⟨g6, c5, r5, c2, r2, s1, s64⟩ := hv.b hG
  refine h.off hG (fl_ok hv _ G ha hb _) (fun j hj => flV_lo v _ G a b hj _) (fun g c r w hne hg hc hr hw => ?_) (fl_agr (h.agr hG) a b _)
  obtain ⟨g6', c5', r5', -⟩ := hv.b hg
  exact fl_oV a b (by omega) c5 r5 (by omega) (by omega) hw hne _ (Nat.le_refl _)
/-! ===== Draws ===== -/
set_option maxRecDepth 100000 in
set_option maxHeartbeats 4000000 in
theorem c_X3_draw {σ : St} {x : Int32} {s m : Nat} (hs : σ.1 9 0 = nI s) (hs31 : s < 2 ^ 31) (hx : x = nI m) (h0 : 0 < m) (hm : m < 2 ^ 31) : Ct yX3_draw M_X3_draw [.ref 9, .int x] σ (some (.int (nI (sd s / 65536 % m))), pI σ 9 0 (nI (sd s))) := by
  subst hx
  refine ct_of (k := 0) rfl rfl rfl (Nat.le_of_ble_eq_true rfl) ?_
  refine x_aload_n (pc' := 1) rfl dX3_draw_0 rfl ?_
  refine x_aload_n (pc' := 2) rfl dX3_draw_1 rfl ?_
  refine x_get (v := .int _) (pc' := 5) fk_X3_7 (by first | assumption | exact ⟨by decide, rfl⟩) rfl dX3_draw_2 rfl ?_
  refine x_i2l (pc' := 6) dX3_draw_5 rfl ?_
  refine x_topl (y := lN s) (by rw [hs]; exact nI_l hs31) ?_
  refine x_ldc2 (pc' := 9) kl_X3_13 dX3_draw_6 rfl ?_
  refine x_lmul (pc' := 10) dX3_draw_9 rfl ?_
  refine x_ldc2 (pc' := 13) kl_X3_15 dX3_draw_10 rfl ?_
  refine x_ladd (pc' := 14) dX3_draw_13 rfl ?_
  refine x_ldc2 (pc' := 17) kl_X3_17 dX3_draw_14 rfl ?_
  refine x_land (pc' := 18) dX3_draw_17 rfl ?_
  refine x_topl (y := lN (sd s)) sd_l ?_
  refine x_l2i (pc' := 19) dX3_draw_18 rfl ?_
  refine x_top (lN_i _) ?_
  refine x_puti (pc' := 22) fk_X3_7 pk_2_0 rfl (by first | assumption | exact ⟨by decide, rfl⟩) dX3_draw_19 rfl ?_
  refine x_iload_n (pc' := 23) rfl dX3_draw_22 rfl ?_
  refine x_if_le (tgt := 38) (pc' := 26) (by decide) dX3_draw_23 rfl (fun c23 => absurd c23 (by rw [show (0 : Int32) = nI 0 from rfl, nI_leI hm (by decide)]; omega)) (fun c23 => ?_)
  refine x_aload_n (pc' := 27) rfl dX3_draw_26 rfl ?_
  refine x_get (v := .int _) (pc' := 30) fk_X3_7 (by first | assumption | exact ⟨by decide, rfl⟩) rfl dX3_draw_27 rfl ?_
  refine x_top (y := nI (sd s)) rfl ?_
  refine x_ldc (pc' := 32) kc_X3_19 dX3_draw_30 rfl ?_
  refine x_idiv (pc' := 33) (by decide) dX3_draw_32 rfl ?_
  refine x_top (pk_div (d := 65536) (sd_lt s) (by decide) (by decide)) ?_
  refine x_iload_n (pc' := 34) rfl dX3_draw_33 rfl ?_
  refine x_irem (pc' := 35) (nI_ne0 h0 hm) dX3_draw_34 rfl ?_
  refine x_top (pk_rem (by have := sd_lt s; omega) h0 hm) ?_
  refine x_goto (tgt := 39) (by decide) dX3_draw_35 ?_
  exact x_iret rfl dX3_draw_39 rfl
theorem pI_pI (σ : St) (k j : Nat) (a b : Int32) : pI (pI σ k j a) k j b = pI σ k j b := by
  refine Prod.ext ?_ rfl
  funext x y
  show (if x = k ∧ y = j then b else if x = k ∧ y = j then a else σ.1 x y) = if x = k ∧ y = j then b else σ.1 x y
  by_cases h : x = k ∧ y = j
  · rw [if_pos h, if_pos h]
  · rw [if_neg h, if_neg h, if_neg h]
theorem SR.seed {σ : St} {s : Nat} {v : Nat → Int32} (h : SR σ s v) (x : Int32) : SR (pI σ 9 0 x) s v := h.frame (fun a b ha => by rw [pI_ne]; have := h.1.1; unfold Own at ha; omega) (fun _ => rfl)
set_option maxRecDepth 100000 in
set_option maxHeartbeats 4000000 in
theorem c_X3_shiftNode {σ : St} {v : Nat → Int32} {s : Nat} (h : SR σ 0 v) (hc : 0 < cN v) (hs : σ.1 9 0 = nI s) (hs31 : s < 2 ^ 31) : ∃ σ', Ct yX3_shiftNode M_X3_shiftNode [.ref 9, .ref 29] σ (none, σ') ∧ SR σ' 0 (drow v s) ∧ σ'.1 9 0 = nI (drS s) ∧ ChS (pI σ 9 0 (nI (drS s))) σ' 0 ∧ σ'.2.2 = σ.2.2 := by
  have hv := h.2.2.2
  have h6 := hv.c6
  have hk0 : Is 29 0 7 := h.2.1.1
  have hG : drG v s < cN v := Nat.mod_lt _ hc
  obtain ⟨g6, c5, r5, c2, r2, s1, s64⟩ := hv.b hG
  have hK : drK v s < fN v (drG v s) 4 := Nat.mod_lt _ (by omega)
  have hR : drR v s < fN v (drG v s) 5 := Nat.mod_lt _ (by omega)
  have a1 := h.seed (nI (sd s))
  have a2 := h.seed (nI (sd (sd s)))
  have a5 := h.seed (nI (drS s))
  obtain ⟨hq, hr1, hf, -⟩ := a1.2.g hG
  obtain ⟨-, hr2, -, -⟩ := a2.2.g hG
  obtain ⟨hq0, hq1⟩ := id hq
  have eC : (pI σ 9 0 (nI (sd s))).1 (σ.2.2 (29 + 1) (drG v s)) 5 = nI (fN v (drG v s) 4) := hr1.at hf (e := 4) (by decide) (by decide)
  have eR : (pI σ 9 0 (nI (sd (sd s)))).1 (σ.2.2 (29 + 1) (drG v s)) 6 = nI (fN v (drG v s) 5) := hr2.at hf (e := 5) (by decide) (by decide)
  obtain ⟨n1, n2⟩ := a5.node hG hK hR (drX_sm (sd (sd (sd s)))) (drX_sm (sd (sd (sd (sd s)))))
  refine ⟨_, ?_, n1, ?_, n2, rfl⟩
  · refine ct_of (k := 5) rfl rfl rfl (Nat.le_of_ble_eq_true rfl) ?_
    refine x_aload_n (pc' := 1) rfl dX3_shiftNode_0 rfl ?_
    refine x_ifnonnull (tgt := 8) (by decide) dX3_shiftNode_1 ?_
    refine x_aload_n (pc' := 9) rfl dX3_shiftNode_8 rfl ?_
    refine x_aload_n (pc' := 10) rfl dX3_shiftNode_9 rfl ?_
    refine x_aload_n (pc' := 11) rfl dX3_shiftNode_10 rfl ?_
    refine x_callVi (As := []) (rest := [.ref _, .ref _]) (ci := 7) (pc' := 14) rfl vk_X3_20 mk_X8_size (by decide) (by first | assumption | exact ⟨by decide, rfl⟩) (by decide) rfl (Nat.le_of_ble_eq_true rfl) dX3_shiftNode_11 rfl (c_X8_size hk0) ?_
    refine x_callVi (As := [.int _]) (rest := [.ref _]) (ci := 2) (pc' := 17) rfl vk_X3_26 mk_X3_draw (by decide) (by first | assumption | exact ⟨by decide, rfl⟩) (by decide) rfl (Nat.le_of_ble_eq_true rfl) dX3_shiftNode_14 rfl (c_X3_draw hs hs31 h.2.n hc (by omega)) ?_
    refine x_callVi (As := [.int _]) (rest := []) (ci := 7) (pc' := 20) rfl vk_X3_30 mk_X8_at (by decide) (by first | assumption | exact ⟨by decide, rfl⟩) (by decide) rfl (Nat.le_of_ble_eq_true rfl) dX3_shiftNode_17 rfl (t_X8_at (G := drG v s) a1.2.1 a1.2.n h6 rfl hG) ?_
    refine x_astore_n (lv' := [_, _, _, _, _, _, _]) (pc' := 21) (by decide) rfl dX3_shiftNode_20 rfl ?_
    refine x_aload_n (pc' := 22) rfl dX3_shiftNode_21 rfl ?_
    refine x_ifnonnull (tgt := 26) (by decide) dX3_shiftNode_22 ?_
    refine x_aload_n (pc' := 27) rfl dX3_shiftNode_26 rfl ?_
    refine x_aload_n (pc' := 28) rfl dX3_shiftNode_27 rfl ?_
    refine x_get (v := .int _) (pc' := 31) fk_X3_34 (by first | assumption | exact ⟨by decide, rfl⟩) rfl dX3_shiftNode_28 rfl ?_
    refine x_callVi (As := [.int _]) (rest := []) (ci := 2) (pc' := 34) rfl vk_X3_26 mk_X3_draw (by decide) (by first | assumption | exact ⟨by decide, rfl⟩) (by decide) rfl (Nat.le_of_ble_eq_true rfl) dX3_shiftNode_31 rfl (c_X3_draw (s := sd s) rfl (sd_lt _) eC (by omega) (by omega)) ?_
    refine x_st (σ' := pI σ 9 0 (nI (sd (sd s)))) (pI_pI _ _ _ _ _) ?_
    refine x_istore_n (lv' := [_, _, _, _, _, _, _]) (pc' := 35) (by decide) rfl dX3_shiftNode_34 rfl ?_
    refine x_aload_n (pc' := 36) rfl dX3_shiftNode_35 rfl ?_
    refine x_aload_n (pc' := 37) rfl dX3_shiftNode_36 rfl ?_
    refine x_get (v := .int _) (pc' := 40) fk_X3_39 (by first | assumption | exact ⟨by decide, rfl⟩) rfl dX3_shiftNode_37 rfl ?_
    refine x_callVi (As := [.int _]) (rest := []) (ci := 2) (pc' := 43) rfl vk_X3_26 mk_X3_draw (by decide) (by first | assumption | exact ⟨by decide, rfl⟩) (by decide) rfl (Nat.le_of_ble_eq_true rfl) dX3_shiftNode_40 rfl (c_X3_draw (s := sd (sd s)) rfl (sd_lt _) eR (by omega) (by omega)) ?_
    refine x_st (σ' := pI σ 9 0 (nI (sd (sd (sd s))))) (pI_pI _ _ _ _ _) ?_
    refine x_istore (lv' := [_, _, _, _, _, _, _]) (pc' := 45) (by decide) rfl dX3_shiftNode_43 rfl ?_
    refine x_aload_n (pc' := 46) rfl dX3_shiftNode_45 rfl ?_
    refine x_sipush (v := 401) (pc' := 49) (by decide) dX3_shiftNode_46 rfl ?_
    refine x_callVi (As := [.int _]) (rest := []) (ci := 2) (pc' := 52) rfl vk_X3_26 mk_X3_draw (by decide) (by first | assumption | exact ⟨by decide, rfl⟩) (by decide) rfl (Nat.le_of_ble_eq_true rfl) dX3_shiftNode_49 rfl (c_X3_draw (s := sd (sd (sd s))) (m := 401) rfl (sd_lt _) rfl (by decide) (by decide)) ?_
    refine x_st (σ' := pI σ 9 0 (nI (sd (sd (sd (sd s)))))) (pI_pI _ _ _ _ _) ?_
    refine x_sipush (v := 200) (pc' := 55) (by decide) dX3_shiftNode_52 rfl ?_
    refine x_isub (pc' := 56) dX3_shiftNode_55 rfl ?_
    refine x_istore (lv' := [_, _, _, _, _, _, _]) (pc' := 58) (by decide) rfl dX3_shiftNode_56 rfl ?_
    refine x_aload_n (pc' := 59) rfl dX3_shiftNode_58 rfl ?_
    refine x_sipush (v := 401) (pc' := 62) (by decide) dX3_shiftNode_59 rfl ?_
    refine x_callVi (As := [.int _]) (rest := []) (ci := 2) (pc' := 65) rfl vk_X3_26 mk_X3_draw (by decide) (by first | assumption | exact ⟨by decide, rfl⟩) (by decide) rfl (Nat.le_of_ble_eq_true rfl) dX3_shiftNode_62 rfl (c_X3_draw (s := sd (sd (sd (sd s)))) (m := 401) rfl (sd_lt _) rfl (by decide) (by decide)) ?_
    refine x_st (σ' := pI σ 9 0 (nI (drS s))) (pI_pI _ _ _ _ _) ?_
    refine x_sipush (v := 200) (pc' := 68) (by decide) dX3_shiftNode_65 rfl ?_
    refine x_isub (pc' := 69) dX3_shiftNode_68 rfl ?_
    refine x_istore (lv' := [_, _, _, _, _, _, _]) (pc' := 71) (by decide) rfl dX3_shiftNode_69 rfl ?_
    refine x_aload_n (pc' := 72) rfl dX3_shiftNode_71 rfl ?_
    refine x_iload_n (pc' := 73) rfl dX3_shiftNode_72 rfl ?_
    refine x_iload (pc' := 75) rfl dX3_shiftNode_73 rfl ?_
    refine x_iload (pc' := 77) rfl dX3_shiftNode_75 rfl ?_
    refine x_iload (pc' := 79) rfl dX3_shiftNode_77 rfl ?_
    refine x_callVi (As := [.int _, .int _, .int _, .int _]) (rest := []) (ci := 3) (pc' := 82) rfl vk_X3_42 mk_X4_setOffset (by decide) (by first | assumption | exact ⟨by decide, rfl⟩) (by decide) rfl (Nat.le_of_ble_eq_true rfl) dX3_shiftNode_79 rfl (c_X4_setOffset hq (K := drK v s) (R := drR v s) rfl rfl (by omega) (by omega)) ?_
    refine x_pop (pc' := 83) rfl dX3_shiftNode_82 rfl ?_
    exact x_vret rfl dX3_shiftNode_83 rfl
  · rw [pA_ne]
    · rfl
    · have : 67 ≤ σ.2.2 (29 + 1) (drG v s) := lay_0_3 hq0
      show 9 ≠ σ.2.2 (29 + 1) (drG v s) + 1
      omega
/-! ===== History ===== -/
def HistC (σ : St) (U : Nat) (t : Nat → Nat → Int32) : Prop := σ.1 1 2 = nI U ∧ U ≤ 16 ∧ ∃ N, N < 16 ∧ σ.1 1 1 = nI N ∧ ∀ i, i < U → SR σ (1 + (N + 15 - i) % 16) (t i)
def FrD (σ σ' : St) : Prop := (∀ a b, a ≠ 1 → (∀ s, s ≤ 16 → ¬ Own s a) → σ'.1 a b = σ.1 a b) ∧ σ'.2.1 = σ.2.1 ∧ ∀ a b, a ≠ 30 → σ'.2.2 a b = σ.2.2 a b
theorem FrD.rf (σ : St) : FrD σ σ := ⟨fun _ _ _ _ => rfl, rfl, fun _ _ _ => rfl⟩
theorem FrD.trans {a b c : St} (h : FrD a b) (h2 : FrD b c) : FrD a c := ⟨fun k j hk hs => (h2.1 k j hk hs).trans (h.1 k j hk hs), h2.2.1.trans h.2.1, fun k j hk => (h2.2.2 k j hk).trans (h.2.2 k j hk)⟩
theorem ChS.fr {σ σ' : St} (h : ChS σ σ' 0) : FrD σ σ' := ⟨fun a b _ hs => h.1 a b (hs 0 (by decide)), h.2.1, fun a b ha => h.2.2 a b ha⟩
theorem HistC.ch {σ σ' : St} {U : Nat} {t : Nat → Nat → Int32} (h : HistC σ U t) (hc : ChS σ σ' 0) : HistC σ' U t := by
  obtain ⟨h1, h2, N, h3, h4, h5⟩ := h
  have hn : ¬ Own 0 1 := by unfold Own; omega
  exact ⟨by rw [hc.1 _ _ hn]; exact h1, h2, N, h3, by rw [hc.1 _ _ hn]; exact h4, fun i hi => hc.other (by decide) (by omega) (h5 i hi)⟩
theorem fm16 : ∀ n, n < 32 → fmd (nI n) 16 = nI (n % 16) := by decide +kernel
theorem fm16m : ∀ n, n < 16 → ∀ k, k < 17 → fmd (nI n - nI k) 16 = nI ((n + 16 - k) % 16) := by decide +kernel
set_option maxRecDepth 100000 in
set_option maxHeartbeats 4000000 in
theorem c_X5_push {σ : St} {v : Nat → Int32} {U : Nat} {t : Nat → Nat → Int32} (h : SR σ 0 v) (hA : ∀ s, s < 19 → Sh σ s) (ht : HistC σ U t) : ∃ σ', Ct yX5_push M_X5_push [.ref 1, .ref 29] σ (none, σ') ∧ SR σ' 0 v ∧ HistC σ' (min (U + 1) 16) (pushT v t) ∧ FrD σ σ' ∧ σ'.2.2 = σ.2.2 := by
  obtain ⟨h1, h2, N, h3, h4, h5⟩ := ht
  obtain ⟨τ, hE, c1, c2, c3⟩ := c_X8_copyFrom (s := 1 + N) (t := 0) (hA _ (by omega)) h (by omega)
  have n1 : ¬ Own (1 + N) 1 := by unfold Own; omega
  have hk0 : Is 29 0 7 := h.2.1.1
  have hk1 : Is (29 + 2 * (1 + N)) 0 7 := is_sh (by omega)
  have e1 : τ.1 1 1 = nI N := by rw [c1.1 _ _ n1]; exact h4
  have e2 : τ.1 1 2 = nI U := by rw [c1.1 _ _ n1]; exact h1
  have fr : ∀ (s : Nat) (w : Nat → Int32), SR τ s w → SR (pI (pI τ 1 1 (nI ((N + 1) % 16))) 1 2 (nI (min (U + 1) 16))) s w := fun s w hw => hw.frame (fun a b ha => by rw [pI_ne (by unfold Own at ha; omega), pI_ne (by unfold Own at ha; omega)]) (fun _ => rfl)
  refine ⟨pI (pI τ 1 1 (nI ((N + 1) % 16))) 1 2 (nI (min (U + 1) 16)), ?_, fr _ _ (c1.other (by omega) (by omega) h), ⟨rfl, Nat.min_le_right _ _, (N + 1) % 16, by omega, rfl, fun i hi => fr _ _ ?_⟩, ⟨fun a b ha hs => ?_, c1.2.1, fun a b _ => by rw [← c2]; rfl⟩, c2⟩
  · refine ct_of (k := 1) rfl rfl rfl (Nat.le_of_ble_eq_true rfl) ?_
    refine x_aload_n (pc' := 1) rfl dX5_push_0 rfl ?_
    refine x_get (v := .ref 2) (pc' := 4) fk_X5_11 (by first | assumption | exact ⟨by decide, rfl⟩) rfl dX5_push_1 rfl ?_
    refine x_aload_n (pc' := 5) rfl dX5_push_4 rfl ?_
    refine x_get (v := .int _) (pc' := 8) fk_X5_22 (by first | assumption | exact ⟨by decide, rfl⟩) rfl dX5_push_5 rfl ?_
    refine x_bipush (v := 16) (pc' := 10) (by decide) dX5_push_8 rfl ?_
    refine x_callSi (As := [.int _, .int _]) (rest := [.ref _]) (pc' := 13) rfl sk_X5_25 mk_J9_floorMod_7cf53 (by decide) rfl (Nat.le_of_ble_eq_true rfl) dX5_push_10 rfl (c_J9_floorMod_7cf53 (by decide)) ?_
    refine x_top (y := nI N) (by rw [h4, fm16 N (by omega), Nat.mod_eq_of_lt h3]) ?_
    refine x_aaldSn (N := 16) (n := N) (pc' := 14) (by first | assumption | exact ⟨by decide, rfl⟩) (by decide) rfl h3 dX5_push_13 rfl ?_
    refine x_topr (y := 29 + 2 * (1 + N)) (by omega) ?_
    refine x_astore_n (lv' := [_, _, _]) (pc' := 15) (by decide) rfl dX5_push_14 rfl ?_
    refine x_aload_n (pc' := 16) rfl dX5_push_15 rfl ?_
    refine x_ifnonnull (tgt := 20) (by decide) dX5_push_16 ?_
    refine x_aload_n (pc' := 21) rfl dX5_push_20 rfl ?_
    refine x_aload_n (pc' := 22) rfl dX5_push_21 rfl ?_
    refine x_callVv (As := [.ref _]) (rest := []) (ci := 7) (pc' := 25) rfl vk_X5_31 mk_X8_copyFrom (by decide) (by first | assumption | exact ⟨by decide, rfl⟩) (by decide) rfl (Nat.le_of_ble_eq_true rfl) dX5_push_22 rfl hE ?_
    refine x_aload_n (pc' := 26) rfl dX5_push_25 rfl ?_
    refine x_aload_n (pc' := 27) rfl dX5_push_26 rfl ?_
    refine x_get (v := .int _) (pc' := 30) fk_X5_22 (by first | assumption | exact ⟨by decide, rfl⟩) rfl dX5_push_27 rfl ?_
    refine x_iconst (v := 1) (pc' := 31) (by decide) dX5_push_30 rfl ?_
    refine x_iadd (pc' := 32) dX5_push_31 rfl ?_
    refine x_bipush (v := 16) (pc' := 34) (by decide) dX5_push_32 rfl ?_
    refine x_callSi (As := [.int _, .int _]) (rest := [.ref _]) (pc' := 37) rfl sk_X5_25 mk_J9_floorMod_7cf53 (by decide) rfl (Nat.le_of_ble_eq_true rfl) dX5_push_34 rfl (c_J9_floorMod_7cf53 (by decide)) ?_
    refine x_top (y := nI ((N + 1) % 16)) (by rw [e1, nI_1, fm16 (N + 1) (by omega)]) ?_
    refine x_puti (pc' := 40) fk_X5_22 pk_4_1 rfl (by first | assumption | exact ⟨by decide, rfl⟩) dX5_push_37 rfl ?_
    refine x_aload_n (pc' := 41) rfl dX5_push_40 rfl ?_
    refine x_aload_n (pc' := 42) rfl dX5_push_41 rfl ?_
    refine x_get (v := .int _) (pc' := 45) fk_X5_18 (by first | assumption | exact ⟨by decide, rfl⟩) rfl dX5_push_42 rfl ?_
    refine x_iconst (v := 1) (pc' := 46) (by decide) dX5_push_45 rfl ?_
    refine x_iadd (pc' := 47) dX5_push_46 rfl ?_
    refine x_bipush (v := 16) (pc' := 49) (by decide) dX5_push_47 rfl ?_
    refine x_callSi (As := [.int _, .int _]) (rest := [.ref _]) (pc' := 52) rfl sk_X5_35 mk_J9_min_7cf53 (by decide) rfl (Nat.le_of_ble_eq_true rfl) dX5_push_49 rfl c_J9_min_7cf53 ?_
    refine x_top (y := nI (min (U + 1) 16)) (by show mn (τ.1 1 2 + 1) 16 = _; rw [e2, nI_1]; exact mn_nI (b := 16) (by omega) (by decide)) ?_
    refine x_puti (pc' := 55) fk_X5_18 pk_4_2 rfl (by first | assumption | exact ⟨by decide, rfl⟩) dX5_push_52 rfl ?_
    exact x_vret rfl dX5_push_55 rfl
  · match i, hi with
    | 0, _ => rw [show 1 + ((N + 1) % 16 + 15 - 0) % 16 = 1 + N by omega]; exact c3
    | i + 1, hi =>
      have e : 1 + ((N + 1) % 16 + 15 - (i + 1)) % 16 = 1 + (N + 15 - i) % 16 := by omega
      rw [e]
      exact c1.other (by omega) (by omega) (h5 i (by omega))
  · rw [pI_ne ha, pI_ne ha]
    exact c1.1 a b (hs (1 + N) (by omega))
set_option maxRecDepth 100000 in
set_option maxHeartbeats 4000000 in
theorem c_X5_takeBack {σ : St} {v : Nat → Int32} {U n : Nat} {t : Nat → Nat → Int32} (h : SR σ 0 v) (ht : HistC σ U t) (hn1 : 1 ≤ n) (hn : n ≤ U) : ∃ σ', Ct yX5_takeBack M_X5_takeBack [.ref 1, .ref 29, .int (nI n)] σ (none, σ') ∧ SR σ' 0 (t (n - 1)) ∧ HistC σ' (U - n) (fun i => t (i + n)) ∧ FrD σ σ' ∧ σ'.2.2 = σ.2.2 := by
  obtain ⟨h1, h2, N, h3, h4, h5⟩ := ht
  have hk0 : Is 29 0 7 := h.2.1.1
  have hk1 : Is (29 + 2 * (1 + (N + 16 - n) % 16)) 0 7 := is_sh (by omega)
  have fr : ∀ (s : Nat) (w : Nat → Int32), SR σ s w → SR (pI (pI σ 1 1 (nI ((N + 16 - n) % 16))) 1 2 (nI (U - n))) s w := fun s w hw => hw.frame (fun a b ha => by rw [pI_ne (by unfold Own at ha; omega), pI_ne (by unfold Own at ha; omega)]) (fun _ => rfl)
  have hsrc := fr _ _ (h5 (n - 1) (by omega))
  rw [show 1 + (N + 15 - (n - 1)) % 16 = 1 + (N + 16 - n) % 16 by omega] at hsrc
  obtain ⟨τ, hE, c1, c2, c3⟩ := c_X8_copyFrom (s := 0) (fr _ _ h).1 hsrc (by omega)
  have n1 : ¬ Own 0 1 := by unfold Own; omega
  refine ⟨τ, ?_, c3, ⟨by rw [c1.1 _ _ n1]; rfl, by omega, (N + 16 - n) % 16, by omega, by rw [c1.1 _ _ n1]; rfl, fun i hi => ?_⟩, ⟨fun a b ha hs => ?_, c1.2.1, fun a b _ => by rw [c2]; rfl⟩, c2⟩
  · refine ct_of (k := 0) rfl rfl rfl (Nat.le_of_ble_eq_true rfl) ?_
    refine x_aload_n (pc' := 1) rfl dX5_takeBack_0 rfl ?_
    refine x_ifnonnull (tgt := 5) (by decide) dX5_takeBack_1 ?_
    refine x_aload_n (pc' := 6) rfl dX5_takeBack_5 rfl ?_
    refine x_aload_n (pc' := 7) rfl dX5_takeBack_6 rfl ?_
    refine x_get (v := .int _) (pc' := 10) fk_X5_22 (by first | assumption | exact ⟨by decide, rfl⟩) rfl dX5_takeBack_7 rfl ?_
    refine x_iload_n (pc' := 11) rfl dX5_takeBack_10 rfl ?_
    refine x_isub (pc' := 12) dX5_takeBack_11 rfl ?_
    refine x_bipush (v := 16) (pc' := 14) (by decide) dX5_takeBack_12 rfl ?_
    refine x_callSi (As := [.int _, .int _]) (rest := [.ref _]) (pc' := 17) rfl sk_X5_25 mk_J9_floorMod_7cf53 (by decide) rfl (Nat.le_of_ble_eq_true rfl) dX5_takeBack_14 rfl (c_J9_floorMod_7cf53 (by decide)) ?_
    refine x_top (y := nI ((N + 16 - n) % 16)) (by rw [h4, fm16m N h3 n (by omega)]) ?_
    refine x_puti (pc' := 20) fk_X5_22 pk_4_1 rfl (by first | assumption | exact ⟨by decide, rfl⟩) dX5_takeBack_17 rfl ?_
    refine x_aload_n (pc' := 21) rfl dX5_takeBack_20 rfl ?_
    refine x_aload_n (pc' := 22) rfl dX5_takeBack_21 rfl ?_
    refine x_get (v := .int _) (pc' := 25) fk_X5_18 (by first | assumption | exact ⟨by decide, rfl⟩) rfl dX5_takeBack_22 rfl ?_
    refine x_iload_n (pc' := 26) rfl dX5_takeBack_25 rfl ?_
    refine x_isub (pc' := 27) dX5_takeBack_26 rfl ?_
    refine x_iconst (v := 0) (pc' := 28) (by decide) dX5_takeBack_27 rfl ?_
    refine x_callSi (As := [.int _, .int _]) (rest := [.ref _]) (pc' := 31) rfl sk_X5_38 mk_J9_max_7cf53 (by decide) rfl (Nat.le_of_ble_eq_true rfl) dX5_takeBack_28 rfl c_J9_max_7cf53 ?_
    refine x_top (y := nI (U - n)) (by show mx (σ.1 1 2 - nI n) 0 = _; rw [h1, pk_sub hn]; exact mx_0 (nI_pos' (by omega))) ?_
    refine x_puti (pc' := 34) fk_X5_18 pk_4_2 rfl (by first | assumption | exact ⟨by decide, rfl⟩) dX5_takeBack_31 rfl ?_
    refine x_aload_n (pc' := 35) rfl dX5_takeBack_34 rfl ?_
    refine x_aload_n (pc' := 36) rfl dX5_takeBack_35 rfl ?_
    refine x_get (v := .ref 2) (pc' := 39) fk_X5_11 (by first | assumption | exact ⟨by decide, rfl⟩) rfl dX5_takeBack_36 rfl ?_
    refine x_aload_n (pc' := 40) rfl dX5_takeBack_39 rfl ?_
    refine x_get (v := .int _) (pc' := 43) fk_X5_22 (by first | assumption | exact ⟨by decide, rfl⟩) rfl dX5_takeBack_40 rfl ?_
    refine x_aaldSn (N := 16) (n := ((N + 16 - n) % 16)) (pc' := 44) (by first | assumption | exact ⟨by decide, rfl⟩) (by decide) rfl (by omega) dX5_takeBack_43 rfl ?_
    refine x_topr (y := 29 + 2 * (1 + (N + 16 - n) % 16)) (by omega) ?_
    refine x_callVv (As := [.ref _]) (rest := []) (ci := 7) (pc' := 47) rfl vk_X5_31 mk_X8_copyFrom (by decide) (by first | assumption | exact ⟨by decide, rfl⟩) (by decide) rfl (Nat.le_of_ble_eq_true rfl) dX5_takeBack_44 rfl hE ?_
    exact x_vret rfl dX5_takeBack_47 rfl
  · have := c1.other (by decide) (by omega) (fr _ _ (h5 (i + n) (by omega)))
    rw [show 1 + (N + 15 - (i + n)) % 16 = 1 + ((N + 16 - n) % 16 + 15 - i) % 16 by omega] at this
    exact this
  · rw [c1.1 a b (hs 0 (by decide)), pI_ne ha, pI_ne ha]
/-! ===== Image ===== -/
theorem rf_5 (i : Nat) : rf 5 0 (3 + i) = 29 + 2 * (17 + i) := by
  simp [rf]
  omega
set_option maxRecDepth 100000 in
set_option maxHeartbeats 4000000 in
theorem c_X6_wasTaken {σ : St} {i : Nat} (hi : i < 2) (hz : σ.1 (3 + i) 2 = 0 ∨ σ.1 (3 + i) 2 = 1) : Ct yX6_wasTaken M_X6_wasTaken [.ref (3 + i)] σ (some (.int (σ.1 (3 + i) 2)), σ) := by
  have hk : Is (3 + i) 0 5 := by
    match i, hi with
    | 0, _ => exact ⟨by decide, rfl⟩
    | 1, _ => exact ⟨by decide, rfl⟩
  refine ct_of (k := 0) rfl rfl rfl (Nat.le_of_ble_eq_true rfl) ?_
  refine x_aload_n (pc' := 1) rfl dX6_wasTaken_0 rfl ?_
  refine x_get (v := .int _) (pc' := 4) fk_X6_16 (by first | assumption | exact ⟨by decide, rfl⟩) rfl dX6_wasTaken_1 rfl ?_
  exact x_zret rfl (by rcases hz with q | q <;> rw [q] <;> rfl) dX6_wasTaken_4 rfl
set_option maxRecDepth 100000 in
set_option maxHeartbeats 4000000 in
theorem c_X6_take {σ : St} {v : Nat → Int32} {i : Nat} (hi : i < 2) (h : SR σ 0 v) (hA : ∀ s, s < 19 → Sh σ s) : ∃ σ', Ct yX6_take M_X6_take [.ref (3 + i), .ref 29, .ref 9] σ (none, pI (pI σ' (3 + i) 1 (σ.1 9 0)) (3 + i) 2 1) ∧ SR σ' (17 + i) v ∧ ChS σ σ' (17 + i) ∧ σ'.2.2 = σ.2.2 := by
  have hk : Is (3 + i) 0 5 := by
    match i, hi with
    | 0, _ => exact ⟨by decide, rfl⟩
    | 1, _ => exact ⟨by decide, rfl⟩
  obtain ⟨τ, hE, c1, c2, c3⟩ := c_X8_copyFrom (s := 17 + i) (t := 0) (hA _ (by omega)) h (by omega)
  have hk0 : Is 29 0 7 := h.2.1.1
  have hk1 : Is (29 + 2 * (17 + i)) 0 7 := is_sh (by omega)
  have n1 : ¬ Own (17 + i) 9 := by unfold Own; omega
  refine ⟨τ, ?_, c3, c1, c2⟩
  refine ct_of (k := 0) rfl rfl rfl (Nat.le_of_ble_eq_true rfl) ?_
  refine x_aload_n (pc' := 1) rfl dX6_take_0 rfl ?_
  refine x_ifnonnull (tgt := 5) (by decide) dX6_take_1 ?_
  refine x_aload_n (pc' := 6) rfl dX6_take_5 rfl ?_
  refine x_get (v := .ref _) (pc' := 9) fk_X6_10 (by first | assumption | exact ⟨by decide, rfl⟩) rfl dX6_take_6 rfl ?_
  refine x_topr (y := 29 + 2 * (17 + i)) (rf_5 i) ?_
  refine x_aload_n (pc' := 10) rfl dX6_take_9 rfl ?_
  refine x_callVv (As := [.ref _]) (rest := []) (ci := 7) (pc' := 13) rfl vk_X6_20 mk_X8_copyFrom (by decide) (by first | assumption | exact ⟨by decide, rfl⟩) (by decide) rfl (Nat.le_of_ble_eq_true rfl) dX6_take_10 rfl hE ?_
  refine x_aload_n (pc' := 14) rfl dX6_take_13 rfl ?_
  refine x_aload_n (pc' := 15) rfl dX6_take_14 rfl ?_
  refine x_callVi (As := []) (rest := [.ref _]) (ci := 2) (pc' := 18) rfl vk_X6_24 mk_X3_seedNow (by decide) (by first | assumption | exact ⟨by decide, rfl⟩) (by decide) rfl (Nat.le_of_ble_eq_true rfl) dX6_take_15 rfl c_X3_seedNow ?_
  refine x_top (c1.1 _ _ n1) ?_
  refine x_puti (pc' := 21) fk_X6_30 pk_5_1 rfl (by first | assumption | exact ⟨by decide, rfl⟩) dX6_take_18 rfl ?_
  refine x_aload_n (pc' := 22) rfl dX6_take_21 rfl ?_
  refine x_iconst (v := 1) (pc' := 23) (by decide) dX6_take_22 rfl ?_
  refine x_putz (pc' := 26) fk_X6_16 pk_5_2 rfl (by first | assumption | exact ⟨by decide, rfl⟩) rfl rfl dX6_take_23 rfl ?_
  exact x_vret rfl dX6_take_26 rfl
set_option maxRecDepth 100000 in
set_option maxHeartbeats 4000000 in
theorem c_X6_give {σ : St} {v : Nat → Int32} {i : Nat} (hi : i < 2) (h : SR σ (17 + i) v) (hA : Sh σ 0) : ∃ σ', Ct yX6_give M_X6_give [.ref (3 + i), .ref 29, .ref 9] σ (none, pI σ' 9 0 (σ.1 (3 + i) 1)) ∧ SR σ' 0 v ∧ ChS σ σ' 0 ∧ σ'.2.2 = σ.2.2 := by
  have hk : Is (3 + i) 0 5 := by
    match i, hi with
    | 0, _ => exact ⟨by decide, rfl⟩
    | 1, _ => exact ⟨by decide, rfl⟩
  obtain ⟨τ, hE, c1, c2, c3⟩ := c_X8_copyFrom (s := 0) (t := 17 + i) hA h (by omega)
  have hk0 : Is 29 0 7 := is_sh (s := 0) (by decide)
  have hk1 : Is (29 + 2 * (17 + i)) 0 7 := is_sh (by omega)
  have n1 : ¬ Own 0 (3 + i) := by unfold Own; omega
  refine ⟨τ, ?_, c3, c1, c2⟩
  refine ct_of (k := 0) rfl rfl rfl (Nat.le_of_ble_eq_true rfl) ?_
  refine x_aload_n (pc' := 1) rfl dX6_give_0 rfl ?_
  refine x_ifnull (pc' := 4) dX6_give_1 rfl ?_
  refine x_aload_n (pc' := 5) rfl dX6_give_4 rfl ?_
  refine x_ifnonnull (tgt := 9) (by decide) dX6_give_5 ?_
  refine x_aload_n (pc' := 10) rfl dX6_give_9 rfl ?_
  refine x_aload_n (pc' := 11) rfl dX6_give_10 rfl ?_
  refine x_get (v := .ref _) (pc' := 14) fk_X6_10 (by first | assumption | exact ⟨by decide, rfl⟩) rfl dX6_give_11 rfl ?_
  refine x_topr (y := 29 + 2 * (17 + i)) (rf_5 i) ?_
  refine x_callVv (As := [.ref _]) (rest := []) (ci := 7) (pc' := 17) rfl vk_X6_20 mk_X8_copyFrom (by decide) (by first | assumption | exact ⟨by decide, rfl⟩) (by decide) rfl (Nat.le_of_ble_eq_true rfl) dX6_give_14 rfl hE ?_
  refine x_aload_n (pc' := 18) rfl dX6_give_17 rfl ?_
  refine x_aload_n (pc' := 19) rfl dX6_give_18 rfl ?_
  refine x_get (v := .int _) (pc' := 22) fk_X6_30 (by first | assumption | exact ⟨by decide, rfl⟩) rfl dX6_give_19 rfl ?_
  refine x_top (c1.1 _ _ n1) ?_
  refine x_callVv (As := [.int _]) (rest := []) (ci := 2) (pc' := 25) rfl vk_X6_34 mk_X3_setSeed (by decide) (by first | assumption | exact ⟨by decide, rfl⟩) (by decide) rfl (Nat.le_of_ble_eq_true rfl) dX6_give_22 rfl c_X3_setSeed ?_
  exact x_vret rfl dX6_give_25 rfl
theorem ofpS_smu {u : Nat → Int32} (hv : Ok u) {G c r : Nat} (hG : G < cN u) (hp : ¬ u (2 + 6 * G) = -1) (hc : c < fN u G 4) (hr : r < fN u G 5) : Sm (ofpS u G c r 0) ∧ Sm (ofpS u G c r 1) := ⟨ofpS_sm hv hG hp hc hr (by decide), ofpS_sm hv hG hp hc hr (by decide)⟩
set_option maxRecDepth 100000 in
set_option maxHeartbeats 4000000 in
theorem l_X1_meet1 {σ : St} {v : Nat → Int32} {G : Nat} (hG : G < cN v) (hp : ¬ v (2 + 6 * G) = -1) {r : Nat} (hr0 : r < fN v G 5) (kk : ∀ (D5 D6 : Option Value) (τ : St), SR τ 0 (fitV v (fN v G 4) G (fN v G 4 * (r + 1))) → ChS σ τ 0 → τ.2.2 = σ.2.2 → ∃ τ2, Ex M_X1_meet (none, τ2) 109 [some (.ref 29), some (.ref (σ.2.2 30 G)), some (.ref (σ.2.2 30 (pN v G))), some (.int (nI r)), some (.int (nI (fN v G 4))), D5, D6] [] τ ∧ SR τ2 0 (fitV v (fN v G 4) G (fN v G 4 * fN v G 5)) ∧ ChS σ τ2 0 ∧ τ2.2.2 = σ.2.2) : ∀ (n c : Nat) (D5 D6 : Option Value) (τ : St), c + n = fN v G 4 → SR τ 0 (fitV v (fN v G 4) G (fN v G 4 * r + c)) → ChS σ τ 0 → τ.2.2 = σ.2.2 → ∃ τ2, Ex M_X1_meet (none, τ2) 31 [some (.ref 29), some (.ref (σ.2.2 30 G)), some (.ref (σ.2.2 30 (pN v G))), some (.int (nI r)), some (.int (nI c)), D5, D6] [] τ ∧ SR τ2 0 (fitV v (fN v G 4) G (fN v G 4 * fN v G 5)) ∧ ChS σ τ2 0 ∧ τ2.2.2 = σ.2.2 := by
  intro n
  induction n with
  | zero =>
    intro c D5 D6 τ hc hS hC h2
    have hlo : ∀ j, j < 38 → fitV v (fN v G 4) G (fN v G 4 * r + c) j = v j := fun j hj => fit_lo v (fN v G 4) G hj _
    have hv := hS.2.2.2
    have h6 := hv.c6
    have eG := lo_cN hlo
    have e4 := lo_fN hlo (g := G) (e := 4) (by omega) (by decide)
    have e5 := lo_fN hlo (g := G) (e := 5) (by omega) (by decide)
    obtain rfl : c = fN v G 4 := by omega
    obtain ⟨hq, hr, hf, -⟩ := hS.2.g (g := G) (by omega)
    rw [show τ.2.2 (29 + 2 * 0 + 1) G = σ.2.2 30 G by rw [h2]] at hq hr
    obtain ⟨hq0, hq1⟩ := id hq
    have eC : τ.1 (σ.2.2 30 G) 5 = nI (fN v G 4) := by rw [← e4]; exact hr.at hf (e := 4) (by decide) (by decide)
    obtain ⟨g6, c5, r5, k2, l2, s1, s64⟩ := hv.b (g := G) (by omega)
    obtain ⟨τ2, hE, r1⟩ := kk D5 D6 τ hS hC h2
    refine ⟨τ2, ?_, r1⟩
    refine x_iload (pc' := 33) rfl dX1_meet_31 rfl ?_
    refine x_aload_n (pc' := 34) rfl dX1_meet_33 rfl ?_
    refine x_get (v := .int _) (pc' := 37) fk_X1_52 (by first | assumption | exact ⟨by decide, rfl⟩) rfl dX1_meet_34 rfl ?_
    refine x_icmp_ge (tgt := 109) (pc' := 40) (by decide) dX1_meet_37 rfl (fun c37 => ?_) (fun c37 => absurd (by rw [eC]; exact nI_le (Nat.le_refl _) (by omega)) c37)
    exact hE
  | succ n ih =>
    intro c D5 D6 τ hc hS hC h2
    have hlo : ∀ j, j < 38 → fitV v (fN v G 4) G (fN v G 4 * r + c) j = v j := fun j hj => fit_lo v (fN v G 4) G hj _
    have hv := hS.2.2.2
    have h6 := hv.c6
    have eG := lo_cN hlo
    have e4 := lo_fN hlo (g := G) (e := 4) (by omega) (by decide)
    have e5 := lo_fN hlo (g := G) (e := 5) (by omega) (by decide)
    have hGu : G < cN (fitV v (fN v G 4) G (fN v G 4 * r + c)) := by omega
    obtain ⟨g6, c5, r5, k2, l2, s1, s64⟩ := hv.b hGu
    obtain ⟨k1, k3⟩ := kdiv (C := fN v G 4) (r := r) (c := c) (by omega)
    obtain ⟨hq, hr, hf, -⟩ := hS.2.g hGu
    have hpu : ¬ fitV v (fN v G 4) G (fN v G 4 * r + c) (2 + 6 * G) = -1 := by rw [hlo _ (by omega)]; exact hp
    obtain ⟨p1, p2⟩ := par_ok hv hGu hpu
    obtain ⟨-, -, i3⟩ := ins_on hv hGu hpu (c := c) (r := r) (by omega) (by omega)
    have eP : pN (fitV v (fN v G 4) G (fN v G 4 * r + c)) G = pN v G := by unfold pN; rw [hlo _ (by omega)]
    obtain ⟨hpq, hpr, hpf, hpO⟩ := hS.2.g (g := pN (fitV v (fN v G 4) G (fN v G 4 * r + c)) G) (by omega)
    have hru : τ.1 29 2 = fitV v (fN v G 4) G (fN v G 4 * r + c) 1 := hS.2.2.1.2.1
    have hk0 : Is 29 0 7 := hS.2.1.1
    obtain ⟨m1, m2⟩ := ofpS_smu hv hGu hpu (c := c) (r := r) (by omega) (by omega)
    have hnode := hS.node hGu (K := c) (R := r) (by omega) (by omega) m1 m2
    have q1 : τ.2.2 (29 + 2 * 0 + 1) G = σ.2.2 30 G := by rw [h2]
    have q2 : τ.2.2 (29 + 2 * 0 + 1) (pN (fitV v (fN v G 4) G (fN v G 4 * r + c)) G) = σ.2.2 30 (pN v G) := by rw [h2, eP]
    rw [q1] at hq hr hnode
    rw [q2] at hpq hpr
    obtain ⟨hq0, hq1⟩ := id hq
    obtain ⟨hpq0, hpq1⟩ := id hpq
    have eC : τ.1 (σ.2.2 30 G) 5 = nI (fN v G 4) := by rw [← e4]; exact hr.at hf (e := 4) (by decide) (by decide)
    by_cases hb : brd (fitV v (fN v G 4) G (fN v G 4 * r + c)) G c r
    · have eF : fitV v (fN v G 4) G (fN v G 4 * r + (c + 1)) = set2 (fitV v (fN v G 4) G (fN v G 4 * r + c)) (ndI G c r) (ofpS (fitV v (fN v G 4) G (fN v G 4 * r + c)) G c r 0) (ofpS (fitV v (fN v G 4) G (fN v G 4 * r + c)) G c r 1) := by
        rw [show fN v G 4 * r + (c + 1) = fN v G 4 * r + c + 1 from rfl, fitV, k1, k3, pif_t hb]
      obtain ⟨τ2, hE, r1⟩ := ih (c + 1) (some (.int (nI (stS (fitV v (fN v G 4) G (fN v G 4 * r + c)) G c 0)))) (some (.int (nI (stS (fitV v (fN v G 4) G (fN v G 4 * r + c)) G r 1)))) _ (by omega) (by rw [eF]; exact hnode.1) (hC.trans hnode.2) h2
      refine ⟨τ2, ?_, r1⟩
      refine x_iload (pc' := 33) rfl dX1_meet_31 rfl ?_
      refine x_aload_n (pc' := 34) rfl dX1_meet_33 rfl ?_
      refine x_get (v := .int _) (pc' := 37) fk_X1_52 (by first | assumption | exact ⟨by decide, rfl⟩) rfl dX1_meet_34 rfl ?_
      refine x_icmp_ge (tgt := 109) (pc' := 40) (by decide) dX1_meet_37 rfl (fun c37 => absurd c37 (by rw [eC]; exact nI_ge (by omega) (by omega))) (fun c37 => ?_)
      refine x_aload_n (pc' := 41) rfl dX1_meet_40 rfl ?_
      refine x_ifnull (pc' := 44) dX1_meet_41 rfl ?_
      refine x_aload_n (pc' := 45) rfl dX1_meet_44 rfl ?_
      refine x_iload (pc' := 47) rfl dX1_meet_45 rfl ?_
      refine x_iload_n (pc' := 48) rfl dX1_meet_47 rfl ?_
      refine x_callVi (As := [.int _, .int _]) (rest := []) (ci := 3) (pc' := 51) rfl vk_X1_9 mk_X4_isOnBorder (by decide) (by first | assumption | exact ⟨by decide, rfl⟩) (by decide) rfl (Nat.le_of_ble_eq_true rfl) dX1_meet_48 rfl (c_X4_isOnBorder hq hr hf rfl rfl (by omega) (by omega)) ?_
      refine x_if_eq (tgt := 103) (pc' := 54) (by decide) dX1_meet_51 rfl (fun c51 => absurd c51 (by rw [pb_1 hb]; decide)) (fun c51 => ?_)
      refine x_aload_n (pc' := 55) rfl dX1_meet_54 rfl ?_
      refine x_iload (pc' := 57) rfl dX1_meet_55 rfl ?_
      refine x_callVi (As := [.int _]) (rest := []) (ci := 3) (pc' := 60) rfl vk_X1_15 mk_X4_columnPlace (by decide) (by first | assumption | exact ⟨by decide, rfl⟩) (by decide) rfl (Nat.le_of_ble_eq_true rfl) dX1_meet_57 rfl (c_X4_columnPlace hq hr hf rfl) ?_
      refine x_istore (lv' := [_, _, _, _, _, _, _]) (pc' := 62) (by decide) rfl dX1_meet_60 rfl ?_
      refine x_aload_n (pc' := 63) rfl dX1_meet_62 rfl ?_
      refine x_iload_n (pc' := 64) rfl dX1_meet_63 rfl ?_
      refine x_callVi (As := [.int _]) (rest := []) (ci := 3) (pc' := 67) rfl vk_X1_19 mk_X4_rowPlace (by decide) (by first | assumption | exact ⟨by decide, rfl⟩) (by decide) rfl (Nat.le_of_ble_eq_true rfl) dX1_meet_64 rfl (c_X4_rowPlace hq hr hf rfl) ?_
      refine x_istore (lv' := [_, _, _, _, _, _, _]) (pc' := 69) (by decide) rfl dX1_meet_67 rfl ?_
      refine x_aload_n (pc' := 70) rfl dX1_meet_69 rfl ?_
      refine x_iload (pc' := 72) rfl dX1_meet_70 rfl ?_
      refine x_iload_n (pc' := 73) rfl dX1_meet_72 rfl ?_
      refine x_aload_n (pc' := 74) rfl dX1_meet_73 rfl ?_
      refine x_aload_n (pc' := 75) rfl dX1_meet_74 rfl ?_
      refine x_callVi (As := []) (rest := [.ref _, .int _, .int _, .ref _]) (ci := 7) (pc' := 78) rfl vk_X1_55 mk_X8_ruleNow (by decide) (by first | assumption | exact ⟨by decide, rfl⟩) (by decide) rfl (Nat.le_of_ble_eq_true rfl) dX1_meet_75 rfl (c_X8_ruleNow hk0) ?_
      refine x_iload (pc' := 80) rfl dX1_meet_78 rfl ?_
      refine x_iload (pc' := 82) rfl dX1_meet_80 rfl ?_
      refine x_iconst (v := 0) (pc' := 83) (by decide) dX1_meet_82 rfl ?_
      refine x_callVi (As := [.int _, .int _, .int _, .int _]) (rest := [.int _, .int _, .ref _]) (ci := 3) (pc' := 86) rfl vk_X1_26 mk_X4_offsetBy (by decide) (by first | assumption | exact ⟨by decide, rfl⟩) (by decide) rfl (Nat.le_of_ble_eq_true rfl) dX1_meet_83 rfl (c_X4_offsetBy hpq hpr hpf hpO i3 hru rfl rfl (W := 0) rfl (by decide)) ?_
      refine x_aload_n (pc' := 87) rfl dX1_meet_86 rfl ?_
      refine x_aload_n (pc' := 88) rfl dX1_meet_87 rfl ?_
      refine x_callVi (As := []) (rest := [.ref _, .int _, .int _, .int _, .ref _]) (ci := 7) (pc' := 91) rfl vk_X1_55 mk_X8_ruleNow (by decide) (by first | assumption | exact ⟨by decide, rfl⟩) (by decide) rfl (Nat.le_of_ble_eq_true rfl) dX1_meet_88 rfl (c_X8_ruleNow hk0) ?_
      refine x_iload (pc' := 93) rfl dX1_meet_91 rfl ?_
      refine x_iload (pc' := 95) rfl dX1_meet_93 rfl ?_
      refine x_iconst (v := 1) (pc' := 96) (by decide) dX1_meet_95 rfl ?_
      refine x_callVi (As := [.int _, .int _, .int _, .int _]) (rest := [.int _, .int _, .int _, .ref _]) (ci := 3) (pc' := 99) rfl vk_X1_26 mk_X4_offsetBy (by decide) (by first | assumption | exact ⟨by decide, rfl⟩) (by decide) rfl (Nat.le_of_ble_eq_true rfl) dX1_meet_96 rfl (c_X4_offsetBy hpq hpr hpf hpO i3 hru rfl rfl (W := 1) rfl (by decide)) ?_
      refine x_callVi (As := [.int _, .int _, .int _, .int _]) (rest := []) (ci := 3) (pc' := 102) rfl vk_X1_65 mk_X4_setOffset (by decide) (by first | assumption | exact ⟨by decide, rfl⟩) (by decide) rfl (Nat.le_of_ble_eq_true rfl) dX1_meet_99 rfl (c_X4_setOffset hq rfl rfl (by omega) (by omega)) ?_
      refine x_pop (pc' := 103) rfl dX1_meet_102 rfl ?_
      refine x_iinc (lv' := [_, _, _, _, _, _, _]) (pc' := 106) rfl (nI_1 c) (by decide) rfl dX1_meet_103 rfl ?_
      refine x_goto (tgt := 31) (by decide) dX1_meet_106 ?_
      exact hE
    · have eF : fitV v (fN v G 4) G (fN v G 4 * r + (c + 1)) = fitV v (fN v G 4) G (fN v G 4 * r + c) := by
        rw [show fN v G 4 * r + (c + 1) = fN v G 4 * r + c + 1 from rfl, fitV, k1, k3, pif_f hb]
      obtain ⟨τ2, hE, r1⟩ := ih (c + 1) D5 D6 τ (by omega) (by rw [eF]; exact hS) hC h2
      refine ⟨τ2, ?_, r1⟩
      refine x_iload (pc' := 33) rfl dX1_meet_31 rfl ?_
      refine x_aload_n (pc' := 34) rfl dX1_meet_33 rfl ?_
      refine x_get (v := .int _) (pc' := 37) fk_X1_52 (by first | assumption | exact ⟨by decide, rfl⟩) rfl dX1_meet_34 rfl ?_
      refine x_icmp_ge (tgt := 109) (pc' := 40) (by decide) dX1_meet_37 rfl (fun c37 => absurd c37 (by rw [eC]; exact nI_ge (by omega) (by omega))) (fun c37 => ?_)
      refine x_aload_n (pc' := 41) rfl dX1_meet_40 rfl ?_
      refine x_ifnull (pc' := 44) dX1_meet_41 rfl ?_
      refine x_aload_n (pc' := 45) rfl dX1_meet_44 rfl ?_
      refine x_iload (pc' := 47) rfl dX1_meet_45 rfl ?_
      refine x_iload_n (pc' := 48) rfl dX1_meet_47 rfl ?_
      refine x_callVi (As := [.int _, .int _]) (rest := []) (ci := 3) (pc' := 51) rfl vk_X1_9 mk_X4_isOnBorder (by decide) (by first | assumption | exact ⟨by decide, rfl⟩) (by decide) rfl (Nat.le_of_ble_eq_true rfl) dX1_meet_48 rfl (c_X4_isOnBorder hq hr hf rfl rfl (by omega) (by omega)) ?_
      refine x_if_eq (tgt := 103) (pc' := 54) (by decide) dX1_meet_51 rfl (fun c51 => ?_) (fun c51 => absurd (pb_0 hb) c51)
      refine x_iinc (lv' := [_, _, _, _, _, _, _]) (pc' := 106) rfl (nI_1 c) (by decide) rfl dX1_meet_103 rfl ?_
      refine x_goto (tgt := 31) (by decide) dX1_meet_106 ?_
      exact hE
set_option maxRecDepth 100000 in
set_option maxHeartbeats 4000000 in
theorem l_X1_meet2 {σ : St} {v : Nat → Int32} {G : Nat} (hG : G < cN v) (hp : ¬ v (2 + 6 * G) = -1) : ∀ (n r : Nat) (D4 D5 D6 : Option Value) (τ : St), r + n = fN v G 5 → SR τ 0 (fitV v (fN v G 4) G (fN v G 4 * r)) → ChS σ τ 0 → τ.2.2 = σ.2.2 → ∃ τ2, Ex M_X1_meet (none, τ2) 20 [some (.ref 29), some (.ref (σ.2.2 30 G)), some (.ref (σ.2.2 30 (pN v G))), some (.int (nI r)), D4, D5, D6] [] τ ∧ SR τ2 0 (fitV v (fN v G 4) G (fN v G 4 * fN v G 5)) ∧ ChS σ τ2 0 ∧ τ2.2.2 = σ.2.2 := by
  intro n
  induction n with
  | zero =>
    intro r D4 D5 D6 τ hc hS hC h2
    have hlo : ∀ j, j < 38 → fitV v (fN v G 4) G (fN v G 4 * r) j = v j := fun j hj => fit_lo v (fN v G 4) G hj _
    have hv := hS.2.2.2
    have h6 := hv.c6
    have eG := lo_cN hlo
    have e4 := lo_fN hlo (g := G) (e := 4) (by omega) (by decide)
    have e5 := lo_fN hlo (g := G) (e := 5) (by omega) (by decide)
    obtain rfl : r = fN v G 5 := by omega
    obtain ⟨hq, hr, hf, -⟩ := hS.2.g (g := G) (by omega)
    rw [show τ.2.2 (29 + 2 * 0 + 1) G = σ.2.2 30 G by rw [h2]] at hq hr
    obtain ⟨hq0, hq1⟩ := id hq
    have eR : τ.1 (σ.2.2 30 G) 6 = nI (fN v G 5) := by rw [← e5]; exact hr.at hf (e := 5) (by decide) (by decide)
    obtain ⟨g6, c5, r5, k2, l2, s1, s64⟩ := hv.b (g := G) (by omega)
    refine ⟨τ, ?_, hS, hC, h2⟩
    refine x_iload_n (pc' := 21) rfl dX1_meet_20 rfl ?_
    refine x_aload_n (pc' := 22) rfl dX1_meet_21 rfl ?_
    refine x_get (v := .int _) (pc' := 25) fk_X1_49 (by first | assumption | exact ⟨by decide, rfl⟩) rfl dX1_meet_22 rfl ?_
    refine x_icmp_ge (tgt := 115) (pc' := 28) (by decide) dX1_meet_25 rfl (fun c25 => ?_) (fun c25 => absurd (by rw [eR]; exact nI_le (Nat.le_refl _) (by omega)) c25)
    exact x_vret rfl dX1_meet_115 rfl
  | succ n ih =>
    intro r D4 D5 D6 τ hc hS hC h2
    have hlo : ∀ j, j < 38 → fitV v (fN v G 4) G (fN v G 4 * r) j = v j := fun j hj => fit_lo v (fN v G 4) G hj _
    have hv := hS.2.2.2
    have h6 := hv.c6
    have eG := lo_cN hlo
    have e4 := lo_fN hlo (g := G) (e := 4) (by omega) (by decide)
    have e5 := lo_fN hlo (g := G) (e := 5) (by omega) (by decide)
    obtain ⟨hq, hr, hf, -⟩ := hS.2.g (g := G) (by omega)
    rw [show τ.2.2 (29 + 2 * 0 + 1) G = σ.2.2 30 G by rw [h2]] at hq hr
    obtain ⟨hq0, hq1⟩ := id hq
    have eR : τ.1 (σ.2.2 30 G) 6 = nI (fN v G 5) := by rw [← e5]; exact hr.at hf (e := 5) (by decide) (by decide)
    obtain ⟨g6, c5, r5, k2, l2, s1, s64⟩ := hv.b (g := G) (by omega)
    obtain ⟨τ2, hE, r1⟩ := l_X1_meet1 (σ := σ) hG hp (r := r) (by omega) (fun D5 D6 ρ a1 a2 a3 => by
      obtain ⟨τ2, hE, r1⟩ := ih (r + 1) (some (.int (nI (fN v G 4)))) D5 D6 ρ (by omega) a1 a2 a3
      refine ⟨τ2, ?_, r1⟩
      refine x_iinc (lv' := [_, _, _, _, _, _, _]) (pc' := 112) rfl (nI_1 r) (by decide) rfl dX1_meet_109 rfl ?_
      refine x_goto (tgt := 20) (by decide) dX1_meet_112 ?_
      exact hE) (fN v G 4) 0 D5 D6 τ (Nat.zero_add _) hS hC h2
    refine ⟨τ2, ?_, r1⟩
    refine x_iload_n (pc' := 21) rfl dX1_meet_20 rfl ?_
    refine x_aload_n (pc' := 22) rfl dX1_meet_21 rfl ?_
    refine x_get (v := .int _) (pc' := 25) fk_X1_49 (by first | assumption | exact ⟨by decide, rfl⟩) rfl dX1_meet_22 rfl ?_
    refine x_icmp_ge (tgt := 115) (pc' := 28) (by decide) dX1_meet_25 rfl (fun c25 => absurd c25 (by rw [eR]; exact nI_ge (by omega) (by omega))) (fun c25 => ?_)
    refine x_iconst (v := 0) (pc' := 29) (by decide) dX1_meet_28 rfl ?_
    refine x_istore (lv' := [_, _, _, _, _, _, _]) (pc' := 31) (by decide) rfl dX1_meet_29 rfl ?_
    exact hE
set_option maxRecDepth 100000 in
set_option maxHeartbeats 4000000 in
theorem c_X1_meet {σ : St} {v : Nat → Int32} {G : Nat} (hG : G < cN v) (hp : ¬ v (2 + 6 * G) = -1) (hS : SR σ 0 v) : ∃ τ, Ct yX1_meet M_X1_meet [.ref 29, .ref (σ.2.2 30 G)] σ (none, τ) ∧ SR τ 0 (fitV v (fN v G 4) G (fN v G 4 * fN v G 5)) ∧ ChS σ τ 0 ∧ τ.2.2 = σ.2.2 := by
  have hR := hS.2
  have hv := hS.2.2.2
  have h6 := hv.c6
  obtain ⟨τ2, hE, r1⟩ := l_X1_meet2 (σ := σ) hG hp (fN v G 5) 0 none none none σ (Nat.zero_add _) hS (ChS.rf σ 0) rfl
  refine ⟨τ2, ?_, r1⟩
  obtain ⟨hq, hr, hf, -⟩ := hR.g hG
  obtain ⟨hq0, hq1⟩ := id hq
  obtain ⟨p1, p2⟩ := par_ok hv hG hp
  obtain ⟨hpq, hpr, hpf, hpO⟩ := hR.g (g := pN v G) (by omega)
  obtain ⟨hpq0, hpq1⟩ := id hpq
  have hk0 : Is 29 0 7 := hS.2.1.1
  have ep := hr.par
  refine ct_of (k := 5) rfl rfl rfl (Nat.le_of_ble_eq_true rfl) ?_
  refine x_aload_n (pc' := 1) rfl dX1_meet_0 rfl ?_
  refine x_ifnull (pc' := 4) dX1_meet_1 rfl ?_
  refine x_aload_n (pc' := 5) rfl dX1_meet_4 rfl ?_
  refine x_ifnonnull (tgt := 9) (by decide) dX1_meet_5 ?_
  refine x_aload_n (pc' := 10) rfl dX1_meet_9 rfl ?_
  refine x_aload_n (pc' := 11) rfl dX1_meet_10 rfl ?_
  refine x_get (v := .int _) (pc' := 14) fk_X1_39 (by first | assumption | exact ⟨by decide, rfl⟩) rfl dX1_meet_11 rfl ?_
  refine x_callVi (As := [.int _]) (rest := []) (ci := 7) (pc' := 17) rfl vk_X1_43 mk_X8_at (by decide) (by first | assumption | exact ⟨by decide, rfl⟩) (by decide) rfl (Nat.le_of_ble_eq_true rfl) dX1_meet_14 rfl (t_X8_at hR.1 hR.n h6 (ep.trans p2) (by omega)) ?_
  refine x_astore_n (lv' := [_, _, _, _, _, _, _]) (pc' := 18) (by decide) rfl dX1_meet_17 rfl ?_
  refine x_iconst (v := 0) (pc' := 19) (by decide) dX1_meet_18 rfl ?_
  refine x_istore_n (lv' := [_, _, _, _, _, _, _]) (pc' := 20) (by decide) rfl dX1_meet_19 rfl ?_
  exact hE
