def LocF (F : FF) (n : Nat) : Prop := ∀ (ct : Nat → ClassId) (a a' : Nat → Nat), (∀ x, x < n → a x = a' x) → ∀ r, r < n → F ct a r = F ct a' r
theorem lo_S : LocF (SX 6) 14 := fun _ _ _ h _ hr => SX_congr h hr
theorem lo_H : LocF (HX 16) 226 := by
  intro ct a a' h r hr
  by_cases r0 : r = 0
  · subst r0
    rw [HX_0, HX_0, h 1 (by decide)]
  · by_cases r1 : r = 1
    · subst r1
      rw [HX_1, HX_1]
      congr 7
      funext x
      by_cases hx : x < 16
      · rw [if_pos hx, if_pos hx, h _ (by omega)]
      · rw [if_neg hx, if_neg hx]
    · rw [HX_g (by omega), HX_g (by omega)]
      exact SX_congr (fun x hx => h _ (by omega)) (by omega)
theorem lo_I : LocF IX 15 := by
  intro ct a a' h r hr
  unfold IX
  by_cases r0 : r = 0
  · rw [if_pos r0, if_pos r0, h 1 (by decide)]
  · rw [if_neg r0, if_neg r0]
    exact SX_congr (fun x hx => h _ (by omega)) (by omega)
theorem lo_0 : LocF GX0 4 := by
  intro ct a a' h r hr
  match r, hr with
  | 0, _ => show (Sum.inr (0, [Value.ref (a 1), .ref (a 2), .ref (a 3), .int 0]) : va_E) = Sum.inr (0, [Value.ref (a' 1), .ref (a' 2), .ref (a' 3), .int 0]); rw [h 1 (by decide), h 2 (by decide), h 3 (by decide)]
  | 1, _ => rfl
  | 2, _ => rfl
  | 3, _ => rfl
theorem lo_3 : LocF GX3 1 := fun _ _ _ _ _ _ => rfl
theorem lo_7 : LocF GX7 3 := by
  intro ct a a' h r hr
  match r, hr with
  | 0, _ => show (Sum.inr (6, [Value.ref (a 1), .ref (a 2), .int 0, .int 0]) : va_E) = Sum.inr (6, [Value.ref (a' 1), .ref (a' 2), .int 0, .int 0]); rw [h 1 (by decide), h 2 (by decide)]
  | 1, _ => rfl
  | 2, _ => rfl
theorem lo_2 : LocF GX2 5 := by
  intro ct a a' h r hr
  match r, hr with
  | 0, _ => show (Sum.inr (1, [Value.ref (a 1), .ref (a 2), .ref (a 3), .ref (a 4), .int 0]) : va_E) = Sum.inr (1, [Value.ref (a' 1), .ref (a' 2), .ref (a' 3), .ref (a' 4), .int 0]); rw [h 1 (by decide), h 2 (by decide), h 3 (by decide), h 4 (by decide)]
  | 1, _ => rfl
  | 2, _ => rfl
  | 3, _ => rfl
  | 4, _ => rfl
def Seg (F : FF) (n s : Nat) (ct : Nat → ClassId) (ad : Nat → Nat) (f : Nat → va_E) : Prop := ∀ x, x < n → f (s + x) = F ct (fun y => ad (s + y)) x
theorem Seg.step {F F' : FF} {n s K q : Nat} {ct : Nat → ClassId} {ad ad' : Nat → Nat} {f : Nat → va_E} {e z : va_E} (hL : LocF F n) (h1 : 1 ≤ s) (hK : s + n ≤ K) (h : Seg F n s ct ad f) : Seg F n s ct (adJ K (va_up ad K q) ad') (va_up (fJ K (va_up f K e) (F' ct ad')) 0 z) := by
  intro x hx
  rw [va_up_ne _ _ (by omega), fJ_lo (by omega), va_up_ne _ _ (by omega), h x hx]
  refine hL _ _ _ (fun y hy => ?_) _ hx
  show ad (s + y) = adJ K (va_up ad K q) ad' (s + y)
  rw [adJ_lo (by omega), va_up_ne _ _ (by omega)]
theorem Seg.new {F' : FF} {n K q : Nat} {ct : Nat → ClassId} {ad ad' : Nat → Nat} {f : Nat → va_E} {e z : va_E} (hL : LocF F' n) (h1 : 1 ≤ K) : Seg F' n K ct (adJ K (va_up ad K q) ad') (va_up (fJ K (va_up f K e) (F' ct ad')) 0 z) := by
  intro x hx
  rw [va_up_ne _ _ (by omega), fJ_hi (by omega), Nat.add_sub_cancel_left]
  refine hL _ _ _ (fun y hy => ?_) _ hx
  show ad' y = adJ K (va_up ad K q) ad' (K + y)
  rw [adJ_hi (by omega), Nat.add_sub_cancel_left]
def WX : FF := fun ct ad k => if k = 0 then .inr (8, [.ref (ad 1), .ref (ad 15), .ref (ad 241), .ref (ad 256), .ref (ad 271), .ref (ad 275), .ref (ad 276), .ref (ad 279)]) else if k < 15 then SX 6 ct (fun y => ad (1 + y)) (k - 1) else if k < 241 then HX 16 ct (fun y => ad (15 + y)) (k - 15) else if k < 256 then IX ct (fun y => ad (241 + y)) (k - 241) else if k < 271 then IX ct (fun y => ad (256 + y)) (k - 256) else if k < 275 then GX0 ct (fun y => ad (271 + y)) (k - 271) else if k < 276 then GX3 ct (fun y => ad (275 + y)) (k - 275) else if k < 279 then GX7 ct (fun y => ad (276 + y)) (k - 276) else GX2 ct (fun y => ad (279 + y)) (k - 279)
set_option maxRecDepth 100000 in
set_option maxHeartbeats 4000000 in
theorem w_8 {D : va_G} {ct : Nat → ClassId} {h0 sz : Nat} {ad : Nat → Nat} {f : Nat → va_E} (h00 : ad 0 = h0) (hf0 : f 0 = .inr (8, [.ref (ad 1), .ref (ad 15), .ref (ad 241), .ref (ad 256), .ref (ad 271), .ref (ad 275), .ref (ad 276), .ref (ad 279)])) (g0 : Seg (SX 6) 14 1 ct ad f) (g1 : Seg (HX 16) 226 15 ct ad f) (g2 : Seg (IX) 15 241 ct ad f) (g3 : Seg (IX) 15 256 ct ad f) (g4 : Seg (GX0) 4 271 ct ad f) (g5 : Seg (GX3) 1 275 ct ad f) (g6 : Seg (GX7) 3 276 ct ad f) (g7 : Seg (GX2) 5 279 ct ad f) : Ec M_X9_init D ct h0 sz WX 92 [some (.ref h0)] [] ad f 283 6906 := by
  refine e_vret rfl dX9_init_92 h00 rfl (Nat.le_of_ble_eq_true rfl) (fun j hj => ?_)
  unfold WX
  by_cases j0 : j = 0
  · subst j0
    rw [if_pos rfl]
    exact hf0
  · rw [if_neg j0]
    by_cases j1 : j < 15
    · rw [if_pos j1]
      have := g0 (j - 1) (by omega)
      rw [show 1 + (j - 1) = j by omega] at this
      exact this
    · rw [if_neg j1]
      by_cases j2 : j < 241
      · rw [if_pos j2]
        have := g1 (j - 15) (by omega)
        rw [show 15 + (j - 15) = j by omega] at this
        exact this
      · rw [if_neg j2]
        by_cases j3 : j < 256
        · rw [if_pos j3]
          have := g2 (j - 241) (by omega)
          rw [show 241 + (j - 241) = j by omega] at this
          exact this
        · rw [if_neg j3]
          by_cases j4 : j < 271
          · rw [if_pos j4]
            have := g3 (j - 256) (by omega)
            rw [show 256 + (j - 256) = j by omega] at this
            exact this
          · rw [if_neg j4]
            by_cases j5 : j < 275
            · rw [if_pos j5]
              have := g4 (j - 271) (by omega)
              rw [show 271 + (j - 271) = j by omega] at this
              exact this
            · rw [if_neg j5]
              by_cases j6 : j < 276
              · rw [if_pos j6]
                have := g5 (j - 275) (by omega)
                rw [show 275 + (j - 275) = j by omega] at this
                exact this
              · rw [if_neg j6]
                by_cases j7 : j < 279
                · rw [if_pos j7]
                  have := g6 (j - 276) (by omega)
                  rw [show 276 + (j - 276) = j by omega] at this
                  exact this
                · rw [if_neg j7]
                  have := g7 (j - 279) (by omega)
                  rw [show 279 + (j - 279) = j by omega] at this
                  exact this
set_option maxRecDepth 100000 in
set_option maxHeartbeats 4000000 in
theorem w_7 {D : va_G} {ct : Nat → ClassId} {h0 sz : Nat} {ad : Nat → Nat} {f : Nat → va_E} (h00 : ad 0 = h0) (hf0 : f 0 = .inr (8, [.ref (ad 1), .ref (ad 15), .ref (ad 241), .ref (ad 256), .ref (ad 271), .ref (ad 275), .ref (ad 276), .null])) (g0 : Seg (SX 6) 14 1 ct ad f) (g1 : Seg (HX 16) 226 15 ct ad f) (g2 : Seg (IX) 15 241 ct ad f) (g3 : Seg (IX) 15 256 ct ad f) (g4 : Seg (GX0) 4 271 ct ad f) (g5 : Seg (GX3) 1 275 ct ad f) (g6 : Seg (GX7) 3 276 ct ad f) : Ec M_X9_init D ct h0 sz WX 81 [some (.ref h0)] [] ad f 278 6885 := by
  refine e_aload_n (pc' := 82) rfl dX9_init_81 rfl ?_
  refine e_new (pc' := 85) nk_1 rfl clk_X9_54 (Nat.le_of_ble_eq_true rfl) (Nat.le_of_ble_eq_true rfl) dX9_init_82 rfl (fun q => ?_)
  refine e_dup (pc' := 86) rfl dX9_init_85 rfl ?_
  refine e_topr (b := va_up ad 279 q 279) (va_up_self _ _ _).symm ?_
  refine e_initN (k := 279) (pc' := 89) (F' := GX2) ik_X2_init (List.mem_of_getElem? (i := 6) rfl) k_X2 ⟨Nat.le_of_ble_eq_true rfl, Nat.le_of_ble_eq_true rfl⟩ (va_up_self _ _ _) (Nat.le_of_ble_eq_true rfl) (Nat.le_of_ble_eq_true rfl) (Nat.le_of_ble_eq_true rfl) dX9_init_86 rfl (fun ad' hq => ?_)
  rw [va_up_self] at hq
  have A1 : ∀ j, j < 279 → adJ 279 (va_up ad 279 q) ad' j = ad j := fun j hj => by rw [adJ_lo hj, va_up_ne _ _ (by omega)]
  have A2 : adJ 279 (va_up ad 279 q) ad' 279 = q := by rw [adJ_hi (by omega)]; exact hq
  refine e_putF (i := 0) (j := 7) (pc' := 92) fk_X9_57 (pf_8_7 _) (Nat.succ_pos _) ((A1 0 (by omega)).trans h00) (by rw [fJ_lo (by decide), va_up_ne _ _ (by decide)]; exact hf0) (Nat.le_of_ble_eq_true rfl) dX9_init_89 rfl ?_
  refine w_8 ((A1 0 (by omega)).trans h00) (by rw [va_up_self, A1 1 (by omega), A1 15 (by omega), A1 241 (by omega), A1 256 (by omega), A1 271 (by omega), A1 275 (by omega), A1 276 (by omega), A2]; rfl) (Seg.step lo_S (by decide) (by decide) g0) (Seg.step lo_H (by decide) (by decide) g1) (Seg.step lo_I (by decide) (by decide) g2) (Seg.step lo_I (by decide) (by decide) g3) (Seg.step lo_0 (by decide) (by decide) g4) (Seg.step lo_3 (by decide) (by decide) g5) (Seg.step lo_7 (by decide) (by decide) g6) (Seg.new lo_2 (by decide))
set_option maxRecDepth 100000 in
set_option maxHeartbeats 4000000 in
theorem w_6 {D : va_G} {ct : Nat → ClassId} {h0 sz : Nat} {ad : Nat → Nat} {f : Nat → va_E} (h00 : ad 0 = h0) (hf0 : f 0 = .inr (8, [.ref (ad 1), .ref (ad 15), .ref (ad 241), .ref (ad 256), .ref (ad 271), .ref (ad 275), .null, .null])) (g0 : Seg (SX 6) 14 1 ct ad f) (g1 : Seg (HX 16) 226 15 ct ad f) (g2 : Seg (IX) 15 241 ct ad f) (g3 : Seg (IX) 15 256 ct ad f) (g4 : Seg (GX0) 4 271 ct ad f) (g5 : Seg (GX3) 1 275 ct ad f) : Ec M_X9_init D ct h0 sz WX 70 [some (.ref h0)] [] ad f 275 6759 := by
  refine e_aload_n (pc' := 71) rfl dX9_init_70 rfl ?_
  refine e_new (pc' := 74) nk_6 rfl clk_X9_47 (Nat.le_of_ble_eq_true rfl) (Nat.le_of_ble_eq_true rfl) dX9_init_71 rfl (fun q => ?_)
  refine e_dup (pc' := 75) rfl dX9_init_74 rfl ?_
  refine e_topr (b := va_up ad 276 q 276) (va_up_self _ _ _).symm ?_
  refine e_initN (k := 276) (pc' := 78) (F' := GX7) ik_X7_init (List.mem_of_getElem? (i := 5) rfl) k_X7 ⟨Nat.le_of_ble_eq_true rfl, Nat.le_of_ble_eq_true rfl⟩ (va_up_self _ _ _) (Nat.le_of_ble_eq_true rfl) (Nat.le_of_ble_eq_true rfl) (Nat.le_of_ble_eq_true rfl) dX9_init_75 rfl (fun ad' hq => ?_)
  rw [va_up_self] at hq
  have A1 : ∀ j, j < 276 → adJ 276 (va_up ad 276 q) ad' j = ad j := fun j hj => by rw [adJ_lo hj, va_up_ne _ _ (by omega)]
  have A2 : adJ 276 (va_up ad 276 q) ad' 276 = q := by rw [adJ_hi (by omega)]; exact hq
  refine e_putF (i := 0) (j := 6) (pc' := 81) fk_X9_50 (pf_8_6 _) (Nat.succ_pos _) ((A1 0 (by omega)).trans h00) (by rw [fJ_lo (by decide), va_up_ne _ _ (by decide)]; exact hf0) (Nat.le_of_ble_eq_true rfl) dX9_init_78 rfl ?_
  refine w_7 ((A1 0 (by omega)).trans h00) (by rw [va_up_self, A1 1 (by omega), A1 15 (by omega), A1 241 (by omega), A1 256 (by omega), A1 271 (by omega), A1 275 (by omega), A2]; rfl) (Seg.step lo_S (by decide) (by decide) g0) (Seg.step lo_H (by decide) (by decide) g1) (Seg.step lo_I (by decide) (by decide) g2) (Seg.step lo_I (by decide) (by decide) g3) (Seg.step lo_0 (by decide) (by decide) g4) (Seg.step lo_3 (by decide) (by decide) g5) (Seg.new lo_7 (by decide))
set_option maxRecDepth 100000 in
set_option maxHeartbeats 4000000 in
theorem w_5 {D : va_G} {ct : Nat → ClassId} {h0 sz : Nat} {ad : Nat → Nat} {f : Nat → va_E} (h00 : ad 0 = h0) (hf0 : f 0 = .inr (8, [.ref (ad 1), .ref (ad 15), .ref (ad 241), .ref (ad 256), .ref (ad 271), .null, .null, .null])) (g0 : Seg (SX 6) 14 1 ct ad f) (g1 : Seg (HX 16) 226 15 ct ad f) (g2 : Seg (IX) 15 241 ct ad f) (g3 : Seg (IX) 15 256 ct ad f) (g4 : Seg (GX0) 4 271 ct ad f) : Ec M_X9_init D ct h0 sz WX 59 [some (.ref h0)] [] ad f 274 6758 := by
  refine e_aload_n (pc' := 60) rfl dX9_init_59 rfl ?_
  refine e_new (pc' := 63) nk_2 rfl clk_X9_40 (Nat.le_of_ble_eq_true rfl) (Nat.le_of_ble_eq_true rfl) dX9_init_60 rfl (fun q => ?_)
  refine e_dup (pc' := 64) rfl dX9_init_63 rfl ?_
  refine e_topr (b := va_up ad 275 q 275) (va_up_self _ _ _).symm ?_
  refine e_initN (k := 275) (pc' := 67) (F' := GX3) ik_X3_init (List.mem_of_getElem? (i := 4) rfl) k_X3 ⟨Nat.le_of_ble_eq_true rfl, Nat.le_of_ble_eq_true rfl⟩ (va_up_self _ _ _) (Nat.le_of_ble_eq_true rfl) (Nat.le_of_ble_eq_true rfl) (Nat.le_of_ble_eq_true rfl) dX9_init_64 rfl (fun ad' hq => ?_)
  rw [va_up_self] at hq
  have A1 : ∀ j, j < 275 → adJ 275 (va_up ad 275 q) ad' j = ad j := fun j hj => by rw [adJ_lo hj, va_up_ne _ _ (by omega)]
  have A2 : adJ 275 (va_up ad 275 q) ad' 275 = q := by rw [adJ_hi (by omega)]; exact hq
  refine e_putF (i := 0) (j := 5) (pc' := 70) fk_X9_43 (pf_8_5 _) (Nat.succ_pos _) ((A1 0 (by omega)).trans h00) (by rw [fJ_lo (by decide), va_up_ne _ _ (by decide)]; exact hf0) (Nat.le_of_ble_eq_true rfl) dX9_init_67 rfl ?_
  refine w_6 ((A1 0 (by omega)).trans h00) (by rw [va_up_self, A1 1 (by omega), A1 15 (by omega), A1 241 (by omega), A1 256 (by omega), A1 271 (by omega), A2]; rfl) (Seg.step lo_S (by decide) (by decide) g0) (Seg.step lo_H (by decide) (by decide) g1) (Seg.step lo_I (by decide) (by decide) g2) (Seg.step lo_I (by decide) (by decide) g3) (Seg.step lo_0 (by decide) (by decide) g4) (Seg.new lo_3 (by decide))
set_option maxRecDepth 100000 in
set_option maxHeartbeats 4000000 in
theorem w_4 {D : va_G} {ct : Nat → ClassId} {h0 sz : Nat} {ad : Nat → Nat} {f : Nat → va_E} (h00 : ad 0 = h0) (hf0 : f 0 = .inr (8, [.ref (ad 1), .ref (ad 15), .ref (ad 241), .ref (ad 256), .null, .null, .null, .null])) (g0 : Seg (SX 6) 14 1 ct ad f) (g1 : Seg (HX 16) 226 15 ct ad f) (g2 : Seg (IX) 15 241 ct ad f) (g3 : Seg (IX) 15 256 ct ad f) : Ec M_X9_init D ct h0 sz WX 48 [some (.ref h0)] [] ad f 270 6694 := by
  refine e_aload_n (pc' := 49) rfl dX9_init_48 rfl ?_
  refine e_new (pc' := 52) nk_0 rfl clk_X9_33 (Nat.le_of_ble_eq_true rfl) (Nat.le_of_ble_eq_true rfl) dX9_init_49 rfl (fun q => ?_)
  refine e_dup (pc' := 53) rfl dX9_init_52 rfl ?_
  refine e_topr (b := va_up ad 271 q 271) (va_up_self _ _ _).symm ?_
  refine e_initN (k := 271) (pc' := 56) (F' := GX0) ik_X0_init (List.mem_of_getElem? (i := 3) rfl) k_X0 ⟨Nat.le_of_ble_eq_true rfl, Nat.le_of_ble_eq_true rfl⟩ (va_up_self _ _ _) (Nat.le_of_ble_eq_true rfl) (Nat.le_of_ble_eq_true rfl) (Nat.le_of_ble_eq_true rfl) dX9_init_53 rfl (fun ad' hq => ?_)
  rw [va_up_self] at hq
  have A1 : ∀ j, j < 271 → adJ 271 (va_up ad 271 q) ad' j = ad j := fun j hj => by rw [adJ_lo hj, va_up_ne _ _ (by omega)]
  have A2 : adJ 271 (va_up ad 271 q) ad' 271 = q := by rw [adJ_hi (by omega)]; exact hq
  refine e_putF (i := 0) (j := 4) (pc' := 59) fk_X9_36 (pf_8_4 _) (Nat.succ_pos _) ((A1 0 (by omega)).trans h00) (by rw [fJ_lo (by decide), va_up_ne _ _ (by decide)]; exact hf0) (Nat.le_of_ble_eq_true rfl) dX9_init_56 rfl ?_
  refine w_5 ((A1 0 (by omega)).trans h00) (by rw [va_up_self, A1 1 (by omega), A1 15 (by omega), A1 241 (by omega), A1 256 (by omega), A2]; rfl) (Seg.step lo_S (by decide) (by decide) g0) (Seg.step lo_H (by decide) (by decide) g1) (Seg.step lo_I (by decide) (by decide) g2) (Seg.step lo_I (by decide) (by decide) g3) (Seg.new lo_0 (by decide))
set_option maxRecDepth 100000 in
set_option maxHeartbeats 4000000 in
theorem w_3 {D : va_G} {ct : Nat → ClassId} {h0 sz : Nat} {ad : Nat → Nat} {f : Nat → va_E} (h00 : ad 0 = h0) (hf0 : f 0 = .inr (8, [.ref (ad 1), .ref (ad 15), .ref (ad 241), .null, .null, .null, .null, .null])) (g0 : Seg (SX 6) 14 1 ct ad f) (g1 : Seg (HX 16) 226 15 ct ad f) (g2 : Seg (IX) 15 241 ct ad f) : Ec M_X9_init D ct h0 sz WX 37 [some (.ref h0)] [] ad f 255 6340 := by
  refine e_aload_n (pc' := 38) rfl dX9_init_37 rfl ?_
  refine e_new (pc' := 41) nk_5 rfl clk_X9_23 (Nat.le_of_ble_eq_true rfl) (Nat.le_of_ble_eq_true rfl) dX9_init_38 rfl (fun q => ?_)
  refine e_dup (pc' := 42) rfl dX9_init_41 rfl ?_
  refine e_topr (b := va_up ad 256 q 256) (va_up_self _ _ _).symm ?_
  refine e_initN (k := 256) (pc' := 45) (F' := IX) ik_X6_init (List.mem_of_getElem? (i := 2) rfl) k_X6 ⟨Nat.le_of_ble_eq_true rfl, Nat.le_of_ble_eq_true rfl⟩ (va_up_self _ _ _) (Nat.le_of_ble_eq_true rfl) (Nat.le_of_ble_eq_true rfl) (Nat.le_of_ble_eq_true rfl) dX9_init_42 rfl (fun ad' hq => ?_)
  rw [va_up_self] at hq
  have A1 : ∀ j, j < 256 → adJ 256 (va_up ad 256 q) ad' j = ad j := fun j hj => by rw [adJ_lo hj, va_up_ne _ _ (by omega)]
  have A2 : adJ 256 (va_up ad 256 q) ad' 256 = q := by rw [adJ_hi (by omega)]; exact hq
  refine e_putF (i := 0) (j := 3) (pc' := 48) fk_X9_30 (pf_8_3 _) (Nat.succ_pos _) ((A1 0 (by omega)).trans h00) (by rw [fJ_lo (by decide), va_up_ne _ _ (by decide)]; exact hf0) (Nat.le_of_ble_eq_true rfl) dX9_init_45 rfl ?_
  refine w_4 ((A1 0 (by omega)).trans h00) (by rw [va_up_self, A1 1 (by omega), A1 15 (by omega), A1 241 (by omega), A2]; rfl) (Seg.step lo_S (by decide) (by decide) g0) (Seg.step lo_H (by decide) (by decide) g1) (Seg.step lo_I (by decide) (by decide) g2) (Seg.new lo_I (by decide))
set_option maxRecDepth 100000 in
set_option maxHeartbeats 4000000 in
theorem w_2 {D : va_G} {ct : Nat → ClassId} {h0 sz : Nat} {ad : Nat → Nat} {f : Nat → va_E} (h00 : ad 0 = h0) (hf0 : f 0 = .inr (8, [.ref (ad 1), .ref (ad 15), .null, .null, .null, .null, .null, .null])) (g0 : Seg (SX 6) 14 1 ct ad f) (g1 : Seg (HX 16) 226 15 ct ad f) : Ec M_X9_init D ct h0 sz WX 26 [some (.ref h0)] [] ad f 240 5986 := by
  refine e_aload_n (pc' := 27) rfl dX9_init_26 rfl ?_
  refine e_new (pc' := 30) nk_5 rfl clk_X9_23 (Nat.le_of_ble_eq_true rfl) (Nat.le_of_ble_eq_true rfl) dX9_init_27 rfl (fun q => ?_)
  refine e_dup (pc' := 31) rfl dX9_init_30 rfl ?_
  refine e_topr (b := va_up ad 241 q 241) (va_up_self _ _ _).symm ?_
  refine e_initN (k := 241) (pc' := 34) (F' := IX) ik_X6_init (List.mem_of_getElem? (i := 2) rfl) k_X6 ⟨Nat.le_of_ble_eq_true rfl, Nat.le_of_ble_eq_true rfl⟩ (va_up_self _ _ _) (Nat.le_of_ble_eq_true rfl) (Nat.le_of_ble_eq_true rfl) (Nat.le_of_ble_eq_true rfl) dX9_init_31 rfl (fun ad' hq => ?_)
  rw [va_up_self] at hq
  have A1 : ∀ j, j < 241 → adJ 241 (va_up ad 241 q) ad' j = ad j := fun j hj => by rw [adJ_lo hj, va_up_ne _ _ (by omega)]
  have A2 : adJ 241 (va_up ad 241 q) ad' 241 = q := by rw [adJ_hi (by omega)]; exact hq
  refine e_putF (i := 0) (j := 2) (pc' := 37) fk_X9_26 (pf_8_2 _) (Nat.succ_pos _) ((A1 0 (by omega)).trans h00) (by rw [fJ_lo (by decide), va_up_ne _ _ (by decide)]; exact hf0) (Nat.le_of_ble_eq_true rfl) dX9_init_34 rfl ?_
  refine w_3 ((A1 0 (by omega)).trans h00) (by rw [va_up_self, A1 1 (by omega), A1 15 (by omega), A2]; rfl) (Seg.step lo_S (by decide) (by decide) g0) (Seg.step lo_H (by decide) (by decide) g1) (Seg.new lo_I (by decide))
set_option maxRecDepth 100000 in
set_option maxHeartbeats 4000000 in
theorem w_1 {D : va_G} {ct : Nat → ClassId} {h0 sz : Nat} {ad : Nat → Nat} {f : Nat → va_E} (h00 : ad 0 = h0) (hf0 : f 0 = .inr (8, [.ref (ad 1), .null, .null, .null, .null, .null, .null, .null])) (g0 : Seg (SX 6) 14 1 ct ad f) : Ec M_X9_init D ct h0 sz WX 15 [some (.ref h0)] [] ad f 14 351 := by
  refine e_aload_n (pc' := 16) rfl dX9_init_15 rfl ?_
  refine e_new (pc' := 19) nk_4 rfl clk_X9_16 (Nat.le_of_ble_eq_true rfl) (Nat.le_of_ble_eq_true rfl) dX9_init_16 rfl (fun q => ?_)
  refine e_dup (pc' := 20) rfl dX9_init_19 rfl ?_
  refine e_topr (b := va_up ad 15 q 15) (va_up_self _ _ _).symm ?_
  refine e_init (k := 15) (pc' := 23) (F' := HX 16) ik_X5_init ilk_X9_18 k_X5 ⟨Nat.le_of_ble_eq_true rfl, Nat.le_of_ble_eq_true rfl⟩ (va_up_self _ _ _) (Nat.le_of_ble_eq_true rfl) (Nat.le_of_ble_eq_true rfl) (Nat.le_of_ble_eq_true rfl) dX9_init_20 rfl (fun ad' hq => ?_)
  rw [va_up_self] at hq
  have A1 : ∀ j, j < 15 → adJ 15 (va_up ad 15 q) ad' j = ad j := fun j hj => by rw [adJ_lo hj, va_up_ne _ _ (by omega)]
  have A2 : adJ 15 (va_up ad 15 q) ad' 15 = q := by rw [adJ_hi (by omega)]; exact hq
  refine e_putF (i := 0) (j := 1) (pc' := 26) fk_X9_19 (pf_8_1 _) (Nat.succ_pos _) ((A1 0 (by omega)).trans h00) (by rw [fJ_lo (by decide), va_up_ne _ _ (by decide)]; exact hf0) (Nat.le_of_ble_eq_true rfl) dX9_init_23 rfl ?_
  refine w_2 ((A1 0 (by omega)).trans h00) (by rw [va_up_self, A1 1 (by omega), A2]; rfl) (Seg.step lo_S (by decide) (by decide) g0) (Seg.new lo_H (by decide))
set_option maxRecDepth 100000 in
set_option maxHeartbeats 4000000 in
theorem w_0 {D : va_G} {ct : Nat → ClassId} {h0 sz : Nat} {ad : Nat → Nat} {f : Nat → va_E} (h00 : ad 0 = h0) (hf0 : f 0 = .inr (8, [.null, .null, .null, .null, .null, .null, .null, .null]))  : Ec M_X9_init D ct h0 sz WX 4 [some (.ref h0)] [] ad f 0 0 := by
  refine e_aload_n (pc' := 5) rfl dX9_init_4 rfl ?_
  refine e_new (pc' := 8) nk_7 rfl clk_X9_9 (Nat.le_of_ble_eq_true rfl) (Nat.le_of_ble_eq_true rfl) dX9_init_5 rfl (fun q => ?_)
  refine e_dup (pc' := 9) rfl dX9_init_8 rfl ?_
  refine e_topr (b := va_up ad 1 q 1) (va_up_self _ _ _).symm ?_
  refine e_init (k := 1) (pc' := 12) (F' := SX 6) ik_X8_init ilk_X9_11 k_X8 ⟨Nat.le_of_ble_eq_true rfl, Nat.le_of_ble_eq_true rfl⟩ (va_up_self _ _ _) (Nat.le_of_ble_eq_true rfl) (Nat.le_of_ble_eq_true rfl) (Nat.le_of_ble_eq_true rfl) dX9_init_9 rfl (fun ad' hq => ?_)
  rw [va_up_self] at hq
  have A1 : ∀ j, j < 1 → adJ 1 (va_up ad 1 q) ad' j = ad j := fun j hj => by rw [adJ_lo hj, va_up_ne _ _ (by omega)]
  have A2 : adJ 1 (va_up ad 1 q) ad' 1 = q := by rw [adJ_hi (by omega)]; exact hq
  refine e_putF (i := 0) (j := 0) (pc' := 15) fk_X9_12 (pf_8_0 _) (Nat.succ_pos _) ((A1 0 (by omega)).trans h00) (by rw [fJ_lo (by decide), va_up_ne _ _ (by decide)]; exact hf0) (Nat.le_of_ble_eq_true rfl) dX9_init_12 rfl ?_
  refine w_1 ((A1 0 (by omega)).trans h00) (by rw [va_up_self, A2]; rfl) (Seg.new lo_S (by decide))
set_option maxRecDepth 100000 in
set_option maxHeartbeats 4000000 in
theorem k_X9 : Ck yX9_init M_X9_init 8 WX := by
  refine ck_of (k := 0) rfl rfl rfl (by decide) (fun D ct h0 sz => ?_)
  refine e_aload_n (pc' := 1) rfl dX9_init_0 rfl ?_
  refine e_objInit (pc' := 4) oi_X9 (by decide) (by decide) dX9_init_1 rfl ?_
  exact w_0 rfl rfl
