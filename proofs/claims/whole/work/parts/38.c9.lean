/-! ===== a grid more ===== -/
theorem ad_app {v : Nat → Int32} {p : Int32} {X Y S C R j : Nat} (hj : j < 38) : adV v p X Y S C R j = if j = 2 + 6 * cN v + 5 then nI R else if j = 2 + 6 * cN v + 4 then nI C else if j = 2 + 6 * cN v + 3 then nI S else if j = 2 + 6 * cN v + 2 then nI Y else if j = 2 + 6 * cN v + 1 then nI X else if j = 2 + 6 * cN v + 0 then p else if j = 0 then nI (cN v + 1) else v j := by
  unfold adV zP adF
  rw [if_neg (by omega), upd_app, upd_app, upd_app, upd_app, upd_app, upd_app, upd_app]
theorem ad_old {v : Nat → Int32} {p : Int32} {X Y S C R g e : Nat} (hg : g < cN v) (hN : cN v < 6) (he : e < 6) : adV v p X Y S C R (2 + 6 * g + e) = v (2 + 6 * g + e) := by
  rw [ad_app (by omega), if_neg (by omega), if_neg (by omega), if_neg (by omega), if_neg (by omega), if_neg (by omega), if_neg (by omega), if_neg (by omega)]
theorem ad_lo {v : Nat → Int32} {p : Int32} {X Y S C R : Nat} : adV v p X Y S C R 0 = nI (cN v + 1) ∧ adV v p X Y S C R 1 = v 1 := by
  constructor
  · rw [ad_app (by omega), if_neg (by omega), if_neg (by omega), if_neg (by omega), if_neg (by omega), if_neg (by omega), if_neg (by omega), if_pos rfl]
  · rw [ad_app (by omega), if_neg (by omega), if_neg (by omega), if_neg (by omega), if_neg (by omega), if_neg (by omega), if_neg (by omega), if_neg (by omega)]
theorem ad_new {v : Nat → Int32} {p : Int32} {X Y S C R : Nat} (hN : cN v < 6) : adV v p X Y S C R (2 + 6 * cN v + 0) = p ∧ adV v p X Y S C R (2 + 6 * cN v + 1) = nI X ∧ adV v p X Y S C R (2 + 6 * cN v + 2) = nI Y ∧ adV v p X Y S C R (2 + 6 * cN v + 3) = nI S ∧ adV v p X Y S C R (2 + 6 * cN v + 4) = nI C ∧ adV v p X Y S C R (2 + 6 * cN v + 5) = nI R := by
  refine ⟨?_, ?_, ?_, ?_, ?_, ?_⟩
  · rw [ad_app (by omega), if_neg (by omega), if_neg (by omega), if_neg (by omega), if_neg (by omega), if_neg (by omega), if_pos rfl]
  · rw [ad_app (by omega), if_neg (by omega), if_neg (by omega), if_neg (by omega), if_neg (by omega), if_pos rfl]
  · rw [ad_app (by omega), if_neg (by omega), if_neg (by omega), if_neg (by omega), if_pos rfl]
  · rw [ad_app (by omega), if_neg (by omega), if_neg (by omega), if_pos rfl]
  · rw [ad_app (by omega), if_neg (by omega), if_pos rfl]
  · rw [ad_app (by omega), if_pos rfl]
theorem ad_o {v : Nat → Int32} {p : Int32} {X Y S C R g c r w : Nat} (hg : g < cN v) (hN : cN v < 6) (hc : c < 5) (hr : r < 5) (hw : w < 2) : oV (adV v p X Y S C R) g c r w = oV v g c r w := by
  unfold oV adV zP adF
  rw [if_neg (by omega), upd_app, if_neg (by omega), upd_app, if_neg (by omega), upd_app, if_neg (by omega), upd_app, if_neg (by omega), upd_app, if_neg (by omega), upd_app, if_neg (by omega), upd_app, if_neg (by omega)]
theorem ad_z {v : Nat → Int32} {p : Int32} {X Y S C R c r w : Nat} (hc : c < 5) (hr : r < 5) (hw : w < 2) : oV (adV v p X Y S C R) (cN v) c r w = 0 := by
  unfold oV adV zP
  rw [if_pos (by omega)]
theorem ad_c {v : Nat → Int32} {p : Int32} {X Y S C R : Nat} (hN : cN v < 6) : cN (adV v p X Y S C R) = cN v + 1 := by
  rw [show cN (adV v p X Y S C R) = (adV v p X Y S C R 0).toNatClampNeg from rfl, ad_lo.1, nI_clamp (by omega)]
theorem ad_fo {v : Nat → Int32} {p : Int32} {X Y S C R g e : Nat} (hg : g < cN v) (hN : cN v < 6) (he : e < 6) : fN (adV v p X Y S C R) g e = fN v g e := by
  unfold fN
  rw [ad_old hg hN he]
theorem sm_0 : Sm 0 := ⟨by decide, by decide⟩
theorem ad_ok {v : Nat → Int32} {p : Int32} {X Y S C R : Nat} (hv : Ok v) (hp : gPar v p) (hX : X ≤ 1000) (hY : Y ≤ 1000) (hS1 : 1 ≤ S) (hS : S ≤ 64) (hC2 : 2 ≤ C) (hC5 : C ≤ 5) (hR2 : 2 ≤ R) (hR5 : R ≤ 5) (hw : X + (C - 1) * S ≤ 1000) (hh : Y + (R - 1) * S ≤ 1000) (hm : mayS v p X Y S ((C - 1) * S) ((R - 1) * S)) (hN : cN v < 6) : Ok (adV v p X Y S C R) := by
  have hc := ad_c (v := v) (p := p) (X := X) (Y := Y) (S := S) (C := C) (R := R) hN
  obtain ⟨n0, n1, n2, n3, n4, n5⟩ := ad_new (v := v) (p := p) (X := X) (Y := Y) (S := S) (C := C) (R := R) hN
  have f1 : fN (adV v p X Y S C R) (cN v) 1 = X := by unfold fN; rw [n1, nI_clamp (by omega)]
  have f2 : fN (adV v p X Y S C R) (cN v) 2 = Y := by unfold fN; rw [n2, nI_clamp (by omega)]
  have f3 : fN (adV v p X Y S C R) (cN v) 3 = S := by unfold fN; rw [n3, nI_clamp (by omega)]
  have f4 : fN (adV v p X Y S C R) (cN v) 4 = C := by unfold fN; rw [n4, nI_clamp (by omega)]
  have f5 : fN (adV v p X Y S C R) (cN v) 5 = R := by unfold fN; rw [n5, nI_clamp (by omega)]
  have er : rN (adV v p X Y S C R) = rN v := by unfold rN; rw [ad_lo.2]
  refine ⟨by rw [hc]; exact ad_lo.1, by omega, by rw [er, ad_lo.2]; exact hv.2.2.1, by rw [er]; exact hv.2.2.2.1, fun g hg => ?_⟩
  by_cases hgo : g < cN v
  · obtain ⟨o1, o2, o3⟩ := hv.2.2.2.2 g hgo
    obtain ⟨g6, c5, r5, k2, l2, s1, s64⟩ := hv.b hgo
    refine ⟨?_, ?_, ?_⟩
    · unfold OkP at *
      rw [show adV v p X Y S C R (2 + 6 * g) = v (2 + 6 * g) from ad_old (e := 0) hgo hN (by decide)]
      rcases o1 with q | ⟨j, j1, j2, j3⟩
      · exact Or.inl q
      · refine Or.inr ⟨j, j1, j2, ?_⟩
        have hj : j < cN v := by omega
        unfold Ins at *
        rw [ad_fo hgo hN (by decide), ad_fo hgo hN (by decide), ad_fo hgo hN (by decide), ad_fo hgo hN (by decide), ad_fo hgo hN (by decide), ad_fo hj hN (by decide), ad_fo hj hN (by decide), ad_fo hj hN (by decide), ad_fo hj hN (by decide), ad_fo hj hN (by decide)]
        exact j3
    · unfold OkF at *
      rw [ad_fo hgo hN (by decide), ad_fo hgo hN (by decide), ad_fo hgo hN (by decide), ad_fo hgo hN (by decide), ad_fo hgo hN (by decide)]
      refine ⟨fun e h1 h6 => ?_, o2.2⟩
      rw [ad_old hgo hN h6, ad_fo hgo hN h6]
      exact o2.1 e h1 h6
    · intro c r w hc hr hw
      rw [ad_fo hgo hN (by decide)] at hc hr
      rw [ad_o hgo hN (by omega) (by omega) hw]
      exact o3 c r w hc hr hw
  · obtain rfl : g = cN v := by omega
    refine ⟨?_, ?_, ?_⟩
    · unfold OkP
      rw [show adV v p X Y S C R (2 + 6 * cN v) = p from n0]
      rcases hp with q | q
      · exact Or.inl q
      · obtain ⟨P, hP, rfl⟩ := grS_nat hv q
        refine Or.inr ⟨P, hP, rfl, ?_⟩
        have hi := hm.1.resolve_left (fun z => m1_ne P (by omega) z.symm)
        rw [nI_clamp (by omega)] at hi
        obtain ⟨i1, i2, i3, i4, i5⟩ := inU_iff.mpr hi
        unfold Ins
        rw [f1, f2, f3, f4, f5, ad_fo hP hN (by decide), ad_fo hP hN (by decide), ad_fo hP hN (by decide), ad_fo hP hN (by decide), ad_fo hP hN (by decide)]
        exact ⟨i2, i3, i4, i5⟩
    · unfold OkF
      rw [f1, f2, f3, f4, f5]
      refine ⟨fun e h1 h6 => ?_, hS1, hS, hC2, hC5, hR2, hR5, hw, hh⟩
      match e, h1, h6 with
      | 1, _, _ => rw [f1]; exact n1
      | 2, _, _ => rw [f2]; exact n2
      | 3, _, _ => rw [f3]; exact n3
      | 4, _, _ => rw [f4]; exact n4
      | 5, _, _ => rw [f5]; exact n5
    · intro c r w hc hr hw
      rw [f4] at hc
      rw [f5] at hr
      rw [ad_z (by omega) (by omega) hw]
      exact sm_0
theorem fc_z {o : Nat → Int32} {C : Nat} : ∀ (k c r w : Nat), c < C → w < 2 → C * r + c < k → fcV o C 0 0 k (2 * (5 * r + c) + w) = 0
  | 0, _, _, _, _, _, h => absurd h (by omega)
  | k + 1, c, r, w, hc, hw, h => by
    rw [fcV, set2_app]
    by_cases e1 : 2 * (5 * r + c) + w = 2 * (5 * (k / C) + k % C) + 1
    · rw [if_pos e1]
    · rw [if_neg e1]
      by_cases e2 : 2 * (5 * r + c) + w = 2 * (5 * (k / C) + k % C)
      · rw [if_pos e2]
      · rw [if_neg e2]
        refine fc_z k c r w hc hw ?_
        by_cases e : k = C * r + c
        · obtain ⟨k1, k2⟩ := kdiv (C := C) (r := r) (c := c) hc
          rw [e, k1, k2] at e1 e2
          omega
        · omega
set_option maxRecDepth 100000 in
set_option maxHeartbeats 4000000 in
theorem c_X8_add {σ : St} {v : Nat → Int32} {p : Int32} {X Y S C R : Nat} (h : SR σ 0 v) (hN : cN v < 6) (hC5 : C ≤ 5) (hR5 : R ≤ 5) (hok : Ok (adV v p X Y S C R)) : ∃ σ', Ct yX8_add M_X8_add [.ref 29, .int p, .int (nI X), .int (nI Y), .int (nI S), .int (nI C), .int (nI R)] σ (some (.int (nI (cN v))), σ') ∧ SR σ' 0 (adV v p X Y S C R) ∧ ChS σ σ' 0 ∧ σ'.2.2 = σ.2.2 := by
  obtain ⟨hs, hF, ⟨b1, b2, b3⟩, hv⟩ := id h
  have hn : σ.1 29 1 = nI (cN v) := h.2.n
  have hk0 : Is 29 0 7 := h.2.1.1
  have hk1 : Is 30 4 6 := h.2.1.2.1
  obtain ⟨i, hi, ei⟩ := hs.2.1 (cN v) hN
  have ei' : σ.2.2 30 (cN v) = 67 + 2 * i := ei
  have hq : isG (σ.2.2 30 (cN v)) := hF.2.2 _ hN
  obtain ⟨hq0, hq1⟩ := id hq
  have own : Own 0 (σ.2.2 30 (cN v)) := by rw [ei']; exact Or.inr (Or.inr (by omega))
  have own1 : Own 0 (σ.2.2 30 (cN v) + 1) := by rw [ei']; exact Or.inr (Or.inr (by omega))
  have fl : ∀ e, e < 6 → (plS (pI σ 29 1 (nI (cN v + 1))) (σ.2.2 30 (cN v)) p (nI X) (nI Y) (nI S) (nI C) (nI R)).1 (σ.2.2 30 (cN v)) (1 + e) = adV v p X Y S C R (2 + 6 * cN v + e) := by
    intro e he
    obtain ⟨n0, n1, n2, n3, n4, n5⟩ := ad_new (v := v) (p := p) (X := X) (Y := Y) (S := S) (C := C) (R := R) hN
    have := plS_f (σ := pI σ 29 1 (nI (cN v + 1))) (q := σ.2.2 30 (cN v)) (f := fun x => adV v p X Y S C R (2 + 6 * cN v + (x - 1))) he
    simp only [Nat.reduceSub, Nat.add_sub_cancel_left] at this
    rw [n0, n1, n2, n3, n4, n5] at this
    exact this
  have e5 : (plS (pI σ 29 1 (nI (cN v + 1))) (σ.2.2 30 (cN v)) p (nI X) (nI Y) (nI S) (nI C) (nI R)).1 (σ.2.2 30 (cN v)) 5 = nI C := (fl 4 (by decide)).trans (ad_new hN).2.2.2.2.1
  have e6 : (plS (pI σ 29 1 (nI (cN v + 1))) (σ.2.2 30 (cN v)) p (nI X) (nI Y) (nI S) (nI C) (nI R)).1 (σ.2.2 30 (cN v)) 6 = nI R := (fl 5 (by decide)).trans (ad_new hN).2.2.2.2.2
  have ch : ChS σ (pA (plS (pI σ 29 1 (nI (cN v + 1))) (σ.2.2 30 (cN v)) p (nI X) (nI Y) (nI S) (nI C) (nI R)) (σ.2.2 30 (cN v) + 1) (fcV ((plS (pI σ 29 1 (nI (cN v + 1))) (σ.2.2 30 (cN v)) p (nI X) (nI Y) (nI S) (nI C) (nI R)).1 (σ.2.2 30 (cN v) + 1)) C 0 0 (C * R))) 0 := (((ChS.rf σ 0).pI _ _ (Or.inl rfl)).plS own).pA _ own1
  refine ⟨pA (plS (pI σ 29 1 (nI (cN v + 1))) (σ.2.2 30 (cN v)) p (nI X) (nI Y) (nI S) (nI C) (nI R)) (σ.2.2 30 (cN v) + 1) (fcV ((plS (pI σ 29 1 (nI (cN v + 1))) (σ.2.2 30 (cN v)) p (nI X) (nI Y) (nI S) (nI C) (nI R)).1 (σ.2.2 30 (cN v) + 1)) C 0 0 (C * R)), ?_, ⟨hs, hF, ⟨?_, ?_, fun g hg => ?_⟩, hok⟩, ch, rfl⟩
  · refine ct_of (k := 2) rfl rfl rfl (Nat.le_of_ble_eq_true rfl) ?_
    refine x_aload_n (pc' := 1) rfl dX8_add_0 rfl ?_
    refine x_get (v := .int _) (pc' := 4) fk_X8_18 (by first | assumption | exact ⟨by decide, rfl⟩) rfl dX8_add_1 rfl ?_
    refine x_top hn ?_
    refine x_istore (lv' := [_, _, _, _, _, _, _, _, _]) (pc' := 6) (by decide) rfl dX8_add_4 rfl ?_
    refine x_iload (pc' := 8) rfl dX8_add_6 rfl ?_
    refine x_if_lt (tgt := 31) (pc' := 11) (by decide) dX8_add_8 rfl (fun c8 => absurd c8 (nI_pos (by omega))) (fun c8 => ?_)
    refine x_iload (pc' := 13) rfl dX8_add_11 rfl ?_
    refine x_aload_n (pc' := 14) rfl dX8_add_13 rfl ?_
    refine x_get (v := .ref _) (pc' := 17) fk_X8_11 (by first | assumption | exact ⟨by decide, rfl⟩) rfl dX8_add_14 rfl ?_
    refine x_alen (a := 4) (n := 6) (v := 6) (pc' := 18) (by decide) (by first | assumption | exact ⟨by decide, rfl⟩) (by decide) dX8_add_17 rfl ?_
    refine x_icmp_ge (tgt := 31) (pc' := 21) (by decide) dX8_add_18 rfl (fun c18 => absurd c18 (nI_ge (b := 6) hN (by decide))) (fun c18 => ?_)
    refine x_aload_n (pc' := 22) rfl dX8_add_21 rfl ?_
    refine x_get (v := .ref _) (pc' := 25) fk_X8_11 (by first | assumption | exact ⟨by decide, rfl⟩) rfl dX8_add_22 rfl ?_
    refine x_iload (pc' := 27) rfl dX8_add_25 rfl ?_
    refine x_aaldGn (N := 6) (n := (cN v)) (pc' := 28) (by first | assumption | exact ⟨by decide, rfl⟩) (by decide) rfl (by omega) dX8_add_27 rfl ?_
    refine x_goto (tgt := 32) (by decide) dX8_add_28 ?_
    refine x_astore (lv' := [_, _, _, _, _, _, _, _, _]) (pc' := 34) (by decide) rfl dX8_add_32 rfl ?_
    refine x_aload (pc' := 36) rfl dX8_add_34 rfl ?_
    refine x_ifnonnull (tgt := 42) (by decide) dX8_add_36 ?_
    refine x_aload_n (pc' := 43) rfl dX8_add_42 rfl ?_
    refine x_dup (pc' := 44) rfl dX8_add_43 rfl ?_
    refine x_get (v := .int _) (pc' := 47) fk_X8_18 (by first | assumption | exact ⟨by decide, rfl⟩) rfl dX8_add_44 rfl ?_
    refine x_iconst (v := 1) (pc' := 48) (by decide) dX8_add_47 rfl ?_
    refine x_iadd (pc' := 49) dX8_add_48 rfl ?_
    refine x_top (y := nI (cN v + 1)) (by rw [hn, nI_1]) ?_
    refine x_puti (pc' := 52) fk_X8_18 pk_7_1 rfl (by first | assumption | exact ⟨by decide, rfl⟩) dX8_add_49 rfl ?_
    refine x_aload (pc' := 54) rfl dX8_add_52 rfl ?_
    refine x_iload_n (pc' := 55) rfl dX8_add_54 rfl ?_
    refine x_iload_n (pc' := 56) rfl dX8_add_55 rfl ?_
    refine x_iload_n (pc' := 57) rfl dX8_add_56 rfl ?_
    refine x_iload (pc' := 59) rfl dX8_add_57 rfl ?_
    refine x_iload (pc' := 61) rfl dX8_add_59 rfl ?_
    refine x_iload (pc' := 63) rfl dX8_add_61 rfl ?_
    refine x_callVv (As := [.int _, .int _, .int _, .int _, .int _, .int _]) (rest := []) (ci := 3) (pc' := 66) rfl vk_X8_53 mk_X4_place (by decide) (by first | assumption | exact ⟨by decide, rfl⟩) (by decide) rfl (Nat.le_of_ble_eq_true rfl) dX8_add_63 rfl (c_X4_place hq) ?_
    refine x_aload (pc' := 68) rfl dX8_add_66 rfl ?_
    refine x_iconst (v := 0) (pc' := 69) (by decide) dX8_add_68 rfl ?_
    refine x_iconst (v := 0) (pc' := 70) (by decide) dX8_add_69 rfl ?_
    refine x_callVi (As := [.int _, .int _]) (rest := []) (ci := 3) (pc' := 73) rfl vk_X8_57 mk_X4_setOffsets (by decide) (by first | assumption | exact ⟨by decide, rfl⟩) (by decide) rfl (Nat.le_of_ble_eq_true rfl) dX8_add_70 rfl (c_X4_setOffsets hq e5 e6 hC5 hR5) ?_
    refine x_pop (pc' := 74) rfl dX8_add_73 rfl ?_
    refine x_iload (pc' := 76) rfl dX8_add_74 rfl ?_
    exact x_iret rfl dX8_add_76 rfl
  · rw [ad_lo.1, pA_ne (by rw [ei']; omega), plS_ne (by rw [ei']; omega)]
    rfl
  · rw [ad_lo.2, pA_ne (by rw [ei']; omega), plS_ne (by rw [ei']; omega), pI_app, if_neg (by omega)]
    exact b2
  · rw [ad_c hN] at hg
    show GRep _ (σ.2.2 30 g) _ g
    by_cases hgo : g < cN v
    · obtain ⟨c1, c2⟩ := b3 g hgo
      obtain ⟨g6, c5, r5, -⟩ := hv.b hgo
      obtain ⟨i', hi', ej⟩ := hs.2.1 g (by omega)
      have ej' : σ.2.2 30 g = 67 + 2 * i' := ej
      have hne : σ.2.2 30 g ≠ σ.2.2 30 (cN v) := fun q => absurd (hs.2.2 g (cN v) (by omega) (by omega) q) (by omega)
      rw [ej', ei'] at hne
      refine ⟨fun e he => ?_, fun c r w hc hr hw => ?_⟩
      · rw [pA_ne (by rw [ej', ei']; omega), plS_ne (by rw [ej', ei']; omega), pI_ne (by rw [ej']; omega), ad_old hgo hN he]
        exact c1 e he
      · rw [ad_fo hgo hN (by decide)] at hc hr
        rw [pA_ne (by rw [ej', ei']; omega), plS_ne (by rw [ej', ei']; omega), pI_ne (by rw [ej']; omega), ad_o hgo hN (by omega) (by omega) hw]
        exact c2 c r w hc hr hw
    · obtain rfl : g = cN v := by omega
      refine ⟨fun e he => ?_, fun c r w hc hr hw => ?_⟩
      · rw [pA_ne (by omega)]
        exact fl e he
      · have f4 : fN (adV v p X Y S C R) (cN v) 4 = C := by unfold fN; rw [(ad_new hN).2.2.2.2.1, nI_clamp (by omega)]
        have f5 : fN (adV v p X Y S C R) (cN v) 5 = R := by unfold fN; rw [(ad_new hN).2.2.2.2.2, nI_clamp (by omega)]
        rw [f4] at hc
        rw [f5] at hr
        rw [ad_z (by omega) (by omega) hw, pA_at]
        refine fc_z _ c r w hc hw ?_
        have := Nat.mul_le_mul_left C (show r + 1 ≤ R by omega)
        rw [Nat.mul_add, Nat.mul_one] at this
        omega
/-! ===== fit: how many changed ===== -/
theorem ab_pos {x a : Int32} (hx : Sm x) (ha : Sm a) : (0 < ab (x - a) ↔ ¬ x = a) ∧ 0 ≤ ab (x - a) := by
  have h := isub_i hx ha
  obtain ⟨x1, x2⟩ := hx
  obtain ⟨a1, a2⟩ := ha
  have z : (0 : Int32).toInt = 0 := rfl
  have hn : (-(x - a)).toInt = -(x - a).toInt := by
    rw [Int32.toInt_neg, h]
    simp only [Int.bmod_def]
    omega
  unfold ab
  rw [sI_eq]
  by_cases hc : x - a < 0
  · rw [if_pos hc, sI_lt, sI_le, hn, z]
    rw [sI_lt, z] at hc
    omega
  · rw [if_neg hc, sI_lt, sI_le, z]
    rw [sI_lt, z] at hc
    omega
theorem mx_pos {p q : Int32} : 0 < mx p q ↔ (0 < p ∨ 0 < q) := by
  unfold mx
  by_cases h : q < p
  · rw [if_pos h]
    rw [sI_lt] at h
    rw [sI_lt, sI_lt]
    omega
  · rw [if_neg h]
    rw [sI_lt] at h
    rw [sI_lt, sI_lt]
    omega
theorem fit_oV {v : Nat → Int32} {C R G g c r w : Nat} (hC0 : 0 < C) (hC : C ≤ 5) (hR : R ≤ 5) (hc : c < 5) (hr : r < 5) (hw : w < 2) (h : g ≠ G) : ∀ k, k ≤ C * R → oV (fitV v C G k) g c r w = oV v g c r w
  | 0, _ => rfl
  | k + 1, hk => by
    have h1 := Nat.mod_lt k hC0
    have h2 : k / C < R := Nat.div_lt_of_lt_mul (by omega)
    have ih := fit_oV (v := v) hC0 hC hR hc hr hw h k (by omega)
    rw [fitV]
    by_cases hb : brd (fitV v C G k) G (k % C) (k / C)
    · rw [pif_t hb, oV_set2 (by omega) (by omega) hc hr hw h]
      exact ih
    · rw [pif_f hb]
      exact ih
theorem fit_at {v : Nat → Int32} {C G n w : Nat} (hC0 : 0 < C) (hC : C ≤ 5) (hw : w < 2) : ∀ k, k ≤ n → fitV v C G k (ndI G (n % C) (n / C) + w) = v (ndI G (n % C) (n / C) + w)
  | 0, _ => rfl
  | k + 1, hk => by
    have ih := fit_at (v := v) (G := G) (n := n) hC0 hC hw k (by omega)
    rw [fitV]
    by_cases hb : brd (fitV v C G k) G (k % C) (k / C)
    · have h1 := Nat.mod_lt k hC0
      have h2 := Nat.mod_lt n hC0
      have d1 := Nat.div_add_mod k C
      have d2 := Nat.div_add_mod n C
      have hne : ¬ 5 * (n / C) + n % C = 5 * (k / C) + k % C := by
        intro q
        have a1 : n / C = k / C := by omega
        have a2 : n % C = k % C := by omega
        rw [a1, a2] at d2
        omega
      rw [pif_t hb, set2_app, if_neg (by unfold ndI; omega), if_neg (by unfold ndI; omega)]
      exact ih
    · rw [pif_f hb]
      exact ih
theorem offS_congr {u v : Nat → Int32} {g px py w : Nat} (hlo : ∀ j, j < 38 → u j = v j) (hg : g < 6) (hf : OkF v g) (hon : onS v g px py) (hw : w < 2) (ho : ∀ c r, c < 5 → r < 5 → oV u g c r w = oV v g c r w) : offS u g px py w = offS v g px py w := by
  have e1 := lo_fN hlo (g := g) (e := 1) hg (by decide)
  have e2 := lo_fN hlo (g := g) (e := 2) hg (by decide)
  have e3 := lo_fN hlo (g := g) (e := 3) hg (by decide)
  have e4 := lo_fN hlo (g := g) (e := 4) hg (by decide)
  have e5 := lo_fN hlo (g := g) (e := 5) hg (by decide)
  have ex : cX u g px = cX v g px := by unfold cX; rw [e1, e3, e4]
  have ey : cY u g py = cY v g py := by unfold cY; rw [e2, e3, e5]
  have s0 : ∀ k, stS u g k 0 = stS v g k 0 := fun k => by unfold stS; rw [show 1 + 0 = 1 from rfl, e1, e3]
  have s1 : ∀ k, stS u g k 1 = stS v g k 1 := fun k => by unfold stS; rw [show 1 + 1 = 2 from rfl, e2, e3]
  obtain ⟨x1, -, -⟩ := cX_spec hf hon
  obtain ⟨y1, -, -⟩ := cY_spec hf hon
  obtain ⟨-, t1, t64, c2, c5, r2, r5, b1, b2⟩ := id hf
  unfold offS
  rw [ex, ey, s0, s1, e3, hlo 1 (by decide), ho _ _ (by omega) (by omega), ho _ _ (by omega) (by omega), ho _ _ (by omega) (by omega), ho _ _ (by omega) (by omega)]
theorem fit_n {v : Nat → Int32} (hv : Ok v) {G : Nat} (hG : G < cN v) (hp : ¬ v (2 + 6 * G) = -1) : sumN (fitK v (fN v G 4) G) (fN v G 4 * fN v G 5) = gapN v G := by
  obtain ⟨g6, c5, r5, c2, r2, s1, s64⟩ := hv.b hG
  rw [gapN, pif_f hp]
  refine sumN_c _ (fun k hk => ?_)
  have hlo : ∀ j, j < 38 → fitV v (fN v G 4) G k j = v j := fun j hj => fit_lo v (fN v G 4) G hj _
  have k1 := Nat.mod_lt k (show 0 < fN v G 4 by omega)
  have k2 : k / fN v G 4 < fN v G 5 := Nat.div_lt_of_lt_mul (by omega)
  obtain ⟨p1, p2, p3⟩ := ins_on hv hG hp k1 k2
  have eb : brd (fitV v (fN v G 4) G k) G (k % fN v G 4) (k / fN v G 4) ↔ brd v G (k % fN v G 4) (k / fN v G 4) := by
    unfold brd
    rw [lo_fN hlo (by omega) (by decide), lo_fN hlo (by omega) (by decide)]
  have eo : ∀ w, w < 2 → ofpS (fitV v (fN v G 4) G k) G (k % fN v G 4) (k / fN v G 4) w = ofpS v G (k % fN v G 4) (k / fN v G 4) w := by
    intro w hw
    unfold ofpS
    have eP : pN (fitV v (fN v G 4) G k) G = pN v G := by unfold pN; rw [hlo _ (by omega)]
    have t0 : stS (fitV v (fN v G 4) G k) G (k % fN v G 4) 0 = stS v G (k % fN v G 4) 0 := by unfold stS; rw [lo_fN hlo (by omega) (by decide), lo_fN hlo (by omega) (by decide)]
    have t1 : stS (fitV v (fN v G 4) G k) G (k / fN v G 4) 1 = stS v G (k / fN v G 4) 1 := by unfold stS; rw [lo_fN hlo (by omega) (by decide), lo_fN hlo (by omega) (by decide)]
    rw [eP, t0, t1]
    exact offS_congr hlo (by omega) (hv.F (by omega)) p3 hw (fun c r hc hr => fit_oV (by omega) c5 r5 hc hr hw (by omega) k (by omega))
  have v0 := fit_at (v := v) (C := fN v G 4) (G := G) (n := k) (w := 0) (by omega) c5 (by decide) k (Nat.le_refl _)
  have v1 := fit_at (v := v) (C := fN v G 4) (G := G) (n := k) (w := 1) (by omega) c5 (by decide) k (Nat.le_refl _)
  rw [Nat.add_zero] at v0
  have hO := (hv.2.2.2.2 G hG).2.2
  have ax := ab_pos (hO _ _ 0 k1 k2 (by decide)) (ofpS_sm hv hG hp k1 k2 (w := 0) (by decide))
  have ay := ab_pos (hO _ _ 1 k1 k2 (by decide)) (ofpS_sm hv hG hp k1 k2 (w := 1) (by decide))
  have hiff : 0 < gapS v G (k % fN v G 4) (k / fN v G 4) ↔ (¬ v (ndI G (k % fN v G 4) (k / fN v G 4)) = ofpS v G (k % fN v G 4) (k / fN v G 4) 0 ∨ ¬ v (ndI G (k % fN v G 4) (k / fN v G 4) + 1) = ofpS v G (k % fN v G 4) (k / fN v G 4) 1) := by
    rw [gapS, mx_pos, ax.1, ay.1]
    rfl
  rw [fitK, gcnt, eo 0 (by decide), eo 1 (by decide), chg, v0, v1]
  by_cases hb : brd v G (k % fN v G 4) (k / fN v G 4)
  · rw [pif_t (eb.mpr hb)]
    by_cases hg : 0 < gapS v G (k % fN v G 4) (k / fN v G 4)
    · rw [pif_t (hiff.mp hg), pif_t ⟨hb, hg⟩]
    · rw [pif_f (fun q => hg (hiff.mpr q)), pif_f (fun q => hg q.2)]
  · rw [pif_f (fun q => hb (eb.mp q)), pif_f (fun q => hb q.1)]
