/-- the guesses: x and y of the n-th -/
noncomputable def gsX (v : Nat → Int32) (x y : Int32) : Nat → Int32 × Int32
  | 0 => (x, y)
  | n + 1 => (x - mvS v (gsX v x y n).1.toNatClampNeg (gsX v x y n).2.toNatClampNeg 0, y - mvS v (gsX v x y n).1.toNatClampNeg (gsX v x y n).2.toNatClampNeg 1)
def gsWas (v : Nat → Int32) (x y : Int32) (n : Nat) : Prop := ∃ k, k < n ∧ gsX v x y k = gsX v x y n
noncomputable def gsKind (v : Nat → Int32) (x y : Int32) : Nat → Int32
  | 0 => pif (plc x y) 3 2
  | n + 1 => pif (plc (gsX v x y (n + 1)).1 (gsX v x y (n + 1)).2) (pif (gsX v x y (n + 1) = gsX v x y n) 0 (pif (gsWas v x y (n + 1)) 1 3)) 2
/-- how many rounds from n on, so many left -/
noncomputable def gsEnd (v : Nat → Int32) (x y : Int32) : Nat → Nat → Nat
  | n, 0 => n
  | n, f + 1 => pif (gsKind v x y n = 3) (gsEnd v x y (n + 1) f) n
def newP (x y : Int32) : Prop := (-10000 ≤ x ∧ x ≤ 80000) ∧ -10000 ≤ y ∧ y ≤ 80000
noncomputable def bkN (v : Nat → Int32) (x y : Int32) (w : Nat) : Int32 := match w with
  | 0 => gsKind v x y (gsEnd v x y 0 60)
  | 1 => nI (gsEnd v x y 0 60)
  | 2 => (gsX v x y (gsEnd v x y 0 60)).1 + 1000000
  | _ => (gsX v x y (gsEnd v x y 0 60)).2 + 1000000
noncomputable def backS (v : Nat → Int32) (x y what : Int32) : Int32 := pif (newP x y ∧ 0 ≤ what ∧ what < 4) (bkN v x y what.toNatClampNeg) (-1000000002)
theorem gsKind_plc {v : Nat → Int32} {x y : Int32} {n : Nat} (h : gsKind v x y n = 3) : plc (gsX v x y n).1 (gsX v x y n).2 := by
  cases n with
  | zero =>
    by_cases hp : plc x y
    · exact hp
    · rw [gsKind, pif_f hp] at h
      exact absurd h (by decide)
  | succ n =>
    by_cases hp : plc (gsX v x y (n + 1)).1 (gsX v x y (n + 1)).2
    · exact hp
    · rw [gsKind, pif_f hp] at h
      exact absurd h (by decide)
/-- the state holds the first n + 1 guesses -/
def GsAt (a b : Nat → Int32) (v : Nat → Int32) (x y : Int32) (n : Nat) : Prop := ∀ k, k ≤ n → (a k, b k) = gsX v x y k
set_option maxRecDepth 100000 in
set_option maxHeartbeats 4000000 in
theorem l_X10_was {σ : St} {v : Nat → Int32} {x y : Int32} {n : Nat} (hg : GsAt (σ.1 27) (σ.1 28) v x y n) (hn : n ≤ 60) : ∀ (f k : Nat), k + f = n → (∀ j, j < k → ¬ gsX v x y j = gsX v x y n) → Ex M_X10_wasThere (some (.int (pb (gsWas v x y n))), σ) 2 [some (.ref 18), some (.int (nI n)), some (.int (nI k))] [] σ := by
  intro f
  induction f with
  | zero =>
    intro k hk hno
    obtain rfl : k = n := by omega
    refine x_iload_n (pc' := 3) rfl dX10_wasThere_2 rfl ?_
    refine x_iload_n (pc' := 4) rfl dX10_wasThere_3 rfl ?_
    refine x_icmp_ge (tgt := 45) (pc' := 7) (by decide) dX10_wasThere_4 rfl (fun c4 => ?_) (fun c4 => absurd (nI_le (Nat.le_refl _) (by omega)) c4)
    refine x_iconst (v := 0) (pc' := 46) (by decide) dX10_wasThere_45 rfl ?_
    exact x_zret rfl (by first | rfl | exact b01_nar _ | exact pb_nar _) dX10_wasThere_46 (ret_i (pb_0 (fun ⟨j, h1, h2⟩ => hno j h1 h2)).symm)
  | succ f ih =>
    intro k hk hno
    have e1 := hg k (by omega)
    have e2 := hg n (Nat.le_refl _)
    refine x_iload_n (pc' := 3) rfl dX10_wasThere_2 rfl ?_
    refine x_iload_n (pc' := 4) rfl dX10_wasThere_3 rfl ?_
    refine x_icmp_ge (tgt := 45) (pc' := 7) (by decide) dX10_wasThere_4 rfl (fun c4 => absurd c4 (nI_ge (by omega) (by omega))) (fun c4 => ?_)
    refine x_aload_n (pc' := 8) rfl dX10_wasThere_7 rfl ?_
    refine x_get (v := .ref 27) (pc' := 11) fk_X10_36 (by first | assumption | exact ⟨by decide, rfl⟩) rfl dX10_wasThere_8 rfl ?_
    refine x_iload_n (pc' := 12) rfl dX10_wasThere_11 rfl ?_
    refine x_ialdn (N := 61) (n := k) (pc' := 13) (by first | assumption | exact ⟨by decide, rfl⟩) (by decide) rfl (by omega) dX10_wasThere_12 rfl ?_
    refine x_aload_n (pc' := 14) rfl dX10_wasThere_13 rfl ?_
    refine x_get (v := .ref 27) (pc' := 17) fk_X10_36 (by first | assumption | exact ⟨by decide, rfl⟩) rfl dX10_wasThere_14 rfl ?_
    refine x_iload_n (pc' := 18) rfl dX10_wasThere_17 rfl ?_
    refine x_ialdn (N := 61) (n := n) (pc' := 19) (by first | assumption | exact ⟨by decide, rfl⟩) (by decide) rfl (by omega) dX10_wasThere_18 rfl ?_
    refine x_icmp_ne (tgt := 39) (pc' := 22) (by decide) dX10_wasThere_19 rfl (fun c19 => ?_) (fun c19 => ?_)
    · refine x_iinc (lv' := [_, _, _]) (pc' := 42) rfl (nI_1 k) (by decide) rfl dX10_wasThere_39 rfl ?_
      refine x_goto (tgt := 2) (by decide) dX10_wasThere_42 ?_
      refine ih (k + 1) (by omega) (fun j hj => (Nat.lt_succ_iff_lt_or_eq.mp hj).elim (hno j) (fun h => ?_))
      rw [h, ← e1, ← e2]
      exact fun q => c19 (Prod.mk.inj q).1
    · refine x_aload_n (pc' := 23) rfl dX10_wasThere_22 rfl ?_
      refine x_get (v := .ref 28) (pc' := 26) fk_X10_39 (by first | assumption | exact ⟨by decide, rfl⟩) rfl dX10_wasThere_23 rfl ?_
      refine x_iload_n (pc' := 27) rfl dX10_wasThere_26 rfl ?_
      refine x_ialdn (N := 61) (n := k) (pc' := 28) (by first | assumption | exact ⟨by decide, rfl⟩) (by decide) rfl (by omega) dX10_wasThere_27 rfl ?_
      refine x_aload_n (pc' := 29) rfl dX10_wasThere_28 rfl ?_
      refine x_get (v := .ref 28) (pc' := 32) fk_X10_39 (by first | assumption | exact ⟨by decide, rfl⟩) rfl dX10_wasThere_29 rfl ?_
      refine x_iload_n (pc' := 33) rfl dX10_wasThere_32 rfl ?_
      refine x_ialdn (N := 61) (n := n) (pc' := 34) (by first | assumption | exact ⟨by decide, rfl⟩) (by decide) rfl (by omega) dX10_wasThere_33 rfl ?_
      refine x_icmp_ne (tgt := 39) (pc' := 37) (by decide) dX10_wasThere_34 rfl (fun c34 => ?_) (fun c34 => ?_)
      · refine x_iinc (lv' := [_, _, _]) (pc' := 42) rfl (nI_1 k) (by decide) rfl dX10_wasThere_39 rfl ?_
        refine x_goto (tgt := 2) (by decide) dX10_wasThere_42 ?_
        refine ih (k + 1) (by omega) (fun j hj => (Nat.lt_succ_iff_lt_or_eq.mp hj).elim (hno j) (fun h => ?_))
        rw [h, ← e1, ← e2]
        exact fun q => c34 (Prod.mk.inj q).2
      · refine x_iconst (v := 1) (pc' := 38) (by decide) dX10_wasThere_37 rfl ?_
        exact x_zret rfl (by first | rfl | exact b01_nar _ | exact pb_nar _) dX10_wasThere_38 (ret_i (pb_1 ⟨k, by omega, by rw [← e1, ← e2, c19, c34]⟩).symm)
set_option maxRecDepth 100000 in
set_option maxHeartbeats 4000000 in
theorem c_X10_wasThere {σ : St} {v : Nat → Int32} {x y : Int32} {n : Nat} (hg : GsAt (σ.1 27) (σ.1 28) v x y n) (hn : n ≤ 60) : Ct yX10_wasThere M_X10_wasThere [.ref 18, .int (nI n)] σ (some (.int (pb (gsWas v x y n))), σ) := by
  refine ct_of (k := 1) rfl rfl rfl (Nat.le_of_ble_eq_true rfl) ?_
  refine x_iconst (v := 0) (pc' := 1) (by decide) dX10_wasThere_0 rfl ?_
  refine x_istore_n (lv' := [_, _, _]) (pc' := 2) (by decide) rfl dX10_wasThere_1 rfl ?_
  exact l_X10_was hg hn _ 0 (Nat.zero_add _) (fun j h => absurd h (by omega))
/-- the states of a search: only the guesses' rows differ -/
def GsSt (σ τ : St) : Prop := (∀ k j, k ≠ 27 → k ≠ 28 → τ.1 k j = σ.1 k j) ∧ τ.2 = σ.2
theorem GsSt.row {σ τ : St} (h : GsSt σ τ) {k : Nat} (h1 : k ≠ 27) (h2 : k ≠ 28) : τ.1 k = σ.1 k := funext fun j => h.1 k j h1 h2
theorem GsSt.put {σ τ : St} (h : GsSt σ τ) (n : Nat) (a b : Int32) : GsSt σ (pI (pI τ 27 n a) 28 n b) := by
  refine ⟨fun k j h1 h2 => ?_, h.2⟩
  rw [pI_app, if_neg (fun q => h2 q.1), pI_app, if_neg (fun q => h1 q.1)]
  exact h.1 k j h1 h2
theorem gs_put {τ : St} {v : Nat → Int32} {x y : Int32} {n : Nat} (hg : GsAt (τ.1 27) (τ.1 28) v x y n) {a b : Int32} (h : (a, b) = gsX v x y (n + 1)) : GsAt ((pI (pI τ 27 (n + 1) a) 28 (n + 1) b).1 27) ((pI (pI τ 27 (n + 1) a) 28 (n + 1) b).1 28) v x y (n + 1) := by
  intro k hk
  rw [pI_app, pI_app, pI_app, pI_app, if_neg (by omega), if_neg (c := 28 = 27 ∧ k = n + 1) (by omega)]
  by_cases hk2 : k = n + 1
  · rw [if_pos ⟨rfl, hk2⟩, if_pos ⟨rfl, hk2⟩, hk2]
    exact h
  · rw [if_neg (fun q => hk2 q.2), if_neg (fun q => hk2 q.2)]
    exact hg k (by omega)
set_option maxRecDepth 100000 in
set_option maxHeartbeats 4000000 in
theorem t_X10_back {σ τ : St} {x y : Int32} {w n : Nat} {Z : Option Value} (hw : w < 4) (hn : n ≤ 60) (he : gsEnd (σ.1 19) x y 0 60 = n) (hg : GsAt (τ.1 27) (τ.1 28) (σ.1 19) x y n) : Ex M_X10_back (some (.int (bkN (σ.1 19) x y w)), τ) 257 [some (.ref 18), some (.int x), some (.int y), some (.int (nI w)), some (.int (nI n)), some (.int (gsKind (σ.1 19) x y n)), Z] [] τ := by
  have e := hg n (Nat.le_refl _)
  match w, hw with
  | 0, _ =>
    refine x_iload_n (pc' := 258) rfl dX10_back_257 rfl ?_
    refine x_if_ne (tgt := 266) (pc' := 261) (by decide) dX10_back_258 rfl (fun c258 => absurd (by decide) c258) (fun c258 => ?_)
    refine x_iload (pc' := 263) rfl dX10_back_261 rfl ?_
    refine x_goto (tgt := 301) (by decide) dX10_back_263 ?_
    exact x_iret rfl dX10_back_301 (ret_i (congrArg (gsKind (σ.1 19) x y) he).symm)
  | 1, _ =>
    refine x_iload_n (pc' := 258) rfl dX10_back_257 rfl ?_
    refine x_if_ne (tgt := 266) (pc' := 261) (by decide) dX10_back_258 rfl (fun c258 => ?_) (fun c258 => absurd c258 (by decide))
    refine x_iload_n (pc' := 267) rfl dX10_back_266 rfl ?_
    refine x_iconst (v := 1) (pc' := 268) (by decide) dX10_back_267 rfl ?_
    refine x_icmp_ne (tgt := 276) (pc' := 271) (by decide) dX10_back_268 rfl (fun c268 => absurd (by decide) c268) (fun c268 => ?_)
    refine x_iload (pc' := 273) rfl dX10_back_271 rfl ?_
    refine x_goto (tgt := 301) (by decide) dX10_back_273 ?_
    exact x_iret rfl dX10_back_301 (ret_i (congrArg nI he).symm)
  | 2, _ =>
    refine x_iload_n (pc' := 258) rfl dX10_back_257 rfl ?_
    refine x_if_ne (tgt := 266) (pc' := 261) (by decide) dX10_back_258 rfl (fun c258 => ?_) (fun c258 => absurd c258 (by decide))
    refine x_iload_n (pc' := 267) rfl dX10_back_266 rfl ?_
    refine x_iconst (v := 1) (pc' := 268) (by decide) dX10_back_267 rfl ?_
    refine x_icmp_ne (tgt := 276) (pc' := 271) (by decide) dX10_back_268 rfl (fun c268 => ?_) (fun c268 => absurd c268 (by decide))
    refine x_iload_n (pc' := 277) rfl dX10_back_276 rfl ?_
    refine x_iconst (v := 2) (pc' := 278) (by decide) dX10_back_277 rfl ?_
    refine x_icmp_ne (tgt := 291) (pc' := 281) (by decide) dX10_back_278 rfl (fun c278 => absurd (by decide) c278) (fun c278 => ?_)
    refine x_aload_n (pc' := 282) rfl dX10_back_281 rfl ?_
    refine x_get (v := .ref 27) (pc' := 285) fk_X10_36 (by first | assumption | exact ⟨by decide, rfl⟩) rfl dX10_back_282 rfl ?_
    refine x_iload (pc' := 287) rfl dX10_back_285 rfl ?_
    refine x_ialdn (N := 61) (n := n) (pc' := 288) (by first | assumption | exact ⟨by decide, rfl⟩) (by decide) rfl (by omega) dX10_back_287 rfl ?_
    refine x_goto (tgt := 298) (by decide) dX10_back_288 ?_
    refine x_ldc (pc' := 300) kc_X10_184 dX10_back_298 rfl ?_
    refine x_iadd (pc' := 301) dX10_back_300 rfl ?_
    exact x_iret rfl dX10_back_301 (ret_i (by rw [show bkN (σ.1 19) x y 2 = (gsX (σ.1 19) x y (gsEnd (σ.1 19) x y 0 60)).1 + 1000000 from rfl, he, ← e]))
  | 3, _ =>
    refine x_iload_n (pc' := 258) rfl dX10_back_257 rfl ?_
    refine x_if_ne (tgt := 266) (pc' := 261) (by decide) dX10_back_258 rfl (fun c258 => ?_) (fun c258 => absurd c258 (by decide))
    refine x_iload_n (pc' := 267) rfl dX10_back_266 rfl ?_
    refine x_iconst (v := 1) (pc' := 268) (by decide) dX10_back_267 rfl ?_
    refine x_icmp_ne (tgt := 276) (pc' := 271) (by decide) dX10_back_268 rfl (fun c268 => ?_) (fun c268 => absurd c268 (by decide))
    refine x_iload_n (pc' := 277) rfl dX10_back_276 rfl ?_
    refine x_iconst (v := 2) (pc' := 278) (by decide) dX10_back_277 rfl ?_
    refine x_icmp_ne (tgt := 291) (pc' := 281) (by decide) dX10_back_278 rfl (fun c278 => ?_) (fun c278 => absurd c278 (by decide))
    refine x_aload_n (pc' := 292) rfl dX10_back_291 rfl ?_
    refine x_get (v := .ref 28) (pc' := 295) fk_X10_39 (by first | assumption | exact ⟨by decide, rfl⟩) rfl dX10_back_292 rfl ?_
    refine x_iload (pc' := 297) rfl dX10_back_295 rfl ?_
    refine x_ialdn (N := 61) (n := n) (pc' := 298) (by first | assumption | exact ⟨by decide, rfl⟩) (by decide) rfl (by omega) dX10_back_297 rfl ?_
    refine x_ldc (pc' := 300) kc_X10_184 dX10_back_298 rfl ?_
    refine x_iadd (pc' := 301) dX10_back_300 rfl ?_
    exact x_iret rfl dX10_back_301 (ret_i (by rw [show bkN (σ.1 19) x y 3 = (gsX (σ.1 19) x y (gsEnd (σ.1 19) x y 0 60)).2 + 1000000 from rfl, he, ← e]))
set_option maxRecDepth 100000 in
set_option maxHeartbeats 4000000 in
theorem l_X10_back {σ : St} {x y : Int32} {w : Nat} (hv : Ok (σ.1 19)) (hw : w < 4) : ∀ (f n : Nat) (τ : St) (Z : Option Value), n + f = 60 → gsEnd (σ.1 19) x y n f = gsEnd (σ.1 19) x y 0 60 → GsSt σ τ → GsAt (τ.1 27) (τ.1 28) (σ.1 19) x y n → ∃ τ', Ex M_X10_back (some (.int (bkN (σ.1 19) x y w)), τ') 80 [some (.ref 18), some (.int x), some (.int y), some (.int (nI w)), some (.int (nI n)), some (.int (gsKind (σ.1 19) x y n)), Z] [] τ ∧ GsSt σ τ' := by
  intro f
  induction f with
  | zero =>
    intro n τ Z hn he hh hg
    refine ⟨τ, ?_, hh⟩
    by_cases hk : gsKind (σ.1 19) x y n = 3
    · refine x_iload (pc' := 82) rfl dX10_back_80 rfl ?_
      refine x_iconst (v := 3) (pc' := 83) (by decide) dX10_back_82 rfl ?_
      refine x_icmp_ne (tgt := 257) (pc' := 86) (by decide) dX10_back_83 rfl (fun c83 => absurd hk c83) (fun c83 => ?_)
      refine x_iload (pc' := 88) rfl dX10_back_86 rfl ?_
      refine x_bipush (v := 60) (pc' := 90) (by decide) dX10_back_88 rfl ?_
      refine x_icmp_ge (tgt := 257) (pc' := 93) (by decide) dX10_back_90 rfl (fun c90 => ?_) (fun c90 => absurd (by rw [show n = 60 by omega]; decide) c90)
      exact t_X10_back hw (by omega) he.symm hg
    · refine x_iload (pc' := 82) rfl dX10_back_80 rfl ?_
      refine x_iconst (v := 3) (pc' := 83) (by decide) dX10_back_82 rfl ?_
      refine x_icmp_ne (tgt := 257) (pc' := 86) (by decide) dX10_back_83 rfl (fun c83 => ?_) (fun c83 => absurd c83 hk)
      exact t_X10_back hw (by omega) he.symm hg
  | succ f ih =>
    intro n τ Z hn he hh hg
    by_cases hk : gsKind (σ.1 19) x y n = 3
    · rw [gsEnd, pif_t hk] at he
      have hpl := gsKind_plc hk
      have e := hg n (Nat.le_refl _)
      have ex : τ.1 27 n = (gsX (σ.1 19) x y n).1 := congrArg Prod.fst e
      have ey : τ.1 28 n = (gsX (σ.1 19) x y n).2 := congrArg Prod.snd e
      obtain ⟨q1, q2, q3, q4⟩ := plc_cl hpl
      have hh2 := hh.put (n + 1) (gsX (σ.1 19) x y (n + 1)).1 (gsX (σ.1 19) x y (n + 1)).2
      have hg2 := gs_put hg (a := (gsX (σ.1 19) x y (n + 1)).1) (b := (gsX (σ.1 19) x y (n + 1)).2) rfl
      obtain ⟨τ', hE, hS'⟩ := ih (n + 1) (pI (pI τ 27 (n + 1) (gsX (σ.1 19) x y (n + 1)).1) 28 (n + 1) (gsX (σ.1 19) x y (n + 1)).2) (some (.int (pb (gsX (σ.1 19) x y (n + 1) = gsX (σ.1 19) x y n)))) (by omega) he hh2 hg2
      refine ⟨τ', ?_, hS'⟩
      have k203 : Ex M_X10_back (some (.int (bkN (σ.1 19) x y w)), τ') 203 [some (.ref 18), some (.int x), some (.int y), some (.int (nI w)), some (.int (nI (n + 1))), some (.int (gsKind (σ.1 19) x y n)), Z] [.int (pb (gsX (σ.1 19) x y (n + 1) = gsX (σ.1 19) x y n))] (pI (pI τ 27 (n + 1) (gsX (σ.1 19) x y (n + 1)).1) 28 (n + 1) (gsX (σ.1 19) x y (n + 1)).2) := by
        refine x_istore (lv' := [_, _, _, _, _, _, _]) (pc' := 205) (by decide) rfl dX10_back_203 rfl ?_
        refine x_aload_n (pc' := 206) rfl dX10_back_205 rfl ?_
        refine x_get (v := .ref 27) (pc' := 209) fk_X10_36 (by first | assumption | exact ⟨by decide, rfl⟩) rfl dX10_back_206 rfl ?_
        refine x_iload (pc' := 211) rfl dX10_back_209 rfl ?_
        refine x_ialdn (N := 61) (n := n + 1) (pc' := 212) (by first | assumption | exact ⟨by decide, rfl⟩) (by decide) rfl (by omega) dX10_back_211 rfl ?_
        refine x_top (congrArg Prod.fst (hg2 (n + 1) (Nat.le_refl _))) ?_
        refine x_aload_n (pc' := 213) rfl dX10_back_212 rfl ?_
        refine x_get (v := .ref 28) (pc' := 216) fk_X10_39 (by first | assumption | exact ⟨by decide, rfl⟩) rfl dX10_back_213 rfl ?_
        refine x_iload (pc' := 218) rfl dX10_back_216 rfl ?_
        refine x_ialdn (N := 61) (n := n + 1) (pc' := 219) (by first | assumption | exact ⟨by decide, rfl⟩) (by decide) rfl (by omega) dX10_back_218 rfl ?_
        refine x_top (congrArg Prod.snd (hg2 (n + 1) (Nat.le_refl _))) ?_
        refine x_callSi (As := [.int _, .int _]) (rest := []) (pc' := 222) rfl sk_X10_196 mk_X10_isPlace (by decide) rfl (Nat.le_of_ble_eq_true rfl) dX10_back_219 rfl c_X10_isPlace ?_
        refine x_if_ne (tgt := 229) (pc' := 225) (by decide) dX10_back_222 rfl (fun c222 => ?_) (fun c222 => ?_)
        · refine x_iload (pc' := 231) rfl dX10_back_229 rfl ?_
          refine x_if_eq (tgt := 238) (pc' := 234) (by decide) dX10_back_231 rfl (fun c231 => ?_) (fun c231 => ?_)
          · refine x_aload_n (pc' := 239) rfl dX10_back_238 rfl ?_
            refine x_iload (pc' := 241) rfl dX10_back_239 rfl ?_
            refine x_callVi (As := [.int _]) (rest := []) (ci := 9) (pc' := 244) rfl vk_X10_204 mk_X10_wasThere (by decide) (by first | assumption | exact ⟨by decide, rfl⟩) (by decide) rfl (Nat.le_of_ble_eq_true rfl) dX10_back_241 rfl (c_X10_wasThere hg2 (by omega)) ?_
            refine x_if_eq (tgt := 251) (pc' := 247) (by decide) dX10_back_244 rfl (fun c244 => ?_) (fun c244 => ?_)
            · refine x_iconst (v := 3) (pc' := 252) (by decide) dX10_back_251 rfl ?_
              refine x_top (y := gsKind (σ.1 19) x y (n + 1)) (by rw [gsKind, pif_t (pb_n c222), pif_f (pb_iff.mp c231), pif_f (pb_iff.mp c244)]) ?_
              refine x_istore (lv' := [_, _, _, _, _, _, _]) (pc' := 254) (by decide) rfl dX10_back_252 rfl ?_
              refine x_goto (tgt := 80) (by decide) dX10_back_254 ?_
              exact hE
            · refine x_iconst (v := 1) (pc' := 248) (by decide) dX10_back_247 rfl ?_
              refine x_goto (tgt := 252) (by decide) dX10_back_248 ?_
              refine x_top (y := gsKind (σ.1 19) x y (n + 1)) (by rw [gsKind, pif_t (pb_n c222), pif_f (pb_iff.mp c231), pif_t (pb_n c244)]) ?_
              refine x_istore (lv' := [_, _, _, _, _, _, _]) (pc' := 254) (by decide) rfl dX10_back_252 rfl ?_
              refine x_goto (tgt := 80) (by decide) dX10_back_254 ?_
              exact hE
          · refine x_iconst (v := 0) (pc' := 235) (by decide) dX10_back_234 rfl ?_
            refine x_goto (tgt := 252) (by decide) dX10_back_235 ?_
            refine x_top (y := gsKind (σ.1 19) x y (n + 1)) (by rw [gsKind, pif_t (pb_n c222), pif_t (pb_n c231)]) ?_
            refine x_istore (lv' := [_, _, _, _, _, _, _]) (pc' := 254) (by decide) rfl dX10_back_252 rfl ?_
            refine x_goto (tgt := 80) (by decide) dX10_back_254 ?_
            exact hE
        · refine x_iconst (v := 2) (pc' := 226) (by decide) dX10_back_225 rfl ?_
          refine x_goto (tgt := 252) (by decide) dX10_back_226 ?_
          refine x_top (y := gsKind (σ.1 19) x y (n + 1)) (by rw [gsKind, pif_f (pb_iff.mp c222)]) ?_
          refine x_istore (lv' := [_, _, _, _, _, _, _]) (pc' := 254) (by decide) rfl dX10_back_252 rfl ?_
          refine x_goto (tgt := 80) (by decide) dX10_back_254 ?_
          exact hE
      refine x_iload (pc' := 82) rfl dX10_back_80 rfl ?_
      refine x_iconst (v := 3) (pc' := 83) (by decide) dX10_back_82 rfl ?_
      refine x_icmp_ne (tgt := 257) (pc' := 86) (by decide) dX10_back_83 rfl (fun c83 => absurd hk c83) (fun c83 => ?_)
      refine x_iload (pc' := 88) rfl dX10_back_86 rfl ?_
      refine x_bipush (v := 60) (pc' := 90) (by decide) dX10_back_88 rfl ?_
      refine x_icmp_ge (tgt := 257) (pc' := 93) (by decide) dX10_back_90 rfl (fun c90 => absurd c90 (nI_ge (b := 60) (by omega) (by decide))) (fun c90 => ?_)
      refine x_iinc (lv' := [_, _, _, _, _, _, _]) (pc' := 96) rfl (nI_1 n) (by decide) rfl dX10_back_93 rfl ?_
      refine x_aload_n (pc' := 97) rfl dX10_back_96 rfl ?_
      refine x_get (v := .ref 27) (pc' := 100) fk_X10_36 (by first | assumption | exact ⟨by decide, rfl⟩) rfl dX10_back_97 rfl ?_
      refine x_iload (pc' := 102) rfl dX10_back_100 rfl ?_
      refine x_iload_n (pc' := 103) rfl dX10_back_102 rfl ?_
      refine x_aload_n (pc' := 104) rfl dX10_back_103 rfl ?_
      refine x_aload_n (pc' := 105) rfl dX10_back_104 rfl ?_
      refine x_get (v := .ref 27) (pc' := 108) fk_X10_36 (by first | assumption | exact ⟨by decide, rfl⟩) rfl dX10_back_105 rfl ?_
      refine x_iload (pc' := 110) rfl dX10_back_108 rfl ?_
      refine x_iconst (v := 1) (pc' := 111) (by decide) dX10_back_110 rfl ?_
      refine x_isub (pc' := 112) dX10_back_111 rfl ?_
      refine x_ialdn (N := 61) (n := n) (pc' := 113) (by first | assumption | exact ⟨by decide, rfl⟩) (by decide) (nI_pred n) (by omega) dX10_back_112 rfl ?_
      refine x_top ex ?_
      refine x_aload_n (pc' := 114) rfl dX10_back_113 rfl ?_
      refine x_get (v := .ref 28) (pc' := 117) fk_X10_39 (by first | assumption | exact ⟨by decide, rfl⟩) rfl dX10_back_114 rfl ?_
      refine x_iload (pc' := 119) rfl dX10_back_117 rfl ?_
      refine x_iconst (v := 1) (pc' := 120) (by decide) dX10_back_119 rfl ?_
      refine x_isub (pc' := 121) dX10_back_120 rfl ?_
      refine x_ialdn (N := 61) (n := n) (pc' := 122) (by first | assumption | exact ⟨by decide, rfl⟩) (by decide) (nI_pred n) (by omega) dX10_back_121 rfl ?_
      refine x_top ey ?_
      refine x_iconst (v := 0) (pc' := 123) (by decide) dX10_back_122 rfl ?_
      refine x_callVi (As := [.int _, .int _, .int _]) (rest := [.int _, .int _, .ref _]) (ci := 9) (pc' := 126) rfl vk_X10_145 mk_X10_movedBy (by decide) (by first | assumption | exact ⟨by decide, rfl⟩) (by decide) rfl (Nat.le_of_ble_eq_true rfl) dX10_back_123 rfl (v_X10_movedBy (hh.row (by decide) (by decide)) hv q1 q2 (W := 0) rfl q3 q4 (by decide)) ?_
      refine x_isub (pc' := 127) dX10_back_126 rfl ?_
      refine x_top (y := (gsX (σ.1 19) x y (n + 1)).1) rfl ?_
      refine x_iastn (N := 61) (n := n + 1) (pc' := 128) (by first | assumption | exact ⟨by decide, rfl⟩) (by decide) rfl (by omega) dX10_back_127 rfl ?_
      refine x_aload_n (pc' := 129) rfl dX10_back_128 rfl ?_
      refine x_get (v := .ref 28) (pc' := 132) fk_X10_39 (by first | assumption | exact ⟨by decide, rfl⟩) rfl dX10_back_129 rfl ?_
      refine x_iload (pc' := 134) rfl dX10_back_132 rfl ?_
      refine x_iload_n (pc' := 135) rfl dX10_back_134 rfl ?_
      refine x_aload_n (pc' := 136) rfl dX10_back_135 rfl ?_
      refine x_aload_n (pc' := 137) rfl dX10_back_136 rfl ?_
      refine x_get (v := .ref 27) (pc' := 140) fk_X10_36 (by first | assumption | exact ⟨by decide, rfl⟩) rfl dX10_back_137 rfl ?_
      refine x_iload (pc' := 142) rfl dX10_back_140 rfl ?_
      refine x_iconst (v := 1) (pc' := 143) (by decide) dX10_back_142 rfl ?_
      refine x_isub (pc' := 144) dX10_back_143 rfl ?_
      refine x_ialdn (N := 61) (n := n) (pc' := 145) (by first | assumption | exact ⟨by decide, rfl⟩) (by decide) (nI_pred n) (by omega) dX10_back_144 rfl ?_
      refine x_top (y := (gsX (σ.1 19) x y n).1) (by rw [pI_app, if_neg (by omega)]; exact ex) ?_
      refine x_aload_n (pc' := 146) rfl dX10_back_145 rfl ?_
      refine x_get (v := .ref 28) (pc' := 149) fk_X10_39 (by first | assumption | exact ⟨by decide, rfl⟩) rfl dX10_back_146 rfl ?_
      refine x_iload (pc' := 151) rfl dX10_back_149 rfl ?_
      refine x_iconst (v := 1) (pc' := 152) (by decide) dX10_back_151 rfl ?_
      refine x_isub (pc' := 153) dX10_back_152 rfl ?_
      refine x_ialdn (N := 61) (n := n) (pc' := 154) (by first | assumption | exact ⟨by decide, rfl⟩) (by decide) (nI_pred n) (by omega) dX10_back_153 rfl ?_
      refine x_top (y := (gsX (σ.1 19) x y n).2) (by rw [pI_ne (by decide)]; exact ey) ?_
      refine x_iconst (v := 1) (pc' := 155) (by decide) dX10_back_154 rfl ?_
      refine x_callVi (As := [.int _, .int _, .int _]) (rest := [.int _, .int _, .ref _]) (ci := 9) (pc' := 158) rfl vk_X10_145 mk_X10_movedBy (by decide) (by first | assumption | exact ⟨by decide, rfl⟩) (by decide) rfl (Nat.le_of_ble_eq_true rfl) dX10_back_155 rfl (v_X10_movedBy (show (pI τ 27 (n + 1) _).1 19 = σ.1 19 by rw [pI_ne (by decide)]; exact hh.row (by decide) (by decide)) hv q1 q2 (W := 1) rfl q3 q4 (by decide)) ?_
      refine x_isub (pc' := 159) dX10_back_158 rfl ?_
      refine x_top (y := (gsX (σ.1 19) x y (n + 1)).2) rfl ?_
      refine x_iastn (N := 61) (n := n + 1) (pc' := 160) (by first | assumption | exact ⟨by decide, rfl⟩) (by decide) rfl (by omega) dX10_back_159 rfl ?_
      refine x_aload_n (pc' := 161) rfl dX10_back_160 rfl ?_
      refine x_get (v := .ref 27) (pc' := 164) fk_X10_36 (by first | assumption | exact ⟨by decide, rfl⟩) rfl dX10_back_161 rfl ?_
      refine x_iload (pc' := 166) rfl dX10_back_164 rfl ?_
      refine x_ialdn (N := 61) (n := n + 1) (pc' := 167) (by first | assumption | exact ⟨by decide, rfl⟩) (by decide) rfl (by omega) dX10_back_166 rfl ?_
      refine x_top (congrArg Prod.fst (hg2 (n + 1) (Nat.le_refl _))) ?_
      refine x_aload_n (pc' := 168) rfl dX10_back_167 rfl ?_
      refine x_get (v := .ref 27) (pc' := 171) fk_X10_36 (by first | assumption | exact ⟨by decide, rfl⟩) rfl dX10_back_168 rfl ?_
      refine x_iload (pc' := 173) rfl dX10_back_171 rfl ?_
      refine x_iconst (v := 1) (pc' := 174) (by decide) dX10_back_173 rfl ?_
      refine x_isub (pc' := 175) dX10_back_174 rfl ?_
      refine x_ialdn (N := 61) (n := n) (pc' := 176) (by first | assumption | exact ⟨by decide, rfl⟩) (by decide) (nI_pred n) (by omega) dX10_back_175 rfl ?_
      refine x_top (congrArg Prod.fst (hg2 n (by omega))) ?_
      refine x_icmp_ne (tgt := 202) (pc' := 179) (by decide) dX10_back_176 rfl (fun c176 => ?_) (fun c176 => ?_)
      · refine x_iconst (v := 0) (pc' := 203) (by decide) dX10_back_202 rfl ?_
        exact x_top (pb_0 (fun q => c176 (congrArg Prod.fst q))).symm k203
      · refine x_aload_n (pc' := 180) rfl dX10_back_179 rfl ?_
        refine x_get (v := .ref 28) (pc' := 183) fk_X10_39 (by first | assumption | exact ⟨by decide, rfl⟩) rfl dX10_back_180 rfl ?_
        refine x_iload (pc' := 185) rfl dX10_back_183 rfl ?_
        refine x_ialdn (N := 61) (n := n + 1) (pc' := 186) (by first | assumption | exact ⟨by decide, rfl⟩) (by decide) rfl (by omega) dX10_back_185 rfl ?_
        refine x_top (congrArg Prod.snd (hg2 (n + 1) (Nat.le_refl _))) ?_
        refine x_aload_n (pc' := 187) rfl dX10_back_186 rfl ?_
        refine x_get (v := .ref 28) (pc' := 190) fk_X10_39 (by first | assumption | exact ⟨by decide, rfl⟩) rfl dX10_back_187 rfl ?_
        refine x_iload (pc' := 192) rfl dX10_back_190 rfl ?_
        refine x_iconst (v := 1) (pc' := 193) (by decide) dX10_back_192 rfl ?_
        refine x_isub (pc' := 194) dX10_back_193 rfl ?_
        refine x_ialdn (N := 61) (n := n) (pc' := 195) (by first | assumption | exact ⟨by decide, rfl⟩) (by decide) (nI_pred n) (by omega) dX10_back_194 rfl ?_
        refine x_top (congrArg Prod.snd (hg2 n (by omega))) ?_
        refine x_icmp_ne (tgt := 202) (pc' := 198) (by decide) dX10_back_195 rfl (fun c195 => ?_) (fun c195 => ?_)
        · refine x_iconst (v := 0) (pc' := 203) (by decide) dX10_back_202 rfl ?_
          exact x_top (pb_0 (fun q => c195 (congrArg Prod.snd q))).symm k203
        · refine x_iconst (v := 1) (pc' := 199) (by decide) dX10_back_198 rfl ?_
          refine x_goto (tgt := 203) (by decide) dX10_back_199 ?_
          exact x_top (pb_1 (Prod.ext c176 c195)).symm k203
    · rw [gsEnd, pif_f hk] at he
      refine ⟨τ, ?_, hh⟩
      refine x_iload (pc' := 82) rfl dX10_back_80 rfl ?_
      refine x_iconst (v := 3) (pc' := 83) (by decide) dX10_back_82 rfl ?_
      refine x_icmp_ne (tgt := 257) (pc' := 86) (by decide) dX10_back_83 rfl (fun c83 => ?_) (fun c83 => absurd c83 hk)
      exact t_X10_back hw (by omega) he.symm hg
theorem in_1 (x : Int32) : ((-10000 : Int64) ≤ x.toInt64 ∧ x.toInt64 ≤ 80000) ↔ (-10000 ≤ x ∧ x ≤ 80000) := in_c x (-10000) 80000 (by decide) (by decide)
theorem GsSt.sc {σ τ : St} (h : GsSt (pI σ 18 0 0) τ) : ScM σ τ := (ScM.thr σ 0).trans ⟨fun k j _ h1 h2 => h.1 k j h1 h2, fun j _ _ _ => h.1 18 j (by decide) (by decide), h.2⟩
set_option maxRecDepth 100000 in
set_option maxHeartbeats 4000000 in
theorem c_X10_back {σ : St} {x y what : Int32} (hv : Ok (σ.1 19)) : ∃ σ', Ct yX10_back M_X10_back [.ref 18, .int x, .int y, .int what] σ (some (.int (backS (σ.1 19) x y what)), σ') ∧ ScM σ σ' := by
  by_cases hp : newP x y
  · by_cases hw : 0 ≤ what ∧ what < 4
    · obtain ⟨w, hw4, rfl⟩ := i_in (n := 4) (by decide) hw.1 hw.2
      rw [show backS (σ.1 19) x y (nI w) = bkN (σ.1 19) x y w by rw [backS, pif_t ⟨hp, hw⟩, nI_clamp (by omega)]]
      have hs : (pI σ 18 0 0).1 19 = σ.1 19 := pI_ne (by decide)
      have hh : GsSt (pI σ 18 0 0) (pI (pI (pI σ 18 0 0) 27 0 x) 28 0 y) := GsSt.put (σ := pI σ 18 0 0) (τ := pI σ 18 0 0) ⟨fun _ _ _ _ => rfl, rfl⟩ 0 x y
      have hg : GsAt ((pI (pI (pI σ 18 0 0) 27 0 x) 28 0 y).1 27) ((pI (pI (pI σ 18 0 0) 27 0 x) 28 0 y).1 28) (σ.1 19) x y 0 := fun k hk => by
        obtain rfl : k = 0 := by omega
        rfl
      obtain ⟨τ', hE, hS'⟩ := l_X10_back (σ := pI σ 18 0 0) (x := x) (y := y) hv hw4 60 0 (pI (pI (pI σ 18 0 0) 27 0 x) 28 0 y) none rfl rfl hh hg
      rw [hs] at hE
      refine ⟨τ', ?_, hS'.sc⟩
      refine ct_of (k := 3) rfl rfl rfl (Nat.le_of_ble_eq_true rfl) ?_
      refine x_aload_n (pc' := 1) rfl dX10_back_0 rfl ?_
      refine x_iconst (v := 0) (pc' := 2) (by decide) dX10_back_1 rfl ?_
      refine x_puti (pc' := 5) fk_X10_46 pk_9_0 rfl (by first | assumption | exact ⟨by decide, rfl⟩) dX10_back_2 rfl ?_
      refine x_iload_n (pc' := 6) rfl dX10_back_5 rfl ?_
      refine x_i2l (pc' := 7) dX10_back_6 rfl ?_
      refine x_ldc2 (pc' := 10) kl_X10_200 dX10_back_7 rfl ?_
      refine x_ldc2 (pc' := 13) kl_X10_202 dX10_back_10 rfl ?_
      refine x_callSi (As := [.long _, .long _, .long _]) (rest := []) (pc' := 16) rfl sk_X10_50 mk_X10_in (by decide) rfl (Nat.le_of_ble_eq_true rfl) dX10_back_13 rfl c_X10_in ?_
      refine x_if_eq (tgt := 45) (pc' := 19) (by decide) dX10_back_16 rfl (fun c16 => absurd c16 (by rw [b1 ((in_1 x).mpr hp.1)]; decide)) (fun c16 => ?_)
      refine x_iload_n (pc' := 20) rfl dX10_back_19 rfl ?_
      refine x_i2l (pc' := 21) dX10_back_20 rfl ?_
      refine x_ldc2 (pc' := 24) kl_X10_200 dX10_back_21 rfl ?_
      refine x_ldc2 (pc' := 27) kl_X10_202 dX10_back_24 rfl ?_
      refine x_callSi (As := [.long _, .long _, .long _]) (rest := []) (pc' := 30) rfl sk_X10_50 mk_X10_in (by decide) rfl (Nat.le_of_ble_eq_true rfl) dX10_back_27 rfl c_X10_in ?_
      refine x_if_eq (tgt := 45) (pc' := 33) (by decide) dX10_back_30 rfl (fun c30 => absurd c30 (by rw [b1 ((in_1 y).mpr hp.2)]; decide)) (fun c30 => ?_)
      refine x_iload_n (pc' := 34) rfl dX10_back_33 rfl ?_
      refine x_i2l (pc' := 35) dX10_back_34 rfl ?_
      refine x_lconst (v := 0) (pc' := 36) (by decide) dX10_back_35 rfl ?_
      refine x_ldc2 (pc' := 39) kl_X10_182 dX10_back_36 rfl ?_
      refine x_callSi (As := [.long _, .long _, .long _]) (rest := []) (pc' := 42) rfl sk_X10_50 mk_X10_in (by decide) rfl (Nat.le_of_ble_eq_true rfl) dX10_back_39 rfl c_X10_in ?_
      refine x_if_ne (tgt := 48) (pc' := 45) (by decide) dX10_back_42 rfl (fun c42 => ?_) (fun c42 => absurd c42 (by rw [b1 ((in_k _ (N := 3) (by decide) (by decide)).mpr hw)]; decide))
      refine x_aload_n (pc' := 49) rfl dX10_back_48 rfl ?_
      refine x_get (v := .ref 27) (pc' := 52) fk_X10_36 (by first | assumption | exact ⟨by decide, rfl⟩) rfl dX10_back_49 rfl ?_
      refine x_iconst (v := 0) (pc' := 53) (by decide) dX10_back_52 rfl ?_
      refine x_iload_n (pc' := 54) rfl dX10_back_53 rfl ?_
      refine x_iastn (N := 61) (n := 0) (pc' := 55) (by first | assumption | exact ⟨by decide, rfl⟩) (by decide) rfl (by decide) dX10_back_54 rfl ?_
      refine x_aload_n (pc' := 56) rfl dX10_back_55 rfl ?_
      refine x_get (v := .ref 28) (pc' := 59) fk_X10_39 (by first | assumption | exact ⟨by decide, rfl⟩) rfl dX10_back_56 rfl ?_
      refine x_iconst (v := 0) (pc' := 60) (by decide) dX10_back_59 rfl ?_
      refine x_iload_n (pc' := 61) rfl dX10_back_60 rfl ?_
      refine x_iastn (N := 61) (n := 0) (pc' := 62) (by first | assumption | exact ⟨by decide, rfl⟩) (by decide) rfl (by decide) dX10_back_61 rfl ?_
      refine x_iconst (v := 0) (pc' := 63) (by decide) dX10_back_62 rfl ?_
      refine x_istore (lv' := [_, _, _, _, _, _, _]) (pc' := 65) (by decide) rfl dX10_back_63 rfl ?_
      refine x_iload_n (pc' := 66) rfl dX10_back_65 rfl ?_
      refine x_iload_n (pc' := 67) rfl dX10_back_66 rfl ?_
      refine x_callSi (As := [.int _, .int _]) (rest := []) (pc' := 70) rfl sk_X10_196 mk_X10_isPlace (by decide) rfl (Nat.le_of_ble_eq_true rfl) dX10_back_67 rfl c_X10_isPlace ?_
      refine x_if_eq (tgt := 77) (pc' := 73) (by decide) dX10_back_70 rfl (fun c70 => ?_) (fun c70 => ?_)
      · refine x_iconst (v := 2) (pc' := 78) (by decide) dX10_back_77 rfl ?_
        refine x_top (y := gsKind (σ.1 19) x y 0) (pif_f (pb_iff.mp c70)).symm ?_
        refine x_istore (lv' := [_, _, _, _, _, _, _]) (pc' := 80) (by decide) rfl dX10_back_78 rfl ?_
        exact hE
      · refine x_iconst (v := 3) (pc' := 74) (by decide) dX10_back_73 rfl ?_
        refine x_goto (tgt := 78) (by decide) dX10_back_74 ?_
        refine x_top (y := gsKind (σ.1 19) x y 0) (pif_t (pb_n c70)).symm ?_
        refine x_istore (lv' := [_, _, _, _, _, _, _]) (pc' := 80) (by decide) rfl dX10_back_78 rfl ?_
        exact hE
    · refine ⟨_, ?_, ScM.thr σ 0⟩
      rw [backS, pif_f (fun q => hw q.2)]
      refine ct_of (k := 3) rfl rfl rfl (Nat.le_of_ble_eq_true rfl) ?_
      refine x_aload_n (pc' := 1) rfl dX10_back_0 rfl ?_
      refine x_iconst (v := 0) (pc' := 2) (by decide) dX10_back_1 rfl ?_
      refine x_puti (pc' := 5) fk_X10_46 pk_9_0 rfl (by first | assumption | exact ⟨by decide, rfl⟩) dX10_back_2 rfl ?_
      refine x_iload_n (pc' := 6) rfl dX10_back_5 rfl ?_
      refine x_i2l (pc' := 7) dX10_back_6 rfl ?_
      refine x_ldc2 (pc' := 10) kl_X10_200 dX10_back_7 rfl ?_
      refine x_ldc2 (pc' := 13) kl_X10_202 dX10_back_10 rfl ?_
      refine x_callSi (As := [.long _, .long _, .long _]) (rest := []) (pc' := 16) rfl sk_X10_50 mk_X10_in (by decide) rfl (Nat.le_of_ble_eq_true rfl) dX10_back_13 rfl c_X10_in ?_
      refine x_if_eq (tgt := 45) (pc' := 19) (by decide) dX10_back_16 rfl (fun c16 => absurd c16 (by rw [b1 ((in_1 x).mpr hp.1)]; decide)) (fun c16 => ?_)
      refine x_iload_n (pc' := 20) rfl dX10_back_19 rfl ?_
      refine x_i2l (pc' := 21) dX10_back_20 rfl ?_
      refine x_ldc2 (pc' := 24) kl_X10_200 dX10_back_21 rfl ?_
      refine x_ldc2 (pc' := 27) kl_X10_202 dX10_back_24 rfl ?_
      refine x_callSi (As := [.long _, .long _, .long _]) (rest := []) (pc' := 30) rfl sk_X10_50 mk_X10_in (by decide) rfl (Nat.le_of_ble_eq_true rfl) dX10_back_27 rfl c_X10_in ?_
      refine x_if_eq (tgt := 45) (pc' := 33) (by decide) dX10_back_30 rfl (fun c30 => absurd c30 (by rw [b1 ((in_1 y).mpr hp.2)]; decide)) (fun c30 => ?_)
      refine x_iload_n (pc' := 34) rfl dX10_back_33 rfl ?_
      refine x_i2l (pc' := 35) dX10_back_34 rfl ?_
      refine x_lconst (v := 0) (pc' := 36) (by decide) dX10_back_35 rfl ?_
      refine x_ldc2 (pc' := 39) kl_X10_182 dX10_back_36 rfl ?_
      refine x_callSi (As := [.long _, .long _, .long _]) (rest := []) (pc' := 42) rfl sk_X10_50 mk_X10_in (by decide) rfl (Nat.le_of_ble_eq_true rfl) dX10_back_39 rfl c_X10_in ?_
      refine x_if_ne (tgt := 48) (pc' := 45) (by decide) dX10_back_42 rfl (fun c42 => absurd (b0 (fun q => hw ((in_k _ (N := 3) (by decide) (by decide)).mp q))) c42) (fun c42 => ?_)
      refine x_ldc (pc' := 47) kc_X10_169 dX10_back_45 rfl ?_
      exact x_iret rfl dX10_back_47 rfl
  · refine ⟨_, ?_, ScM.thr σ 0⟩
    rw [backS, pif_f (fun q => hp q.1)]
    by_cases hx : -10000 ≤ x ∧ x ≤ 80000
    · have hy : ¬ (-10000 ≤ y ∧ y ≤ 80000) := fun q => hp ⟨hx, q⟩
      refine ct_of (k := 3) rfl rfl rfl (Nat.le_of_ble_eq_true rfl) ?_
      refine x_aload_n (pc' := 1) rfl dX10_back_0 rfl ?_
      refine x_iconst (v := 0) (pc' := 2) (by decide) dX10_back_1 rfl ?_
      refine x_puti (pc' := 5) fk_X10_46 pk_9_0 rfl (by first | assumption | exact ⟨by decide, rfl⟩) dX10_back_2 rfl ?_
      refine x_iload_n (pc' := 6) rfl dX10_back_5 rfl ?_
      refine x_i2l (pc' := 7) dX10_back_6 rfl ?_
      refine x_ldc2 (pc' := 10) kl_X10_200 dX10_back_7 rfl ?_
      refine x_ldc2 (pc' := 13) kl_X10_202 dX10_back_10 rfl ?_
      refine x_callSi (As := [.long _, .long _, .long _]) (rest := []) (pc' := 16) rfl sk_X10_50 mk_X10_in (by decide) rfl (Nat.le_of_ble_eq_true rfl) dX10_back_13 rfl c_X10_in ?_
      refine x_if_eq (tgt := 45) (pc' := 19) (by decide) dX10_back_16 rfl (fun c16 => absurd c16 (by rw [b1 ((in_1 x).mpr hx)]; decide)) (fun c16 => ?_)
      refine x_iload_n (pc' := 20) rfl dX10_back_19 rfl ?_
      refine x_i2l (pc' := 21) dX10_back_20 rfl ?_
      refine x_ldc2 (pc' := 24) kl_X10_200 dX10_back_21 rfl ?_
      refine x_ldc2 (pc' := 27) kl_X10_202 dX10_back_24 rfl ?_
      refine x_callSi (As := [.long _, .long _, .long _]) (rest := []) (pc' := 30) rfl sk_X10_50 mk_X10_in (by decide) rfl (Nat.le_of_ble_eq_true rfl) dX10_back_27 rfl c_X10_in ?_
      refine x_if_eq (tgt := 45) (pc' := 33) (by decide) dX10_back_30 rfl (fun c30 => ?_) (fun c30 => absurd (b0 (fun q => hy ((in_1 y).mp q))) c30)
      refine x_ldc (pc' := 47) kc_X10_169 dX10_back_45 rfl ?_
      exact x_iret rfl dX10_back_47 rfl
    · refine ct_of (k := 3) rfl rfl rfl (Nat.le_of_ble_eq_true rfl) ?_
      refine x_aload_n (pc' := 1) rfl dX10_back_0 rfl ?_
      refine x_iconst (v := 0) (pc' := 2) (by decide) dX10_back_1 rfl ?_
      refine x_puti (pc' := 5) fk_X10_46 pk_9_0 rfl (by first | assumption | exact ⟨by decide, rfl⟩) dX10_back_2 rfl ?_
      refine x_iload_n (pc' := 6) rfl dX10_back_5 rfl ?_
      refine x_i2l (pc' := 7) dX10_back_6 rfl ?_
      refine x_ldc2 (pc' := 10) kl_X10_200 dX10_back_7 rfl ?_
      refine x_ldc2 (pc' := 13) kl_X10_202 dX10_back_10 rfl ?_
      refine x_callSi (As := [.long _, .long _, .long _]) (rest := []) (pc' := 16) rfl sk_X10_50 mk_X10_in (by decide) rfl (Nat.le_of_ble_eq_true rfl) dX10_back_13 rfl c_X10_in ?_
      refine x_if_eq (tgt := 45) (pc' := 19) (by decide) dX10_back_16 rfl (fun c16 => ?_) (fun c16 => absurd (b0 (fun q => hx ((in_1 x).mp q))) c16)
      refine x_ldc (pc' := 47) kc_X10_169 dX10_back_45 rfl ?_
      exact x_iret rfl dX10_back_47 rfl
