/-! ===== an offset between four others stays within their bounds ===== -/
theorem bm64 {x : Int} (h1 : -(2 ^ 63) ≤ x) (h2 : x < 2 ^ 63) : x.bmod (2 ^ 64) = x := by
  rw [Int.bmod_eq_iff (by decide)] <;> omega
theorem ladd_i {a b : Int64} (h1 : -(2 ^ 63) ≤ a.toInt + b.toInt) (h2 : a.toInt + b.toInt < 2 ^ 63) : (a + b).toInt = a.toInt + b.toInt := by
  rw [Int64.toInt_add]; exact bm64 h1 h2
theorem lsub_i {a b : Int64} (h1 : -(2 ^ 63) ≤ a.toInt - b.toInt) (h2 : a.toInt - b.toInt < 2 ^ 63) : (a - b).toInt = a.toInt - b.toInt := by
  rw [Int64.toInt_sub]; exact bm64 h1 h2
theorem lmul_i {a b : Int64} (h1 : -(2 ^ 63) ≤ a.toInt * b.toInt) (h2 : a.toInt * b.toInt < 2 ^ 63) : (a * b).toInt = a.toInt * b.toInt := by
  rw [Int64.toInt_mul]; exact bm64 h1 h2
/-- a product of a small number and weights -/
theorem prod_b {a p q : Int} {A P Q : Int} (ha : -A ≤ a ∧ a ≤ A) (hp : 0 ≤ p ∧ p ≤ P) (hq : 0 ≤ q ∧ q ≤ Q) : -(A * P * Q) ≤ a * p * q ∧ a * p * q ≤ A * P * Q := by
  have hA : 0 ≤ A := by omega
  have h1 : a * p ≤ A * P := by
    calc a * p ≤ A * p := Int.mul_le_mul_of_nonneg_right ha.2 hp.1
      _ ≤ A * P := Int.mul_le_mul_of_nonneg_left hp.2 hA
  have h2 : -(A * P) ≤ a * p := by
    have : -A * p ≤ a * p := Int.mul_le_mul_of_nonneg_right ha.1 hp.1
    have h3 : A * p ≤ A * P := Int.mul_le_mul_of_nonneg_left hp.2 hA
    have h4 : -A * p = -(A * p) := Int.neg_mul _ _
    omega
  have hAP : 0 ≤ A * P := Int.mul_nonneg hA (by omega)
  constructor
  · have h3 : -(A * P) * q ≤ a * p * q := Int.mul_le_mul_of_nonneg_right h2 hq.1
    have h4 : A * P * q ≤ A * P * Q := Int.mul_le_mul_of_nonneg_left hq.2 hAP
    have h5 : -(A * P) * q = -(A * P * q) := Int.neg_mul _ _
    omega
  · calc a * p * q ≤ A * P * q := Int.mul_le_mul_of_nonneg_right h1 hq.1
      _ ≤ A * P * Q := Int.mul_le_mul_of_nonneg_left hq.2 hAP
/-- a weighted sum: e.g. 999 times the sum of the weights bounds it -/
theorem hull4 {e f g h a b c d D : Int} (he : -999 ≤ e ∧ e ≤ 999) (hf : -999 ≤ f ∧ f ≤ 999) (hg : -999 ≤ g ∧ g ≤ 999) (hh : -999 ≤ h ∧ h ≤ 999) (ha : 0 ≤ a) (hb : 0 ≤ b) (hc : 0 ≤ c) (hd : 0 ≤ d) (hs : a + b + c + d = D) : -(999 * D) ≤ e * a + f * b + g * c + h * d ∧ e * a + f * b + g * c + h * d ≤ 999 * D := by
  have h1 : e * a ≤ 999 * a := Int.mul_le_mul_of_nonneg_right he.2 ha
  have h2 : f * b ≤ 999 * b := Int.mul_le_mul_of_nonneg_right hf.2 hb
  have h3 : g * c ≤ 999 * c := Int.mul_le_mul_of_nonneg_right hg.2 hc
  have h4 : h * d ≤ 999 * d := Int.mul_le_mul_of_nonneg_right hh.2 hd
  have k1 : -999 * a ≤ e * a := Int.mul_le_mul_of_nonneg_right he.1 ha
  have k2 : -999 * b ≤ f * b := Int.mul_le_mul_of_nonneg_right hf.1 hb
  have k3 : -999 * c ≤ g * c := Int.mul_le_mul_of_nonneg_right hg.1 hc
  have k4 : -999 * d ≤ h * d := Int.mul_le_mul_of_nonneg_right hh.1 hd
  omega
theorem rnd_sm {n d : Int64} {D : Int} (hd : d.toInt = D) (h0 : 0 < D) (hD : D ≤ 16777216) (h1 : -(999 * D) ≤ n.toInt) (h2 : n.toInt ≤ 999 * D) : -999 ≤ (rnd n d).toInt ∧ (rnd n d).toInt ≤ 999 := by
  have e2 : (2 : Int64).toInt = 2 := rfl
  have t1 : (2 * n).toInt = 2 * n.toInt := by rw [lmul_i] <;> rw [e2] <;> omega
  have t2 : (2 * n + d).toInt = 2 * n.toInt + D := by rw [ladd_i] <;> rw [t1, hd] <;> omega
  have t3 : (2 * d).toInt = 2 * D := by rw [lmul_i] <;> rw [e2, hd] <;> omega
  generalize hx : 2 * n.toInt + D = X at t2
  have x1 : -(1997 * D) ≤ X := by omega
  have x2 : X ≤ 1999 * D := by omega
  have hq : ((2 * n + d) / (2 * d)).toInt = X.tdiv (2 * D) := by
    rw [Int64.toInt_div, t2, t3]
    apply bm64
    · have : -999 ≤ X.tdiv (2 * D) := by
        rcases Int.le_total 0 X with h | h
        · have := Int.tdiv_nonneg h (by omega : (0 : Int) ≤ 2 * D)
          omega
        · have h3 : -X.tdiv (2 * D) = (-X).tdiv (2 * D) := (Int.neg_tdiv X (2 * D)).symm
          have h4 : (-X).tdiv (2 * D) ≤ 998 := by
            rw [Int.tdiv_eq_ediv_of_nonneg (by omega)]
            have : (-X) / (2 * D) < 999 := Int.ediv_lt_of_lt_mul (by omega) (by omega)
            omega
          omega
      omega
    · have : X.tdiv (2 * D) ≤ 999 := by
        rcases Int.le_total 0 X with h | h
        · rw [Int.tdiv_eq_ediv_of_nonneg h]
          have : X / (2 * D) < 1000 := Int.ediv_lt_of_lt_mul (by omega) (by omega)
          omega
        · have h3 : -X.tdiv (2 * D) = (-X).tdiv (2 * D) := (Int.neg_tdiv X (2 * D)).symm
          have h4 := Int.tdiv_nonneg (by omega : 0 ≤ -X) (by omega : (0 : Int) ≤ 2 * D)
          omega
      omega
  have q1 : -998 ≤ X.tdiv (2 * D) := by
    rcases Int.le_total 0 X with h | h
    · have := Int.tdiv_nonneg h (by omega : (0 : Int) ≤ 2 * D)
      omega
    · have h3 : -X.tdiv (2 * D) = (-X).tdiv (2 * D) := (Int.neg_tdiv X (2 * D)).symm
      have h4 : (-X).tdiv (2 * D) ≤ 998 := by
        rw [Int.tdiv_eq_ediv_of_nonneg (by omega)]
        have : (-X) / (2 * D) < 999 := Int.ediv_lt_of_lt_mul (by omega) (by omega)
        omega
      omega
  have q2 : X.tdiv (2 * D) ≤ 999 := by
    rcases Int.le_total 0 X with h | h
    · rw [Int.tdiv_eq_ediv_of_nonneg h]
      have : X / (2 * D) < 1000 := Int.ediv_lt_of_lt_mul (by omega) (by omega)
      omega
    · have h3 : -X.tdiv (2 * D) = (-X).tdiv (2 * D) := (Int.neg_tdiv X (2 * D)).symm
      have h4 := Int.tdiv_nonneg (by omega : 0 ≤ -X) (by omega : (0 : Int) ≤ 2 * D)
      omega
  unfold rnd
  split
  · rw [hq]; omega
  · rw [lsub_i] <;> rw [hq] <;> (try rw [show (1 : Int64).toInt = 1 from rfl]) <;> omega
theorem sm_i32 {x : Int64} (h1 : -999 ≤ x.toInt) (h2 : x.toInt ≤ 999) : Sm x.toInt32 := by
  have e : x.toInt32.toInt = x.toInt := by
    rw [Int64.toInt_toInt32]
    rw [Int.bmod_eq_iff (by decide)] <;> omega
  rw [Sm, e]
  exact ⟨h1, h2⟩
theorem w_i (x : Int32) : x.toInt64.toInt = x.toInt := Int32.toInt_toInt64 x
theorem isub_i {a b : Int32} (ha : Sm a) (hb : Sm b) : (a - b).toInt = a.toInt - b.toInt := by
  obtain ⟨a1, a2⟩ := ha
  obtain ⟨b1, b2⟩ := hb
  rw [Int32.toInt_sub, Int.bmod_eq_iff (by decide)] <;> omega
theorem wsum (D p q : Int) : (D - p) * (D - q) + p * (D - q) + (D - p) * q + p * q = D * D := by
  have h1 : (D - p) * (D - q) + p * (D - q) = D * (D - q) := by rw [← Int.add_mul]; congr 1; omega
  have h2 : (D - p) * q + p * q = D * q := by rw [← Int.add_mul]; congr 1; omega
  have h3 : D * (D - q) + D * q = D * D := by rw [← Int.mul_add]; congr 1; omega
  omega
theorem betw_sm {ru e f g h : Int32} {u v d : Int64} {p q D : Int} (hu : u.toInt = p) (hv : v.toInt = q) (hd : d.toInt = D) (p0 : 0 ≤ p) (pD : p ≤ D) (q0 : 0 ≤ q) (qD : q ≤ D) (D1 : 1 ≤ D) (D4 : D ≤ 4096) (he : Sm e) (hf : Sm f) (hg : Sm g) (hh : Sm h) : Sm (betw ru e f g h u v d) := by
  unfold betw
  by_cases r0 : ru = 0
  · rw [if_pos r0]
    have du : (d - u).toInt = D - p := by rw [lsub_i] <;> rw [hd, hu] <;> omega
    have dv : (d - v).toInt = D - q := by rw [lsub_i] <;> rw [hd, hv] <;> omega
    have key : ∀ {z : Int32} {a b : Int64} {A B : Int}, Sm z → a.toInt = A → b.toInt = B → 0 ≤ A → A ≤ 4096 → 0 ≤ B → B ≤ 4096 → (z.toInt64 * a * b).toInt = z.toInt * (A * B) ∧ -(999 * 4096 * 4096) ≤ z.toInt * (A * B) ∧ z.toInt * (A * B) ≤ 999 * 4096 * 4096 := by
      intro z a b A B hz ha hb a0 a4 b0 b4
      obtain ⟨m1, m2⟩ := prod_b (a := z.toInt) (p := A) (q := B) (A := 999) (P := 4096) (Q := 4096) hz ⟨a0, a4⟩ ⟨b0, b4⟩
      obtain ⟨k1, k2⟩ := prod_b (a := z.toInt) (p := A) (q := 1) (A := 999) (P := 4096) (Q := 1) hz ⟨a0, a4⟩ ⟨by omega, by omega⟩
      rw [Int.mul_one] at k1 k2
      have t1 : (z.toInt64 * a).toInt = z.toInt * A := by rw [lmul_i] <;> rw [w_i, ha] <;> omega
      have t2 : (z.toInt64 * a * b).toInt = z.toInt * A * B := by rw [lmul_i] <;> rw [t1, hb] <;> omega
      rw [← Int.mul_assoc]
      exact ⟨t2, m1, m2⟩
    obtain ⟨e1, e2, e3⟩ := key he du dv (by omega) (by omega) (by omega) (by omega)
    obtain ⟨f1, f2, f3⟩ := key hf hu dv (by omega) (by omega) (by omega) (by omega)
    obtain ⟨g1, g2, g3⟩ := key hg du hv (by omega) (by omega) (by omega) (by omega)
    obtain ⟨h1, h2, h3⟩ := key hh hu hv (by omega) (by omega) (by omega) (by omega)
    have s1 : (e.toInt64 * (d - u) * (d - v) + f.toInt64 * u * (d - v)).toInt = e.toInt * ((D - p) * (D - q)) + f.toInt * (p * (D - q)) := by rw [ladd_i] <;> rw [e1, f1] <;> omega
    have s2 : (e.toInt64 * (d - u) * (d - v) + f.toInt64 * u * (d - v) + g.toInt64 * (d - u) * v).toInt = e.toInt * ((D - p) * (D - q)) + f.toInt * (p * (D - q)) + g.toInt * ((D - p) * q) := by rw [ladd_i] <;> rw [s1, g1] <;> omega
    have s3 : (e.toInt64 * (d - u) * (d - v) + f.toInt64 * u * (d - v) + g.toInt64 * (d - u) * v + h.toInt64 * u * v).toInt = e.toInt * ((D - p) * (D - q)) + f.toInt * (p * (D - q)) + g.toInt * ((D - p) * q) + h.toInt * (p * q) := by rw [ladd_i] <;> rw [s2, h1] <;> omega
    obtain ⟨b1, b2⟩ := hull4 he hf hg hh (Int.mul_nonneg (by omega : 0 ≤ D - p) (by omega : 0 ≤ D - q)) (Int.mul_nonneg p0 (by omega : 0 ≤ D - q)) (Int.mul_nonneg (by omega : 0 ≤ D - p) q0) (Int.mul_nonneg p0 q0) (wsum D p q)
    have hDD : D * D ≤ 4096 * 4096 := Int.mul_le_mul D4 D4 (by omega) (by omega)
    have hDp : 0 < D * D := Int.mul_pos (by omega) (by omega)
    have dd : (d * d).toInt = D * D := by rw [lmul_i] <;> rw [hd] <;> omega
    obtain ⟨c1, c2⟩ := rnd_sm (d := d * d) dd hDp (by omega) (by rw [s3]; exact b1) (by rw [s3]; exact b2)
    exact sm_i32 c1 c2
  · rw [if_neg r0]
    by_cases r1 : ru = 1
    · rw [if_pos r1]
      split
      · split
        · exact hh
        · exact hg
      · split
        · exact hf
        · exact he
    · rw [if_neg r1]
      have key : ∀ {z : Int32} {a : Int64} {Z A : Int}, z.toInt = Z → -1998 ≤ Z → Z ≤ 1998 → a.toInt = A → 0 ≤ A → A ≤ 4096 → (z.toInt64 * a).toInt = Z * A ∧ -(1998 * 4096) ≤ Z * A ∧ Z * A ≤ 1998 * 4096 := by
        intro z a Z A hz z1 z2 ha a0 a4
        obtain ⟨k1, k2⟩ := prod_b (a := Z) (p := A) (q := 1) (A := 1998) (P := 4096) (Q := 1) ⟨z1, z2⟩ ⟨a0, a4⟩ ⟨by omega, by omega⟩
        rw [Int.mul_one] at k1 k2
        refine ⟨?_, by omega, by omega⟩
        rw [lmul_i] <;> rw [w_i, hz, ha] <;> omega
      obtain ⟨e1, e2⟩ := he
      obtain ⟨f1, f2⟩ := hf
      obtain ⟨g1, g2⟩ := hg
      obtain ⟨h1, h2⟩ := hh
      obtain ⟨a1, a2, a3⟩ := key (z := e) rfl (by omega) (by omega) hd (by omega) D4
      by_cases huv : v ≤ u
      · rw [if_pos huv]
        have hqp : q ≤ p := by rw [sL_le, hu, hv] at huv; exact huv
        obtain ⟨b1, b2, b3⟩ := key (z := f - e) (isub_i ⟨f1, f2⟩ ⟨e1, e2⟩) (by omega) (by omega) hu p0 (by omega)
        obtain ⟨c1, c2, c3⟩ := key (z := h - f) (isub_i ⟨h1, h2⟩ ⟨f1, f2⟩) (by omega) (by omega) hv q0 (by omega)
        have s1 : (e.toInt64 * d + (f - e).toInt64 * u).toInt = e.toInt * D + (f.toInt - e.toInt) * p := by rw [ladd_i] <;> rw [a1, b1] <;> omega
        have s2 : (e.toInt64 * d + (f - e).toInt64 * u + (h - f).toInt64 * v).toInt = e.toInt * D + (f.toInt - e.toInt) * p + (h.toInt - f.toInt) * q := by rw [ladd_i] <;> rw [s1, c1] <;> omega
        have id : e.toInt * D + (f.toInt - e.toInt) * p + (h.toInt - f.toInt) * q = e.toInt * (D - p) + f.toInt * (p - q) + g.toInt * 0 + h.toInt * q := by
          rw [Int.sub_mul, Int.sub_mul, Int.mul_sub, Int.mul_sub, Int.mul_zero]; omega
        obtain ⟨k1, k2⟩ := hull4 ⟨e1, e2⟩ ⟨f1, f2⟩ ⟨g1, g2⟩ ⟨h1, h2⟩ (by omega : 0 ≤ D - p) (by omega : 0 ≤ p - q) (by omega : (0 : Int) ≤ 0) q0 (show D - p + (p - q) + 0 + q = D by omega)
        obtain ⟨m1, m2⟩ := rnd_sm (d := d) hd (by omega) (by omega) (by rw [s2, id]; exact k1) (by rw [s2, id]; exact k2)
        exact sm_i32 m1 m2
      · rw [if_neg huv]
        have hqp : p < q := by rw [sL_le, hu, hv] at huv; omega
        obtain ⟨b1, b2, b3⟩ := key (z := h - g) (isub_i ⟨h1, h2⟩ ⟨g1, g2⟩) (by omega) (by omega) hu p0 (by omega)
        obtain ⟨c1, c2, c3⟩ := key (z := g - e) (isub_i ⟨g1, g2⟩ ⟨e1, e2⟩) (by omega) (by omega) hv q0 (by omega)
        have s1 : (e.toInt64 * d + (h - g).toInt64 * u).toInt = e.toInt * D + (h.toInt - g.toInt) * p := by rw [ladd_i] <;> rw [a1, b1] <;> omega
        have s2 : (e.toInt64 * d + (h - g).toInt64 * u + (g - e).toInt64 * v).toInt = e.toInt * D + (h.toInt - g.toInt) * p + (g.toInt - e.toInt) * q := by rw [ladd_i] <;> rw [s1, c1] <;> omega
        have id : e.toInt * D + (h.toInt - g.toInt) * p + (g.toInt - e.toInt) * q = e.toInt * (D - q) + f.toInt * 0 + g.toInt * (q - p) + h.toInt * p := by
          rw [Int.sub_mul, Int.sub_mul, Int.mul_sub, Int.mul_sub, Int.mul_zero]; omega
        obtain ⟨k1, k2⟩ := hull4 ⟨e1, e2⟩ ⟨f1, f2⟩ ⟨g1, g2⟩ ⟨h1, h2⟩ (by omega : 0 ≤ D - q) (by omega : (0 : Int) ≤ 0) (by omega : 0 ≤ q - p) p0 (show D - q + 0 + (q - p) + p = D by omega)
        obtain ⟨m1, m2⟩ := rnd_sm (d := d) hd (by omega) (by omega) (by rw [s2, id]; exact k1) (by rw [s2, id]; exact k2)
        exact sm_i32 m1 m2
theorem offS_sm {v : Nat → Int32} (hv : Ok v) {g px py w : Nat} (hg : g < cN v) (hon : onS v g px py) (hw : w < 2) : Sm (offS v g px py w) := by
  have hf := hv.F hg
  obtain ⟨g6, c5, r5, c2, r2, s1, s64⟩ := hv.b hg
  obtain ⟨x1, x2, x3⟩ := cX_spec hf hon
  obtain ⟨y1, y2, y3⟩ := cY_spec hf hon
  have hO := (hv.2.2.2.2 g hg).2.2
  refine betw_sm (p := ((px - stS v g (cX v g px) 0 : Nat) : Int)) (q := ((py - stS v g (cY v g py) 1 : Nat) : Int)) (D := ((64 * fN v g 3 : Nat) : Int)) ?_ ?_ ?_ (by omega) (by omega) (by omega) (by omega) (by omega) (by omega) (hO _ _ _ (by omega) (by omega) hw) (hO _ _ _ (by omega) (by omega) hw) (hO _ _ _ (by omega) (by omega) hw) (hO _ _ _ (by omega) (by omega) hw)
  · rw [w_i, nI_toInt (by omega)]
  · rw [w_i, nI_toInt (by omega)]
  · rw [w_i, nI_toInt (by omega)]
theorem ofpS_sm {v : Nat → Int32} (hv : Ok v) {g c r w : Nat} (hg : g < cN v) (hp : ¬ v (2 + 6 * g) = -1) (hc : c < fN v g 4) (hr : r < fN v g 5) (hw : w < 2) : Sm (ofpS v g c r w) := by
  obtain ⟨i1, i2, i3⟩ := ins_on hv hg hp hc hr
  exact offS_sm hv (by omega) i3 hw
/-! a node's offset set -/
theorem set2_app (v : Nat → Int32) (i : Nat) (a b : Int32) (j : Nat) : set2 v i a b j = if j = i + 1 then b else if j = i then a else v j := by
  rw [set2, upd_app, upd_app]
theorem lo_cN {v v' : Nat → Int32} (h : ∀ j, j < 38 → v' j = v j) : cN v' = cN v := by rw [cN, cN, h 0 (by decide)]
theorem lo_fN {v v' : Nat → Int32} (h : ∀ j, j < 38 → v' j = v j) {g e : Nat} (hg : g < 6) (he : e < 6) : fN v' g e = fN v g e := by rw [fN, fN, h _ (by omega)]
/-- rows alike in their first 38 places, with small offsets -/
theorem Ok_lo {v v' : Nat → Int32} (hv : Ok v) (h : ∀ j, j < 38 → v' j = v j) (ho : ∀ g, g < cN v → ∀ c r w, c < fN v g 4 → r < fN v g 5 → w < 2 → Sm (oV v' g c r w)) : Ok v' := by
  have h6 := hv.c6
  have ec := lo_cN h
  refine ⟨by rw [ec, h 0 (by decide)]; exact hv.1, by rw [ec]; exact h6, ?_, ?_, fun g hg => ?_⟩
  · rw [rN, h 1 (by decide)]; exact hv.2.2.1
  · rw [rN, h 1 (by decide)]; exact hv.2.2.2.1
  · rw [ec] at hg
    obtain ⟨hP, hF, hO⟩ := hv.2.2.2.2 g hg
    have ef : ∀ {g e : Nat}, g < 6 → e < 6 → fN v' g e = fN v g e := fun a b => lo_fN h a b
    have g6 : g < 6 := by omega
    refine ⟨?_, ?_, ?_⟩
    · rcases hP with hP | ⟨j, j1, j2, j3⟩
      · exact Or.inl (by rw [h _ (by omega)]; exact hP)
      · refine Or.inr ⟨j, j1, by rw [h _ (by omega)]; exact j2, ?_⟩
        unfold Ins
        rw [ef (g := j) (by omega) (by omega), ef (g := j) (by omega) (by omega), ef (g := j) (by omega) (by omega), ef (g := j) (by omega) (by omega), ef (g := j) (by omega) (by omega), ef (g := g) g6 (by omega), ef (g := g) g6 (by omega), ef (g := g) g6 (by omega), ef (g := g) g6 (by omega), ef (g := g) g6 (by omega)]
        exact j3
    · obtain ⟨q1, q2⟩ := hF
      refine ⟨fun e e1 e6 => by rw [h _ (by omega), ef g6 e6]; exact q1 e e1 e6, ?_⟩
      rw [ef g6 (by omega), ef g6 (by omega), ef g6 (by omega), ef g6 (by omega), ef g6 (by omega)]
      exact q2
    · intro c r w hc hr hw
      rw [ef g6 (by omega)] at hc hr
      exact ho g hg c r w hc hr hw
theorem Ok_set2 {v : Nat → Int32} (hv : Ok v) {G K R : Nat} {a b : Int32} (ha : Sm a) (hb : Sm b) : Ok (set2 v (ndI G K R) a b) := by
  refine Ok_lo hv (fun j hj => set2_lo (by unfold ndI; omega)) (fun g hg c r w hc hr hw => ?_)
  rw [oV, set2_app]
  split
  · exact hb
  · split
    · exact ha
    · exact (hv.2.2.2.2 g hg).2.2 c r w hc hr hw

