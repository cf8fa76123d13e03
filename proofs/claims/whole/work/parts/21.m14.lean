/-! ===== an offset between four others stays within their bounds ===== -/
theorem bm64 {x : Int} (h1 : -(2 ^ 63) ≤ x) (h2 : x < 2 ^ 63) : x.bmod (2 ^ 64) = x := by
  rw [Int.bmod_eq_iff (by decide)] <;> omega
theorem ladd_i {a b : Int64} (h1 : -(2 ^ 63) ≤ a.toInt + b.toInt) (h2 : a.toInt + b.toInt < 2 ^ 63) : (a + b).toInt = a.toInt + b.toInt := by
  rw [Int64.toInt_add]; exact bm64 h1 h2
theorem lsub_i {a b : Int64} (h1 : -(2 ^ 63) ≤ a.toInt - b.toInt) (h2 : a.toInt - b.toInt < 2 ^ 63) : (a - b).toInt = a.toInt - b.toInt := by
  rw [Int64.toInt_sub]; exact bm64 h1 h2
theorem lmul_i {a b : Int64} (h1 : -(2 ^ 63) ≤ a.toInt * b.toInt) (h2 : a.toInt * b.toInt < 2 ^ 63) : (a * b).toInt = a.toInt * b.toInt := by
  rw [Int64.toInt_mul]; exact bm64 h1 h2
/-- a product of a small number and weights -/
theorem prod_b {a p q : Int} {A P Q : Int} (ha : -A ≤ a ∧ a ≤ A) (hp : 0 ≤ p ∧ p ≤ P) (hq : 0 ≤ q ∧ q ≤ Q) : -(A * P * Q) ≤ a * p * q ∧ a * p * q ≤ A * P * Q := by
  have hA : 0 ≤ A := by omega
  have h1 : a * p ≤ A * P := by
    calc a * p ≤ A * p := Int.mul_le_mul_of_nonneg_right ha.2 hp.1
      _ ≤ A * P := Int.mul_le_mul_of_nonneg_left hp.2 hA
  have h2 : -(A * P) ≤ a * p := by
    have : -A * p ≤ a * p := Int.mul_le_mul_of_nonneg_right ha.1 hp.1
    have h3 : A * p ≤ A * P := Int.mul_le_mul_of_nonneg_left hp.2 hA
    have h4 : -A * p = -(A * p) := Int.neg_mul _ _
    omega
  have hAP : 0 ≤ A * P := Int.mul_nonneg hA (by omega)
  constructor
  · have h3 : -(A * P) * q ≤ a * p * q := Int.mul_le_mul_of_nonneg_right h2 hq.1
    have h4 : A * P * q ≤ A * P * Q := Int.mul_le_mul_of_nonneg_left hq.2 hAP
    have h5 : -(A * P) * q = -(A * P * q) := Int.neg_mul _ _
    omega
  · calc a * p * q ≤ A * P * q := Int.mul_le_mul_of_nonneg_right h1 hq.1
      _ ≤ A * P * Q := Int.mul_le_mul_of_nonneg_left hq.2 hAP
/-- a weighted sum: e.g. 999 times the sum of the weights bounds it -/
theorem hull4 {e f g h a b c d D : Int} (he : -999 ≤ e ∧ e ≤ 999) (hf : -999 ≤ f ∧ f ≤ 999) (hg : -999 ≤ g ∧ g ≤ 999) (hh : -999 ≤ h ∧ h ≤ 999) (ha : 0 ≤ a) (hb : 0 ≤ b) (hc : 0 ≤ c) (hd : 0 ≤ d) (hs : a + b + c + d = D) : -(999 * D) ≤ e * a + f * b + g * c + h * d ∧ e * a + f * b + g * c + h * d ≤ 999 * D := by
  have h1 : e * a ≤ 999 * a := Int.mul_le_mul_of_nonneg_right he.2 ha
  have h2 : f * b ≤ 999 * b := Int.mul_le_mul_of_nonneg_right hf.2 hb
  have h3 : g * c ≤ 999 * c := Int.mul_le_mul_of_nonneg_right hg.2 hc
  have h4 : h * d ≤ 999 * d := Int.mul_le_mul_of_nonneg_right hh.2 hd
  have k1 : -999 * a ≤ e * a := Int.mul_le_mul_of_nonneg_right he.1 ha
  have k2 : -999 * b ≤ f * b := Int.mul_le_mul_of_nonneg_right hf.1 hb
  have k3 : -999 * c ≤ g * c := Int.mul_le_mul_of_nonneg_right hg.1 hc
  have k4 : -999 * d ≤ h * d := Int.mul_le_mul_of_nonneg_right hh.1 hd
  omega
theorem rnd_sm {n d : Int64} {D : Int} (hd : d.toInt = D) (h0 : 0 < D) (hD : D ≤ 16777216) (h1 : -(999 * D) ≤ n.toInt) (h2 : n.toInt ≤ 999 * D) : -999 ≤ (rnd n d).toInt ∧ (rnd n d).toInt ≤ 999 := by
  have e2 : (2 : Int64).toInt = 2 := rfl
  have t1 : (2 * n).toInt = 2 * n.toInt := by rw [lmul_i] <;> rw [e2] <;> omega
  have t2 : (2 * n + d).toInt = 2 * n.toInt + D := by rw [ladd_i] <;> rw [t1, hd] <;> omega
  have t3 : (2 * d).toInt = 2 * D := by rw [lmul_i] <;> rw [e2, hd] <;> omega
  generalize hx : 2 * n.toInt + D = X at t2
  have x1 : -(1997 * D) ≤ X := by omega
  have x2 : X ≤ 1999 * D := by omega
  have hq : ((2 * n + d) / (2 * d)).toInt = X.tdiv (2 * D) := by
    rw [Int64.toInt_div, t2, t3]
    apply bm64
    · have : -999 ≤ X.tdiv (2 * D) := by
        rcases Int.le_total 0 X with h | h
        · have := Int.tdiv_nonneg h (by omega : (0 : Int) ≤ 2 * D)
          omega
        · have h3 : -X.tdiv (2 * D) = (-X).tdiv (2 * D) := (Int.neg_tdiv X (2 * D)).symm
          have h4 : (-X).tdiv (2 * D) ≤ 998 := by
            rw [Int.tdiv_eq_ediv_of_nonneg (by omega)]
            have : (-X) / (2 * D) < 999 := Int.ediv_lt_of_lt_mul (by omega) (by omega)
            omega
          omega
      omega
    · have : X.tdiv (2 * D) ≤ 999 := by
        rcases Int.le_total 0 X with h | h
        · rw [Int.tdiv_eq_ediv_of_nonneg h]
          have : X / (2 * D) < 1000 := Int.ediv_lt_of_lt_mul (by omega) (by omega)
          omega
        · have h3 : -X.tdiv (2 * D) = (-X).tdiv (2 * D) := (Int.neg_tdiv X (2 * D)).symm
          have h4 := Int.tdiv_nonneg (by omega : 0 ≤ -X) (by omega : (0 : Int) ≤ 2 * D)
          omega
      omega
  have q1 : -998 ≤ X.tdiv (2 * D) := by
    rcases Int.le_total 0 X with h | h
    · have := Int.tdiv_nonneg h (by omega : (0 : Int) ≤ 2 * D)
      omega
    · have h3 : -X.tdiv (2 * D) = (-X).tdiv (2 * D) := (Int.neg_tdiv X (2 * D)).symm
      have h4 : (-X).tdiv (2 * D) ≤ 998 := by
        rw [Int.tdiv_eq_ediv_of_nonneg (by omega)]
        have : (-X) / (2 * D) < 999 := Int.ediv_lt_of_lt_mul (by omega) (by omega)
        omega
      omega
  have q2 : X.tdiv (2 * D) ≤ 999 := by
    rcases Int.le_total 0 X with h | h
    · rw [Int.tdiv_eq_ediv_of_nonneg h]
      have : X / (2 * D) < 1000 := Int.ediv_lt_of_lt_mul (by omega) (by omega)
      omega
    · have h3 : -X.tdiv (2 * D) = (-X).tdiv (2 * D) := (Int.neg_tdiv X (2 * D)).symm
      have h4 := Int.tdiv_nonneg (by omega : 0 ≤ -X) (by omega : (0 : Int) ≤ 2 * D)
      omega
  unfold rnd
  split
  · rw [hq]; omega
  · rw [lsub_i] <;> rw [hq] <;> (try rw [show (1 : Int64).toInt = 1 from rfl]) <;> omega
theorem sm_i32 {x : Int64} (h1 : -999 ≤ x.toInt) (h2 : x.toInt ≤ 999) : Sm x.toInt32 := by
  have e : x.toInt32.toInt = x.toInt := by
    rw [Int64.toInt_toInt32]
    rw [Int.bmod_eq_iff (by decide)] <;> omega
  rw [Sm, e]
  exact ⟨h1, h2⟩
