/-! ===== numbers, and what a sheet's row says (v: the flat row of 338) ===== -/
def b01 (P : Prop) [Decidable P] : Int32 := if P then 1 else 0
theorem b1 {P : Prop} [Decidable P] (h : P) : b01 P = 1 := if_pos h
theorem b0 {P : Prop} [Decidable P] (h : ¬ P) : b01 P = 0 := if_neg h
theorem b01_0 {P : Prop} [Decidable P] : b01 P = 0 ↔ ¬ P := by
  unfold b01
  by_cases h : P
  · simp [h]
  · simp [h]
theorem b01_c {P Q : Prop} [Decidable P] [Decidable Q] (h : P ↔ Q) : b01 P = b01 Q := by
  unfold b01
  by_cases hp : P
  · rw [if_pos hp, if_pos (h.mp hp)]
  · rw [if_neg hp, if_neg (fun q => hp (h.mpr q))]
theorem lit32 (n : Nat) : (OfNat.ofNat n : Int32) = nI n := rfl
theorem litL (n : Nat) : (OfNat.ofNat n : Int64) = lN n := rfl
theorem sI_lt (a b : Int32) : a < b ↔ a.toInt < b.toInt := Int32.lt_iff_toInt_lt
theorem sI_le (a b : Int32) : a ≤ b ↔ a.toInt ≤ b.toInt := Int32.le_iff_toInt_le
theorem sI_eq (a b : Int32) : a = b ↔ a.toInt = b.toInt := Int32.toInt_inj.symm
theorem sL_lt (a b : Int64) : a < b ↔ a.toInt < b.toInt := Int64.lt_iff_toInt_lt
theorem sL_le (a b : Int64) : a ≤ b ↔ a.toInt ≤ b.toInt := Int64.le_iff_toInt_le
theorem sL_eq (a b : Int64) : a = b ↔ a.toInt = b.toInt := Int64.toInt_inj.symm
theorem wide_lt (a b : Int32) : a.toInt64 < b.toInt64 ↔ a < b := by rw [sL_lt, sI_lt, Int32.toInt_toInt64, Int32.toInt_toInt64]
theorem wide_le (a b : Int32) : a.toInt64 ≤ b.toInt64 ↔ a ≤ b := by rw [sL_le, sI_le, Int32.toInt_toInt64, Int32.toInt_toInt64]
theorem i_nlt {a b : Int32} : ¬ a < b ↔ b ≤ a := by rw [sI_lt, sI_le]; omega
theorem i_nle {a b : Int32} : ¬ a ≤ b ↔ b < a := by rw [sI_lt, sI_le]; omega
theorem l_nlt {a b : Int64} : ¬ a < b ↔ b ≤ a := by rw [sL_lt, sL_le]; omega
theorem l_nle {a b : Int64} : ¬ a ≤ b ↔ b < a := by rw [sL_lt, sL_le]; omega
/-- a number from 0 below n -/
theorem i_in {x : Int32} {n : Nat} (hn : n < 2 ^ 31) (h0 : 0 ≤ x) (h : x < nI n) : ∃ j : Nat, j < n ∧ x = nI j := by
  obtain ⟨j, hj, rfl⟩ := nI_of (i_nlt.mpr h0)
  exact ⟨j, (nI_ltI hj hn).mp h, rfl⟩
theorem m1_ne (n : Nat) (h : n < 2 ^ 31) : ¬ (-1 : Int32) = nI n := by
  rw [sI_eq, nI_toInt h]
  have : (-1 : Int32).toInt = -1 := by decide
  omega
theorem ni_inj {a b : Nat} (ha : a < 2 ^ 31) (hb : b < 2 ^ 31) (h : nI a = nI b) : a = b := (nI_eq ha hb).mp h
def sumN (f : Nat → Nat) : Nat → Nat
  | 0 => 0
  | n + 1 => sumN f n + f n
theorem sumN_c {f f' : Nat → Nat} : ∀ n, (∀ k, k < n → f k = f' k) → sumN f n = sumN f' n
  | 0, _ => rfl
  | n + 1, h => by rw [sumN, sumN, sumN_c n (fun k hk => h k (by omega)), h n (by omega)]
theorem sumN_le {f : Nat → Nat} {b : Nat} : ∀ n, (∀ k, k < n → f k ≤ b) → sumN f n ≤ n * b
  | 0, _ => by simp [sumN]
  | n + 1, h => by
    have h1 := sumN_le n (fun k hk => h k (by omega))
    have h2 := h n (by omega)
    rw [sumN, Nat.succ_mul]
    omega
theorem sumN_add {f : Nat → Nat} (n : Nat) : ∀ m, sumN f (n + m) = sumN f n + sumN (fun k => f (n + k)) m
  | 0 => rfl
  | m + 1 => by
    rw [← Nat.add_assoc, sumN, sumN_add n m, sumN]
    omega
/-- rows and columns counted in one walk -/
theorem sumN_rc {f : Nat → Nat → Nat} {C : Nat} (hC : 0 < C) : ∀ R, sumN (fun k => f (k / C) (k % C)) (C * R) = sumN (fun r => sumN (fun c => f r c) C) R
  | 0 => rfl
  | R + 1 => by
    rw [Nat.mul_succ, sumN_add, sumN_rc hC R, sumN]
    congr 1
    apply sumN_c
    intro k hk
    have e1 : (C * R + k) / C = R := by
      rw [Nat.mul_add_div hC, Nat.div_eq_of_lt hk, Nat.add_zero]
    have e2 : (C * R + k) % C = k := by
      rw [Nat.mul_add_mod, Nat.mod_eq_of_lt hk]
    simp only [e1, e2]
theorem sumN_plus {f h : Nat → Nat} : ∀ n, sumN (fun k => f k + h k) n = sumN f n + sumN h n
  | 0 => rfl
  | n + 1 => by
    rw [sumN, sumN_plus n, sumN, sumN]
    omega
theorem sumN_0 : ∀ n, sumN (fun _ => 0) n = 0
  | 0 => rfl
  | n + 1 => by rw [sumN, sumN_0 n]
theorem sumN_swap {f : Nat → Nat → Nat} (C : Nat) : ∀ R, sumN (fun r => sumN (fun c => f r c) C) R = sumN (fun c => sumN (fun r => f r c) R) C
  | 0 => (sumN_0 C).symm
  | R + 1 => by
    rw [sumN, sumN_swap C R, ← sumN_plus]
    rfl
/-- Math.max, Math.abs, and the reference's own -/
def mx (a b : Int32) : Int32 := if b < a then a else b
def ab (a : Int32) : Int32 := if a < 0 then -a else a
theorem mx_alt (a b : Int32) : (if a < b then b else a) = mx a b := by
  unfold mx
  by_cases h1 : a < b
  · rw [if_pos h1, if_neg (fun h2 => by rw [sI_lt] at h1 h2; omega)]
  · rw [if_neg h1]
    by_cases h2 : b < a
    · rw [if_pos h2]
    · rw [if_neg h2, sI_eq]
      rw [sI_lt] at h1 h2
      omega
theorem mx_ge0 {a b : Int32} (h : 0 ≤ a) : 0 ≤ mx a b := by
  unfold mx
  by_cases h2 : b < a
  · rw [if_pos h2]; exact h
  · rw [if_neg h2]
    rw [sI_lt] at h2
    rw [sI_le] at h ⊢
    omega
theorem mx_0 {a : Int32} (h : 0 ≤ a) : mx a 0 = a := by
  unfold mx
  by_cases h2 : 0 < a
  · rw [if_pos h2]
  · rw [if_neg h2, sI_eq]
    rw [sI_lt] at h2
    rw [sI_le] at h
    omega
def maxN (f : Nat → Int32) : Nat → Int32
  | 0 => 0
  | n + 1 => mx (maxN f n) (f n)
theorem maxN_ge0 (f : Nat → Int32) : ∀ n, 0 ≤ maxN f n
  | 0 => show (0 : Int32) ≤ 0 by decide
  | n + 1 => mx_ge0 (maxN_ge0 f n)
/-! the row's words -/
def fN (v : Nat → Int32) (g e : Nat) : Nat := (v (2 + 6 * g + e)).toNatClampNeg
def cN (v : Nat → Int32) : Nat := (v 0).toNatClampNeg
def rN (v : Nat → Int32) : Nat := (v 1).toNatClampNeg
def oV (v : Nat → Int32) (g c r w : Nat) : Int32 := v (38 + 50 * g + 2 * (5 * r + c) + w)
/-- the parent's ground holds the grid's -/
def Ins (v : Nat → Int32) (g j : Nat) : Prop := fN v j 1 ≤ fN v g 1 ∧ fN v g 1 + (fN v g 4 - 1) * fN v g 3 ≤ fN v j 1 + (fN v j 4 - 1) * fN v j 3 ∧ fN v j 2 ≤ fN v g 2 ∧ fN v g 2 + (fN v g 5 - 1) * fN v g 3 ≤ fN v j 2 + (fN v j 5 - 1) * fN v j 3
def OkP (v : Nat → Int32) (g : Nat) : Prop := v (2 + 6 * g) = -1 ∨ ∃ j, j < g ∧ v (2 + 6 * g) = nI j ∧ Ins v g j
def OkF (v : Nat → Int32) (g : Nat) : Prop := (∀ e, 1 ≤ e → e < 6 → v (2 + 6 * g + e) = nI (fN v g e)) ∧ 1 ≤ fN v g 3 ∧ fN v g 3 ≤ 64 ∧ 2 ≤ fN v g 4 ∧ fN v g 4 ≤ 5 ∧ 2 ≤ fN v g 5 ∧ fN v g 5 ≤ 5 ∧ fN v g 1 + (fN v g 4 - 1) * fN v g 3 ≤ 1000 ∧ fN v g 2 + (fN v g 5 - 1) * fN v g 3 ≤ 1000
def Sm (x : Int32) : Prop := -999 ≤ x.toInt ∧ x.toInt ≤ 999
def OkO (v : Nat → Int32) (g : Nat) : Prop := ∀ c r w, c < fN v g 4 → r < fN v g 5 → w < 2 → Sm (oV v g c r w)
def OkG (v : Nat → Int32) (g : Nat) : Prop := OkP v g ∧ OkF v g ∧ OkO v g
def Ok (v : Nat → Int32) : Prop := v 0 = nI (cN v) ∧ cN v ≤ 6 ∧ v 1 = nI (rN v) ∧ rN v ≤ 2 ∧ ∀ g, g < cN v → OkG v g
