/-! ===== the first state ===== -/
def st0 : St := (fun _ _ => 0, fun _ _ => 0, fun a g => 67 + 12 * ((a - 30) / 2) + 2 * g)
theorem st0_sh {s : Nat} (h : s < 19) : Sh st0 s := by
  refine ⟨h, fun g hg => ⟨g, hg, ?_⟩, fun g g' _ _ e => ?_⟩
  · show 67 + 12 * ((29 + 2 * s + 1 - 30) / 2) + 2 * g = 67 + 12 * s + 2 * g
    omega
  · have e : 67 + 12 * ((29 + 2 * s + 1 - 30) / 2) + 2 * g = 67 + 12 * ((29 + 2 * s + 1 - 30) / 2) + 2 * g' := e
    omega
theorem c0_0 : cN (fun _ => 0) = 0 := rfl
theorem ok_0 : Ok (fun _ => 0) := ⟨rfl, by rw [c0_0]; omega, rfl, by show (0 : Int32).toNatClampNeg ≤ 2; decide, fun g hg => absurd hg (by rw [c0_0]; omega)⟩
theorem rr_0 : RR st0 := by
  refine ⟨fun s hs => st0_sh hs, ⟨st0_sh (by decide), (st0_sh (s := 0) (by decide)).F, ⟨rfl, rfl, fun g hg => absurd hg (by show ¬ g < cN (fun _ => 0); rw [c0_0]; omega)⟩, ok_0⟩, ⟨0, fun _ _ => 0, ⟨rfl, by decide, 0, by decide, rfl, fun i hi => absurd hi (by omega)⟩, ⟨rfl, by decide, fun i hi => absurd hi (by omega)⟩⟩, ⟨0, by decide, rfl, rfl⟩, ⟨0, rfl, rfl, by decide, fun k hk => absurd hk (by omega)⟩, rfl, rfl, rfl, fun i hi => Or.inl ⟨rfl, rfl⟩⟩
/-! ===== where the cells lie ===== -/
def LX : FF := fun ct ad k => if k < 284 then WX ct ad k else GX10 ct (fun y => ad (284 + y)) (k - 284)
def bs (s : Nat) : Nat := if s = 0 then 1 else if s ≤ 16 then 17 + 14 * (s - 1) else 242 + 15 * (s - 17)
def plT : List Nat := [0, 15, 16, 241, 256, 271, 272, 273, 274, 275, 276, 277, 278, 279, 280, 281, 282, 283, 284, 285, 286, 287, 288, 289, 290, 291, 292, 293, 294]
def pl (k : Nat) : Nat := if k < 29 then plT.getD k 0 else if k < 67 then bs ((k - 29) / 2) + (k - 29) % 2 else bs ((k - 67) / 12) + 2 + (k - 67) % 12
def plL : List Nat := (List.range 295).map pl
def plI (p : Nat) : Nat := plL.findIdx (fun x => x == p)
theorem pl_inv : ∀ k, k < 295 → plI (pl k) = k := by decide +kernel
theorem pl_lt : ∀ k, k < 295 → pl k < 295 := by decide +kernel
theorem pl_inj {i j : Nat} (hi : i < 295) (hj : j < 295) (h : pl i = pl j) : i = j := by rw [← pl_inv i hi, h, pl_inv j hj]
theorem LX_s {ct : Nat → ClassId} {ad : Nat → Nat} {s r : Nat} (hs : s < 19) (hr : r < 14) : LX ct ad (bs s + r) = SX 6 ct (fun y => ad (bs s + y)) r := by
  unfold LX
  have hb : bs s + r < 284 := by unfold bs; split <;> (try split) <;> omega
  rw [if_pos hb]
  unfold WX bs
  by_cases s0 : s = 0
  · rw [if_pos s0, if_neg (by omega), if_pos (by omega), Nat.add_sub_cancel_left]
  · rw [if_neg s0]
    by_cases s16 : s ≤ 16
    · rw [if_pos s16, if_neg (by omega), if_neg (by omega), if_pos (by omega), HX_g (by omega), show 17 + 14 * (s - 1) + r - 15 - 2 = 14 * (s - 1) + r by omega, show (14 * (s - 1) + r) / 14 = s - 1 by omega, show (14 * (s - 1) + r) % 14 = r by omega]
      refine SX_congr (fun x _ => ?_) hr
      show ad (15 + (2 + 14 * (s - 1) + x)) = ad (17 + 14 * (s - 1) + x)
      congr 1
      omega
    · rw [if_neg s16]
      by_cases s17 : s = 17
      · subst s17
        rw [if_neg (by omega), if_neg (by omega), if_neg (by omega), if_pos (by omega)]
        unfold IX
        rw [if_neg (by omega), show 242 + 15 * (17 - 17) + r - 241 - 1 = r by omega]
        refine SX_congr (fun x _ => ?_) hr
        show ad (241 + (1 + x)) = ad (242 + 15 * (17 - 17) + x)
        congr 1
        omega
      · obtain rfl : s = 18 := by omega
        rw [if_neg (by omega), if_neg (by omega), if_neg (by omega), if_neg (by omega), if_pos (by omega)]
        unfold IX
        rw [if_neg (by omega), show 242 + 15 * (18 - 17) + r - 256 - 1 = r by omega]
        refine SX_congr (fun x _ => ?_) hr
        show ad (256 + (1 + x)) = ad (242 + 15 * (18 - 17) + x)
        congr 1
        omega
