theorem b01_nar (P : Prop) [Decidable P] : narrow .boolean (.int (b01 P)) = .int (b01 P) := by
  unfold b01
  by_cases h : P
  · rw [if_pos h]; rfl
  · rw [if_neg h]; rfl
theorem ret_i {x y : Int32} {σ : St} (h : x = y) : ((some (Value.int x), σ) : Option Value × St) = (some (.int y), σ) := by rw [h]
theorem ret_l {x y : Int64} {σ : St} (h : x = y) : ((some (Value.long x), σ) : Option Value × St) = (some (.long y), σ) := by rw [h]
theorem ald {f : Nat → Int32} {x : Int32} {n : Nat} (hx : x = nI n) (hn : n < 2 ^ 31) : f x.toNatClampNeg = f n := by rw [hx, nI_clamp hn]
theorem ix_in {x : Int32} {n N : Nat} (hx : x = nI n) (h : n < N) (hN : N < 2 ^ 31) : vp_in x N := by rw [hx]; exact vp_in_nI h hN
theorem in_n (g : Int32) {N : Nat} (h : N < 2 ^ 30) : (0 ≤ g.toInt64 ∧ g.toInt64 ≤ (nI N - 1).toInt64) ↔ (0 ≤ g ∧ g < nI N) := by
  rw [sL_le, sL_le, sI_le, sI_lt, Int32.toInt_toInt64, Int32.toInt_toInt64, nI_toInt (by omega), show (nI N - 1).toInt = (N : Int) - 1 from pk_sub_toInt (b := 1) h (by decide)]
  have h0 : (0 : Int64).toInt = 0 := rfl
  have h1 : (0 : Int32).toInt = 0 := rfl
  omega
theorem in_c (x a b : Int32) {A B : Int64} (hA : A = a.toInt64) (hB : B = b.toInt64) : (A ≤ x.toInt64 ∧ x.toInt64 ≤ B) ↔ (a ≤ x ∧ x ≤ b) := by
  rw [hA, hB, wide_le, wide_le]
set_option maxRecDepth 100000 in
set_option maxHeartbeats 4000000 in
theorem c_X10_in {σ : St} {x a b : Int64} : Ct yX10_in M_X10_in [.long x, .long a, .long b] σ (some (.int (b01 (a ≤ x ∧ x ≤ b))), σ) := by
  refine ct_of (k := 0) rfl rfl rfl (Nat.le_of_ble_eq_true rfl) ?_
  refine x_lload_n (pc' := 1) rfl dX10_in_0 rfl ?_
  refine x_lload_n (pc' := 2) rfl dX10_in_1 rfl ?_
  refine x_lcmp (pc' := 3) dX10_in_2 rfl ?_
  refine x_if_lt (tgt := 17) (pc' := 6) (by decide) dX10_in_3 rfl (fun c3 => ?_) (fun c3 => ?_)
  · refine x_iconst (v := 0) (pc' := 18) (by decide) dX10_in_17 rfl ?_
    exact x_zret rfl (by first | rfl | exact b01_nar _) dX10_in_18 (by rw [b0 (fun h => (l_nle.mpr ((lg_cmp_lt x a).mp c3)) h.1)])
  · refine x_lload_n (pc' := 7) rfl dX10_in_6 rfl ?_
    refine x_lload (pc' := 9) rfl dX10_in_7 rfl ?_
    refine x_lcmp (pc' := 10) dX10_in_9 rfl ?_
    refine x_if_gt (tgt := 17) (pc' := 13) (by decide) dX10_in_10 rfl (fun c10 => ?_) (fun c10 => ?_)
    · refine x_iconst (v := 0) (pc' := 18) (by decide) dX10_in_17 rfl ?_
      exact x_zret rfl (by first | rfl | exact b01_nar _) dX10_in_18 (by rw [b0 (fun h => (l_nle.mpr ((lg_cmp_gt x b).mp c10)) h.2)])
    · refine x_iconst (v := 1) (pc' := 14) (by decide) dX10_in_13 rfl ?_
      refine x_goto (tgt := 18) (by decide) dX10_in_14 ?_
      exact x_zret rfl (by first | rfl | exact b01_nar _) dX10_in_18 (by rw [b1 ⟨l_nlt.mp (fun h => c3 ((lg_cmp_lt x a).mpr h)), l_nlt.mp (fun h => c10 ((lg_cmp_gt x b).mpr h))⟩])
set_option maxRecDepth 100000 in
set_option maxHeartbeats 4000000 in
theorem c_X10_size {σ : St} {x : Int32} : Ct yX10_size M_X10_size [.int x] σ (some (.int (ab x)), σ) := by
  refine ct_of (k := 0) rfl rfl rfl (Nat.le_of_ble_eq_true rfl) ?_
  refine x_iload_n (pc' := 1) rfl dX10_size_0 rfl ?_
  refine x_if_ge (tgt := 9) (pc' := 4) (by decide) dX10_size_1 rfl (fun c1 => ?_) (fun c1 => ?_)
  · refine x_iload_n (pc' := 10) rfl dX10_size_9 rfl ?_
    exact x_iret rfl dX10_size_10 (by rw [ab, if_neg (i_nlt.mpr c1)])
  · refine x_iload_n (pc' := 5) rfl dX10_size_4 rfl ?_
    refine x_ineg (pc' := 6) dX10_size_5 rfl ?_
    refine x_goto (tgt := 10) (by decide) dX10_size_6 ?_
    exact x_iret rfl dX10_size_10 (by rw [ab, if_pos (i_nle.mp c1)])
set_option maxRecDepth 100000 in
set_option maxHeartbeats 4000000 in
theorem c_X10_larger {σ : St} {x y : Int32} : Ct yX10_larger M_X10_larger [.int x, .int y] σ (some (.int (mx x y)), σ) := by
  refine ct_of (k := 0) rfl rfl rfl (Nat.le_of_ble_eq_true rfl) ?_
  refine x_iload_n (pc' := 1) rfl dX10_larger_0 rfl ?_
  refine x_iload_n (pc' := 2) rfl dX10_larger_1 rfl ?_
  refine x_icmp_le (tgt := 9) (pc' := 5) (by decide) dX10_larger_2 rfl (fun c2 => ?_) (fun c2 => ?_)
  · refine x_iload_n (pc' := 10) rfl dX10_larger_9 rfl ?_
    exact x_iret rfl dX10_larger_10 (by rw [mx, if_neg (i_nlt.mpr c2)])
  · refine x_iload_n (pc' := 6) rfl dX10_larger_5 rfl ?_
    refine x_goto (tgt := 10) (by decide) dX10_larger_6 ?_
    exact x_iret rfl dX10_larger_10 (by rw [mx, if_pos (i_nle.mp c2)])
set_option maxRecDepth 100000 in
set_option maxHeartbeats 4000000 in
theorem c_X10_its {σ : St} {g e : Int32} {G E : Nat} (hg : g = nI G) (he : e = nI E) (h : 2 + 6 * G + E < 338) : Ct yX10_its M_X10_its [.ref 18, .int g, .int e] σ (some (.int (σ.1 19 (2 + 6 * G + E))), σ) := by
  have hx : 2 + 6 * g + e = nI (2 + 6 * G + E) := by rw [hg, he]; simp only [lit32, nI_add, pk_mul]
  refine ct_of (k := 0) rfl rfl rfl (Nat.le_of_ble_eq_true rfl) ?_
  refine x_aload_n (pc' := 1) rfl dX10_its_0 rfl ?_
  refine x_get (v := .ref 19) (pc' := 4) fk_X10_7 (by first | assumption | exact ⟨by decide, rfl⟩) rfl dX10_its_1 rfl ?_
  refine x_iconst (v := 2) (pc' := 5) (by decide) dX10_its_4 rfl ?_
  refine x_bipush (v := 6) (pc' := 7) (by decide) dX10_its_5 rfl ?_
  refine x_iload_n (pc' := 8) rfl dX10_its_7 rfl ?_
  refine x_imul (pc' := 9) dX10_its_8 rfl ?_
  refine x_iadd (pc' := 10) dX10_its_9 rfl ?_
  refine x_iload_n (pc' := 11) rfl dX10_its_10 rfl ?_
  refine x_iadd (pc' := 12) dX10_its_11 rfl ?_
  refine x_ialdn (N := 338) (n := 2 + 6 * G + E) (pc' := 13) (by first | assumption | exact ⟨by decide, rfl⟩) (by decide) hx h dX10_its_12 rfl ?_
  exact x_iret rfl dX10_its_13 rfl
set_option maxRecDepth 100000 in
set_option maxHeartbeats 4000000 in
theorem v_X10_its {σ : St} {v0 : Nat → Int32} (hs : σ.1 19 = v0) {g e : Int32} {G E : Nat} (hg : g = nI G) (he : e = nI E) (h : 2 + 6 * G + E < 338) : Ct yX10_its M_X10_its [.ref 18, .int g, .int e] σ (some (.int (v0 (2 + 6 * G + E))), σ) := by
  subst hs
  exact c_X10_its hg he h
set_option maxRecDepth 100000 in
set_option maxHeartbeats 4000000 in
theorem c_X10_isGrid {σ : St} {g : Int32} {N : Nat} (hN : σ.1 19 0 = nI N) (h : N ≤ 6) : Ct yX10_isGrid M_X10_isGrid [.ref 18, .int g] σ (some (.int (b01 (0 ≤ g ∧ g < nI N))), σ) := by
  refine ct_of (k := 0) rfl rfl rfl (Nat.le_of_ble_eq_true rfl) ?_
  refine x_iload_n (pc' := 1) rfl dX10_isGrid_0 rfl ?_
  refine x_i2l (pc' := 2) dX10_isGrid_1 rfl ?_
  refine x_lconst (v := 0) (pc' := 3) (by decide) dX10_isGrid_2 rfl ?_
  refine x_aload_n (pc' := 4) rfl dX10_isGrid_3 rfl ?_
  refine x_get (v := .ref 19) (pc' := 7) fk_X10_7 (by first | assumption | exact ⟨by decide, rfl⟩) rfl dX10_isGrid_4 rfl ?_
  refine x_iconst (v := 0) (pc' := 8) (by decide) dX10_isGrid_7 rfl ?_
  refine x_ialdn (N := 338) (n := 0) (pc' := 9) (by first | assumption | exact ⟨by decide, rfl⟩) (by decide) rfl (by decide) dX10_isGrid_8 rfl ?_
  refine x_iconst (v := 1) (pc' := 10) (by decide) dX10_isGrid_9 rfl ?_
  refine x_isub (pc' := 11) dX10_isGrid_10 rfl ?_
  refine x_i2l (pc' := 12) dX10_isGrid_11 rfl ?_
  refine x_callSi (As := [.long _, .long _, .long _]) (rest := []) (pc' := 15) rfl sk_X10_50 mk_X10_in (by decide) rfl (Nat.le_of_ble_eq_true rfl) dX10_isGrid_12 rfl c_X10_in ?_
  exact x_zret rfl (by first | rfl | exact b01_nar _) dX10_isGrid_15 (ret_i (b01_c (by show (0 ≤ g.toInt64 ∧ g.toInt64 ≤ (σ.1 19 0 - 1).toInt64) ↔ _; rw [hN]; exact in_n g (by omega))))
set_option maxRecDepth 100000 in
set_option maxHeartbeats 4000000 in
theorem v_X10_isGrid {σ : St} {v0 : Nat → Int32} (hs : σ.1 19 = v0) {g : Int32} {N : Nat} (hN : v0 0 = nI N) (h : N ≤ 6) : Ct yX10_isGrid M_X10_isGrid [.ref 18, .int g] σ (some (.int (b01 (0 ≤ g ∧ g < nI N))), σ) := by
  subst hs
  exact c_X10_isGrid hN h
set_option maxRecDepth 100000 in
set_option maxHeartbeats 4000000 in
theorem c_X10_at {σ : St} {g c r : Int32} : Ct yX10_at M_X10_at [.int g, .int c, .int r] σ (some (.int (38 + 50 * g + 2 * (5 * r + c))), σ) := by
  refine ct_of (k := 0) rfl rfl rfl (Nat.le_of_ble_eq_true rfl) ?_
  refine x_bipush (v := 38) (pc' := 2) (by decide) dX10_at_0 rfl ?_
  refine x_bipush (v := 50) (pc' := 4) (by decide) dX10_at_2 rfl ?_
  refine x_iload_n (pc' := 5) rfl dX10_at_4 rfl ?_
  refine x_imul (pc' := 6) dX10_at_5 rfl ?_
  refine x_iadd (pc' := 7) dX10_at_6 rfl ?_
  refine x_iconst (v := 2) (pc' := 8) (by decide) dX10_at_7 rfl ?_
  refine x_iconst (v := 5) (pc' := 9) (by decide) dX10_at_8 rfl ?_
  refine x_iload_n (pc' := 10) rfl dX10_at_9 rfl ?_
  refine x_imul (pc' := 11) dX10_at_10 rfl ?_
  refine x_iload_n (pc' := 12) rfl dX10_at_11 rfl ?_
  refine x_iadd (pc' := 13) dX10_at_12 rfl ?_
  refine x_imul (pc' := 14) dX10_at_13 rfl ?_
  refine x_iadd (pc' := 15) dX10_at_14 rfl ?_
  exact x_iret rfl dX10_at_15 rfl
set_option maxRecDepth 100000 in
set_option maxHeartbeats 4000000 in
theorem c_X10_off {σ : St} {g c r w : Int32} {G K R W : Nat} (hg : g = nI G) (hc : c = nI K) (hr : r = nI R) (hw : w = nI W) (h : 38 + 50 * G + 2 * (5 * R + K) + W < 338) : Ct yX10_off M_X10_off [.ref 18, .int g, .int c, .int r, .int w] σ (some (.int (oV (σ.1 19) G K R W)), σ) := by
  have hx : 38 + 50 * g + 2 * (5 * r + c) + w = nI (38 + 50 * G + 2 * (5 * R + K) + W) := by rw [hg, hc, hr, hw]; simp only [lit32, nI_add, pk_mul]
  refine ct_of (k := 0) rfl rfl rfl (Nat.le_of_ble_eq_true rfl) ?_
  refine x_aload_n (pc' := 1) rfl dX10_off_0 rfl ?_
  refine x_get (v := .ref 19) (pc' := 4) fk_X10_7 (by first | assumption | exact ⟨by decide, rfl⟩) rfl dX10_off_1 rfl ?_
  refine x_iload_n (pc' := 5) rfl dX10_off_4 rfl ?_
  refine x_iload_n (pc' := 6) rfl dX10_off_5 rfl ?_
  refine x_iload_n (pc' := 7) rfl dX10_off_6 rfl ?_
  refine x_callSi (As := [.int _, .int _, .int _]) (rest := [.ref _]) (pc' := 10) rfl sk_X10_62 mk_X10_at (by decide) rfl (Nat.le_of_ble_eq_true rfl) dX10_off_7 rfl c_X10_at ?_
  refine x_iload (pc' := 12) rfl dX10_off_10 rfl ?_
  refine x_iadd (pc' := 13) dX10_off_12 rfl ?_
  refine x_ialdn (N := 338) (n := 38 + 50 * G + 2 * (5 * R + K) + W) (pc' := 14) (by first | assumption | exact ⟨by decide, rfl⟩) (by decide) hx h dX10_off_13 rfl ?_
  exact x_iret rfl dX10_off_14 rfl
set_option maxRecDepth 100000 in
set_option maxHeartbeats 4000000 in
theorem v_X10_off {σ : St} {v0 : Nat → Int32} (hs : σ.1 19 = v0) {g c r w : Int32} {G K R W : Nat} (hg : g = nI G) (hc : c = nI K) (hr : r = nI R) (hw : w = nI W) (h : 38 + 50 * G + 2 * (5 * R + K) + W < 338) : Ct yX10_off M_X10_off [.ref 18, .int g, .int c, .int r, .int w] σ (some (.int (oV v0 G K R W)), σ) := by
  subst hs
  exact c_X10_off hg hc hr hw h
