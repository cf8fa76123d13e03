def stI (v : Nat → Int32) (g c r w : Nat) : Int32 := mx (ab (oV v g (c + 1) r w - oV v g c r w)) (ab (oV v g (c + 1) (r + 1) w - oV v g c (r + 1) w)) + mx (ab (oV v g c (r + 1) w - oV v g c r w)) (ab (oV v g (c + 1) (r + 1) w - oV v g (c + 1) r w))
def steepS (v : Nat → Int32) (g c r : Nat) : Int32 := mx (stI v g c r 0) (stI v g c r 1)
def sureS (v : Nat → Int32) (g c r : Nat) : Prop := 2 * steepS v g c r < nI (64 * fN v g 3)
def ik (k : Nat) : Nat := if k % 4 = 1 ∨ k % 4 = 2 then 1 else 0
def jk (k : Nat) : Nat := if 1 < k % 4 then 1 else 0
def corS (v : Nat → Int32) (g c r k w : Nat) : Int64 := (nI (stS v g (if w = 0 then c + ik k else r + jk k) w) + oV v g (c + ik k) (r + jk k) w).toInt64
def crossS (v : Nat → Int32) (g c r a b : Nat) : Int64 := corS v g c r a 0 * corS v g c r b 1 - corS v g c r b 0 * corS v g c r a 1
def areaS (v : Nat → Int32) (g c r : Nat) : Int64 := crossS v g c r 0 1 + crossS v g c r 1 2 + crossS v g c r 2 3 + crossS v g c r 3 0
def fP (v : Nat → Int32) (g c r k : Nat) : Prop := crossS v g c r k (k + 1) + crossS v g c r (k + 1) (k + 2) + crossS v g c r (k + 2) k ≤ 0
def foldS (v : Nat → Int32) (g c r : Nat) : Prop := ∃ j, j < 4 ∧ fP v g c r j
theorem ik_le (k : Nat) : ik k ≤ 1 := by unfold ik; split <;> omega
theorem jk_le (k : Nat) : jk k ≤ 1 := by unfold jk; split <;> omega
set_option maxRecDepth 100000 in
set_option maxHeartbeats 4000000 in
theorem c_X10_steepIn {σ : St} {g c r w : Int32} {G K R W : Nat} (hv : Ok (σ.1 19)) (hG : G < cN (σ.1 19)) (hg : g = nI G) (hc : c = nI K) (hr : r = nI R) (hK : K + 1 < fN (σ.1 19) G 4) (hR : R + 1 < fN (σ.1 19) G 5) (hw : w = nI W) (hW : W < 2) : Ct yX10_steepIn M_X10_steepIn [.ref 18, .int g, .int c, .int r, .int w] σ (some (.int (stI (σ.1 19) G K R W)), σ) := by
  subst hg
  subst hc
  subst hr
  obtain ⟨g6, c5, r5, c2, r2, s1, s64⟩ := hv.b hG
  have hf := hv.F hG
  subst hw
  refine ct_of (k := 4) rfl rfl rfl (Nat.le_of_ble_eq_true rfl) ?_
  refine x_aload_n (pc' := 1) rfl dX10_steepIn_0 rfl ?_
  refine x_iload_n (pc' := 2) rfl dX10_steepIn_1 rfl ?_
  refine x_iload_n (pc' := 3) rfl dX10_steepIn_2 rfl ?_
  refine x_iload_n (pc' := 4) rfl dX10_steepIn_3 rfl ?_
  refine x_iload (pc' := 6) rfl dX10_steepIn_4 rfl ?_
  refine x_callVi (As := [.int _, .int _, .int _, .int _]) (rest := []) (ci := 9) (pc' := 9) rfl vk_X10_87 mk_X10_off (by decide) (by first | assumption | exact ⟨by decide, rfl⟩) (by decide) rfl (Nat.le_of_ble_eq_true rfl) dX10_steepIn_6 rfl (c_X10_off (K := K) (R := R) rfl rfl rfl rfl (by omega)) ?_
  refine x_istore (lv' := [_, _, _, _, _, _, _, _, _]) (pc' := 11) (by decide) rfl dX10_steepIn_9 rfl ?_
  refine x_aload_n (pc' := 12) rfl dX10_steepIn_11 rfl ?_
  refine x_iload_n (pc' := 13) rfl dX10_steepIn_12 rfl ?_
  refine x_iload_n (pc' := 14) rfl dX10_steepIn_13 rfl ?_
  refine x_iconst (v := 1) (pc' := 15) (by decide) dX10_steepIn_14 rfl ?_
  refine x_iadd (pc' := 16) dX10_steepIn_15 rfl ?_
  refine x_iload_n (pc' := 17) rfl dX10_steepIn_16 rfl ?_
  refine x_iload (pc' := 19) rfl dX10_steepIn_17 rfl ?_
  refine x_callVi (As := [.int _, .int _, .int _, .int _]) (rest := []) (ci := 9) (pc' := 22) rfl vk_X10_87 mk_X10_off (by decide) (by first | assumption | exact ⟨by decide, rfl⟩) (by decide) rfl (Nat.le_of_ble_eq_true rfl) dX10_steepIn_19 rfl (c_X10_off (K := K + 1) (R := R) rfl (nI_1 _) rfl rfl (by omega)) ?_
  refine x_istore (lv' := [_, _, _, _, _, _, _, _, _]) (pc' := 24) (by decide) rfl dX10_steepIn_22 rfl ?_
  refine x_aload_n (pc' := 25) rfl dX10_steepIn_24 rfl ?_
  refine x_iload_n (pc' := 26) rfl dX10_steepIn_25 rfl ?_
  refine x_iload_n (pc' := 27) rfl dX10_steepIn_26 rfl ?_
  refine x_iload_n (pc' := 28) rfl dX10_steepIn_27 rfl ?_
  refine x_iconst (v := 1) (pc' := 29) (by decide) dX10_steepIn_28 rfl ?_
  refine x_iadd (pc' := 30) dX10_steepIn_29 rfl ?_
  refine x_iload (pc' := 32) rfl dX10_steepIn_30 rfl ?_
  refine x_callVi (As := [.int _, .int _, .int _, .int _]) (rest := []) (ci := 9) (pc' := 35) rfl vk_X10_87 mk_X10_off (by decide) (by first | assumption | exact ⟨by decide, rfl⟩) (by decide) rfl (Nat.le_of_ble_eq_true rfl) dX10_steepIn_32 rfl (c_X10_off (K := K) (R := R + 1) rfl rfl (nI_1 _) rfl (by omega)) ?_
  refine x_istore (lv' := [_, _, _, _, _, _, _, _, _]) (pc' := 37) (by decide) rfl dX10_steepIn_35 rfl ?_
  refine x_aload_n (pc' := 38) rfl dX10_steepIn_37 rfl ?_
  refine x_iload_n (pc' := 39) rfl dX10_steepIn_38 rfl ?_
  refine x_iload_n (pc' := 40) rfl dX10_steepIn_39 rfl ?_
  refine x_iconst (v := 1) (pc' := 41) (by decide) dX10_steepIn_40 rfl ?_
  refine x_iadd (pc' := 42) dX10_steepIn_41 rfl ?_
  refine x_iload_n (pc' := 43) rfl dX10_steepIn_42 rfl ?_
  refine x_iconst (v := 1) (pc' := 44) (by decide) dX10_steepIn_43 rfl ?_
  refine x_iadd (pc' := 45) dX10_steepIn_44 rfl ?_
  refine x_iload (pc' := 47) rfl dX10_steepIn_45 rfl ?_
  refine x_callVi (As := [.int _, .int _, .int _, .int _]) (rest := []) (ci := 9) (pc' := 50) rfl vk_X10_87 mk_X10_off (by decide) (by first | assumption | exact ⟨by decide, rfl⟩) (by decide) rfl (Nat.le_of_ble_eq_true rfl) dX10_steepIn_47 rfl (c_X10_off (K := K + 1) (R := R + 1) rfl (nI_1 _) (nI_1 _) rfl (by omega)) ?_
  refine x_istore (lv' := [_, _, _, _, _, _, _, _, _]) (pc' := 52) (by decide) rfl dX10_steepIn_50 rfl ?_
  refine x_iload (pc' := 54) rfl dX10_steepIn_52 rfl ?_
  refine x_iload (pc' := 56) rfl dX10_steepIn_54 rfl ?_
  refine x_isub (pc' := 57) dX10_steepIn_56 rfl ?_
  refine x_callSi (As := [.int _]) (rest := []) (pc' := 60) rfl sk_X10_104 mk_X10_size (by decide) rfl (Nat.le_of_ble_eq_true rfl) dX10_steepIn_57 rfl c_X10_size ?_
  refine x_iload (pc' := 62) rfl dX10_steepIn_60 rfl ?_
  refine x_iload (pc' := 64) rfl dX10_steepIn_62 rfl ?_
  refine x_isub (pc' := 65) dX10_steepIn_64 rfl ?_
  refine x_callSi (As := [.int _]) (rest := [.int _]) (pc' := 68) rfl sk_X10_104 mk_X10_size (by decide) rfl (Nat.le_of_ble_eq_true rfl) dX10_steepIn_65 rfl c_X10_size ?_
  refine x_callSi (As := [.int _, .int _]) (rest := []) (pc' := 71) rfl sk_X10_108 mk_X10_larger (by decide) rfl (Nat.le_of_ble_eq_true rfl) dX10_steepIn_68 rfl c_X10_larger ?_
  refine x_iload (pc' := 73) rfl dX10_steepIn_71 rfl ?_
  refine x_iload (pc' := 75) rfl dX10_steepIn_73 rfl ?_
  refine x_isub (pc' := 76) dX10_steepIn_75 rfl ?_
  refine x_callSi (As := [.int _]) (rest := [.int _]) (pc' := 79) rfl sk_X10_104 mk_X10_size (by decide) rfl (Nat.le_of_ble_eq_true rfl) dX10_steepIn_76 rfl c_X10_size ?_
  refine x_iload (pc' := 81) rfl dX10_steepIn_79 rfl ?_
  refine x_iload (pc' := 83) rfl dX10_steepIn_81 rfl ?_
  refine x_isub (pc' := 84) dX10_steepIn_83 rfl ?_
  refine x_callSi (As := [.int _]) (rest := [.int _, .int _]) (pc' := 87) rfl sk_X10_104 mk_X10_size (by decide) rfl (Nat.le_of_ble_eq_true rfl) dX10_steepIn_84 rfl c_X10_size ?_
  refine x_callSi (As := [.int _, .int _]) (rest := [.int _]) (pc' := 90) rfl sk_X10_108 mk_X10_larger (by decide) rfl (Nat.le_of_ble_eq_true rfl) dX10_steepIn_87 rfl c_X10_larger ?_
  refine x_iadd (pc' := 91) dX10_steepIn_90 rfl ?_
  exact x_iret rfl dX10_steepIn_91 rfl
set_option maxRecDepth 100000 in
set_option maxHeartbeats 4000000 in
theorem v_X10_steepIn {σ : St} {v0 : Nat → Int32} (hs : σ.1 19 = v0) {g c r w : Int32} {G K R W : Nat} (hv : Ok v0) (hG : G < cN v0) (hg : g = nI G) (hc : c = nI K) (hr : r = nI R) (hK : K + 1 < fN v0 G 4) (hR : R + 1 < fN v0 G 5) (hw : w = nI W) (hW : W < 2) : Ct yX10_steepIn M_X10_steepIn [.ref 18, .int g, .int c, .int r, .int w] σ (some (.int (stI v0 G K R W)), σ) := by
  subst hs
  exact c_X10_steepIn hv hG hg hc hr hK hR hw hW
set_option maxRecDepth 100000 in
set_option maxHeartbeats 4000000 in
theorem c_X10_steep {σ : St} {g c r : Int32} {G K R : Nat} (hv : Ok (σ.1 19)) (hG : G < cN (σ.1 19)) (hg : g = nI G) (hc : c = nI K) (hr : r = nI R) (hK : K + 1 < fN (σ.1 19) G 4) (hR : R + 1 < fN (σ.1 19) G 5) : Ct yX10_steep M_X10_steep [.ref 18, .int g, .int c, .int r] σ (some (.int (steepS (σ.1 19) G K R)), σ) := by
  refine ct_of (k := 0) rfl rfl rfl (Nat.le_of_ble_eq_true rfl) ?_
  refine x_aload_n (pc' := 1) rfl dX10_steep_0 rfl ?_
  refine x_iload_n (pc' := 2) rfl dX10_steep_1 rfl ?_
  refine x_iload_n (pc' := 3) rfl dX10_steep_2 rfl ?_
  refine x_iload_n (pc' := 4) rfl dX10_steep_3 rfl ?_
  refine x_iconst (v := 0) (pc' := 5) (by decide) dX10_steep_4 rfl ?_
  refine x_callVi (As := [.int _, .int _, .int _, .int _]) (rest := []) (ci := 9) (pc' := 8) rfl vk_X10_123 mk_X10_steepIn (by decide) (by first | assumption | exact ⟨by decide, rfl⟩) (by decide) rfl (Nat.le_of_ble_eq_true rfl) dX10_steep_5 rfl (c_X10_steepIn hv hG hg hc hr hK hR (W := 0) rfl (by decide)) ?_
  refine x_aload_n (pc' := 9) rfl dX10_steep_8 rfl ?_
  refine x_iload_n (pc' := 10) rfl dX10_steep_9 rfl ?_
  refine x_iload_n (pc' := 11) rfl dX10_steep_10 rfl ?_
  refine x_iload_n (pc' := 12) rfl dX10_steep_11 rfl ?_
  refine x_iconst (v := 1) (pc' := 13) (by decide) dX10_steep_12 rfl ?_
  refine x_callVi (As := [.int _, .int _, .int _, .int _]) (rest := [.int _]) (ci := 9) (pc' := 16) rfl vk_X10_123 mk_X10_steepIn (by decide) (by first | assumption | exact ⟨by decide, rfl⟩) (by decide) rfl (Nat.le_of_ble_eq_true rfl) dX10_steep_13 rfl (c_X10_steepIn hv hG hg hc hr hK hR (W := 1) rfl (by decide)) ?_
  refine x_callSi (As := [.int _, .int _]) (rest := []) (pc' := 19) rfl sk_X10_108 mk_X10_larger (by decide) rfl (Nat.le_of_ble_eq_true rfl) dX10_steep_16 rfl c_X10_larger ?_
  exact x_iret rfl dX10_steep_19 rfl
set_option maxRecDepth 100000 in
set_option maxHeartbeats 4000000 in
theorem v_X10_steep {σ : St} {v0 : Nat → Int32} (hs : σ.1 19 = v0) {g c r : Int32} {G K R : Nat} (hv : Ok v0) (hG : G < cN v0) (hg : g = nI G) (hc : c = nI K) (hr : r = nI R) (hK : K + 1 < fN v0 G 4) (hR : R + 1 < fN v0 G 5) : Ct yX10_steep M_X10_steep [.ref 18, .int g, .int c, .int r] σ (some (.int (steepS v0 G K R)), σ) := by
  subst hs
  exact c_X10_steep hv hG hg hc hr hK hR
set_option maxRecDepth 100000 in
set_option maxHeartbeats 4000000 in
theorem c_X10_isSure {σ : St} {g c r : Int32} {G K R : Nat} (hv : Ok (σ.1 19)) (hG : G < cN (σ.1 19)) (hg : g = nI G) (hc : c = nI K) (hr : r = nI R) (hK : K + 1 < fN (σ.1 19) G 4) (hR : R + 1 < fN (σ.1 19) G 5) : Ct yX10_isSure M_X10_isSure [.ref 18, .int g, .int c, .int r] σ (some (.int (pb (sureS (σ.1 19) G K R))), σ) := by
  subst hg
  subst hc
  subst hr
  obtain ⟨g6, c5, r5, c2, r2, s1, s64⟩ := hv.b hG
  have hf := hv.F hG
  have e3 : 64 * σ.1 19 (2 + 6 * G + 3) = nI (64 * fN (σ.1 19) G 3) := by rw [hf.at (by omega) (by omega)]; exact pk_mul 64 _
  refine ct_of (k := 0) rfl rfl rfl (Nat.le_of_ble_eq_true rfl) ?_
  refine x_iconst (v := 2) (pc' := 1) (by decide) dX10_isSure_0 rfl ?_
  refine x_aload_n (pc' := 2) rfl dX10_isSure_1 rfl ?_
  refine x_iload_n (pc' := 3) rfl dX10_isSure_2 rfl ?_
  refine x_iload_n (pc' := 4) rfl dX10_isSure_3 rfl ?_
  refine x_iload_n (pc' := 5) rfl dX10_isSure_4 rfl ?_
  refine x_callVi (As := [.int _, .int _, .int _]) (rest := [.int _]) (ci := 9) (pc' := 8) rfl vk_X10_126 mk_X10_steep (by decide) (by first | assumption | exact ⟨by decide, rfl⟩) (by decide) rfl (Nat.le_of_ble_eq_true rfl) dX10_isSure_5 rfl (c_X10_steep hv hG rfl rfl rfl hK hR) ?_
  refine x_imul (pc' := 9) dX10_isSure_8 rfl ?_
  refine x_bipush (v := 64) (pc' := 11) (by decide) dX10_isSure_9 rfl ?_
  refine x_aload_n (pc' := 12) rfl dX10_isSure_11 rfl ?_
  refine x_iload_n (pc' := 13) rfl dX10_isSure_12 rfl ?_
  refine x_iconst (v := 3) (pc' := 14) (by decide) dX10_isSure_13 rfl ?_
  refine x_callVi (As := [.int _, .int _]) (rest := [.int _, .int _]) (ci := 9) (pc' := 17) rfl vk_X10_58 mk_X10_its (by decide) (by first | assumption | exact ⟨by decide, rfl⟩) (by decide) rfl (Nat.le_of_ble_eq_true rfl) dX10_isSure_14 rfl (c_X10_its (E := 3) rfl rfl (by omega)) ?_
  refine x_imul (pc' := 18) dX10_isSure_17 rfl ?_
  refine x_icmp_ge (tgt := 25) (pc' := 21) (by decide) dX10_isSure_18 rfl (fun c18 => ?_) (fun c18 => ?_)
  · refine x_iconst (v := 0) (pc' := 26) (by decide) dX10_isSure_25 rfl ?_
    exact x_zret rfl (by first | rfl | exact b01_nar _ | exact pb_nar _) dX10_isSure_26 (ret_i (pb_0 (fun q => i_nlt.mpr (e3 ▸ c18) q)).symm)
  · refine x_iconst (v := 1) (pc' := 22) (by decide) dX10_isSure_21 rfl ?_
    refine x_goto (tgt := 26) (by decide) dX10_isSure_22 ?_
    exact x_zret rfl (by first | rfl | exact b01_nar _ | exact pb_nar _) dX10_isSure_26 (ret_i (pb_1 (i_nle.mp (e3 ▸ c18))).symm)
set_option maxRecDepth 100000 in
set_option maxHeartbeats 4000000 in
theorem v_X10_isSure {σ : St} {v0 : Nat → Int32} (hs : σ.1 19 = v0) {g c r : Int32} {G K R : Nat} (hv : Ok v0) (hG : G < cN v0) (hg : g = nI G) (hc : c = nI K) (hr : r = nI R) (hK : K + 1 < fN v0 G 4) (hR : R + 1 < fN v0 G 5) : Ct yX10_isSure M_X10_isSure [.ref 18, .int g, .int c, .int r] σ (some (.int (pb (sureS v0 G K R))), σ) := by
  subst hs
  exact c_X10_isSure hv hG hg hc hr hK hR
set_option maxRecDepth 100000 in
set_option maxHeartbeats 4000000 in
theorem c_X10_corner {σ : St} {g c r k0 w : Int32} {G K R k W : Nat} (hv : Ok (σ.1 19)) (hG : G < cN (σ.1 19)) (hg : g = nI G) (hc : c = nI K) (hr : r = nI R) (hK : K + 1 < fN (σ.1 19) G 4) (hR : R + 1 < fN (σ.1 19) G 5) (hk0 : k0 = nI k) (hk : k < 8) (hw : w = nI W) (hW : W < 2) : Ct yX10_corner M_X10_corner [.ref 18, .int g, .int c, .int r, .int k0, .int w] σ (some (.long (corS (σ.1 19) G K R k W)), σ) := by
  subst hg
  subst hc
  subst hr
  obtain ⟨g6, c5, r5, c2, r2, s1, s64⟩ := hv.b hG
  have hf := hv.F hG
  subst hw
  subst hk0
  have i1 := ik_le k
  have j1 := jk_le k
  have hk4 : k % 4 < 4 := Nat.mod_lt _ (by decide)
  have k56 : Ex M_X10_corner (some (.long (corS (σ.1 19) G K R k W)), σ) 56 [some (.ref 18), some (.int (nI G)), some (.int (nI K)), some (.int (nI R)), some (.int (nI k)), some (.int (nI W)), some (.int (nI (K + ik k))), some (.int (nI (R + jk k)))] [.int (nI (if W = 0 then K + ik k else R + jk k)), .int (nI G), .ref 18] σ := by
    refine x_iload (pc' := 58) rfl dX10_corner_56 rfl ?_
    refine x_callVi (As := [.int _, .int _, .int _]) (rest := []) (ci := 9) (pc' := 61) rfl vk_X10_66 mk_X10_stands (by decide) (by first | assumption | exact ⟨by decide, rfl⟩) (by decide) rfl (Nat.le_of_ble_eq_true rfl) dX10_corner_58 rfl (c_X10_stands hf rfl rfl rfl g6 hW) ?_
    refine x_aload_n (pc' := 62) rfl dX10_corner_61 rfl ?_
    refine x_iload_n (pc' := 63) rfl dX10_corner_62 rfl ?_
    refine x_iload (pc' := 65) rfl dX10_corner_63 rfl ?_
    refine x_iload (pc' := 67) rfl dX10_corner_65 rfl ?_
    refine x_iload (pc' := 69) rfl dX10_corner_67 rfl ?_
    refine x_callVi (As := [.int _, .int _, .int _, .int _]) (rest := [.int _]) (ci := 9) (pc' := 72) rfl vk_X10_87 mk_X10_off (by decide) (by first | assumption | exact ⟨by decide, rfl⟩) (by decide) rfl (Nat.le_of_ble_eq_true rfl) dX10_corner_69 rfl (c_X10_off rfl rfl rfl rfl (by omega)) ?_
    refine x_iadd (pc' := 73) dX10_corner_72 rfl ?_
    refine x_i2l (pc' := 74) dX10_corner_73 rfl ?_
    exact x_lret rfl dX10_corner_74 rfl
  have k39 : Ex M_X10_corner (some (.long (corS (σ.1 19) G K R k W)), σ) 39 [some (.ref 18), some (.int (nI G)), some (.int (nI K)), some (.int (nI R)), some (.int (nI k)), some (.int (nI W)), some (.int (nI (K + ik k))), none] [.int (nI (jk k)), .int (nI R)] σ := by
    refine x_iadd (pc' := 40) dX10_corner_39 rfl ?_
    refine x_top (nI_add _ _) ?_
    refine x_istore (lv' := [_, _, _, _, _, _, _, _]) (pc' := 42) (by decide) rfl dX10_corner_40 rfl ?_
    refine x_aload_n (pc' := 43) rfl dX10_corner_42 rfl ?_
    refine x_iload_n (pc' := 44) rfl dX10_corner_43 rfl ?_
    refine x_iload (pc' := 46) rfl dX10_corner_44 rfl ?_
    refine x_if_ne (tgt := 54) (pc' := 49) (by decide) dX10_corner_46 rfl (fun c46 => ?_) (fun c46 => ?_)
    · refine x_iload (pc' := 56) rfl dX10_corner_54 rfl ?_
      exact x_top (by rw [if_neg (fun q => c46 (by rw [q]; rfl))]) k56
    · refine x_iload (pc' := 51) rfl dX10_corner_49 rfl ?_
      refine x_goto (tgt := 56) (by decide) dX10_corner_51 ?_
      exact x_top (by rw [if_pos ((nI_eqZ (by omega)).mp c46)]) k56
  have k22 : Ex M_X10_corner (some (.long (corS (σ.1 19) G K R k W)), σ) 22 [some (.ref 18), some (.int (nI G)), some (.int (nI K)), some (.int (nI R)), some (.int (nI k)), some (.int (nI W)), none, none] [.int (nI (ik k)), .int (nI K)] σ := by
    refine x_iadd (pc' := 23) dX10_corner_22 rfl ?_
    refine x_top (nI_add _ _) ?_
    refine x_istore (lv' := [_, _, _, _, _, _, _, _]) (pc' := 25) (by decide) rfl dX10_corner_23 rfl ?_
    refine x_iload_n (pc' := 26) rfl dX10_corner_25 rfl ?_
    refine x_iload (pc' := 28) rfl dX10_corner_26 rfl ?_
    refine x_iconst (v := 4) (pc' := 29) (by decide) dX10_corner_28 rfl ?_
    refine x_irem (pc' := 30) (by decide) dX10_corner_29 rfl ?_
    refine x_top (y := nI (k % 4)) (pk_rem (d := 4) (by omega) (by decide) (by decide)) ?_
    refine x_iconst (v := 1) (pc' := 31) (by decide) dX10_corner_30 rfl ?_
    refine x_icmp_le (tgt := 38) (pc' := 34) (by decide) dX10_corner_31 rfl (fun c31 => ?_) (fun c31 => ?_)
    · refine x_iconst (v := 0) (pc' := 39) (by decide) dX10_corner_38 rfl ?_
      exact x_top (by rw [jk, if_neg (fun q => (i_nlt.mpr c31) (nI_lt (a := 1) q (by omega)))]; rfl) k39
    · refine x_iconst (v := 1) (pc' := 35) (by decide) dX10_corner_34 rfl ?_
      refine x_goto (tgt := 39) (by decide) dX10_corner_35 ?_
      exact x_top (by rw [jk, if_pos ((nI_ltI (a := 1) (by decide) (by omega)).mp (i_nle.mp c31))]; rfl) k39
  refine ct_of (k := 2) rfl rfl rfl (Nat.le_of_ble_eq_true rfl) ?_
  refine x_iload_n (pc' := 1) rfl dX10_corner_0 rfl ?_
  refine x_iload (pc' := 3) rfl dX10_corner_1 rfl ?_
  refine x_iconst (v := 4) (pc' := 4) (by decide) dX10_corner_3 rfl ?_
  refine x_irem (pc' := 5) (by decide) dX10_corner_4 rfl ?_
  refine x_top (y := nI (k % 4)) (pk_rem (d := 4) (by omega) (by decide) (by decide)) ?_
  refine x_iconst (v := 1) (pc' := 6) (by decide) dX10_corner_5 rfl ?_
  refine x_icmp_eq (tgt := 17) (pc' := 9) (by decide) dX10_corner_6 rfl (fun c6 => ?_) (fun c6 => ?_)
  · refine x_iconst (v := 1) (pc' := 18) (by decide) dX10_corner_17 rfl ?_
    refine x_goto (tgt := 22) (by decide) dX10_corner_18 ?_
    exact x_top (by rw [ik, if_pos (Or.inl ((nI_eq (b := 1) (by omega) (by decide)).mp c6))]; rfl) k22
  · refine x_iload (pc' := 11) rfl dX10_corner_9 rfl ?_
    refine x_iconst (v := 4) (pc' := 12) (by decide) dX10_corner_11 rfl ?_
    refine x_irem (pc' := 13) (by decide) dX10_corner_12 rfl ?_
    refine x_top (y := nI (k % 4)) (pk_rem (d := 4) (by omega) (by decide) (by decide)) ?_
    refine x_iconst (v := 2) (pc' := 14) (by decide) dX10_corner_13 rfl ?_
    refine x_icmp_ne (tgt := 21) (pc' := 17) (by decide) dX10_corner_14 rfl (fun c14 => ?_) (fun c14 => ?_)
    · refine x_iconst (v := 0) (pc' := 22) (by decide) dX10_corner_21 rfl ?_
      exact x_top (by rw [ik, if_neg (fun q => q.elim (fun h => c6 (by rw [h]; rfl)) (fun h => c14 (by rw [h]; rfl)))]; rfl) k22
    · refine x_iconst (v := 1) (pc' := 18) (by decide) dX10_corner_17 rfl ?_
      refine x_goto (tgt := 22) (by decide) dX10_corner_18 ?_
      exact x_top (by rw [ik, if_pos (Or.inr ((nI_eq (b := 2) (by omega) (by decide)).mp c14))]; rfl) k22
set_option maxRecDepth 100000 in
set_option maxHeartbeats 4000000 in
theorem c_X10_cross {σ : St} {g c r x y : Int32} {G K R a b : Nat} (hv : Ok (σ.1 19)) (hG : G < cN (σ.1 19)) (hg : g = nI G) (hc : c = nI K) (hr : r = nI R) (hK : K + 1 < fN (σ.1 19) G 4) (hR : R + 1 < fN (σ.1 19) G 5) (ha : x = nI a) (hla : a < 8) (hb : y = nI b) (hlb : b < 8) : Ct yX10_cross M_X10_cross [.ref 18, .int g, .int c, .int r, .int x, .int y] σ (some (.long (crossS (σ.1 19) G K R a b)), σ) := by
  refine ct_of (k := 0) rfl rfl rfl (Nat.le_of_ble_eq_true rfl) ?_
  refine x_aload_n (pc' := 1) rfl dX10_cross_0 rfl ?_
  refine x_iload_n (pc' := 2) rfl dX10_cross_1 rfl ?_
  refine x_iload_n (pc' := 3) rfl dX10_cross_2 rfl ?_
  refine x_iload_n (pc' := 4) rfl dX10_cross_3 rfl ?_
  refine x_iload (pc' := 6) rfl dX10_cross_4 rfl ?_
  refine x_iconst (v := 0) (pc' := 7) (by decide) dX10_cross_6 rfl ?_
  refine x_callVi (As := [.int _, .int _, .int _, .int _, .int _]) (rest := []) (ci := 9) (pc' := 10) rfl vk_X10_129 mk_X10_corner (by decide) (by first | assumption | exact ⟨by decide, rfl⟩) (by decide) rfl (Nat.le_of_ble_eq_true rfl) dX10_cross_7 rfl (c_X10_corner hv hG hg hc hr hK hR (k := a) (W := 0) ha hla rfl (by decide)) ?_
  refine x_aload_n (pc' := 11) rfl dX10_cross_10 rfl ?_
  refine x_iload_n (pc' := 12) rfl dX10_cross_11 rfl ?_
  refine x_iload_n (pc' := 13) rfl dX10_cross_12 rfl ?_
  refine x_iload_n (pc' := 14) rfl dX10_cross_13 rfl ?_
  refine x_iload (pc' := 16) rfl dX10_cross_14 rfl ?_
  refine x_iconst (v := 1) (pc' := 17) (by decide) dX10_cross_16 rfl ?_
  refine x_callVi (As := [.int _, .int _, .int _, .int _, .int _]) (rest := [.long _]) (ci := 9) (pc' := 20) rfl vk_X10_129 mk_X10_corner (by decide) (by first | assumption | exact ⟨by decide, rfl⟩) (by decide) rfl (Nat.le_of_ble_eq_true rfl) dX10_cross_17 rfl (c_X10_corner hv hG hg hc hr hK hR (k := b) (W := 1) hb hlb rfl (by decide)) ?_
  refine x_lmul (pc' := 21) dX10_cross_20 rfl ?_
  refine x_aload_n (pc' := 22) rfl dX10_cross_21 rfl ?_
  refine x_iload_n (pc' := 23) rfl dX10_cross_22 rfl ?_
  refine x_iload_n (pc' := 24) rfl dX10_cross_23 rfl ?_
  refine x_iload_n (pc' := 25) rfl dX10_cross_24 rfl ?_
  refine x_iload (pc' := 27) rfl dX10_cross_25 rfl ?_
  refine x_iconst (v := 0) (pc' := 28) (by decide) dX10_cross_27 rfl ?_
  refine x_callVi (As := [.int _, .int _, .int _, .int _, .int _]) (rest := [.long _]) (ci := 9) (pc' := 31) rfl vk_X10_129 mk_X10_corner (by decide) (by first | assumption | exact ⟨by decide, rfl⟩) (by decide) rfl (Nat.le_of_ble_eq_true rfl) dX10_cross_28 rfl (c_X10_corner hv hG hg hc hr hK hR (k := b) (W := 0) hb hlb rfl (by decide)) ?_
  refine x_aload_n (pc' := 32) rfl dX10_cross_31 rfl ?_
  refine x_iload_n (pc' := 33) rfl dX10_cross_32 rfl ?_
  refine x_iload_n (pc' := 34) rfl dX10_cross_33 rfl ?_
  refine x_iload_n (pc' := 35) rfl dX10_cross_34 rfl ?_
  refine x_iload (pc' := 37) rfl dX10_cross_35 rfl ?_
  refine x_iconst (v := 1) (pc' := 38) (by decide) dX10_cross_37 rfl ?_
  refine x_callVi (As := [.int _, .int _, .int _, .int _, .int _]) (rest := [.long _, .long _]) (ci := 9) (pc' := 41) rfl vk_X10_129 mk_X10_corner (by decide) (by first | assumption | exact ⟨by decide, rfl⟩) (by decide) rfl (Nat.le_of_ble_eq_true rfl) dX10_cross_38 rfl (c_X10_corner hv hG hg hc hr hK hR (k := a) (W := 1) ha hla rfl (by decide)) ?_
  refine x_lmul (pc' := 42) dX10_cross_41 rfl ?_
  refine x_lsub (pc' := 43) dX10_cross_42 rfl ?_
  exact x_lret rfl dX10_cross_43 rfl
set_option maxRecDepth 100000 in
set_option maxHeartbeats 4000000 in
theorem v_X10_cross {σ : St} {v0 : Nat → Int32} (hs : σ.1 19 = v0) {g c r x y : Int32} {G K R a b : Nat} (hv : Ok v0) (hG : G < cN v0) (hg : g = nI G) (hc : c = nI K) (hr : r = nI R) (hK : K + 1 < fN v0 G 4) (hR : R + 1 < fN v0 G 5) (ha : x = nI a) (hla : a < 8) (hb : y = nI b) (hlb : b < 8) : Ct yX10_cross M_X10_cross [.ref 18, .int g, .int c, .int r, .int x, .int y] σ (some (.long (crossS v0 G K R a b)), σ) := by
  subst hs
  exact c_X10_cross hv hG hg hc hr hK hR ha hla hb hlb
set_option maxRecDepth 100000 in
set_option maxHeartbeats 4000000 in
theorem c_X10_area {σ : St} {g c r : Int32} {G K R : Nat} (hv : Ok (σ.1 19)) (hG : G < cN (σ.1 19)) (hg : g = nI G) (hc : c = nI K) (hr : r = nI R) (hK : K + 1 < fN (σ.1 19) G 4) (hR : R + 1 < fN (σ.1 19) G 5) : Ct yX10_area M_X10_area [.ref 18, .int g, .int c, .int r] σ (some (.long (areaS (σ.1 19) G K R)), σ) := by
  refine ct_of (k := 0) rfl rfl rfl (Nat.le_of_ble_eq_true rfl) ?_
  refine x_aload_n (pc' := 1) rfl dX10_area_0 rfl ?_
  refine x_iload_n (pc' := 2) rfl dX10_area_1 rfl ?_
  refine x_iload_n (pc' := 3) rfl dX10_area_2 rfl ?_
  refine x_iload_n (pc' := 4) rfl dX10_area_3 rfl ?_
  refine x_iconst (v := 0) (pc' := 5) (by decide) dX10_area_4 rfl ?_
  refine x_iconst (v := 1) (pc' := 6) (by decide) dX10_area_5 rfl ?_
  refine x_callVi (As := [.int _, .int _, .int _, .int _, .int _]) (rest := []) (ci := 9) (pc' := 9) rfl vk_X10_133 mk_X10_cross (by decide) (by first | assumption | exact ⟨by decide, rfl⟩) (by decide) rfl (Nat.le_of_ble_eq_true rfl) dX10_area_6 rfl (c_X10_cross hv hG hg hc hr hK hR (a := 0) (b := 1) rfl (by omega) rfl (by omega)) ?_
  refine x_aload_n (pc' := 10) rfl dX10_area_9 rfl ?_
  refine x_iload_n (pc' := 11) rfl dX10_area_10 rfl ?_
  refine x_iload_n (pc' := 12) rfl dX10_area_11 rfl ?_
  refine x_iload_n (pc' := 13) rfl dX10_area_12 rfl ?_
  refine x_iconst (v := 1) (pc' := 14) (by decide) dX10_area_13 rfl ?_
  refine x_iconst (v := 2) (pc' := 15) (by decide) dX10_area_14 rfl ?_
  refine x_callVi (As := [.int _, .int _, .int _, .int _, .int _]) (rest := [.long _]) (ci := 9) (pc' := 18) rfl vk_X10_133 mk_X10_cross (by decide) (by first | assumption | exact ⟨by decide, rfl⟩) (by decide) rfl (Nat.le_of_ble_eq_true rfl) dX10_area_15 rfl (c_X10_cross hv hG hg hc hr hK hR (a := 1) (b := 2) rfl (by omega) rfl (by omega)) ?_
  refine x_ladd (pc' := 19) dX10_area_18 rfl ?_
  refine x_aload_n (pc' := 20) rfl dX10_area_19 rfl ?_
  refine x_iload_n (pc' := 21) rfl dX10_area_20 rfl ?_
  refine x_iload_n (pc' := 22) rfl dX10_area_21 rfl ?_
  refine x_iload_n (pc' := 23) rfl dX10_area_22 rfl ?_
  refine x_iconst (v := 2) (pc' := 24) (by decide) dX10_area_23 rfl ?_
  refine x_iconst (v := 3) (pc' := 25) (by decide) dX10_area_24 rfl ?_
  refine x_callVi (As := [.int _, .int _, .int _, .int _, .int _]) (rest := [.long _]) (ci := 9) (pc' := 28) rfl vk_X10_133 mk_X10_cross (by decide) (by first | assumption | exact ⟨by decide, rfl⟩) (by decide) rfl (Nat.le_of_ble_eq_true rfl) dX10_area_25 rfl (c_X10_cross hv hG hg hc hr hK hR (a := 2) (b := 3) rfl (by omega) rfl (by omega)) ?_
  refine x_ladd (pc' := 29) dX10_area_28 rfl ?_
  refine x_aload_n (pc' := 30) rfl dX10_area_29 rfl ?_
  refine x_iload_n (pc' := 31) rfl dX10_area_30 rfl ?_
  refine x_iload_n (pc' := 32) rfl dX10_area_31 rfl ?_
  refine x_iload_n (pc' := 33) rfl dX10_area_32 rfl ?_
  refine x_iconst (v := 3) (pc' := 34) (by decide) dX10_area_33 rfl ?_
  refine x_iconst (v := 0) (pc' := 35) (by decide) dX10_area_34 rfl ?_
  refine x_callVi (As := [.int _, .int _, .int _, .int _, .int _]) (rest := [.long _]) (ci := 9) (pc' := 38) rfl vk_X10_133 mk_X10_cross (by decide) (by first | assumption | exact ⟨by decide, rfl⟩) (by decide) rfl (Nat.le_of_ble_eq_true rfl) dX10_area_35 rfl (c_X10_cross hv hG hg hc hr hK hR (a := 3) (b := 0) rfl (by omega) rfl (by omega)) ?_
  refine x_ladd (pc' := 39) dX10_area_38 rfl ?_
  exact x_lret rfl dX10_area_39 rfl
set_option maxRecDepth 100000 in
set_option maxHeartbeats 4000000 in
theorem v_X10_area {σ : St} {v0 : Nat → Int32} (hs : σ.1 19 = v0) {g c r : Int32} {G K R : Nat} (hv : Ok v0) (hG : G < cN v0) (hg : g = nI G) (hc : c = nI K) (hr : r = nI R) (hK : K + 1 < fN v0 G 4) (hR : R + 1 < fN v0 G 5) : Ct yX10_area M_X10_area [.ref 18, .int g, .int c, .int r] σ (some (.long (areaS v0 G K R)), σ) := by
  subst hs
  exact c_X10_area hv hG hg hc hr hK hR
set_option maxRecDepth 100000 in
set_option maxHeartbeats 4000000 in
theorem l_X10_isFolded {σ : St} {g c r : Int32} {G K R : Nat} (hv : Ok (σ.1 19)) (hG : G < cN (σ.1 19)) (hg : g = nI G) (hc : c = nI K) (hr : r = nI R) (hK : K + 1 < fN (σ.1 19) G 4) (hR : R + 1 < fN (σ.1 19) G 5) : ∀ (n k : Nat), k + n = 4 → Ex M_X10_isFolded (some (.int (pb (foldS (σ.1 19) G K R))), σ) 6 [some (.ref 18), some (.int g), some (.int c), some (.int r), some (.int (pb (∃ j, j < k ∧ fP (σ.1 19) G K R j))), some (.int (nI k))] [] σ := by
  intro n
  induction n with
  | zero =>
    intro k hk
    obtain rfl : k = 4 := by omega
    refine x_iload (pc' := 8) rfl dX10_isFolded_6 rfl ?_
    refine x_iconst (v := 4) (pc' := 9) (by decide) dX10_isFolded_8 rfl ?_
    refine x_icmp_ge (tgt := 78) (pc' := 12) (by decide) dX10_isFolded_9 rfl (fun c9 => ?_) (fun c9 => absurd (by decide) c9)
    refine x_iload (pc' := 80) rfl dX10_isFolded_78 rfl ?_
    exact x_zret rfl (by first | rfl | exact b01_nar _ | exact pb_nar _) dX10_isFolded_80 rfl
  | succ n ih =>
    intro k hk
    refine x_iload (pc' := 8) rfl dX10_isFolded_6 rfl ?_
    refine x_iconst (v := 4) (pc' := 9) (by decide) dX10_isFolded_8 rfl ?_
    refine x_icmp_ge (tgt := 78) (pc' := 12) (by decide) dX10_isFolded_9 rfl (fun c9 => absurd c9 (nI_ge (b := 4) (by omega) (by decide))) (fun c9 => ?_)
    refine x_iload (pc' := 14) rfl dX10_isFolded_12 rfl ?_
    refine x_if_ne (tgt := 65) (pc' := 17) (by decide) dX10_isFolded_14 rfl (fun c14 => ?_) (fun c14 => ?_)
    · refine x_iconst (v := 1) (pc' := 66) (by decide) dX10_isFolded_65 rfl ?_
      refine x_goto (tgt := 70) (by decide) dX10_isFolded_66 ?_
      refine x_top (y := pb (∃ j, j < k + 1 ∧ fP (σ.1 19) G K R j)) ((pb_1 (Exists.elim (pb_n c14) (fun j hj => ⟨j, by omega, hj.2⟩))).symm) ?_
      refine x_istore (lv' := [_, _, _, _, _, _]) (pc' := 72) (by decide) rfl dX10_isFolded_70 rfl ?_
      refine x_iinc (lv' := [_, _, _, _, _, _]) (pc' := 75) rfl (nI_1 k) (by decide) rfl dX10_isFolded_72 rfl ?_
      refine x_goto (tgt := 6) (by decide) dX10_isFolded_75 ?_
      exact ih (k + 1) (by omega)
    · refine x_aload_n (pc' := 18) rfl dX10_isFolded_17 rfl ?_
      refine x_iload_n (pc' := 19) rfl dX10_isFolded_18 rfl ?_
      refine x_iload_n (pc' := 20) rfl dX10_isFolded_19 rfl ?_
      refine x_iload_n (pc' := 21) rfl dX10_isFolded_20 rfl ?_
      refine x_iload (pc' := 23) rfl dX10_isFolded_21 rfl ?_
      refine x_iload (pc' := 25) rfl dX10_isFolded_23 rfl ?_
      refine x_iconst (v := 1) (pc' := 26) (by decide) dX10_isFolded_25 rfl ?_
      refine x_iadd (pc' := 27) dX10_isFolded_26 rfl ?_
      refine x_callVi (As := [.int _, .int _, .int _, .int _, .int _]) (rest := []) (ci := 9) (pc' := 30) rfl vk_X10_133 mk_X10_cross (by decide) (by first | assumption | exact ⟨by decide, rfl⟩) (by decide) rfl (Nat.le_of_ble_eq_true rfl) dX10_isFolded_27 rfl (c_X10_cross hv hG hg hc hr hK hR (a := k) (b := k + 1) rfl (by omega) (nI_1 k) (by omega)) ?_
      refine x_aload_n (pc' := 31) rfl dX10_isFolded_30 rfl ?_
      refine x_iload_n (pc' := 32) rfl dX10_isFolded_31 rfl ?_
      refine x_iload_n (pc' := 33) rfl dX10_isFolded_32 rfl ?_
      refine x_iload_n (pc' := 34) rfl dX10_isFolded_33 rfl ?_
      refine x_iload (pc' := 36) rfl dX10_isFolded_34 rfl ?_
      refine x_iconst (v := 1) (pc' := 37) (by decide) dX10_isFolded_36 rfl ?_
      refine x_iadd (pc' := 38) dX10_isFolded_37 rfl ?_
      refine x_iload (pc' := 40) rfl dX10_isFolded_38 rfl ?_
      refine x_iconst (v := 2) (pc' := 41) (by decide) dX10_isFolded_40 rfl ?_
      refine x_iadd (pc' := 42) dX10_isFolded_41 rfl ?_
      refine x_callVi (As := [.int _, .int _, .int _, .int _, .int _]) (rest := [.long _]) (ci := 9) (pc' := 45) rfl vk_X10_133 mk_X10_cross (by decide) (by first | assumption | exact ⟨by decide, rfl⟩) (by decide) rfl (Nat.le_of_ble_eq_true rfl) dX10_isFolded_42 rfl (c_X10_cross hv hG hg hc hr hK hR (a := k + 1) (b := k + 2) (nI_1 k) (by omega) (nI_add k 2) (by omega)) ?_
      refine x_ladd (pc' := 46) dX10_isFolded_45 rfl ?_
      refine x_aload_n (pc' := 47) rfl dX10_isFolded_46 rfl ?_
      refine x_iload_n (pc' := 48) rfl dX10_isFolded_47 rfl ?_
      refine x_iload_n (pc' := 49) rfl dX10_isFolded_48 rfl ?_
      refine x_iload_n (pc' := 50) rfl dX10_isFolded_49 rfl ?_
      refine x_iload (pc' := 52) rfl dX10_isFolded_50 rfl ?_
      refine x_iconst (v := 2) (pc' := 53) (by decide) dX10_isFolded_52 rfl ?_
      refine x_iadd (pc' := 54) dX10_isFolded_53 rfl ?_
      refine x_iload (pc' := 56) rfl dX10_isFolded_54 rfl ?_
      refine x_callVi (As := [.int _, .int _, .int _, .int _, .int _]) (rest := [.long _]) (ci := 9) (pc' := 59) rfl vk_X10_133 mk_X10_cross (by decide) (by first | assumption | exact ⟨by decide, rfl⟩) (by decide) rfl (Nat.le_of_ble_eq_true rfl) dX10_isFolded_56 rfl (c_X10_cross hv hG hg hc hr hK hR (a := k + 2) (b := k) (nI_add k 2) (by omega) rfl (by omega)) ?_
      refine x_ladd (pc' := 60) dX10_isFolded_59 rfl ?_
      refine x_lconst (v := 0) (pc' := 61) (by decide) dX10_isFolded_60 rfl ?_
      refine x_lcmp (pc' := 62) dX10_isFolded_61 rfl ?_
      refine x_if_gt (tgt := 69) (pc' := 65) (by decide) dX10_isFolded_62 rfl (fun c62 => ?_) (fun c62 => ?_)
      · refine x_iconst (v := 0) (pc' := 70) (by decide) dX10_isFolded_69 rfl ?_
        refine x_top (y := pb (∃ j, j < k + 1 ∧ fP (σ.1 19) G K R j)) ((pb_0 (fun ⟨j, h1, h2⟩ => (Nat.lt_succ_iff_lt_or_eq.mp h1).elim (fun h => pb_iff.mp c14 ⟨j, h, h2⟩) (fun h => l_nle.mpr ((lg_cmp_gt _ _).mp c62) (h ▸ h2)))).symm) ?_
        refine x_istore (lv' := [_, _, _, _, _, _]) (pc' := 72) (by decide) rfl dX10_isFolded_70 rfl ?_
        refine x_iinc (lv' := [_, _, _, _, _, _]) (pc' := 75) rfl (nI_1 k) (by decide) rfl dX10_isFolded_72 rfl ?_
        refine x_goto (tgt := 6) (by decide) dX10_isFolded_75 ?_
        exact ih (k + 1) (by omega)
      · refine x_iconst (v := 1) (pc' := 66) (by decide) dX10_isFolded_65 rfl ?_
        refine x_goto (tgt := 70) (by decide) dX10_isFolded_66 ?_
        refine x_top (y := pb (∃ j, j < k + 1 ∧ fP (σ.1 19) G K R j)) ((pb_1 ⟨k, by omega, l_nlt.mp (fun q => c62 ((lg_cmp_gt _ _).mpr q))⟩).symm) ?_
        refine x_istore (lv' := [_, _, _, _, _, _]) (pc' := 72) (by decide) rfl dX10_isFolded_70 rfl ?_
        refine x_iinc (lv' := [_, _, _, _, _, _]) (pc' := 75) rfl (nI_1 k) (by decide) rfl dX10_isFolded_72 rfl ?_
        refine x_goto (tgt := 6) (by decide) dX10_isFolded_75 ?_
        exact ih (k + 1) (by omega)
set_option maxRecDepth 100000 in
set_option maxHeartbeats 4000000 in
theorem c_X10_isFolded {σ : St} {g c r : Int32} {G K R : Nat} (hv : Ok (σ.1 19)) (hG : G < cN (σ.1 19)) (hg : g = nI G) (hc : c = nI K) (hr : r = nI R) (hK : K + 1 < fN (σ.1 19) G 4) (hR : R + 1 < fN (σ.1 19) G 5) : Ct yX10_isFolded M_X10_isFolded [.ref 18, .int g, .int c, .int r] σ (some (.int (pb (foldS (σ.1 19) G K R))), σ) := by
  refine ct_of (k := 2) rfl rfl rfl (Nat.le_of_ble_eq_true rfl) ?_
  refine x_iconst (v := 0) (pc' := 1) (by decide) dX10_isFolded_0 rfl ?_
  refine x_top (y := pb (∃ j, j < 0 ∧ fP (σ.1 19) G K R j)) (pb_0 (fun ⟨j, h, _⟩ => absurd h (by omega))).symm ?_
  refine x_istore (lv' := [_, _, _, _, _, _]) (pc' := 3) (by decide) rfl dX10_isFolded_1 rfl ?_
  refine x_iconst (v := 0) (pc' := 4) (by decide) dX10_isFolded_3 rfl ?_
  refine x_istore (lv' := [_, _, _, _, _, _]) (pc' := 6) (by decide) rfl dX10_isFolded_4 rfl ?_
  exact l_X10_isFolded hv hG hg hc hr hK hR 4 0 rfl
set_option maxRecDepth 100000 in
set_option maxHeartbeats 4000000 in
theorem v_X10_isFolded {σ : St} {v0 : Nat → Int32} (hs : σ.1 19 = v0) {g c r : Int32} {G K R : Nat} (hv : Ok v0) (hG : G < cN v0) (hg : g = nI G) (hc : c = nI K) (hr : r = nI R) (hK : K + 1 < fN v0 G 4) (hR : R + 1 < fN v0 G 5) : Ct yX10_isFolded M_X10_isFolded [.ref 18, .int g, .int c, .int r] σ (some (.int (pb (foldS v0 G K R))), σ) := by
  subst hs
  exact c_X10_isFolded hv hG hg hc hr hK hR
def cellQ (v : Nat → Int32) (g : Nat) (z : Int32) (c r : Nat) : Prop := (¬ z = 0 ∧ foldS v g c r) ∨ (z = 0 ∧ ¬ sureS v g c r)
noncomputable def cellK (v : Nat → Int32) (g : Nat) (z : Int32) (c r : Nat) : Nat := pif (cellQ v g z c r) 1 0
noncomputable def cellN (v : Nat → Int32) (g : Nat) (z : Int32) : Nat := sumN (fun c => sumN (fun r => cellK v g z c r) (fN v g 5 - 1)) (fN v g 4 - 1)
set_option maxRecDepth 100000 in
set_option maxHeartbeats 4000000 in
theorem l_X10_cells1 {σ : St} {z : Int32} {G c a : Nat} {out : Option Value × St} (hv : Ok (σ.1 19)) (hG : G < cN (σ.1 19)) (hc : c + 1 < fN (σ.1 19) G 4) (kk : Ex M_X10_cells out 79 [some (.ref 18), some (.int (nI G)), some (.int z), some (.int (nI (a + sumN (fun r => cellK (σ.1 19) G z c r) (fN (σ.1 19) G 5 - 1)))), some (.int (nI (c))), some (.int (nI (fN (σ.1 19) G 5 - 1)))] [] σ) : ∀ (n r : Nat), r + n = fN (σ.1 19) G 5 - 1 → Ex M_X10_cells out 21 [some (.ref 18), some (.int (nI G)), some (.int z), some (.int (nI (a + sumN (fun r => cellK (σ.1 19) G z c r) r))), some (.int (nI (c))), some (.int (nI r))] [] σ := by
  intro n
  induction n with
  | zero =>
    intro r hr
    obtain ⟨g6, c5, r5, c2, r2, s1, s64⟩ := hv.b hG
    have hf := hv.F hG
    have e4 : σ.1 19 (2 + 6 * G + 4) - 1 = nI (fN (σ.1 19) G 4 - 1) := by rw [hf.at (by omega) (by omega)]; exact pk_sub (b := 1) (by omega)
    have e5 : σ.1 19 (2 + 6 * G + 5) - 1 = nI (fN (σ.1 19) G 5 - 1) := by rw [hf.at (by omega) (by omega)]; exact pk_sub (b := 1) (by omega)
    obtain rfl : r = fN (σ.1 19) G 5 - 1 := by omega
    refine x_iload (pc' := 23) rfl dX10_cells_21 rfl ?_
    refine x_aload_n (pc' := 24) rfl dX10_cells_23 rfl ?_
    refine x_iload_n (pc' := 25) rfl dX10_cells_24 rfl ?_
    refine x_iconst (v := 5) (pc' := 26) (by decide) dX10_cells_25 rfl ?_
    refine x_callVi (As := [.int _, .int _]) (rest := [.int _]) (ci := 9) (pc' := 29) rfl vk_X10_58 mk_X10_its (by decide) (by first | assumption | exact ⟨by decide, rfl⟩) (by decide) rfl (Nat.le_of_ble_eq_true rfl) dX10_cells_26 rfl (c_X10_its (E := 5) rfl rfl (by omega)) ?_
    refine x_iconst (v := 1) (pc' := 30) (by decide) dX10_cells_29 rfl ?_
    refine x_isub (pc' := 31) dX10_cells_30 rfl ?_
    refine x_icmp_ge (tgt := 79) (pc' := 34) (by decide) dX10_cells_31 rfl (fun c31 => ?_) (fun c31 => absurd (by rw [e5]; exact nI_le (by omega) (by omega)) c31)
    exact kk
  | succ n ih =>
    intro r hr
    obtain ⟨g6, c5, r5, c2, r2, s1, s64⟩ := hv.b hG
    have hf := hv.F hG
    have e4 : σ.1 19 (2 + 6 * G + 4) - 1 = nI (fN (σ.1 19) G 4 - 1) := by rw [hf.at (by omega) (by omega)]; exact pk_sub (b := 1) (by omega)
    have e5 : σ.1 19 (2 + 6 * G + 5) - 1 = nI (fN (σ.1 19) G 5 - 1) := by rw [hf.at (by omega) (by omega)]; exact pk_sub (b := 1) (by omega)
    refine x_iload (pc' := 23) rfl dX10_cells_21 rfl ?_
    refine x_aload_n (pc' := 24) rfl dX10_cells_23 rfl ?_
    refine x_iload_n (pc' := 25) rfl dX10_cells_24 rfl ?_
    refine x_iconst (v := 5) (pc' := 26) (by decide) dX10_cells_25 rfl ?_
    refine x_callVi (As := [.int _, .int _]) (rest := [.int _]) (ci := 9) (pc' := 29) rfl vk_X10_58 mk_X10_its (by decide) (by first | assumption | exact ⟨by decide, rfl⟩) (by decide) rfl (Nat.le_of_ble_eq_true rfl) dX10_cells_26 rfl (c_X10_its (E := 5) rfl rfl (by omega)) ?_
    refine x_iconst (v := 1) (pc' := 30) (by decide) dX10_cells_29 rfl ?_
    refine x_isub (pc' := 31) dX10_cells_30 rfl ?_
    refine x_icmp_ge (tgt := 79) (pc' := 34) (by decide) dX10_cells_31 rfl (fun c31 => absurd c31 (by rw [e5]; exact nI_ge (by omega) (by omega))) (fun c31 => ?_)
    refine x_iload_n (pc' := 35) rfl dX10_cells_34 rfl ?_
    refine x_iload_n (pc' := 36) rfl dX10_cells_35 rfl ?_
    refine x_if_eq (tgt := 54) (pc' := 39) (by decide) dX10_cells_36 rfl (fun c36 => ?_) (fun c36 => ?_)
    · refine x_aload_n (pc' := 55) rfl dX10_cells_54 rfl ?_
      refine x_iload_n (pc' := 56) rfl dX10_cells_55 rfl ?_
      refine x_iload (pc' := 58) rfl dX10_cells_56 rfl ?_
      refine x_iload (pc' := 60) rfl dX10_cells_58 rfl ?_
      refine x_callVi (As := [.int _, .int _, .int _]) (rest := [.int _]) (ci := 9) (pc' := 63) rfl vk_X10_139 mk_X10_isSure (by decide) (by first | assumption | exact ⟨by decide, rfl⟩) (by decide) rfl (Nat.le_of_ble_eq_true rfl) dX10_cells_60 rfl (c_X10_isSure hv hG rfl rfl rfl hc (by omega)) ?_
      refine x_if_ne (tgt := 70) (pc' := 66) (by decide) dX10_cells_63 rfl (fun c63 => ?_) (fun c63 => ?_)
      · refine x_iconst (v := 0) (pc' := 71) (by decide) dX10_cells_70 rfl ?_
        refine x_top (y := nI (cellK (σ.1 19) G z c r)) (by rw [cellK, pif_f (P := cellQ (σ.1 19) G z c r) (fun q => q.elim (fun h => h.1 c36) (fun h => h.2 (pb_n c63)))]; rfl) ?_
        refine x_iadd (pc' := 72) dX10_cells_71 rfl ?_
        refine x_top (y := nI (a + sumN (fun r => cellK (σ.1 19) G z c r) (r + 1))) (by rw [nI_add, Nat.add_assoc]; rfl) ?_
        refine x_istore_n (lv' := [_, _, _, _, _, _]) (pc' := 73) (by decide) rfl dX10_cells_72 rfl ?_
        refine x_iinc (lv' := [_, _, _, _, _, _]) (pc' := 76) rfl (nI_1 r) (by decide) rfl dX10_cells_73 rfl ?_
        refine x_goto (tgt := 21) (by decide) dX10_cells_76 ?_
        exact ih (r + 1) (by omega)
      · refine x_iconst (v := 1) (pc' := 67) (by decide) dX10_cells_66 rfl ?_
        refine x_goto (tgt := 71) (by decide) dX10_cells_67 ?_
        refine x_top (y := nI (cellK (σ.1 19) G z c r)) (by rw [cellK, pif_t (P := cellQ (σ.1 19) G z c r) (Or.inr ⟨c36, pb_iff.mp c63⟩)]; rfl) ?_
        refine x_iadd (pc' := 72) dX10_cells_71 rfl ?_
        refine x_top (y := nI (a + sumN (fun r => cellK (σ.1 19) G z c r) (r + 1))) (by rw [nI_add, Nat.add_assoc]; rfl) ?_
        refine x_istore_n (lv' := [_, _, _, _, _, _]) (pc' := 73) (by decide) rfl dX10_cells_72 rfl ?_
        refine x_iinc (lv' := [_, _, _, _, _, _]) (pc' := 76) rfl (nI_1 r) (by decide) rfl dX10_cells_73 rfl ?_
        refine x_goto (tgt := 21) (by decide) dX10_cells_76 ?_
        exact ih (r + 1) (by omega)
    · refine x_aload_n (pc' := 40) rfl dX10_cells_39 rfl ?_
      refine x_iload_n (pc' := 41) rfl dX10_cells_40 rfl ?_
      refine x_iload (pc' := 43) rfl dX10_cells_41 rfl ?_
      refine x_iload (pc' := 45) rfl dX10_cells_43 rfl ?_
      refine x_callVi (As := [.int _, .int _, .int _]) (rest := [.int _]) (ci := 9) (pc' := 48) rfl vk_X10_136 mk_X10_isFolded (by decide) (by first | assumption | exact ⟨by decide, rfl⟩) (by decide) rfl (Nat.le_of_ble_eq_true rfl) dX10_cells_45 rfl (c_X10_isFolded hv hG rfl rfl rfl hc (by omega)) ?_
      refine x_if_eq (tgt := 70) (pc' := 51) (by decide) dX10_cells_48 rfl (fun c48 => ?_) (fun c48 => ?_)
      · refine x_iconst (v := 0) (pc' := 71) (by decide) dX10_cells_70 rfl ?_
        refine x_top (y := nI (cellK (σ.1 19) G z c r)) (by rw [cellK, pif_f (P := cellQ (σ.1 19) G z c r) (fun q => q.elim (fun h => pb_iff.mp c48 h.2) (fun h => c36 h.1))]; rfl) ?_
        refine x_iadd (pc' := 72) dX10_cells_71 rfl ?_
        refine x_top (y := nI (a + sumN (fun r => cellK (σ.1 19) G z c r) (r + 1))) (by rw [nI_add, Nat.add_assoc]; rfl) ?_
        refine x_istore_n (lv' := [_, _, _, _, _, _]) (pc' := 73) (by decide) rfl dX10_cells_72 rfl ?_
        refine x_iinc (lv' := [_, _, _, _, _, _]) (pc' := 76) rfl (nI_1 r) (by decide) rfl dX10_cells_73 rfl ?_
        refine x_goto (tgt := 21) (by decide) dX10_cells_76 ?_
        exact ih (r + 1) (by omega)
      · refine x_goto (tgt := 66) (by decide) dX10_cells_51 ?_
        refine x_iconst (v := 1) (pc' := 67) (by decide) dX10_cells_66 rfl ?_
        refine x_goto (tgt := 71) (by decide) dX10_cells_67 ?_
        refine x_top (y := nI (cellK (σ.1 19) G z c r)) (by rw [cellK, pif_t (P := cellQ (σ.1 19) G z c r) (Or.inl ⟨c36, pb_n c48⟩)]; rfl) ?_
        refine x_iadd (pc' := 72) dX10_cells_71 rfl ?_
        refine x_top (y := nI (a + sumN (fun r => cellK (σ.1 19) G z c r) (r + 1))) (by rw [nI_add, Nat.add_assoc]; rfl) ?_
        refine x_istore_n (lv' := [_, _, _, _, _, _]) (pc' := 73) (by decide) rfl dX10_cells_72 rfl ?_
        refine x_iinc (lv' := [_, _, _, _, _, _]) (pc' := 76) rfl (nI_1 r) (by decide) rfl dX10_cells_73 rfl ?_
        refine x_goto (tgt := 21) (by decide) dX10_cells_76 ?_
        exact ih (r + 1) (by omega)
set_option maxRecDepth 100000 in
set_option maxHeartbeats 4000000 in
theorem l_X10_cells2 {σ : St} {z : Int32} {G : Nat} (hv : Ok (σ.1 19)) (hG : G < cN (σ.1 19)) : ∀ (n c : Nat) (B : Option Value), c + n = fN (σ.1 19) G 4 - 1 → Ex M_X10_cells (some (.int (nI (cellN (σ.1 19) G z))), σ) 5 [some (.ref 18), some (.int (nI G)), some (.int z), some (.int (nI (sumN (fun c => sumN (fun r => cellK (σ.1 19) G z c r) (fN (σ.1 19) G 5 - 1)) c))), some (.int (nI (c))), B] [] σ := by
  intro n
  induction n with
  | zero =>
    intro c B hc
    obtain ⟨g6, c5, r5, c2, r2, s1, s64⟩ := hv.b hG
    have hf := hv.F hG
    have e4 : σ.1 19 (2 + 6 * G + 4) - 1 = nI (fN (σ.1 19) G 4 - 1) := by rw [hf.at (by omega) (by omega)]; exact pk_sub (b := 1) (by omega)
    have e5 : σ.1 19 (2 + 6 * G + 5) - 1 = nI (fN (σ.1 19) G 5 - 1) := by rw [hf.at (by omega) (by omega)]; exact pk_sub (b := 1) (by omega)
    obtain rfl : c = fN (σ.1 19) G 4 - 1 := by omega
    refine x_iload (pc' := 7) rfl dX10_cells_5 rfl ?_
    refine x_aload_n (pc' := 8) rfl dX10_cells_7 rfl ?_
    refine x_iload_n (pc' := 9) rfl dX10_cells_8 rfl ?_
    refine x_iconst (v := 4) (pc' := 10) (by decide) dX10_cells_9 rfl ?_
    refine x_callVi (As := [.int _, .int _]) (rest := [.int _]) (ci := 9) (pc' := 13) rfl vk_X10_58 mk_X10_its (by decide) (by first | assumption | exact ⟨by decide, rfl⟩) (by decide) rfl (Nat.le_of_ble_eq_true rfl) dX10_cells_10 rfl (c_X10_its (E := 4) rfl rfl (by omega)) ?_
    refine x_iconst (v := 1) (pc' := 14) (by decide) dX10_cells_13 rfl ?_
    refine x_isub (pc' := 15) dX10_cells_14 rfl ?_
    refine x_icmp_ge (tgt := 85) (pc' := 18) (by decide) dX10_cells_15 rfl (fun c15 => ?_) (fun c15 => absurd (by rw [e4]; exact nI_le (by omega) (by omega)) c15)
    refine x_iload_n (pc' := 86) rfl dX10_cells_85 rfl ?_
    exact x_iret rfl dX10_cells_86 rfl
  | succ n ih =>
    intro c B hc
    obtain ⟨g6, c5, r5, c2, r2, s1, s64⟩ := hv.b hG
    have hf := hv.F hG
    have e4 : σ.1 19 (2 + 6 * G + 4) - 1 = nI (fN (σ.1 19) G 4 - 1) := by rw [hf.at (by omega) (by omega)]; exact pk_sub (b := 1) (by omega)
    have e5 : σ.1 19 (2 + 6 * G + 5) - 1 = nI (fN (σ.1 19) G 5 - 1) := by rw [hf.at (by omega) (by omega)]; exact pk_sub (b := 1) (by omega)
    refine x_iload (pc' := 7) rfl dX10_cells_5 rfl ?_
    refine x_aload_n (pc' := 8) rfl dX10_cells_7 rfl ?_
    refine x_iload_n (pc' := 9) rfl dX10_cells_8 rfl ?_
    refine x_iconst (v := 4) (pc' := 10) (by decide) dX10_cells_9 rfl ?_
    refine x_callVi (As := [.int _, .int _]) (rest := [.int _]) (ci := 9) (pc' := 13) rfl vk_X10_58 mk_X10_its (by decide) (by first | assumption | exact ⟨by decide, rfl⟩) (by decide) rfl (Nat.le_of_ble_eq_true rfl) dX10_cells_10 rfl (c_X10_its (E := 4) rfl rfl (by omega)) ?_
    refine x_iconst (v := 1) (pc' := 14) (by decide) dX10_cells_13 rfl ?_
    refine x_isub (pc' := 15) dX10_cells_14 rfl ?_
    refine x_icmp_ge (tgt := 85) (pc' := 18) (by decide) dX10_cells_15 rfl (fun c15 => absurd c15 (by rw [e4]; exact nI_ge (by omega) (by omega))) (fun c15 => ?_)
    refine x_iconst (v := 0) (pc' := 19) (by decide) dX10_cells_18 rfl ?_
    refine x_istore (lv' := [_, _, _, _, _, _]) (pc' := 21) (by decide) rfl dX10_cells_19 rfl ?_
    refine l_X10_cells1 (a := sumN (fun c => sumN (fun r => cellK (σ.1 19) G z c r) (fN (σ.1 19) G 5 - 1)) c) hv hG (by omega) ?_ _ 0 (Nat.zero_add _)
    refine x_iinc (lv' := [_, _, _, _, _, _]) (pc' := 82) rfl (nI_1 c) (by decide) rfl dX10_cells_79 rfl ?_
    refine x_goto (tgt := 5) (by decide) dX10_cells_82 ?_
    exact ih (c + 1) _ (by omega)
set_option maxRecDepth 100000 in
set_option maxHeartbeats 4000000 in
theorem c_X10_cells {σ : St} {g z : Int32} {G : Nat} (hv : Ok (σ.1 19)) (hG : G < cN (σ.1 19)) (hg : g = nI G) : Ct yX10_cells M_X10_cells [.ref 18, .int g, .int z] σ (some (.int (nI (cellN (σ.1 19) G z))), σ) := by
  subst hg
  refine ct_of (k := 3) rfl rfl rfl (Nat.le_of_ble_eq_true rfl) ?_
  refine x_iconst (v := 0) (pc' := 1) (by decide) dX10_cells_0 rfl ?_
  refine x_istore_n (lv' := [_, _, _, _, _, _]) (pc' := 2) (by decide) rfl dX10_cells_1 rfl ?_
  refine x_iconst (v := 0) (pc' := 3) (by decide) dX10_cells_2 rfl ?_
  refine x_istore (lv' := [_, _, _, _, _, _]) (pc' := 5) (by decide) rfl dX10_cells_3 rfl ?_
  exact l_X10_cells2 hv hG _ 0 _ (Nat.zero_add _)
set_option maxRecDepth 100000 in
set_option maxHeartbeats 4000000 in
theorem v_X10_cells {σ : St} {v0 : Nat → Int32} (hs : σ.1 19 = v0) {g z : Int32} {G : Nat} (hv : Ok v0) (hG : G < cN v0) (hg : g = nI G) : Ct yX10_cells M_X10_cells [.ref 18, .int g, .int z] σ (some (.int (nI (cellN v0 G z))), σ) := by
  subst hs
  exact c_X10_cells hv hG hg
