/-! ===== the class: Math, Grid ===== -/
set_option maxHeartbeats 4000000 in
theorem metF {l : Launch} {y : MethodName} {ws ws' : List Cond} {rm : Room} {Pc : Array Value → State → Prop} {Qc : Array Value → State → Outcome → State → Prop} {mc ms : Nat} {free : Addr → Prop} {cc : ByteArray} {maxL : Nat} {ret : Option FieldType}
    (hy : plainFor y = true) (hw : ws = Cond.code y cc maxL ret :: ws')
    (body : ∀ p e s m args below meth c s₁, BodyLoose p l y (headSpec ws rm) cc maxL ret e s m args below meth c s₁ → c.maxLocals = maxL → Pc args s →
      W p l e (headSpec ws rm).room s m args below meth c s.heap [] 0 0 (MQ below Qc args s mc ms free) (entryFrame m args maxL)) : Met l y ws rm Pc Qc mc ms free := by
  refine MetFree.of_bodySF (code := cc) (maxLocals := maxL) (ret := ret) hy ?_ ?_
  · intro args s m h hn
    obtain ⟨meth, c, h1, h2, h3, h4, h5, h6, -, -⟩ := Cond.code_spec hn (atoms_spec (ws := ws) h _ (by rw [hw]; exact List.mem_cons_self))
    exact ⟨meth, c, h1, h2, h3, h4, h5, h6⟩
  · intro p e s m args below meth c s₁ B hml hP _
    have hh0 : s₁.heap = s.heap := by rw [B.state]; rfl
    obtain ⟨t, a1, o, b1, b2, b3⟩ := body p e s m args below meth c s₁ B hml hP s₁ hh0 (Stand.of_body B)
    exact ⟨t, o, a1, b1, b2, ⟨b3.1, b3.2⟩⟩
set_option maxHeartbeats 4000000 in
theorem ct_ofF {y : MethodName} {M : MD} {as : List Value} {σ : St} {out : Option Value × St} {lv : List (Option Value)} {k : Nat} (hy : plainFor y = true) (hyc : y.cls = M.2.1) (hlv : lva as ++ List.replicate k none = lv) (hle : (lva as).length ≤ M.2.2.1) (hE : Ex M out 0 lv [] σ) : Ct y M as σ out := by
  intro l g
  refine metF (cc := M.1) (maxL := M.2.2.1) (ret := M.2.2.2.1) hy rfl ?_
  intro p e s m args below meth c s₁ B hml hv
  obtain ⟨rfl, hP, hK⟩ := hv
  have hts := atoms_spec (ws := .code y M.1 M.2.2.1 M.2.2.2.1 :: TT) B.pre
  have hown : s.vm.findClass M.2.1 = some m.cls := hyc ▸ findClass_of_methodNamed B.named
  have hl := lv_entry (as.map (cv g)) (n := M.2.2.1) (by rw [lva_len]; exact hle)
  rw [lg_entry_eq]
  refine hE g p l e s m _ below meth c ⟨B.exec, B.bytes, hml, hown, fun w hw => hts w (List.mem_cons_of_mem _ hw), B.returns, B.notSynchronized, hK⟩ s.heap [] _ hP va_S.rf ⟨hl.1, hl.2.1, fun i v hi => ?_⟩
  subst hlv
  have hi2 : (lva as)[i]? = some (some v) := by
    by_cases hlt : i < (lva as).length
    · rwa [List.getElem?_append_left hlt] at hi
    · rw [List.getElem?_append_right (by omega)] at hi
      have := List.mem_of_getElem? hi
      simp at this
  have := lva_get g as 0 i v hi2
  rw [Nat.zero_add] at this
  exact hl.2.2 _ this
def mn (a b : Int32) : Int32 := if b < a then b else a
theorem mn_nI {a b : Nat} (ha : a < 2 ^ 31) (hb : b < 2 ^ 31) : mn (nI a) (nI b) = nI (min a b) := by
  unfold mn
  by_cases h : nI b < nI a
  · rw [if_pos h, Nat.min_eq_right (Nat.le_of_lt ((nI_ltI hb ha).mp h))]
  · rw [if_neg h, Nat.min_eq_left (Nat.le_of_not_lt (fun q => h (nI_lt q ha)))]
set_option maxRecDepth 100000 in
set_option maxHeartbeats 4000000 in
theorem c_J9_min_7cf53 {σ : St} {x y : Int32} : Ct yJ9_min_7cf53 M_J9_min_7cf53 [.int x, .int y] σ (some (.int (mn x y)), σ) := by
  refine ct_ofF (k := 0) (by decide +kernel) rfl rfl (Nat.le_of_ble_eq_true rfl) ?_
  refine x_iload_n (pc' := 1) rfl dJ9_min_7cf53_0 rfl ?_
  refine x_iload_n (pc' := 2) rfl dJ9_min_7cf53_1 rfl ?_
  refine x_icmp_gt (tgt := 9) (pc' := 5) (by decide) dJ9_min_7cf53_2 rfl (fun c2 => ?_) (fun c2 => ?_)
  · refine x_iload_n (pc' := 10) rfl dJ9_min_7cf53_9 rfl ?_
    exact x_iret rfl dJ9_min_7cf53_10 (ret_i (by rw [mn, if_pos c2]))
  · refine x_iload_n (pc' := 6) rfl dJ9_min_7cf53_5 rfl ?_
    refine x_goto (tgt := 10) (by decide) dJ9_min_7cf53_6 ?_
    exact x_iret rfl dJ9_min_7cf53_10 (ret_i (by rw [mn, if_neg c2]))
set_option maxRecDepth 100000 in
set_option maxHeartbeats 4000000 in
theorem c_J9_max_7cf53 {σ : St} {x y : Int32} : Ct yJ9_max_7cf53 M_J9_max_7cf53 [.int x, .int y] σ (some (.int (mx x y)), σ) := by
  refine ct_ofF (k := 0) (by decide +kernel) rfl rfl (Nat.le_of_ble_eq_true rfl) ?_
  refine x_iload_n (pc' := 1) rfl dJ9_max_7cf53_0 rfl ?_
  refine x_iload_n (pc' := 2) rfl dJ9_max_7cf53_1 rfl ?_
  refine x_icmp_lt (tgt := 9) (pc' := 5) (by decide) dJ9_max_7cf53_2 rfl (fun c2 => ?_) (fun c2 => ?_)
  · refine x_iload_n (pc' := 10) rfl dJ9_max_7cf53_9 rfl ?_
    exact x_iret rfl dJ9_max_7cf53_10 (ret_i (by rw [← mx_alt, if_pos c2]))
  · refine x_iload_n (pc' := 6) rfl dJ9_max_7cf53_5 rfl ?_
    refine x_goto (tgt := 10) (by decide) dJ9_max_7cf53_6 ?_
    exact x_iret rfl dJ9_max_7cf53_10 (ret_i (by rw [← mx_alt, if_neg c2]))
set_option maxRecDepth 100000 in
set_option maxHeartbeats 4000000 in
theorem c_J9_abs_0f7a4 {σ : St} {x : Int32} : Ct yJ9_abs_0f7a4 M_J9_abs_0f7a4 [.int x] σ (some (.int (ab x)), σ) := by
  refine ct_ofF (k := 0) (by decide +kernel) rfl rfl (Nat.le_of_ble_eq_true rfl) ?_
  refine x_iload_n (pc' := 1) rfl dJ9_abs_0f7a4_0 rfl ?_
  refine x_if_ge (tgt := 9) (pc' := 4) (by decide) dJ9_abs_0f7a4_1 rfl (fun c1 => ?_) (fun c1 => ?_)
  · refine x_iload_n (pc' := 10) rfl dJ9_abs_0f7a4_9 rfl ?_
    exact x_iret rfl dJ9_abs_0f7a4_10 (ret_i (by rw [ab, if_neg (i_nlt.mpr c1)]))
  · refine x_iload_n (pc' := 5) rfl dJ9_abs_0f7a4_4 rfl ?_
    refine x_ineg (pc' := 6) dJ9_abs_0f7a4_5 rfl ?_
    refine x_goto (tgt := 10) (by decide) dJ9_abs_0f7a4_6 ?_
    exact x_iret rfl dJ9_abs_0f7a4_10 (ret_i (by rw [ab, if_pos (i_nle.mp c1)]))
def fmd (x y : Int32) : Int32 := if 0 ≤ x ^^^ y then x - x / y * y else if x - x / y * y = 0 then x - x / y * y else x - x / y * y + y
set_option maxRecDepth 100000 in
set_option maxHeartbeats 4000000 in
theorem c_J9_floorMod_7cf53 {σ : St} {x y : Int32} (hy : ¬ y = 0) : Ct yJ9_floorMod_7cf53 M_J9_floorMod_7cf53 [.int x, .int y] σ (some (.int (fmd x y)), σ) := by
  refine ct_ofF (k := 1) (by decide +kernel) rfl rfl (Nat.le_of_ble_eq_true rfl) ?_
  refine x_iload_n (pc' := 1) rfl dJ9_floorMod_7cf53_0 rfl ?_
  refine x_iload_n (pc' := 2) rfl dJ9_floorMod_7cf53_1 rfl ?_
  refine x_irem (pc' := 3) hy dJ9_floorMod_7cf53_2 rfl ?_
  refine x_istore_n (lv' := [_, _, _]) (pc' := 4) (by decide) rfl dJ9_floorMod_7cf53_3 rfl ?_
  refine x_iload_n (pc' := 5) rfl dJ9_floorMod_7cf53_4 rfl ?_
  refine x_iload_n (pc' := 6) rfl dJ9_floorMod_7cf53_5 rfl ?_
  refine x_ixor (pc' := 7) dJ9_floorMod_7cf53_6 rfl ?_
  refine x_if_ge (tgt := 18) (pc' := 10) (by decide) dJ9_floorMod_7cf53_7 rfl (fun c7 => ?_) (fun c7 => ?_)
  · refine x_iload_n (pc' := 19) rfl dJ9_floorMod_7cf53_18 rfl ?_
    exact x_iret rfl dJ9_floorMod_7cf53_19 (ret_i (by rw [fmd, if_pos c7]))
  · refine x_iload_n (pc' := 11) rfl dJ9_floorMod_7cf53_10 rfl ?_
    refine x_if_eq (tgt := 18) (pc' := 14) (by decide) dJ9_floorMod_7cf53_11 rfl (fun c11 => ?_) (fun c11 => ?_)
    · refine x_iload_n (pc' := 19) rfl dJ9_floorMod_7cf53_18 rfl ?_
      exact x_iret rfl dJ9_floorMod_7cf53_19 (ret_i (by rw [fmd, if_neg c7, if_pos c11]))
    · refine x_iload_n (pc' := 15) rfl dJ9_floorMod_7cf53_14 rfl ?_
      refine x_iload_n (pc' := 16) rfl dJ9_floorMod_7cf53_15 rfl ?_
      refine x_iadd (pc' := 17) dJ9_floorMod_7cf53_16 rfl ?_
      exact x_iret rfl dJ9_floorMod_7cf53_17 (ret_i (by rw [fmd, if_neg c7, if_neg c11]))
theorem bv_neg (x : Int64) : x < 0 ↔ x.toBitVec.msb = true := by
  rw [BitVec.msb_eq_toInt, decide_eq_true_eq, sL_lt]
  rfl
theorem lx_neg {x y : Int64} (hy : 0 < y) : x ^^^ y < 0 ↔ x < 0 := by
  have h2 : ¬ y < 0 := by rw [sL_lt] at hy ⊢; have e : (0 : Int64).toInt = 0 := rfl; omega
  rw [bv_neg, Int64.toBitVec_xor, BitVec.msb_xor, bv_neg]
  rw [bv_neg] at h2
  cases hx : x.toBitVec.msb <;> cases hz : y.toBitVec.msb <;> simp_all
theorem tdiv_abs (a b : Int) (hb : 0 < b) : -(a.natAbs : Int) ≤ a.tdiv b ∧ a.tdiv b ≤ a.natAbs := by
  have h := Int.natAbs_tdiv a b
  have h2 : (a.tdiv b).natAbs ≤ a.natAbs := by rw [h]; exact Nat.div_le_self _ _
  omega
theorem lrem_i {x y : Int64} (hy : 0 < y.toInt) : (x - x / y * y).toInt = x.toInt.tmod y.toInt := by
  have b1 := Int64.le_toInt x
  have b2 := Int64.toInt_lt x
  obtain ⟨t1, t2⟩ := tdiv_abs x.toInt y.toInt hy
  have hm := Int.mul_tdiv_add_tmod x.toInt y.toInt
  have hmod : -(x.toInt.natAbs : Int) ≤ x.toInt.tmod y.toInt ∧ x.toInt.tmod y.toInt ≤ x.toInt.natAbs ∧ (0 ≤ x.toInt → 0 ≤ x.toInt.tmod y.toInt) ∧ (x.toInt ≤ 0 → x.toInt.tmod y.toInt ≤ 0) := by
    rcases Int.le_total 0 x.toInt with h | h
    · have h1 := Int.tmod_nonneg y.toInt h
      have h2 : x.toInt.tmod y.toInt ≤ x.toInt := by
        have := Int.tdiv_nonneg h (Int.le_of_lt hy)
        have h3 := Int.mul_nonneg (Int.le_of_lt hy) this
        omega
      refine ⟨by omega, by omega, fun _ => h1, fun q => by omega⟩
    · have e : (-x.toInt).tmod y.toInt = -(x.toInt.tmod y.toInt) := Int.neg_tmod x.toInt y.toInt
      have h1 := Int.tmod_nonneg y.toInt (show 0 ≤ -x.toInt by omega)
      have e2 : (-x.toInt).tdiv y.toInt = -(x.toInt.tdiv y.toInt) := Int.neg_tdiv x.toInt y.toInt
      have h3 := Int.tdiv_nonneg (show 0 ≤ -x.toInt by omega) (Int.le_of_lt hy)
      have h4 := Int.mul_nonneg (Int.le_of_lt hy) h3
      rw [e2, Int.mul_neg] at h4
      refine ⟨by omega, by omega, fun q => by omega, fun _ => by omega⟩
  have q : (x / y).toInt = x.toInt.tdiv y.toInt ∨ x.toInt = -(2 ^ 63) := by
    by_cases hx : x.toInt = -(2 ^ 63)
    · exact Or.inr hx
    · left
      rw [Int64.toInt_div]
      exact bm64 (by omega) (by omega)
  have q : (x / y).toInt = x.toInt.tdiv y.toInt := by
    rw [Int64.toInt_div]
    refine bm64 (by omega) ?_
    by_cases h : 0 ≤ x.toInt
    · omega
    · have e2 : (-x.toInt).tdiv y.toInt = -(x.toInt.tdiv y.toInt) := Int.neg_tdiv x.toInt y.toInt
      have h3 := Int.tdiv_nonneg (show 0 ≤ -x.toInt by omega) (Int.le_of_lt hy)
      omega
  have hp : (x / y * y).toInt = x.toInt.tdiv y.toInt * y.toInt := by
    rw [lmul_i] <;> rw [q] <;> rw [Int.mul_comm] <;> omega
  rw [lsub_i] <;> rw [hp] <;> rw [Int.mul_comm] <;> omega
def fdv (x y : Int64) : Int64 := if 0 ≤ x - x / y * y then x / y else x / y - 1
theorem fdv_sgn {x y : Int64} (hy : 0 < y) : (0 ≤ x → 0 ≤ x - x / y * y) ∧ (x < 0 → x - x / y * y ≤ 0) := by
  have hy2 : 0 < y.toInt := by rw [sL_lt] at hy; exact hy
  rw [sL_le, sL_lt, sL_le, sL_le, lrem_i hy2]
  have e : (0 : Int64).toInt = 0 := rfl
  rw [e]
  refine ⟨fun h => Int.tmod_nonneg _ h, fun h => ?_⟩
  have e2 : (-x.toInt).tmod y.toInt = -(x.toInt.tmod y.toInt) := Int.neg_tmod x.toInt y.toInt
  have h1 := Int.tmod_nonneg y.toInt (show 0 ≤ -x.toInt by omega)
  omega
set_option maxRecDepth 100000 in
set_option maxHeartbeats 4000000 in
theorem c_J9_floorDiv_f86c9 {σ : St} {x y : Int64} (hy : 0 < y) : Ct yJ9_floorDiv_f86c9 M_J9_floorDiv_f86c9 [.long x, .long y] σ (some (.long (fdv x y)), σ) := by
  refine ct_ofF (k := 2) (by decide +kernel) rfl rfl (Nat.le_of_ble_eq_true rfl) ?_
  refine x_lload_n (pc' := 1) rfl dJ9_floorDiv_f86c9_0 rfl ?_
  refine x_lload_n (pc' := 2) rfl dJ9_floorDiv_f86c9_1 rfl ?_
  refine x_ldiv (pc' := 3) (fun q => by rw [q] at hy; exact absurd hy (by decide)) dJ9_floorDiv_f86c9_2 rfl ?_
  refine x_lstore (lv' := [_, _, _, _, _, _]) (pc' := 5) (by decide) rfl dJ9_floorDiv_f86c9_3 rfl ?_
  refine x_lload_n (pc' := 6) rfl dJ9_floorDiv_f86c9_5 rfl ?_
  refine x_lload_n (pc' := 7) rfl dJ9_floorDiv_f86c9_6 rfl ?_
  refine x_lxor (pc' := 8) dJ9_floorDiv_f86c9_7 rfl ?_
  refine x_lconst (v := 0) (pc' := 9) (by decide) dJ9_floorDiv_f86c9_8 rfl ?_
  refine x_lcmp (pc' := 10) dJ9_floorDiv_f86c9_9 rfl ?_
  refine x_if_ge (tgt := 27) (pc' := 13) (by decide) dJ9_floorDiv_f86c9_10 rfl (fun c10 => ?_) (fun c10 => ?_)
  · refine x_lload (pc' := 29) rfl dJ9_floorDiv_f86c9_27 rfl ?_
    exact x_lret rfl dJ9_floorDiv_f86c9_29 (ret_l (by rw [fdv, if_pos ((fdv_sgn hy).1 (l_nlt.mp (fun q => l_nlt.mpr ((lg_cmp_ge _ _).mp c10) ((lx_neg hy).mpr q))))]))
  · refine x_lload (pc' := 15) rfl dJ9_floorDiv_f86c9_13 rfl ?_
    refine x_lload_n (pc' := 16) rfl dJ9_floorDiv_f86c9_15 rfl ?_
    refine x_lmul (pc' := 17) dJ9_floorDiv_f86c9_16 rfl ?_
    refine x_lload_n (pc' := 18) rfl dJ9_floorDiv_f86c9_17 rfl ?_
    refine x_lcmp (pc' := 19) dJ9_floorDiv_f86c9_18 rfl ?_
    refine x_if_eq (tgt := 27) (pc' := 22) (by decide) dJ9_floorDiv_f86c9_19 rfl (fun c19 => ?_) (fun c19 => ?_)
    · refine x_lload (pc' := 29) rfl dJ9_floorDiv_f86c9_27 rfl ?_
      exact x_lret rfl dJ9_floorDiv_f86c9_29 (ret_l (by rw [fdv, if_pos (by rw [(lg_cmp_eq _ _).mp c19, Int64.sub_self]; decide)]))
    · refine x_lload (pc' := 24) rfl dJ9_floorDiv_f86c9_22 rfl ?_
      refine x_lconst (v := 1) (pc' := 25) (by decide) dJ9_floorDiv_f86c9_24 rfl ?_
      refine x_lsub (pc' := 26) dJ9_floorDiv_f86c9_25 rfl ?_
      exact x_lret rfl dJ9_floorDiv_f86c9_26 (ret_l (by rw [fdv, if_neg (fun q => c19 ((lg_cmp_eq _ _).mpr (by have h := (fdv_sgn hy).2 ((lx_neg hy).mp (l_nle.mp (fun q => c10 ((lg_cmp_ge _ _).mpr q)))); have e : x - x / y * y = 0 := by { rw [sL_eq]; rw [sL_le] at q h; omega }; rw [Int64.sub_eq_iff_eq_add, Int64.zero_add] at e; exact e.symm)))]))
theorem rnd_fdv (n d : Int64) : rnd n d = fdv (2 * n + d) (2 * d) := rfl
set_option maxRecDepth 100000 in
set_option maxHeartbeats 4000000 in
theorem c_X4_rounded {σ : St} {n d : Int64} (hd : 0 < d) (hd2 : 0 < 2 * d) : Ct yX4_rounded M_X4_rounded [.long n, .long d] σ (some (.int (rnd n d).toInt32), σ) := by
  refine ct_of (k := 0) rfl rfl rfl (Nat.le_of_ble_eq_true rfl) ?_
  refine x_lload_n (pc' := 1) rfl dX4_rounded_0 rfl ?_
  refine x_lconst (v := 0) (pc' := 2) (by decide) dX4_rounded_1 rfl ?_
  refine x_lcmp (pc' := 3) dX4_rounded_2 rfl ?_
  refine x_if_le (tgt := 25) (pc' := 6) (by decide) dX4_rounded_3 rfl (fun c3 => absurd c3 (fun q => l_nlt.mpr ((lg_cmp_le _ _).mp q) hd)) (fun c3 => ?_)
  refine x_ldc2 (pc' := 9) kl_X4_82 dX4_rounded_6 rfl ?_
  refine x_lload_n (pc' := 10) rfl dX4_rounded_9 rfl ?_
  refine x_lmul (pc' := 11) dX4_rounded_10 rfl ?_
  refine x_lload_n (pc' := 12) rfl dX4_rounded_11 rfl ?_
  refine x_ladd (pc' := 13) dX4_rounded_12 rfl ?_
  refine x_ldc2 (pc' := 16) kl_X4_82 dX4_rounded_13 rfl ?_
  refine x_lload_n (pc' := 17) rfl dX4_rounded_16 rfl ?_
  refine x_lmul (pc' := 18) dX4_rounded_17 rfl ?_
  refine x_callSi (As := [.long _, .long _]) (rest := []) (pc' := 21) rfl sk_X4_84 mk_J9_floorDiv_f86c9 (by decide) rfl (Nat.le_of_ble_eq_true rfl) dX4_rounded_18 rfl (c_J9_floorDiv_f86c9 hd2) ?_
  refine x_l2i (pc' := 22) dX4_rounded_21 rfl ?_
  refine x_goto (tgt := 26) (by decide) dX4_rounded_22 ?_
  exact x_iret rfl dX4_rounded_26 rfl
def isG (q : Nat) : Prop := Is q 0 3 ∧ Is (q + 1) 1 50
/-- the cell q is grid g of the row v -/
def GRep (σ : St) (q : Nat) (v : Nat → Int32) (g : Nat) : Prop := (∀ e, e < 6 → σ.1 q (1 + e) = v (2 + 6 * g + e)) ∧ ∀ c r w, c < fN v g 4 → r < fN v g 5 → w < 2 → σ.1 (q + 1) (2 * (5 * r + c) + w) = oV v g c r w
theorem GRep.par {σ : St} {q g : Nat} {v : Nat → Int32} (h : GRep σ q v g) : σ.1 q 1 = v (2 + 6 * g) := h.1 0 (by decide)
theorem GRep.at {σ : St} {q g : Nat} {v : Nat → Int32} (h : GRep σ q v g) (hf : OkF v g) {e : Nat} (h1 : 1 ≤ e) (h6 : e < 6) : σ.1 q (1 + e) = nI (fN v g e) := by rw [h.1 e h6]; exact hf.at h1 h6
set_option maxRecDepth 100000 in
set_option maxHeartbeats 4000000 in
theorem c_X4_right {σ : St} {q g : Nat} {v : Nat → Int32} (hq : isG q) (hr : GRep σ q v g) (hf : OkF v g) : Ct yX4_right M_X4_right [.ref q] σ (some (.int (nI (fN v g 1 + (fN v g 4 - 1) * fN v g 3))), σ) := by
  obtain ⟨hq0, hq1⟩ := id hq
  have eX : σ.1 q 2 = nI (fN v g 1) := hr.at hf (e := 1) (by decide) (by decide)
  have eY : σ.1 q 3 = nI (fN v g 2) := hr.at hf (e := 2) (by decide) (by decide)
  have eS : σ.1 q 4 = nI (fN v g 3) := hr.at hf (e := 3) (by decide) (by decide)
  have eC : σ.1 q 5 = nI (fN v g 4) := hr.at hf (e := 4) (by decide) (by decide)
  have eR : σ.1 q 6 = nI (fN v g 5) := hr.at hf (e := 5) (by decide) (by decide)
  obtain ⟨-, s1, s64, c2, c5, r2, r5, b1, b2⟩ := id hf
  refine ct_of (k := 0) rfl rfl rfl (Nat.le_of_ble_eq_true rfl) ?_
  refine x_aload_n (pc' := 1) rfl dX4_right_0 rfl ?_
  refine x_get (v := .int _) (pc' := 4) fk_X4_19 (by first | assumption | exact ⟨by decide, rfl⟩) rfl dX4_right_1 rfl ?_
  refine x_aload_n (pc' := 5) rfl dX4_right_4 rfl ?_
  refine x_get (v := .int _) (pc' := 8) fk_X4_28 (by first | assumption | exact ⟨by decide, rfl⟩) rfl dX4_right_5 rfl ?_
  refine x_iconst (v := 1) (pc' := 9) (by decide) dX4_right_8 rfl ?_
  refine x_isub (pc' := 10) dX4_right_9 rfl ?_
  refine x_aload_n (pc' := 11) rfl dX4_right_10 rfl ?_
  refine x_get (v := .int _) (pc' := 14) fk_X4_25 (by first | assumption | exact ⟨by decide, rfl⟩) rfl dX4_right_11 rfl ?_
  refine x_imul (pc' := 15) dX4_right_14 rfl ?_
  refine x_iadd (pc' := 16) dX4_right_15 rfl ?_
  exact x_iret rfl dX4_right_16 (ret_i (by rw [eX, eC, eS]; exact nI_lin (by omega)))
set_option maxRecDepth 100000 in
set_option maxHeartbeats 4000000 in
theorem c_X4_bottom {σ : St} {q g : Nat} {v : Nat → Int32} (hq : isG q) (hr : GRep σ q v g) (hf : OkF v g) : Ct yX4_bottom M_X4_bottom [.ref q] σ (some (.int (nI (fN v g 2 + (fN v g 5 - 1) * fN v g 3))), σ) := by
  obtain ⟨hq0, hq1⟩ := id hq
  have eX : σ.1 q 2 = nI (fN v g 1) := hr.at hf (e := 1) (by decide) (by decide)
  have eY : σ.1 q 3 = nI (fN v g 2) := hr.at hf (e := 2) (by decide) (by decide)
  have eS : σ.1 q 4 = nI (fN v g 3) := hr.at hf (e := 3) (by decide) (by decide)
  have eC : σ.1 q 5 = nI (fN v g 4) := hr.at hf (e := 4) (by decide) (by decide)
  have eR : σ.1 q 6 = nI (fN v g 5) := hr.at hf (e := 5) (by decide) (by decide)
  obtain ⟨-, s1, s64, c2, c5, r2, r5, b1, b2⟩ := id hf
  refine ct_of (k := 0) rfl rfl rfl (Nat.le_of_ble_eq_true rfl) ?_
  refine x_aload_n (pc' := 1) rfl dX4_bottom_0 rfl ?_
  refine x_get (v := .int _) (pc' := 4) fk_X4_22 (by first | assumption | exact ⟨by decide, rfl⟩) rfl dX4_bottom_1 rfl ?_
  refine x_aload_n (pc' := 5) rfl dX4_bottom_4 rfl ?_
  refine x_get (v := .int _) (pc' := 8) fk_X4_31 (by first | assumption | exact ⟨by decide, rfl⟩) rfl dX4_bottom_5 rfl ?_
  refine x_iconst (v := 1) (pc' := 9) (by decide) dX4_bottom_8 rfl ?_
  refine x_isub (pc' := 10) dX4_bottom_9 rfl ?_
  refine x_aload_n (pc' := 11) rfl dX4_bottom_10 rfl ?_
  refine x_get (v := .int _) (pc' := 14) fk_X4_25 (by first | assumption | exact ⟨by decide, rfl⟩) rfl dX4_bottom_11 rfl ?_
  refine x_imul (pc' := 15) dX4_bottom_14 rfl ?_
  refine x_iadd (pc' := 16) dX4_bottom_15 rfl ?_
  exact x_iret rfl dX4_bottom_16 (ret_i (by rw [eY, eR, eS]; exact nI_lin (by omega)))
set_option maxRecDepth 100000 in
set_option maxHeartbeats 4000000 in
theorem c_X4_side {σ : St} {q g : Nat} {v : Nat → Int32} (hq : isG q) (hr : GRep σ q v g) (hf : OkF v g) : Ct yX4_side M_X4_side [.ref q] σ (some (.int (nI (64 * fN v g 3))), σ) := by
  obtain ⟨hq0, hq1⟩ := id hq
  have eX : σ.1 q 2 = nI (fN v g 1) := hr.at hf (e := 1) (by decide) (by decide)
  have eY : σ.1 q 3 = nI (fN v g 2) := hr.at hf (e := 2) (by decide) (by decide)
  have eS : σ.1 q 4 = nI (fN v g 3) := hr.at hf (e := 3) (by decide) (by decide)
  have eC : σ.1 q 5 = nI (fN v g 4) := hr.at hf (e := 4) (by decide) (by decide)
  have eR : σ.1 q 6 = nI (fN v g 5) := hr.at hf (e := 5) (by decide) (by decide)
  obtain ⟨-, s1, s64, c2, c5, r2, r5, b1, b2⟩ := id hf
  refine ct_of (k := 0) rfl rfl rfl (Nat.le_of_ble_eq_true rfl) ?_
  refine x_aload_n (pc' := 1) rfl dX4_side_0 rfl ?_
  refine x_get (v := .int _) (pc' := 4) fk_X4_25 (by first | assumption | exact ⟨by decide, rfl⟩) rfl dX4_side_1 rfl ?_
  refine x_bipush (v := 64) (pc' := 6) (by decide) dX4_side_4 rfl ?_
  refine x_imul (pc' := 7) dX4_side_6 rfl ?_
  exact x_iret rfl dX4_side_7 (ret_i (by rw [eS, Nat.mul_comm]; exact pk_mul _ 64))
set_option maxRecDepth 100000 in
set_option maxHeartbeats 4000000 in
theorem c_X4_columnPlace {σ : St} {q g : Nat} {v : Nat → Int32} (hq : isG q) (hr : GRep σ q v g) (hf : OkF v g) {x : Int32} {K : Nat} (hx : x = nI K) : Ct yX4_columnPlace M_X4_columnPlace [.ref q, .int x] σ (some (.int (nI (stS v g K 0))), σ) := by
  obtain ⟨hq0, hq1⟩ := id hq
  have eX : σ.1 q 2 = nI (fN v g 1) := hr.at hf (e := 1) (by decide) (by decide)
  have eY : σ.1 q 3 = nI (fN v g 2) := hr.at hf (e := 2) (by decide) (by decide)
  have eS : σ.1 q 4 = nI (fN v g 3) := hr.at hf (e := 3) (by decide) (by decide)
  have eC : σ.1 q 5 = nI (fN v g 4) := hr.at hf (e := 4) (by decide) (by decide)
  have eR : σ.1 q 6 = nI (fN v g 5) := hr.at hf (e := 5) (by decide) (by decide)
  obtain ⟨-, s1, s64, c2, c5, r2, r5, b1, b2⟩ := id hf
  refine ct_of (k := 0) rfl rfl rfl (Nat.le_of_ble_eq_true rfl) ?_
  refine x_aload_n (pc' := 1) rfl dX4_columnPlace_0 rfl ?_
  refine x_get (v := .int _) (pc' := 4) fk_X4_19 (by first | assumption | exact ⟨by decide, rfl⟩) rfl dX4_columnPlace_1 rfl ?_
  refine x_iload_n (pc' := 5) rfl dX4_columnPlace_4 rfl ?_
  refine x_aload_n (pc' := 6) rfl dX4_columnPlace_5 rfl ?_
  refine x_get (v := .int _) (pc' := 9) fk_X4_25 (by first | assumption | exact ⟨by decide, rfl⟩) rfl dX4_columnPlace_6 rfl ?_
  refine x_imul (pc' := 10) dX4_columnPlace_9 rfl ?_
  refine x_iadd (pc' := 11) dX4_columnPlace_10 rfl ?_
  refine x_bipush (v := 64) (pc' := 13) (by decide) dX4_columnPlace_11 rfl ?_
  refine x_imul (pc' := 14) dX4_columnPlace_13 rfl ?_
  exact x_iret rfl dX4_columnPlace_14 (ret_i (by rw [eX, eS, hx, stS, Nat.mul_comm]; simp only [lit32, nI_add, pk_mul]))
set_option maxRecDepth 100000 in
set_option maxHeartbeats 4000000 in
theorem c_X4_rowPlace {σ : St} {q g : Nat} {v : Nat → Int32} (hq : isG q) (hr : GRep σ q v g) (hf : OkF v g) {x : Int32} {K : Nat} (hx : x = nI K) : Ct yX4_rowPlace M_X4_rowPlace [.ref q, .int x] σ (some (.int (nI (stS v g K 1))), σ) := by
  obtain ⟨hq0, hq1⟩ := id hq
  have eX : σ.1 q 2 = nI (fN v g 1) := hr.at hf (e := 1) (by decide) (by decide)
  have eY : σ.1 q 3 = nI (fN v g 2) := hr.at hf (e := 2) (by decide) (by decide)
  have eS : σ.1 q 4 = nI (fN v g 3) := hr.at hf (e := 3) (by decide) (by decide)
  have eC : σ.1 q 5 = nI (fN v g 4) := hr.at hf (e := 4) (by decide) (by decide)
  have eR : σ.1 q 6 = nI (fN v g 5) := hr.at hf (e := 5) (by decide) (by decide)
  obtain ⟨-, s1, s64, c2, c5, r2, r5, b1, b2⟩ := id hf
  refine ct_of (k := 0) rfl rfl rfl (Nat.le_of_ble_eq_true rfl) ?_
  refine x_aload_n (pc' := 1) rfl dX4_rowPlace_0 rfl ?_
  refine x_get (v := .int _) (pc' := 4) fk_X4_22 (by first | assumption | exact ⟨by decide, rfl⟩) rfl dX4_rowPlace_1 rfl ?_
  refine x_iload_n (pc' := 5) rfl dX4_rowPlace_4 rfl ?_
  refine x_aload_n (pc' := 6) rfl dX4_rowPlace_5 rfl ?_
  refine x_get (v := .int _) (pc' := 9) fk_X4_25 (by first | assumption | exact ⟨by decide, rfl⟩) rfl dX4_rowPlace_6 rfl ?_
  refine x_imul (pc' := 10) dX4_rowPlace_9 rfl ?_
  refine x_iadd (pc' := 11) dX4_rowPlace_10 rfl ?_
  refine x_bipush (v := 64) (pc' := 13) (by decide) dX4_rowPlace_11 rfl ?_
  refine x_imul (pc' := 14) dX4_rowPlace_13 rfl ?_
  exact x_iret rfl dX4_rowPlace_14 (ret_i (by rw [eY, eS, hx, stS, Nat.mul_comm]; simp only [lit32, nI_add, pk_mul]))
set_option maxRecDepth 100000 in
set_option maxHeartbeats 4000000 in
theorem c_X4_hasNode {σ : St} {q g : Nat} {v : Nat → Int32} (hq : isG q) (hr : GRep σ q v g) (hf : OkF v g) {c r : Int32} : Ct yX4_hasNode M_X4_hasNode [.ref q, .int c, .int r] σ (some (.int (pb ((0 ≤ c ∧ c < nI (fN v g 4)) ∧ 0 ≤ r ∧ r < nI (fN v g 5)))), σ) := by
  obtain ⟨hq0, hq1⟩ := id hq
  have eX : σ.1 q 2 = nI (fN v g 1) := hr.at hf (e := 1) (by decide) (by decide)
  have eY : σ.1 q 3 = nI (fN v g 2) := hr.at hf (e := 2) (by decide) (by decide)
  have eS : σ.1 q 4 = nI (fN v g 3) := hr.at hf (e := 3) (by decide) (by decide)
  have eC : σ.1 q 5 = nI (fN v g 4) := hr.at hf (e := 4) (by decide) (by decide)
  have eR : σ.1 q 6 = nI (fN v g 5) := hr.at hf (e := 5) (by decide) (by decide)
  obtain ⟨-, s1, s64, c2, c5, r2, r5, b1, b2⟩ := id hf
  refine ct_of (k := 0) rfl rfl rfl (Nat.le_of_ble_eq_true rfl) ?_
  refine x_iload_n (pc' := 1) rfl dX4_hasNode_0 rfl ?_
  refine x_if_lt (tgt := 28) (pc' := 4) (by decide) dX4_hasNode_1 rfl (fun c1 => ?_) (fun c1 => ?_)
  · refine x_iconst (v := 0) (pc' := 29) (by decide) dX4_hasNode_28 rfl ?_
    exact x_zret rfl (by first | rfl | exact b01_nar _ | exact pb_nar _) dX4_hasNode_29 (ret_i (pb_0 (fun q => i_nlt.mpr q.1.1 c1)).symm)
  · refine x_iload_n (pc' := 5) rfl dX4_hasNode_4 rfl ?_
    refine x_aload_n (pc' := 6) rfl dX4_hasNode_5 rfl ?_
    refine x_get (v := .int _) (pc' := 9) fk_X4_28 (by first | assumption | exact ⟨by decide, rfl⟩) rfl dX4_hasNode_6 rfl ?_
    refine x_top eC ?_
    refine x_icmp_ge (tgt := 28) (pc' := 12) (by decide) dX4_hasNode_9 rfl (fun c9 => ?_) (fun c9 => ?_)
    · refine x_iconst (v := 0) (pc' := 29) (by decide) dX4_hasNode_28 rfl ?_
      exact x_zret rfl (by first | rfl | exact b01_nar _ | exact pb_nar _) dX4_hasNode_29 (ret_i (pb_0 (fun q => i_nlt.mpr c9 q.1.2)).symm)
    · refine x_iload_n (pc' := 13) rfl dX4_hasNode_12 rfl ?_
      refine x_if_lt (tgt := 28) (pc' := 16) (by decide) dX4_hasNode_13 rfl (fun c13 => ?_) (fun c13 => ?_)
      · refine x_iconst (v := 0) (pc' := 29) (by decide) dX4_hasNode_28 rfl ?_
        exact x_zret rfl (by first | rfl | exact b01_nar _ | exact pb_nar _) dX4_hasNode_29 (ret_i (pb_0 (fun q => i_nlt.mpr q.2.1 c13)).symm)
      · refine x_iload_n (pc' := 17) rfl dX4_hasNode_16 rfl ?_
        refine x_aload_n (pc' := 18) rfl dX4_hasNode_17 rfl ?_
        refine x_get (v := .int _) (pc' := 21) fk_X4_31 (by first | assumption | exact ⟨by decide, rfl⟩) rfl dX4_hasNode_18 rfl ?_
        refine x_top eR ?_
        refine x_icmp_ge (tgt := 28) (pc' := 24) (by decide) dX4_hasNode_21 rfl (fun c21 => ?_) (fun c21 => ?_)
        · refine x_iconst (v := 0) (pc' := 29) (by decide) dX4_hasNode_28 rfl ?_
          exact x_zret rfl (by first | rfl | exact b01_nar _ | exact pb_nar _) dX4_hasNode_29 (ret_i (pb_0 (fun q => i_nlt.mpr c21 q.2.2)).symm)
        · refine x_iconst (v := 1) (pc' := 25) (by decide) dX4_hasNode_24 rfl ?_
          refine x_goto (tgt := 29) (by decide) dX4_hasNode_25 ?_
          exact x_zret rfl (by first | rfl | exact b01_nar _ | exact pb_nar _) dX4_hasNode_29 (ret_i (pb_1 ⟨⟨i_nlt.mp c1, i_nle.mp c9⟩, i_nlt.mp c13, i_nle.mp c21⟩).symm)
set_option maxRecDepth 100000 in
set_option maxHeartbeats 4000000 in
theorem c_X4_hasCell {σ : St} {q g : Nat} {v : Nat → Int32} (hq : isG q) (hr : GRep σ q v g) (hf : OkF v g) {c r : Int32} : Ct yX4_hasCell M_X4_hasCell [.ref q, .int c, .int r] σ (some (.int (pb ((0 ≤ c ∧ c < nI (fN v g 4) - 1) ∧ 0 ≤ r ∧ r < nI (fN v g 5) - 1))), σ) := by
  obtain ⟨hq0, hq1⟩ := id hq
  have eX : σ.1 q 2 = nI (fN v g 1) := hr.at hf (e := 1) (by decide) (by decide)
  have eY : σ.1 q 3 = nI (fN v g 2) := hr.at hf (e := 2) (by decide) (by decide)
  have eS : σ.1 q 4 = nI (fN v g 3) := hr.at hf (e := 3) (by decide) (by decide)
  have eC : σ.1 q 5 = nI (fN v g 4) := hr.at hf (e := 4) (by decide) (by decide)
  have eR : σ.1 q 6 = nI (fN v g 5) := hr.at hf (e := 5) (by decide) (by decide)
  obtain ⟨-, s1, s64, c2, c5, r2, r5, b1, b2⟩ := id hf
  refine ct_of (k := 0) rfl rfl rfl (Nat.le_of_ble_eq_true rfl) ?_
  refine x_iload_n (pc' := 1) rfl dX4_hasCell_0 rfl ?_
  refine x_if_lt (tgt := 32) (pc' := 4) (by decide) dX4_hasCell_1 rfl (fun c1 => ?_) (fun c1 => ?_)
  · refine x_iconst (v := 0) (pc' := 33) (by decide) dX4_hasCell_32 rfl ?_
    exact x_zret rfl (by first | rfl | exact b01_nar _ | exact pb_nar _) dX4_hasCell_33 (ret_i (pb_0 (fun q => i_nlt.mpr q.1.1 c1)).symm)
  · refine x_iload_n (pc' := 5) rfl dX4_hasCell_4 rfl ?_
    refine x_aload_n (pc' := 6) rfl dX4_hasCell_5 rfl ?_
    refine x_get (v := .int _) (pc' := 9) fk_X4_28 (by first | assumption | exact ⟨by decide, rfl⟩) rfl dX4_hasCell_6 rfl ?_
    refine x_top eC ?_
    refine x_iconst (v := 1) (pc' := 10) (by decide) dX4_hasCell_9 rfl ?_
    refine x_isub (pc' := 11) dX4_hasCell_10 rfl ?_
    refine x_icmp_ge (tgt := 32) (pc' := 14) (by decide) dX4_hasCell_11 rfl (fun c11 => ?_) (fun c11 => ?_)
    · refine x_iconst (v := 0) (pc' := 33) (by decide) dX4_hasCell_32 rfl ?_
      exact x_zret rfl (by first | rfl | exact b01_nar _ | exact pb_nar _) dX4_hasCell_33 (ret_i (pb_0 (fun q => i_nlt.mpr c11 q.1.2)).symm)
    · refine x_iload_n (pc' := 15) rfl dX4_hasCell_14 rfl ?_
      refine x_if_lt (tgt := 32) (pc' := 18) (by decide) dX4_hasCell_15 rfl (fun c15 => ?_) (fun c15 => ?_)
      · refine x_iconst (v := 0) (pc' := 33) (by decide) dX4_hasCell_32 rfl ?_
        exact x_zret rfl (by first | rfl | exact b01_nar _ | exact pb_nar _) dX4_hasCell_33 (ret_i (pb_0 (fun q => i_nlt.mpr q.2.1 c15)).symm)
      · refine x_iload_n (pc' := 19) rfl dX4_hasCell_18 rfl ?_
        refine x_aload_n (pc' := 20) rfl dX4_hasCell_19 rfl ?_
        refine x_get (v := .int _) (pc' := 23) fk_X4_31 (by first | assumption | exact ⟨by decide, rfl⟩) rfl dX4_hasCell_20 rfl ?_
        refine x_top eR ?_
        refine x_iconst (v := 1) (pc' := 24) (by decide) dX4_hasCell_23 rfl ?_
        refine x_isub (pc' := 25) dX4_hasCell_24 rfl ?_
        refine x_icmp_ge (tgt := 32) (pc' := 28) (by decide) dX4_hasCell_25 rfl (fun c25 => ?_) (fun c25 => ?_)
        · refine x_iconst (v := 0) (pc' := 33) (by decide) dX4_hasCell_32 rfl ?_
          exact x_zret rfl (by first | rfl | exact b01_nar _ | exact pb_nar _) dX4_hasCell_33 (ret_i (pb_0 (fun q => i_nlt.mpr c25 q.2.2)).symm)
        · refine x_iconst (v := 1) (pc' := 29) (by decide) dX4_hasCell_28 rfl ?_
          refine x_goto (tgt := 33) (by decide) dX4_hasCell_29 ?_
          exact x_zret rfl (by first | rfl | exact b01_nar _ | exact pb_nar _) dX4_hasCell_33 (ret_i (pb_1 ⟨⟨i_nlt.mp c1, i_nle.mp c11⟩, i_nlt.mp c15, i_nle.mp c25⟩).symm)
set_option maxRecDepth 100000 in
set_option maxHeartbeats 4000000 in
theorem c_X4_isOnBorder {σ : St} {q g : Nat} {v : Nat → Int32} (hq : isG q) (hr : GRep σ q v g) (hf : OkF v g) {c r : Int32} {K R : Nat} (hc : c = nI K) (hr0 : r = nI R) (hK : K < fN v g 4) (hR : R < fN v g 5) : Ct yX4_isOnBorder M_X4_isOnBorder [.ref q, .int c, .int r] σ (some (.int (pb (brd v g K R))), σ) := by
  obtain ⟨hq0, hq1⟩ := id hq
  have eX : σ.1 q 2 = nI (fN v g 1) := hr.at hf (e := 1) (by decide) (by decide)
  have eY : σ.1 q 3 = nI (fN v g 2) := hr.at hf (e := 2) (by decide) (by decide)
  have eS : σ.1 q 4 = nI (fN v g 3) := hr.at hf (e := 3) (by decide) (by decide)
  have eC : σ.1 q 5 = nI (fN v g 4) := hr.at hf (e := 4) (by decide) (by decide)
  have eR : σ.1 q 6 = nI (fN v g 5) := hr.at hf (e := 5) (by decide) (by decide)
  obtain ⟨-, s1, s64, c2, c5, r2, r5, b1, b2⟩ := id hf
  subst hc
  subst hr0
  refine ct_of (k := 0) rfl rfl rfl (Nat.le_of_ble_eq_true rfl) ?_
  refine x_iload_n (pc' := 1) rfl dX4_isOnBorder_0 rfl ?_
  refine x_if_eq (tgt := 28) (pc' := 4) (by decide) dX4_isOnBorder_1 rfl (fun c1 => ?_) (fun c1 => ?_)
  · refine x_iconst (v := 1) (pc' := 29) (by decide) dX4_isOnBorder_28 rfl ?_
    refine x_goto (tgt := 33) (by decide) dX4_isOnBorder_29 ?_
    exact x_zret rfl (by first | rfl | exact b01_nar _ | exact pb_nar _) dX4_isOnBorder_33 (ret_i (pb_1 (Or.inl ((nI_eqZ (by omega)).mp c1))).symm)
  · refine x_iload_n (pc' := 5) rfl dX4_isOnBorder_4 rfl ?_
    refine x_aload_n (pc' := 6) rfl dX4_isOnBorder_5 rfl ?_
    refine x_get (v := .int _) (pc' := 9) fk_X4_28 (by first | assumption | exact ⟨by decide, rfl⟩) rfl dX4_isOnBorder_6 rfl ?_
    refine x_iconst (v := 1) (pc' := 10) (by decide) dX4_isOnBorder_9 rfl ?_
    refine x_isub (pc' := 11) dX4_isOnBorder_10 rfl ?_
    refine x_top (y := nI (fN v g 4 - 1)) (by rw [eC]; exact pk_sub (b := 1) (by omega)) ?_
    refine x_icmp_eq (tgt := 28) (pc' := 14) (by decide) dX4_isOnBorder_11 rfl (fun c11 => ?_) (fun c11 => ?_)
    · refine x_iconst (v := 1) (pc' := 29) (by decide) dX4_isOnBorder_28 rfl ?_
      refine x_goto (tgt := 33) (by decide) dX4_isOnBorder_29 ?_
      exact x_zret rfl (by first | rfl | exact b01_nar _ | exact pb_nar _) dX4_isOnBorder_33 (ret_i (pb_1 (Or.inr (Or.inr (Or.inl ((nI_eq (by omega) (by omega)).mp c11))))).symm)
    · refine x_iload_n (pc' := 15) rfl dX4_isOnBorder_14 rfl ?_
      refine x_if_eq (tgt := 28) (pc' := 18) (by decide) dX4_isOnBorder_15 rfl (fun c15 => ?_) (fun c15 => ?_)
      · refine x_iconst (v := 1) (pc' := 29) (by decide) dX4_isOnBorder_28 rfl ?_
        refine x_goto (tgt := 33) (by decide) dX4_isOnBorder_29 ?_
        exact x_zret rfl (by first | rfl | exact b01_nar _ | exact pb_nar _) dX4_isOnBorder_33 (ret_i (pb_1 (Or.inr (Or.inl ((nI_eqZ (by omega)).mp c15)))).symm)
      · refine x_iload_n (pc' := 19) rfl dX4_isOnBorder_18 rfl ?_
        refine x_aload_n (pc' := 20) rfl dX4_isOnBorder_19 rfl ?_
        refine x_get (v := .int _) (pc' := 23) fk_X4_31 (by first | assumption | exact ⟨by decide, rfl⟩) rfl dX4_isOnBorder_20 rfl ?_
        refine x_iconst (v := 1) (pc' := 24) (by decide) dX4_isOnBorder_23 rfl ?_
        refine x_isub (pc' := 25) dX4_isOnBorder_24 rfl ?_
        refine x_top (y := nI (fN v g 5 - 1)) (by rw [eR]; exact pk_sub (b := 1) (by omega)) ?_
        refine x_icmp_ne (tgt := 32) (pc' := 28) (by decide) dX4_isOnBorder_25 rfl (fun c25 => ?_) (fun c25 => ?_)
        · refine x_iconst (v := 0) (pc' := 33) (by decide) dX4_isOnBorder_32 rfl ?_
          exact x_zret rfl (by first | rfl | exact b01_nar _ | exact pb_nar _) dX4_isOnBorder_33 (ret_i (pb_0 (fun q => q.elim (fun h => c1 (by rw [h]; rfl)) (fun q => q.elim (fun h => c15 (by rw [h]; rfl)) (fun q => q.elim (fun h => c11 (by rw [h])) (fun h => c25 (by rw [h])))))).symm)
        · refine x_iconst (v := 1) (pc' := 29) (by decide) dX4_isOnBorder_28 rfl ?_
          refine x_goto (tgt := 33) (by decide) dX4_isOnBorder_29 ?_
          exact x_zret rfl (by first | rfl | exact b01_nar _ | exact pb_nar _) dX4_isOnBorder_33 (ret_i (pb_1 (Or.inr (Or.inr (Or.inr ((nI_eq (by omega) (by omega)).mp c25))))).symm)
set_option maxRecDepth 100000 in
set_option maxHeartbeats 4000000 in
theorem c_X4_isOnGround {σ : St} {q g : Nat} {v : Nat → Int32} (hq : isG q) (hr : GRep σ q v g) (hf : OkF v g) {px py : Nat} (hpx : px < 2 ^ 31) (hpy : py < 2 ^ 31) : Ct yX4_isOnGround M_X4_isOnGround [.ref q, .int (nI px), .int (nI py)] σ (some (.int (pb (onS v g px py))), σ) := by
  obtain ⟨hq0, hq1⟩ := id hq
  have eX : σ.1 q 2 = nI (fN v g 1) := hr.at hf (e := 1) (by decide) (by decide)
  have eY : σ.1 q 3 = nI (fN v g 2) := hr.at hf (e := 2) (by decide) (by decide)
  have eS : σ.1 q 4 = nI (fN v g 3) := hr.at hf (e := 3) (by decide) (by decide)
  have eC : σ.1 q 5 = nI (fN v g 4) := hr.at hf (e := 4) (by decide) (by decide)
  have eR : σ.1 q 6 = nI (fN v g 5) := hr.at hf (e := 5) (by decide) (by decide)
  obtain ⟨-, s1, s64, c2, c5, r2, r5, b1, b2⟩ := id hf
  obtain ⟨o1, o2, o3, o4⟩ := onS_b hf
  refine ct_of (k := 0) rfl rfl rfl (Nat.le_of_ble_eq_true rfl) ?_
  refine x_iload_n (pc' := 1) rfl dX4_isOnGround_0 rfl ?_
  refine x_aload_n (pc' := 2) rfl dX4_isOnGround_1 rfl ?_
  refine x_get (v := .int _) (pc' := 5) fk_X4_19 (by first | assumption | exact ⟨by decide, rfl⟩) rfl dX4_isOnGround_2 rfl ?_
  refine x_bipush (v := 64) (pc' := 7) (by decide) dX4_isOnGround_5 rfl ?_
  refine x_imul (pc' := 8) dX4_isOnGround_7 rfl ?_
  refine x_top (y := nI (stS v g 0 0)) (by rw [eX, stS, Nat.zero_mul, Nat.add_zero, Nat.mul_comm]; exact pk_mul _ 64) ?_
  refine x_icmp_lt (tgt := 48) (pc' := 11) (by decide) dX4_isOnGround_8 rfl (fun c8 => ?_) (fun c8 => ?_)
  · refine x_iconst (v := 0) (pc' := 49) (by decide) dX4_isOnGround_48 rfl ?_
    exact x_zret rfl (by first | rfl | exact b01_nar _ | exact pb_nar _) dX4_isOnGround_49 (ret_i (pb_0 (fun q => i_nlt.mpr (nI_le q.1.1 hpx) c8)).symm)
  · refine x_iload_n (pc' := 12) rfl dX4_isOnGround_11 rfl ?_
    refine x_aload_n (pc' := 13) rfl dX4_isOnGround_12 rfl ?_
    refine x_callVi (As := []) (rest := [.int _]) (ci := 3) (pc' := 16) rfl vk_X4_44 mk_X4_right (by decide) (by first | assumption | exact ⟨by decide, rfl⟩) (by decide) rfl (Nat.le_of_ble_eq_true rfl) dX4_isOnGround_13 rfl (c_X4_right hq hr hf) ?_
    refine x_bipush (v := 64) (pc' := 18) (by decide) dX4_isOnGround_16 rfl ?_
    refine x_imul (pc' := 19) dX4_isOnGround_18 rfl ?_
    refine x_top (y := nI (stS v g (fN v g 4 - 1) 0)) (by rw [stS, Nat.mul_comm 64]; exact pk_mul _ 64) ?_
    refine x_icmp_gt (tgt := 48) (pc' := 22) (by decide) dX4_isOnGround_19 rfl (fun c19 => ?_) (fun c19 => ?_)
    · refine x_iconst (v := 0) (pc' := 49) (by decide) dX4_isOnGround_48 rfl ?_
      exact x_zret rfl (by first | rfl | exact b01_nar _ | exact pb_nar _) dX4_isOnGround_49 (ret_i (pb_0 (fun q => i_nlt.mpr (nI_le q.1.2 (by omega)) c19)).symm)
    · refine x_iload_n (pc' := 23) rfl dX4_isOnGround_22 rfl ?_
      refine x_aload_n (pc' := 24) rfl dX4_isOnGround_23 rfl ?_
      refine x_get (v := .int _) (pc' := 27) fk_X4_22 (by first | assumption | exact ⟨by decide, rfl⟩) rfl dX4_isOnGround_24 rfl ?_
      refine x_bipush (v := 64) (pc' := 29) (by decide) dX4_isOnGround_27 rfl ?_
      refine x_imul (pc' := 30) dX4_isOnGround_29 rfl ?_
      refine x_top (y := nI (stS v g 0 1)) (by rw [eY, stS, Nat.zero_mul, Nat.add_zero, Nat.mul_comm]; exact pk_mul _ 64) ?_
      refine x_icmp_lt (tgt := 48) (pc' := 33) (by decide) dX4_isOnGround_30 rfl (fun c30 => ?_) (fun c30 => ?_)
      · refine x_iconst (v := 0) (pc' := 49) (by decide) dX4_isOnGround_48 rfl ?_
        exact x_zret rfl (by first | rfl | exact b01_nar _ | exact pb_nar _) dX4_isOnGround_49 (ret_i (pb_0 (fun q => i_nlt.mpr (nI_le q.2.1 hpy) c30)).symm)
      · refine x_iload_n (pc' := 34) rfl dX4_isOnGround_33 rfl ?_
        refine x_aload_n (pc' := 35) rfl dX4_isOnGround_34 rfl ?_
        refine x_callVi (As := []) (rest := [.int _]) (ci := 3) (pc' := 38) rfl vk_X4_48 mk_X4_bottom (by decide) (by first | assumption | exact ⟨by decide, rfl⟩) (by decide) rfl (Nat.le_of_ble_eq_true rfl) dX4_isOnGround_35 rfl (c_X4_bottom hq hr hf) ?_
        refine x_bipush (v := 64) (pc' := 40) (by decide) dX4_isOnGround_38 rfl ?_
        refine x_imul (pc' := 41) dX4_isOnGround_40 rfl ?_
        refine x_top (y := nI (stS v g (fN v g 5 - 1) 1)) (by rw [stS, Nat.mul_comm 64]; exact pk_mul _ 64) ?_
        refine x_icmp_gt (tgt := 48) (pc' := 44) (by decide) dX4_isOnGround_41 rfl (fun c41 => ?_) (fun c41 => ?_)
        · refine x_iconst (v := 0) (pc' := 49) (by decide) dX4_isOnGround_48 rfl ?_
          exact x_zret rfl (by first | rfl | exact b01_nar _ | exact pb_nar _) dX4_isOnGround_49 (ret_i (pb_0 (fun q => i_nlt.mpr (nI_le q.2.2 (by omega)) c41)).symm)
        · refine x_iconst (v := 1) (pc' := 45) (by decide) dX4_isOnGround_44 rfl ?_
          refine x_goto (tgt := 49) (by decide) dX4_isOnGround_45 ?_
          exact x_zret rfl (by first | rfl | exact b01_nar _ | exact pb_nar _) dX4_isOnGround_49 (ret_i (pb_1 ⟨⟨(nI_leI (by omega) hpx).mp (i_nlt.mp c8), (nI_leI hpx (by omega)).mp (i_nlt.mp c19)⟩, (nI_leI (by omega) hpy).mp (i_nlt.mp c30), (nI_leI hpy (by omega)).mp (i_nlt.mp c41)⟩).symm)
set_option maxRecDepth 100000 in
set_option maxHeartbeats 4000000 in
theorem c_X4_offset {σ : St} {q : Nat} (hq : isG q) {c r w : Int32} {K R W : Nat} (hc : c = nI K) (hr0 : r = nI R) (hw : w = nI W) (hK : K < 5) (hR : R < 5) (hW : W < 2) : Ct yX4_offset M_X4_offset [.ref q, .int c, .int r, .int w] σ (some (.int (σ.1 (q + 1) (2 * (5 * R + K) + W))), σ) := by
  obtain ⟨hq0, hq1⟩ := hq
  have hx : 2 * (r * 5 + c) + w = nI (2 * (5 * R + K) + W) := by rw [hc, hr0, hw, Nat.mul_comm 5 R]; simp only [lit32, nI_add, pk_mul]
  refine ct_of (k := 1) rfl rfl rfl (Nat.le_of_ble_eq_true rfl) ?_
  refine x_iconst (v := 2) (pc' := 1) (by decide) dX4_offset_0 rfl ?_
  refine x_iload_n (pc' := 2) rfl dX4_offset_1 rfl ?_
  refine x_iconst (v := 5) (pc' := 3) (by decide) dX4_offset_2 rfl ?_
  refine x_imul (pc' := 4) dX4_offset_3 rfl ?_
  refine x_iload_n (pc' := 5) rfl dX4_offset_4 rfl ?_
  refine x_iadd (pc' := 6) dX4_offset_5 rfl ?_
  refine x_imul (pc' := 7) dX4_offset_6 rfl ?_
  refine x_iload_n (pc' := 8) rfl dX4_offset_7 rfl ?_
  refine x_iadd (pc' := 9) dX4_offset_8 rfl ?_
  refine x_top hx ?_
  refine x_istore (lv' := [_, _, _, _, _]) (pc' := 11) (by decide) rfl dX4_offset_9 rfl ?_
  refine x_iload (pc' := 13) rfl dX4_offset_11 rfl ?_
  refine x_if_lt (tgt := 36) (pc' := 16) (by decide) dX4_offset_13 rfl (fun c13 => absurd c13 (nI_pos (by omega))) (fun c13 => ?_)
  refine x_iload (pc' := 18) rfl dX4_offset_16 rfl ?_
  refine x_aload_n (pc' := 19) rfl dX4_offset_18 rfl ?_
  refine x_get (v := .ref _) (pc' := 22) fk_X4_9 (by first | assumption | exact ⟨by decide, rfl⟩) rfl dX4_offset_19 rfl ?_
  refine x_alen (a := 1) (n := 50) (v := 50) (pc' := 23) (by decide) (by first | assumption | exact ⟨by decide, rfl⟩) (by decide) dX4_offset_22 rfl ?_
  refine x_icmp_ge (tgt := 36) (pc' := 26) (by decide) dX4_offset_23 rfl (fun c23 => absurd c23 (nI_ge (b := 50) (by omega) (by decide))) (fun c23 => ?_)
  refine x_aload_n (pc' := 27) rfl dX4_offset_26 rfl ?_
  refine x_get (v := .ref _) (pc' := 30) fk_X4_9 (by first | assumption | exact ⟨by decide, rfl⟩) rfl dX4_offset_27 rfl ?_
  refine x_iload (pc' := 32) rfl dX4_offset_30 rfl ?_
  refine x_ialdn (N := 50) (n := 2 * (5 * R + K) + W) (pc' := 33) (by first | assumption | exact ⟨by decide, rfl⟩) (by decide) rfl (by omega) dX4_offset_32 rfl ?_
  refine x_goto (tgt := 37) (by decide) dX4_offset_33 ?_
  exact x_iret rfl dX4_offset_37 rfl
theorem chg_nar (v : Nat → Int32) (i : Nat) (a b : Int32) : narrow .boolean (.int (nI (chg v i a b))) = .int (nI (chg v i a b)) := by
  by_cases hq : ¬ v i = a ∨ ¬ v (i + 1) = b
  · rw [chg, pif_t hq]; rfl
  · rw [chg, pif_f hq]; rfl
set_option maxRecDepth 100000 in
set_option maxHeartbeats 4000000 in
theorem c_X4_setOffset {σ : St} {q : Nat} (hq : isG q) {c r dx dy : Int32} {K R : Nat} (hc : c = nI K) (hr0 : r = nI R) (hK : K < 5) (hR : R < 5) : Ct yX4_setOffset M_X4_setOffset [.ref q, .int c, .int r, .int dx, .int dy] σ (some (.int (nI (chg (σ.1 (q + 1)) (2 * (5 * R + K)) dx dy))), pA σ (q + 1) (set2 (σ.1 (q + 1)) (2 * (5 * R + K)) dx dy)) := by
  obtain ⟨hq0, hq1⟩ := hq
  have hx : 2 * (r * 5 + c) = nI (2 * (5 * R + K)) := by rw [hc, hr0, Nat.mul_comm 5 R]; simp only [lit32, nI_add, pk_mul]
  refine ct_of (k := 2) rfl rfl rfl (Nat.le_of_ble_eq_true rfl) ?_
  refine x_iconst (v := 2) (pc' := 1) (by decide) dX4_setOffset_0 rfl ?_
  refine x_iload_n (pc' := 2) rfl dX4_setOffset_1 rfl ?_
  refine x_iconst (v := 5) (pc' := 3) (by decide) dX4_setOffset_2 rfl ?_
  refine x_imul (pc' := 4) dX4_setOffset_3 rfl ?_
  refine x_iload_n (pc' := 5) rfl dX4_setOffset_4 rfl ?_
  refine x_iadd (pc' := 6) dX4_setOffset_5 rfl ?_
  refine x_imul (pc' := 7) dX4_setOffset_6 rfl ?_
  refine x_top hx ?_
  refine x_istore (lv' := [_, _, _, _, _, _, _]) (pc' := 9) (by decide) rfl dX4_setOffset_7 rfl ?_
  refine x_iload (pc' := 11) rfl dX4_setOffset_9 rfl ?_
  refine x_if_lt (tgt := 26) (pc' := 14) (by decide) dX4_setOffset_11 rfl (fun c11 => absurd c11 (nI_pos (by omega))) (fun c11 => ?_)
  refine x_iload (pc' := 16) rfl dX4_setOffset_14 rfl ?_
  refine x_iconst (v := 1) (pc' := 17) (by decide) dX4_setOffset_16 rfl ?_
  refine x_iadd (pc' := 18) dX4_setOffset_17 rfl ?_
  refine x_aload_n (pc' := 19) rfl dX4_setOffset_18 rfl ?_
  refine x_get (v := .ref _) (pc' := 22) fk_X4_9 (by first | assumption | exact ⟨by decide, rfl⟩) rfl dX4_setOffset_19 rfl ?_
  refine x_alen (a := 1) (n := 50) (v := 50) (pc' := 23) (by decide) (by first | assumption | exact ⟨by decide, rfl⟩) (by decide) dX4_setOffset_22 rfl ?_
  refine x_icmp_lt (tgt := 28) (pc' := 26) (by decide) dX4_setOffset_23 rfl (fun c23 => ?_) (fun c23 => absurd (by rw [nI_1]; exact nI_lt (b := 50) (by omega) (by decide)) c23)
  refine x_aload_n (pc' := 29) rfl dX4_setOffset_28 rfl ?_
  refine x_get (v := .ref _) (pc' := 32) fk_X4_9 (by first | assumption | exact ⟨by decide, rfl⟩) rfl dX4_setOffset_29 rfl ?_
  refine x_iload (pc' := 34) rfl dX4_setOffset_32 rfl ?_
  refine x_ialdn (N := 50) (n := 2 * (5 * R + K)) (pc' := 35) (by first | assumption | exact ⟨by decide, rfl⟩) (by decide) rfl (by omega) dX4_setOffset_34 rfl ?_
  refine x_iload_n (pc' := 36) rfl dX4_setOffset_35 rfl ?_
  refine x_icmp_ne (tgt := 53) (pc' := 39) (by decide) dX4_setOffset_36 rfl (fun c36 => ?_) (fun c36 => ?_)
  · refine x_iconst (v := 1) (pc' := 54) (by decide) dX4_setOffset_53 rfl ?_
    refine x_goto (tgt := 58) (by decide) dX4_setOffset_54 ?_
    refine x_top (y := nI (chg (σ.1 (q + 1)) (2 * (5 * R + K)) dx dy)) (by rw [chg, pif_t (P := ¬ σ.1 (q + 1) (2 * (5 * R + K)) = dx ∨ ¬ σ.1 (q + 1) (2 * (5 * R + K) + 1) = dy) (Or.inl c36)]; rfl) ?_
    refine x_istore (lv' := [_, _, _, _, _, _, _]) (pc' := 60) (by decide) rfl dX4_setOffset_58 rfl ?_
    refine x_aload_n (pc' := 61) rfl dX4_setOffset_60 rfl ?_
    refine x_get (v := .ref _) (pc' := 64) fk_X4_9 (by first | assumption | exact ⟨by decide, rfl⟩) rfl dX4_setOffset_61 rfl ?_
    refine x_iload (pc' := 66) rfl dX4_setOffset_64 rfl ?_
    refine x_iload_n (pc' := 67) rfl dX4_setOffset_66 rfl ?_
    refine x_iastn (N := 50) (n := 2 * (5 * R + K)) (pc' := 68) (by first | assumption | exact ⟨by decide, rfl⟩) (by decide) rfl (by omega) dX4_setOffset_67 rfl ?_
    refine x_aload_n (pc' := 69) rfl dX4_setOffset_68 rfl ?_
    refine x_get (v := .ref _) (pc' := 72) fk_X4_9 (by first | assumption | exact ⟨by decide, rfl⟩) rfl dX4_setOffset_69 rfl ?_
    refine x_iload (pc' := 74) rfl dX4_setOffset_72 rfl ?_
    refine x_iconst (v := 1) (pc' := 75) (by decide) dX4_setOffset_74 rfl ?_
    refine x_iadd (pc' := 76) dX4_setOffset_75 rfl ?_
    refine x_iload (pc' := 78) rfl dX4_setOffset_76 rfl ?_
    refine x_iastn (N := 50) (n := 2 * (5 * R + K) + 1) (pc' := 79) (by first | assumption | exact ⟨by decide, rfl⟩) (by decide) (nI_1 _) (by omega) dX4_setOffset_78 rfl ?_
    refine x_st (σ' := pA σ (q + 1) (set2 (σ.1 (q + 1)) (2 * (5 * R + K)) dx dy)) (by show pI (pI σ (q + 1) _ _) (q + 1) _ _ = _; rw [pI_pA σ, pA_pI, set2]) ?_
    refine x_iload (pc' := 81) rfl dX4_setOffset_79 rfl ?_
    exact x_zret rfl (by first | rfl | exact b01_nar _ | exact pb_nar _ | exact chg_nar _ _ _ _) dX4_setOffset_81 rfl
  · refine x_aload_n (pc' := 40) rfl dX4_setOffset_39 rfl ?_
    refine x_get (v := .ref _) (pc' := 43) fk_X4_9 (by first | assumption | exact ⟨by decide, rfl⟩) rfl dX4_setOffset_40 rfl ?_
    refine x_iload (pc' := 45) rfl dX4_setOffset_43 rfl ?_
    refine x_iconst (v := 1) (pc' := 46) (by decide) dX4_setOffset_45 rfl ?_
    refine x_iadd (pc' := 47) dX4_setOffset_46 rfl ?_
    refine x_ialdn (N := 50) (n := 2 * (5 * R + K) + 1) (pc' := 48) (by first | assumption | exact ⟨by decide, rfl⟩) (by decide) (nI_1 _) (by omega) dX4_setOffset_47 rfl ?_
    refine x_iload (pc' := 50) rfl dX4_setOffset_48 rfl ?_
    refine x_icmp_eq (tgt := 57) (pc' := 53) (by decide) dX4_setOffset_50 rfl (fun c50 => ?_) (fun c50 => ?_)
    · refine x_iconst (v := 0) (pc' := 58) (by decide) dX4_setOffset_57 rfl ?_
      refine x_top (y := nI (chg (σ.1 (q + 1)) (2 * (5 * R + K)) dx dy)) (by rw [chg, pif_f (P := ¬ σ.1 (q + 1) (2 * (5 * R + K)) = dx ∨ ¬ σ.1 (q + 1) (2 * (5 * R + K) + 1) = dy) (fun q => q.elim (fun h => h c36) (fun h => h c50))]; rfl) ?_
      refine x_istore (lv' := [_, _, _, _, _, _, _]) (pc' := 60) (by decide) rfl dX4_setOffset_58 rfl ?_
      refine x_aload_n (pc' := 61) rfl dX4_setOffset_60 rfl ?_
      refine x_get (v := .ref _) (pc' := 64) fk_X4_9 (by first | assumption | exact ⟨by decide, rfl⟩) rfl dX4_setOffset_61 rfl ?_
      refine x_iload (pc' := 66) rfl dX4_setOffset_64 rfl ?_
      refine x_iload_n (pc' := 67) rfl dX4_setOffset_66 rfl ?_
      refine x_iastn (N := 50) (n := 2 * (5 * R + K)) (pc' := 68) (by first | assumption | exact ⟨by decide, rfl⟩) (by decide) rfl (by omega) dX4_setOffset_67 rfl ?_
      refine x_aload_n (pc' := 69) rfl dX4_setOffset_68 rfl ?_
      refine x_get (v := .ref _) (pc' := 72) fk_X4_9 (by first | assumption | exact ⟨by decide, rfl⟩) rfl dX4_setOffset_69 rfl ?_
      refine x_iload (pc' := 74) rfl dX4_setOffset_72 rfl ?_
      refine x_iconst (v := 1) (pc' := 75) (by decide) dX4_setOffset_74 rfl ?_
      refine x_iadd (pc' := 76) dX4_setOffset_75 rfl ?_
      refine x_iload (pc' := 78) rfl dX4_setOffset_76 rfl ?_
      refine x_iastn (N := 50) (n := 2 * (5 * R + K) + 1) (pc' := 79) (by first | assumption | exact ⟨by decide, rfl⟩) (by decide) (nI_1 _) (by omega) dX4_setOffset_78 rfl ?_
      refine x_st (σ' := pA σ (q + 1) (set2 (σ.1 (q + 1)) (2 * (5 * R + K)) dx dy)) (by show pI (pI σ (q + 1) _ _) (q + 1) _ _ = _; rw [pI_pA σ, pA_pI, set2]) ?_
      refine x_iload (pc' := 81) rfl dX4_setOffset_79 rfl ?_
      exact x_zret rfl (by first | rfl | exact b01_nar _ | exact pb_nar _ | exact chg_nar _ _ _ _) dX4_setOffset_81 rfl
    · refine x_iconst (v := 1) (pc' := 54) (by decide) dX4_setOffset_53 rfl ?_
      refine x_goto (tgt := 58) (by decide) dX4_setOffset_54 ?_
      refine x_top (y := nI (chg (σ.1 (q + 1)) (2 * (5 * R + K)) dx dy)) (by rw [chg, pif_t (P := ¬ σ.1 (q + 1) (2 * (5 * R + K)) = dx ∨ ¬ σ.1 (q + 1) (2 * (5 * R + K) + 1) = dy) (Or.inr c50)]; rfl) ?_
      refine x_istore (lv' := [_, _, _, _, _, _, _]) (pc' := 60) (by decide) rfl dX4_setOffset_58 rfl ?_
      refine x_aload_n (pc' := 61) rfl dX4_setOffset_60 rfl ?_
      refine x_get (v := .ref _) (pc' := 64) fk_X4_9 (by first | assumption | exact ⟨by decide, rfl⟩) rfl dX4_setOffset_61 rfl ?_
      refine x_iload (pc' := 66) rfl dX4_setOffset_64 rfl ?_
      refine x_iload_n (pc' := 67) rfl dX4_setOffset_66 rfl ?_
      refine x_iastn (N := 50) (n := 2 * (5 * R + K)) (pc' := 68) (by first | assumption | exact ⟨by decide, rfl⟩) (by decide) rfl (by omega) dX4_setOffset_67 rfl ?_
      refine x_aload_n (pc' := 69) rfl dX4_setOffset_68 rfl ?_
      refine x_get (v := .ref _) (pc' := 72) fk_X4_9 (by first | assumption | exact ⟨by decide, rfl⟩) rfl dX4_setOffset_69 rfl ?_
      refine x_iload (pc' := 74) rfl dX4_setOffset_72 rfl ?_
      refine x_iconst (v := 1) (pc' := 75) (by decide) dX4_setOffset_74 rfl ?_
      refine x_iadd (pc' := 76) dX4_setOffset_75 rfl ?_
      refine x_iload (pc' := 78) rfl dX4_setOffset_76 rfl ?_
      refine x_iastn (N := 50) (n := 2 * (5 * R + K) + 1) (pc' := 79) (by first | assumption | exact ⟨by decide, rfl⟩) (by decide) (nI_1 _) (by omega) dX4_setOffset_78 rfl ?_
      refine x_st (σ' := pA σ (q + 1) (set2 (σ.1 (q + 1)) (2 * (5 * R + K)) dx dy)) (by show pI (pI σ (q + 1) _ _) (q + 1) _ _ = _; rw [pI_pA σ, pA_pI, set2]) ?_
      refine x_iload (pc' := 81) rfl dX4_setOffset_79 rfl ?_
      exact x_zret rfl (by first | rfl | exact b01_nar _ | exact pb_nar _ | exact chg_nar _ _ _ _) dX4_setOffset_81 rfl
