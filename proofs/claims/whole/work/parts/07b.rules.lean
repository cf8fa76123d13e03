/-! array rows whose index is a natural number -/
section XN
variable {M : MD} {out : Option Value × St} {pc pc' : Nat} {lv : List (Option Value)} {st : List Value} {σ : St}
theorem nin {i : Int32} {n N : Nat} (hx : i = nI n) (hn : n < N) (hN : N < 2 ^ 31) : vp_in i N ∧ i.toNatClampNeg = n := by
  subst hx
  exact ⟨vp_in_nI hn hN, nI_clamp (by omega)⟩
theorem x_ialdn {k n N : Nat} {i : Int32} (hk : Is k 1 N) (hN : N < 2 ^ 31) (hx : i = nI n) (hn : n < N) (hd : decode M.1 pc = .ok (.iaload, 1)) (hp : pc + 1 = pc') (kk : Ex M out pc' lv (.int (σ.1 k n) :: st) σ) : Ex M out pc lv (.int i :: .ref k :: st) σ :=
  x_iald hk (nin hx hn hN).1 hd hp (by rw [(nin hx hn hN).2]; exact kk)
theorem x_zaldn {k n N : Nat} {i : Int32} (hk : Is k 3 N) (hN : N < 2 ^ 31) (hx : i = nI n) (hn : n < N) (hd : decode M.1 pc = .ok (.baload, 1)) (hp : pc + 1 = pc') (kk : Ex M out pc' lv (.int (σ.1 k n) :: st) σ) : Ex M out pc lv (.int i :: .ref k :: st) σ :=
  x_zald hk (nin hx hn hN).1 hd hp (by rw [(nin hx hn hN).2]; exact kk)
theorem x_laldn {k n N : Nat} {i : Int32} (hk : Is k 2 N) (hN : N < 2 ^ 31) (hx : i = nI n) (hn : n < N) (hd : decode M.1 pc = .ok (.laload, 1)) (hp : pc + 1 = pc') (kk : Ex M out pc' lv (.long (σ.2.1 k n) :: st) σ) : Ex M out pc lv (.int i :: .ref k :: st) σ :=
  x_lald hk (nin hx hn hN).1 hd hp (by rw [(nin hx hn hN).2]; exact kk)
theorem x_aaldGn {k n N : Nat} {i : Int32} (hk : Is k 4 N) (hN : N < 2 ^ 31) (hx : i = nI n) (hn : n < N) (hd : decode M.1 pc = .ok (.aaload, 1)) (hp : pc + 1 = pc') (kk : Ex M out pc' lv (.ref (σ.2.2 k n) :: st) σ) : Ex M out pc lv (.int i :: .ref k :: st) σ :=
  x_aaldG hk (nin hx hn hN).1 hd hp (by rw [(nin hx hn hN).2]; exact kk)
theorem x_aaldSn {k n N : Nat} {i : Int32} (hk : Is k 5 N) (hN : N < 2 ^ 31) (hx : i = nI n) (hn : n < N) (hd : decode M.1 pc = .ok (.aaload, 1)) (hp : pc + 1 = pc') (kk : Ex M out pc' lv (.ref (31 + 2 * n) :: st) σ) : Ex M out pc lv (.int i :: .ref k :: st) σ :=
  x_aaldS hk (nin hx hn hN).1 hd hp (by rw [(nin hx hn hN).2]; exact kk)
theorem x_iastn {k n N : Nat} {i x : Int32} (hk : Is k 1 N) (hN : N < 2 ^ 31) (hx : i = nI n) (hn : n < N) (hd : decode M.1 pc = .ok (.iastore, 1)) (hp : pc + 1 = pc') (kk : Ex M out pc' lv st (pI σ k n x)) : Ex M out pc lv (.int x :: .int i :: .ref k :: st) σ :=
  x_iast hk (nin hx hn hN).1 hd hp (by rw [(nin hx hn hN).2]; exact kk)
theorem x_zastn {k n N : Nat} {i x : Int32} (hk : Is k 3 N) (hN : N < 2 ^ 31) (hx : i = nI n) (hn : n < N) (hx2 : vp_nar .boolean x = x) (hd : decode M.1 pc = .ok (.bastore, 1)) (hp : pc + 1 = pc') (kk : Ex M out pc' lv st (pI σ k n x)) : Ex M out pc lv (.int x :: .int i :: .ref k :: st) σ :=
  x_zast hk (nin hx hn hN).1 hx2 hd hp (by rw [(nin hx hn hN).2]; exact kk)
theorem x_lastn {k n N : Nat} {i : Int32} {x : Int64} (hk : Is k 2 N) (hN : N < 2 ^ 31) (hx : i = nI n) (hn : n < N) (hd : decode M.1 pc = .ok (.lastore, 1)) (hp : pc + 1 = pc') (kk : Ex M out pc' lv st (pL σ k n x)) : Ex M out pc lv (.long x :: .int i :: .ref k :: st) σ :=
  x_last hk (nin hx hn hN).1 hd hp (by rw [(nin hx hn hN).2]; exact kk)
theorem x_aastGn {k n N q : Nat} {i : Int32} (hk : Is k 4 N) (hq : Is q 0 3) (hN : N < 2 ^ 31) (hx : i = nI n) (hn : n < N) (hd : decode M.1 pc = .ok (.aastore, 1)) (hp : pc + 1 = pc') (kk : Ex M out pc' lv st (pP σ k n q)) : Ex M out pc lv (.ref q :: .int i :: .ref k :: st) σ :=
  x_aastG hk hq (nin hx hn hN).1 hd hp (by rw [(nin hx hn hN).2]; exact kk)
theorem x_top {x y : Int32} (h : x = y) (kk : Ex M out pc lv (.int y :: st) σ) : Ex M out pc lv (.int x :: st) σ := by rw [h]; exact kk
theorem x_topl {x y : Int64} (h : x = y) (kk : Ex M out pc lv (.long y :: st) σ) : Ex M out pc lv (.long x :: st) σ := by rw [h]; exact kk
theorem x_topr {x y : Nat} (h : x = y) (kk : Ex M out pc lv (.ref y :: st) σ) : Ex M out pc lv (.ref x :: st) σ := by rw [h]; exact kk
theorem x_st {σ' : St} (h : σ = σ') (kk : Ex M out pc lv st σ') : Ex M out pc lv st σ := by rw [h]; exact kk
end XN
