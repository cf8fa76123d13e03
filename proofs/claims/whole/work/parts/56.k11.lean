set_option maxHeartbeats 4000000 in
theorem y_call {D : va_G} {ct : Nat → ClassId} {ad : Nat → Nat} {b L : Nat} {xs : Nat → Int32} {i pc pc' : Nat} {st : List Value} {σ σ' : St} {M' : MD} {y : MethodName} {n idx k ci : Nat} {As rest : List Value} {v : Value} (hs : st = As.reverse ++ .ref (ad (pl k)) :: rest) (hv : VK RL idx y) (hm : MK y M' n) (hR : M'.2.2.2.2.frames + 1 ≤ room_1.frames ∧ 8 + (M'.2.2.1 + 11) + M'.2.2.2.2.locals ≤ room_1.locals) (hb : Is k 0 ci) (hcl : (Cls[ci]?).map (fun q => q.1) = some y.cls) (hn : As.length = n) (hAs : As.map (cv (gL D ct ad)) = As) (hv0 : cv (gL D ct ad) v = v) (hw : (rest.map fun v => v.category).sum ≤ 8) (hd : decode code pc = .ok (.invokevirtual idx, 3)) (hp : pc + 3 = pc') (hc : Ct y M' (.ref k :: As) σ (some v, σ')) (kk : El D ct ad b L xs i pc' (v :: rest) σ') : El D ct ad b L xs i pc st σ := by
  subst hp
  subst hs
  intro p l e s m below meth c C K hA H locs ls hP hS hl
  obtain ⟨v1, v2, v3, v4⟩ := hv
  have ht : ∀ w ∈ TT, w.before #[Value.ref b] s = true := fun w hw => C.2.2.2.2.2.1 w (List.mem_filter.mp hw).1
  have he := wld_get (gL D ct ad) σ hb.1
  rw [wE_0 hb.2] at he
  cases hq : Cls[ci]? with
  | none => rw [hq] at hcl; cases hcl
  | some q =>
    rw [hq] at hcl
    have hcl : q.1 = y.cls := Option.some.inj hcl
    have hrecv := va_recv K.1 hP hq he
    rw [hcl] at hrecv
    have hr := va_runV (below := below) (meth := meth) (e := e) (R := room_1) (locs := locs) (cells := 295) (slots := CS) (g := F0 m pc ls (As.reverse ++ .ref (ad (pl k)) :: rest)) (rest := rest) (nL := 4) (As := As.map (cv (gL D ct ad))) (C := y.cls) ⟨C.1, C.2.1, C.2.2.2.1, C.2.2.2.2.1, ht⟩ (hc l (gL D ct ad)) ⟨callb ht hm hR v4 v1, ht _ v2, ht _ v3⟩ ⟨blind, hrecv, fun U hU hW => ⟨rfl, by rw [hU]; exact hP, K.warm hW⟩⟩ rfl (by rw [List.length_map]; exact hn) hl.1 (by rw [hAs]; rfl) (lv_room hw) hd ⟨Nat.le_of_ble_eq_true rfl, Nat.le_of_ble_eq_true rfl⟩
    intro T hT X
    obtain ⟨w, st₀, t, T', Lc, h0, X', hL, e1, -, ⟨hv9, hP1, hF⟩, stp⟩ := hr T hT X
    cases hv9
    have hS1 : va_S (fun q => s.heap.size ≤ q) s.heap t.heap (locs ++ Lc) := by
      refine ⟨Nat.le_trans hS.1 (by rw [← h0]; exact hF.1), fun q h1 h2 => by
        rw [hF.2 q (by rw [h0]; exact Nat.lt_of_lt_of_le h1 hS.1) (fun z => h2 (hA q z)), h0]
        exact hS.2.1 q h1 h2, fun x hx => ?_⟩
      rcases List.mem_append.mp hx with h | h
      · exact hS.2.2 x h
      · exact hA _ (hL x h)
    obtain ⟨t2, a1, b1⟩ := kk p l e s m below meth c C K hA t.heap _ ls hP1.1 hS1 hl T' e1 (by simpa using X')
    refine ⟨t2, stp t2 ?_, b1⟩
    have : (Option.map (cv (gL D ct ad)) (some v)).toList ++ rest = v :: rest := by simp [hv0]
    rw [this]
    exact a1
