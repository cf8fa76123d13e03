section KH
variable {M : MD} {D : va_G} {ct : Nat → ClassId} {h0 sz : Nat} {F : FF} {pc pc' tgt : Nat} {lv lv' : List (Option Value)} {st : List Value} {ad : Nat → Nat} {f : Nat → va_E} {k sl : Nat}
theorem ct_same {U : State} {a b : ClassId} {ty : FieldType} (h1 : va_RA U a ty) (h2 : va_RA U b ty) : a = b := by
  cases ty with
  | object C =>
    obtain ⟨_, _, _, _, _, x⟩ := h1
    obtain ⟨_, _, _, _, _, y⟩ := h2
    exact Option.some.inj (x.symm.trans y)
  | _ => exact Option.some.inj ((show U.vm.findClass _ = some a from h1).symm.trans (show U.vm.findClass _ = some b from h2))
theorem K_last {U : State} {cl : List vw_C} {ts : List (ClassId × FieldType)} {a b : ClassId} {ty : FieldType} {t : Nat} (ht : ts[t]? = some (b, ty)) (h : va_K D cl (ts ++ [(a, ty)]) U) : a = b := by
  have h1 := (h.2 ts.length (a, ty) (by simp)).2
  have h2 := (h.2 t (b, ty) (by rw [List.getElem?_append_left (List.getElem?_eq_some_iff.mp ht).1]; exact ht)).2
  exact ct_same h1 h2
theorem Ac_ge {q : Nat} (h : sz ≤ q) : Ac h0 sz q := Or.inr h
theorem e_newa {atype : ArrayType} {ty : FieldType} {t : Nat} {n : Int32} {N' : Nat} {a0 : vp_A} (hw : Cond.arrayClass (newarray.typeOf atype) ∈ TT) (hty : newarray.typeOf atype = ty) (ht : (tys (gd D ct))[t]? = some (ct t, ty)) (ha : ∀ cA : ClassId, vp_cell cA a0 = arrV cA N' (fun _ => defaultValue ty)) (hn : ¬ n < 0) (hN : n.toNatClampNeg = N') (hbytes : N' * componentBytes ty ≤ 536870912) (hc : k + 1 ≤ M.2.2.2.2.cells) (hs : sl + N' ≤ M.2.2.2.2.slots) (hd : decode M.1 pc = .ok (.newarray atype, 2)) (hp : pc + 2 = pc')
    (kk : ∀ q, Ec M D ct h0 sz F pc' lv (.ref q :: st) (va_up ad (k + 1) q) (va_up f (k + 1) (.inl (ct t, a0))) (k + 1) (sl + N')) : Ec M D ct h0 sz F pc lv (.int n :: st) ad f k sl := by
  subst hp
  intro p l e s m args below meth c C hsz H locs ls hP hD hS hl
  refine va_newa C.1 C.2.1 (C.2.2.2.2.1 _ hw) hty C.2.2.2.2.2.2.2.1.1 hP hD hS (fun q hq => Ac_ge (by omega)) ha hn hN hbytes hc hs hd (fun q cA H1 hK1 hP1 hD1 hS1 => ?_)
  obtain rfl := K_last ht hK1
  rw [wf_app] at hP1 hD1
  exact kk q p l e s m args below meth c C hsz H1 locs ls hP1 hD1 hS1 hl
theorem e_anew {C0 : String} {idx t : Nat} {n : Int32} {N' : Nat} (hw : Cond.classLink M.2.1 idx C0 ∈ TT) (hC : C0 = RX4 ∨ C0 = RX8) (ht : (tys (gd D ct))[t]? = some (ct t, .object C0)) (hn : ¬ n < 0) (hN : n.toNatClampNeg = N') (hbytes : N' * 4 ≤ 536870912) (hc : k + 1 ≤ M.2.2.2.2.cells) (hs : sl + N' ≤ M.2.2.2.2.slots) (hd : decode M.1 pc = .ok (.anewarray idx, 3)) (hp : pc + 3 = pc')
    (kk : ∀ q, Ec M D ct h0 sz F pc' lv (.ref q :: st) (va_up ad (k + 1) q) (va_up f (k + 1) (.inl (ct t, N', .inr (.inr (.inr (.inr (fun _ => none))))))) (k + 1) (sl + N')) : Ec M D ct h0 sz F pc lv (.int n :: st) ad f k sl := by
  subst hp
  intro p l e s m args below meth c C hsz H locs ls hP hD hS hl
  refine va_newq C.1 C.2.1 C.2.2.2.1 (C.2.2.2.2.1 _ hw) (hC.elim (fun q => q ▸ C.2.2.2.2.2.2.2.1.2.2.1) (fun q => q ▸ C.2.2.2.2.2.2.2.1.2.2.2)) C.2.2.2.2.2.2.2.1.1 hP hD hS (fun q hq => Ac_ge (by omega)) hn hN hbytes hc hs hd (fun q cA H1 hK1 hP1 hD1 hS1 => ?_)
  obtain rfl := K_last ht hK1
  rw [wf_app] at hP1 hD1
  exact kk q p l e s m args below meth c C hsz H1 locs ls hP1 hD1 hS1 hl
/-- a class that can be made -/
def NK (ci : Nat) : Prop := ∃ (C : String) (T : u_T) (ty : Nat → FieldType), Cls[ci]? = some (C, T, nf ci) ∧ (∀ w ∈ u_ws C T (nf ci), w ∈ TT) ∧ (∀ k, k < nf ci → parseFieldDescriptor (T k).2.2.1 = some (ty k)) ∧ (∀ j, j < nf ci → defaultValue (ty j) = vp_V (df ci) j) ∧ Cond.instantiable C (nf ci) ∈ TT ∧ Cond.initialized C ∈ TT
theorem e_new {C0 : String} {idx ci : Nat} (hN : NK ci) (hC : (Cls[ci]?).map (fun q => q.1) = some C0) (hw : Cond.classLink M.2.1 idx C0 ∈ TT) (hc : k + 1 ≤ M.2.2.2.2.cells) (hs : sl + nf ci ≤ M.2.2.2.2.slots) (hd : decode M.1 pc = .ok (.new idx, 3)) (hp : pc + 3 = pc')
    (kk : ∀ q, Ec M D ct h0 sz F pc' lv (.ref q :: st) (va_up ad (k + 1) q) (va_up f (k + 1) (.inr (ci, df ci))) (k + 1) (sl + nf ci)) : Ec M D ct h0 sz F pc lv st ad f k sl := by
  subst hp
  intro p l e s m args below meth c C hsz H locs ls hP hD hS hl
  obtain ⟨C1, T, ty, h1, h2, h3, h4, h5, h6⟩ := hN
  rw [h1] at hC
  obtain rfl := Option.some.inj hC
  refine va_new C.1 C.2.1 C.2.2.2.2.1 h2 ty h3 C.2.2.2.1 (C.2.2.2.2.1 _ hw) (C.2.2.2.2.1 _ h5) (C.2.2.2.2.1 _ h6) C.2.2.2.2.2.2.2.1.1 hP hD hS (fun q hq => Ac_ge (by omega)) h1 h4 hc hs hd (fun q H1 hP1 hD1 hS1 => ?_)
  rw [wf_app] at hP1 hD1
  exact kk q p l e s m args below meth c C hsz H1 locs ls hP1 hD1 hS1 hl
/-- a final field, written in its own class's constructor -/
def PF (own : String) (ci j : Nat) (v : Value) : Prop := ∃ (C : String) (T : u_T) (tf : Nat → FieldType) (ty : FieldType), Cls[ci]? = some (C, T, nf ci) ∧ (∀ k, k < nf ci → parseFieldDescriptor (T k).2.2.1 = some (tf k)) ∧ (∀ a, a < nf ci → ∀ b, b < nf ci → a ≠ b → (T a).2.1 ≠ (T b).2.1) ∧ (T j).2.2.2 = true ∧ (T j).1 = own ∧ parseFieldDescriptor (T j).2.2.1 = some ty ∧ narrow ty v = v ∧ fits ty v = true
theorem e_putF {idx ci j i a : Nat} {v : Value} {fs : List Value} (hF : FK M.2.1 idx ci j) (hT : PF M.2.1 ci j v) (hi : i < k + 1) (ha : ad i = a) (he : f i = .inr (ci, fs)) (hfs : j < fs.length) (hd : decode M.1 pc = .ok (.putfield idx, 3)) (hp : pc + 3 = pc') (kk : Ec M D ct h0 sz F pc' lv st ad (va_up f i (.inr (ci, fs.set j v))) k sl) : Ec M D ct h0 sz F pc lv (v :: .ref a :: st) ad f k sl := by
  subst hp
  subst ha
  intro p l e s m args below meth c C hsz H locs ls hP hD hS hl
  obtain ⟨Cn, T, h1, h2, h3, h4⟩ := hF
  obtain ⟨Cn', T', tf, ty, g1, g2, g3, g4, g5, g6, g7, g8⟩ := hT
  obtain ⟨rfl, hh⟩ := Prod.mk.inj (Option.some.inj (h1.symm.trans g1))
  obtain ⟨rfl, -⟩ := Prod.mk.inj hh
  have hw := wf_get (ad := ad) (f := f) hi
  rw [he] at hw
  refine va_putF (D := D) (cl := Cls) (A := Ac h0 sz) (H0 := s.heap) C.1 C.2.1 C.2.2.2.2.1 h3 tf g2 g3 C.2.2.2.1 C.2.2.2.2.2.2.2.1.1 hP hD hS i hw h1 j h2 (C.2.2.2.2.1 _ h4) (fun _ h9 => h9) g4 C.2.2.2.2.2.2.2.2 g5 (v := v) g6 g7 g8 hfs hd (fun H1 locs1 hP1 hD1 hS1 => ?_)
  rw [wf_set] at hP1 hD1
  exact kk p l e s m args below meth c C hsz H1 locs1 ls hP1 hD1 hS1 hl
theorem e_putl {idx ci j i a : Nat} {x : Int64} {fs : List Value} (hF : FK M.2.1 idx ci j) (hT : PK ci j .long) (hi : i < k + 1) (ha : ad i = a) (he : f i = .inr (ci, fs)) (hfs : j < fs.length) (hd : decode M.1 pc = .ok (.putfield idx, 3)) (hp : pc + 3 = pc') (kk : Ec M D ct h0 sz F pc' lv st ad (va_up f i (.inr (ci, fs.set j (.long x)))) k sl) : Ec M D ct h0 sz F pc lv (.long x :: .ref a :: st) ad f k sl := by
  subst hp
  subst ha
  intro p l e s m args below meth c C hsz H locs ls hP hD hS hl
  obtain ⟨Cn, T, h1, h2, h3, h4⟩ := hF
  obtain ⟨Cn', T', tf, g1, g2, g3, g4, g5⟩ := hT
  obtain ⟨rfl, hh⟩ := Prod.mk.inj (Option.some.inj (h1.symm.trans g1))
  obtain ⟨rfl, -⟩ := Prod.mk.inj hh
  have hw := wf_get (ad := ad) (f := f) hi
  rw [he] at hw
  refine va_put (D := D) (cl := Cls) (A := Ac h0 sz) (H0 := s.heap) C.1 C.2.1 C.2.2.2.2.1 h3 tf g2 g3 C.2.2.2.1 C.2.2.2.2.2.2.2.1.1 hP hD hS i hw h1 j h2 (C.2.2.2.2.1 _ h4) (fun _ h9 => h9) g4 (v := .long x) g5 rfl rfl hfs hd (fun H1 locs1 hP1 hD1 hS1 => ?_)
  rw [wf_set] at hP1 hD1
  exact kk p l e s m args below meth c C hsz H1 locs1 ls hP1 hD1 hS1 hl
theorem e_get {idx ci j i a : Nat} {v : Value} {fs : List Value} (hF : FK M.2.1 idx ci j) (hi : i < k + 1) (ha : ad i = a) (he : f i = .inr (ci, fs)) (hv : fs[j]? = some v) (hd : decode M.1 pc = .ok (.getfield idx, 3)) (hp : pc + 3 = pc') (kk : Ec M D ct h0 sz F pc' lv (v :: st) ad f k sl) : Ec M D ct h0 sz F pc lv (.ref a :: st) ad f k sl := by
  subst hp
  subst ha
  intro p l e s m args below meth c C hsz H locs ls hP hD hS hl
  obtain ⟨Cn, T, h1, h2, h3, h4⟩ := hF
  have hw := wf_get (ad := ad) (f := f) hi
  rw [he] at hw
  exact va_get (D := D) (cl := Cls) C.1 C.2.1 C.2.2.2.2.1 h3 C.2.2.2.1 C.2.2.2.2.2.2.2.1.1 hP i hw h1 j h2 (C.2.2.2.2.1 _ h4) (fun _ h9 => h9) (v := v) hv hd (kk p l e s m args below meth c C hsz H locs ls hP hD hS hl)
theorem e_aast {i i2 a b t ci n : Nat} {C0 : String} {T0 : u_T} {g : Nat → Option Nat} {vs : List Value} {x : Int32} (hi : i < k + 1) (ha : ad i = a) (he : f i = .inl (ct t, n, .inr (.inr (.inr (.inr g))))) (hi2 : i2 < k + 1) (ha2 : ad i2 = b) (he2 : f i2 = .inr (ci, vs)) (ht : (tys (gd D ct))[t]? = some (ct t, .object C0)) (hcl : Cls[ci]? = some (C0, T0, nf ci)) (hin : vp_in x n) (hd : decode M.1 pc = .ok (.aastore, 1)) (hp : pc + 1 = pc')
    (kk : Ec M D ct h0 sz F pc' lv st ad (va_up f i (.inl (ct t, n, .inr (.inr (.inr (.inr (va_up g x.toNatClampNeg (some b)))))))) k sl) : Ec M D ct h0 sz F pc lv (.ref b :: .int x :: .ref a :: st) ad f k sl := by
  subst hp
  subst ha
  subst ha2
  intro p l e s m args below meth c C hsz H locs ls hP hD hS hl
  have hw := wf_get (ad := ad) (f := f) hi
  rw [he] at hw
  have hw2 := wf_get (ad := ad) (f := f) hi2
  rw [he2] at hw2
  refine va_astq (A := Ac h0 sz) (H0 := s.heap) (r := (C0, T0, nf ci)) C.1 C.2.1 C.2.2.2.2.2.2.2.1.1 hP hD hS i t i2 ci hw ht hw2 hcl hin hd (fun H1 locs1 hP1 hD1 hS1 => ?_)
  rw [wf_set] at hP1 hD1
  exact kk p l e s m args below meth c C hsz H1 locs1 ls hP1 hD1 hS1 hl
theorem e_vret (hr : M.2.2.2.1 = none) (hd : decode M.1 pc = .ok (.return_, 1)) (h00 : ad 0 = h0) (hk : k = M.2.2.2.2.cells) (hsl : sl ≤ M.2.2.2.2.slots) (hF : ∀ j, j < k + 1 → f j = F ct ad j) : Ec M D ct h0 sz F pc lv [] ad f k sl := by
  intro p l e s m args below meth c C hsz H locs ls hP hD hS hl
  have e : wf ad f (k + 1) = wf ad (F ct ad) (k + 1) := wf_c (fun j hj => ⟨rfl, hF j hj⟩)
  rw [e] at hP hD
  subst hk
  refine W.widen (k := M.2.2.2.2.cells) (n := M.2.2.2.2.slots) (Nat.le_refl _) hsl ?_
  exact W.vret C.1 C.2.1 (C.2.2.2.2.2.1.trans hr) (fun t ht hW => ⟨rfl, ⟨ad, h00, by rw [ht]; exact hP, hD⟩, hS.F ht⟩) hS.2.2 hd C.2.2.2.2.2.2.1
/-- the world behind a constructor's call -/
def adJ (k : Nat) (a b : Nat → Nat) (j : Nat) : Nat := if j < k then a j else b (j - k)
def fJ (k : Nat) (a b : Nat → va_E) (j : Nat) : va_E := if j < k then a j else b (j - k)
theorem e_back {p : Program} {l : Launch} {e : Env} {s : State} {m : MethodId} {args : Array Value} {below : List Frame} {meth : Method} {c : Code} {H : Heap} {locs : List Loc} {ls : Array Slot} {F' : FF} {n' ns' cn : Nat} {stk : List Value} {a : Array Value} (hsz : s.heap.size = sz) (hP : va_P D Cls (wf ad f (k + 1)) H) (hD : va_D (Ac h0 sz) (wf ad f (k + 1))) (hS : va_S (Ac h0 sz) s.heap H locs)
    (hr : va_Run p l e M.2.2.2.2 s m args below meth c H locs cn sl n' ns' (F0 m pc ls stk) st (Qk D ct (ad k) H.size n' F' a) (Ac (ad k) H.size)) {Q : State → Prop}
    (kk : ∀ (ad' : Nat → Nat) (H1 : Heap) (locs1 : List Loc), ad' 0 = ad k → va_P D Cls (wf (adJ k ad ad') (fJ k f (F' ct ad')) (k + n' + 1)) H1 → va_D (Ac h0 sz) (wf (adJ k ad ad') (fJ k f (F' ct ad')) (k + n' + 1)) → va_S (Ac h0 sz) s.heap H1 locs1 → W p l e M.2.2.2.2 s m args below meth c H1 locs1 (cn + n') (sl + ns') Q (F0 m (pc + 3) ls st)) : W p l e M.2.2.2.2 s m args below meth c H locs cn sl Q (F0 m pc ls stk) := by
  intro T hT X
  obtain ⟨v, st₀, t, T', L, q0, X', hL, e1, -, ⟨hv, ⟨ad', b0, b1, b2⟩, hF⟩, stp⟩ := hr T hT X
  cases hv
  have hAk : Ac h0 sz (ad k) := hD.2 k _ (wf_get (by omega))
  have hsub : ∀ q, Ac (ad k) H.size q → Ac h0 sz q := fun q h => h.elim (fun h => h ▸ hAk) (fun h => Or.inr (by have := hS.1; omega))
  have hS1 : va_S (Ac h0 sz) s.heap t.heap (locs ++ L) := by
    refine ⟨Nat.le_trans hS.1 (by rw [← q0]; exact hF.1), fun q h1 h2 => ?_, fun x hx => ?_⟩
    · rw [hF.2 q (by rw [q0]; exact Nat.lt_of_lt_of_le h1 hS.1) (fun z => h2 (hsub q z)), q0]
      exact hS.2.1 q h1 h2
    · rcases List.mem_append.mp hx with h | h
      · exact hS.2.2 x h
      · exact hsub _ (hL x h)
  have old : ∀ i, i < k → ad i < H.size ∧ ad i ≠ ad k := fun i hi => ⟨(hP i _ (wf_get (by omega))).lt, fun q => by
    have := hD.1 i k _ _ (wf_get (by omega)) (wf_get (by omega)) q
    omega⟩
  have hP1 : va_P D Cls (wf (adJ k ad ad') (fJ k f (F' ct ad')) (k + n' + 1)) t.heap := by
    intro i q hq
    obtain ⟨hi, rfl⟩ := wf_inv hq
    unfold adJ fJ
    by_cases h : i < k
    · rw [if_pos h, if_pos h]
      refine (hP i _ (wf_get (by omega))).kept ?_
      show t.heap[ad i]? = H[ad i]?
      rw [hF.2 (ad i) (by rw [q0]; exact (old i h).1) (fun z => z.elim (old i h).2 (fun z => by have := (old i h).1; omega)), q0]
    · rw [if_neg h, if_neg h]
      exact b1 (i - k) _ (wf_get (by omega))
  have new : ∀ i, i < n' + 1 → Ac (ad k) H.size (ad' i) := fun i hi => b2.2 i _ (wf_get hi)
  have hD1 : va_D (Ac h0 sz) (wf (adJ k ad ad') (fJ k f (F' ct ad')) (k + n' + 1)) := by
    refine ⟨fun i j x y hx hy hxy => ?_, fun i q hq => ?_⟩
    · obtain ⟨hi, rfl⟩ := wf_inv hx
      obtain ⟨hj, rfl⟩ := wf_inv hy
      have hxy : adJ k ad ad' i = adJ k ad ad' j := hxy
      unfold adJ at hxy
      by_cases h1 : i < k
      · rw [if_pos h1] at hxy
        by_cases h2 : j < k
        · rw [if_pos h2] at hxy
          exact hD.1 i j _ _ (wf_get (by omega)) (wf_get (by omega)) hxy
        · rw [if_neg h2] at hxy
          exact ((new (j - k) (by omega)).elim (fun z => absurd (hxy.trans z) (old i h1).2) (fun z => by have := (old i h1).1; omega))
      · rw [if_neg h1] at hxy
        by_cases h2 : j < k
        · rw [if_pos h2] at hxy
          exact ((new (i - k) (by omega)).elim (fun z => absurd (hxy.symm.trans z) (old j h2).2) (fun z => by have := (old j h2).1; omega))
        · rw [if_neg h2] at hxy
          have := b2.1 (i - k) (j - k) _ _ (wf_get (by omega)) (wf_get (by omega)) hxy
          omega
    · obtain ⟨hi, rfl⟩ := wf_inv hq
      show Ac h0 sz (adJ k ad ad' i)
      unfold adJ
      by_cases h : i < k
      · rw [if_pos h]
        exact hD.2 i _ (wf_get (by omega))
      · rw [if_neg h]
        exact hsub _ (new (i - k) (by omega))
  obtain ⟨t2, a1, c1⟩ := kk ad' t.heap _ b0 hP1 hD1 hS1 T' e1 X'
  exact ⟨t2, stp t2 a1, c1⟩
theorem blindk {ci : Nat} {z y : Nat} : FrameBlind (va_Pc [.ref z] (fun U => U.heap.size = y ∧ va_P D Cls [(z, .inr (ci, df ci))] U.heap ∧ Kn D ct U)) := by
  intro a U g' mk h
  obtain ⟨h1, h2, h3, h4, h5, h6, h7⟩ := h
  exact ⟨h1, h2, h3, va_K.moved (u := U) (U := U.calling g' mk a) (Vm.Alike.refl U.vm) h4, fun q hq => va_Nw.same rfl rfl (h5 q hq), h6.moved (Vm.Alike.refl U.vm), h7.moved (Vm.Alike.refl U.vm)⟩
/-- facts of a constructor -/
def IK (y : MethodName) (M' : MD) : Prop := Cond.code y M'.1 M'.2.2.1 none ∈ TT ∧ M'.2.2.2.1 = none ∧ y.name = "<init>" ∧ Cond.instanceMethod y ∈ TT ∧ Cond.initialized y.cls ∈ TT ∧ (y.cls ≠ "java/lang/invoke/MethodHandle" ∧ y.cls ≠ "java/lang/invoke/VarHandle" ∧ (parseMethodDescriptor y.desc).map (fun d => d.parameters.length) = some 0)
theorem e_init {y : MethodName} {M' : MD} {F' : FF} {idx ci : Nat} (hI : IK y M') (hlk : Cond.methodLink M.2.1 idx y ∈ TT) (hC : Ck y M' ci F') (hR : RM M M') (he : f k = .inr (ci, df ci)) (hc : k + M'.2.2.2.2.cells ≤ M.2.2.2.2.cells) (hs : sl + M'.2.2.2.2.slots ≤ M.2.2.2.2.slots) (hw : (st.map fun v => v.category).sum ≤ 8) (hd : decode M.1 pc = .ok (.invokespecial idx, 3)) (hp : pc + 3 = pc')
    (kk : ∀ ad', ad' 0 = ad k → Ec M D ct h0 sz F pc' lv st (adJ k ad ad') (fJ k f (F' ct ad')) (k + M'.2.2.2.2.cells) (sl + M'.2.2.2.2.slots)) : Ec M D ct h0 sz F pc lv (.ref (ad k) :: st) ad f k sl := by
  subst hp
  obtain ⟨i1, i2, i3, i4, i5, i6⟩ := hI
  obtain ⟨B, own, nL, rt, rm⟩ := M'
  obtain rfl : rt = none := i2
  intro p l e s m args below meth c C hsz H locs ls hP hD hS hl
  have hPk : va_P D Cls [(ad k, .inr (ci, df ci))] H := fun i q hq => by
    have hz : i < 1 := (List.getElem?_eq_some_iff.mp hq).1
    rw [show i = 0 by omega] at hq
    cases hq
    have := hP k _ (wf_get (by omega))
    rw [he] at this
    exact this
  refine e_back hsz hP hD hS (va_runI (As := []) (n := 0) ⟨C.1, C.2.1, C.2.2.1, C.2.2.2.1, C.2.2.2.2.1⟩ (hC l D ct (ad k) H.size) ⟨callB_of 0 C.2.2.2.2.1 (fun w hw => (List.mem_cons.mp hw).elim (fun q => q ▸ tt_good _ i1) (fun q => tt_good w q)) rfl rfl rfl (C.2.2.2.2.1 _ i5) (C.2.2.2.2.1 _ hlk) i6 hR, i3, C.2.2.2.2.1 _ i4⟩ ⟨blindk, fun U hU hW => ⟨rfl, by rw [hU], by rw [hU]; exact hPk, C.2.2.2.2.2.2.2.1.warm hW⟩⟩ rfl rfl hl.1 rfl (lv_room hw) hd ⟨hc, hs⟩) (fun ad' H1 locs1 h00 hP1 hD1 hS1 => ?_)
  exact kk ad' h00 p l e s m args below meth c C hsz H1 locs1 ls hP1 hD1 hS1 hl
theorem e_initN {y : MethodName} {M' : MD} {F' : FF} {idx ci : Nat} (hI : IK y M') (hlk : (M.2.1, idx, y) ∈ nsL) (hC : Ck y M' ci F') (hR : RM M M') (he : f k = .inr (ci, df ci)) (hc : k + M'.2.2.2.2.cells ≤ M.2.2.2.2.cells) (hs : sl + M'.2.2.2.2.slots ≤ M.2.2.2.2.slots) (hw : (st.map fun v => v.category).sum ≤ 8) (hd : decode M.1 pc = .ok (.invokespecial idx, 3)) (hp : pc + 3 = pc')
    (kk : ∀ ad', ad' 0 = ad k → Ec M D ct h0 sz F pc' lv st (adJ k ad ad') (fJ k f (F' ct ad')) (k + M'.2.2.2.2.cells) (sl + M'.2.2.2.2.slots)) : Ec M D ct h0 sz F pc lv (.ref (ad k) :: st) ad f k sl := by
  subst hp
  obtain ⟨i1, i2, i3, i4, i5, i6⟩ := hI
  obtain ⟨B, own, nL, rt, rm⟩ := M'
  obtain rfl : rt = none := i2
  intro p l e s m args below meth c C hsz H locs ls hP hD hS hl
  have hPk : va_P D Cls [(ad k, .inr (ci, df ci))] H := fun i q hq => by
    have hz : i < 1 := (List.getElem?_eq_some_iff.mp hq).1
    rw [show i = 0 by omega] at hq
    cases hq
    have := hP k _ (wf_get (by omega))
    rw [he] at this
    exact this
  refine e_back hsz hP hD hS (va_runIN (As := []) (n := 0) ⟨C.1, C.2.1, C.2.2.1, C.2.2.2.1, C.2.2.2.2.1⟩ (hC l D ct (ad k) H.size) ⟨va_cnB 0 C.2.2.2.2.1 (fun w hw => (List.mem_cons.mp hw).elim (fun q => q ▸ tt_good _ i1) (fun q => tt_good w q)) rfl rfl rfl (C.2.2.2.2.2.2.2.1.2.1 _ hlk) (C.2.2.2.2.1 _ i5) i6 hR, i3, C.2.2.2.2.1 _ i4⟩ ⟨blindk, fun U hU hW => ⟨rfl, by rw [hU], by rw [hU]; exact hPk, C.2.2.2.2.2.2.2.1.warm hW⟩⟩ rfl rfl hl.1 rfl (lv_room hw) hd ⟨hc, hs⟩) (fun ad' H1 locs1 h00 hP1 hD1 hS1 => ?_)
  exact kk ad' h00 p l e s m args below meth c C hsz H1 locs1 ls hP1 hD1 hS1 hl
end KH
