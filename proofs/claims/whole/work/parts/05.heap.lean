theorem wE_0 {g : Ge} {σ : St} {k ci : Nat} (h : lay k = (0, ci)) : wE g σ k = .inr (ci, (List.range (nf ci)).map (fun j => cv g (fv σ ci k j))) := by
  simp only [wE, h]
theorem wE_1 {g : Ge} {σ : St} {k n : Nat} (h : lay k = (1, n)) : wE g σ k = .inl (g.2.2 0, n, .inl (σ.1 k)) := by
  simp only [wE, h]
theorem wE_2 {g : Ge} {σ : St} {k n : Nat} (h : lay k = (2, n)) : wE g σ k = .inl (g.2.2 1, n, .inr (.inl (σ.2.1 k))) := by
  simp only [wE, h]
theorem wE_3 {g : Ge} {σ : St} {k n : Nat} (h : lay k = (3, n)) : wE g σ k = .inl (g.2.2 2, n, .inl (σ.1 k)) := by
  simp only [wE, h]
theorem wE_4 {g : Ge} {σ : St} {k n : Nat} (h : lay k = (4, n)) : wE g σ k = .inl (g.2.2 3, n, .inr (.inr (.inr (.inr (fun j => some (g.2.1 (σ.2.2 k j))))))) := by
  simp only [wE, h]
theorem wE_5 {g : Ge} {σ : St} {k n : Nat} (h : lay k = (5, n)) : wE g σ k = .inl (g.2.2 4, n, .inr (.inr (.inr (.inr (fun j => some (g.2.1 (31 + 2 * j))))))) := by
  simp only [wE, h]
theorem pI_ne {σ : St} {k j a : Nat} {v : Int32} (h : a ≠ k) : (pI σ k j v).1 a = σ.1 a := by
  funext b
  show (if a = k ∧ b = j then v else σ.1 a b) = σ.1 a b
  rw [if_neg (fun q => h q.1)]
theorem pL_ne {σ : St} {k j a : Nat} {v : Int64} (h : a ≠ k) : (pL σ k j v).2.1 a = σ.2.1 a := by
  funext b
  show (if a = k ∧ b = j then v else σ.2.1 a b) = σ.2.1 a b
  rw [if_neg (fun q => h q.1)]
theorem pP_ne {σ : St} {k j a v : Nat} (h : a ≠ k) : (pP σ k j v).2.2 a = σ.2.2 a := by
  funext b
  show (if a = k ∧ b = j then v else σ.2.2 a b) = σ.2.2 a b
  rw [if_neg (fun q => h q.1)]
theorem pA_ne {σ : St} {k a : Nat} {f : Nat → Int32} (h : a ≠ k) : (pA σ k f).1 a = σ.1 a := by
  funext b
  show (if a = k then f b else σ.1 a b) = σ.1 a b
  rw [if_neg h]
theorem fv_pI {σ : St} {ci k j b : Nat} {v : Int32} (h : ft ci j = 0 ∨ ft ci j = 3) : fv (pI σ k j v) ci k b = if b = j then .int v else fv σ ci k b := by
  by_cases hb : b = j
  · subst hb
    rw [if_pos rfl]
    rcases h with h | h <;> simp [fv, h, pI]
  · rw [if_neg hb]
    unfold fv
    have e : (pI σ k j v).1 k b = σ.1 k b := by
      show (if k = k ∧ b = j then v else σ.1 k b) = σ.1 k b
      rw [if_neg (fun q => hb q.2)]
    rw [e]
    rfl
theorem fv_pL {σ : St} {ci k j b : Nat} {v : Int64} (h : ft ci j = 1) : fv (pL σ k j v) ci k b = if b = j then .long v else fv σ ci k b := by
  by_cases hb : b = j
  · subst hb
    rw [if_pos rfl]
    simp [fv, h, pL]
  · rw [if_neg hb]
    unfold fv
    have e : (pL σ k j v).2.1 k b = σ.2.1 k b := by
      show (if k = k ∧ b = j then v else σ.2.1 k b) = σ.2.1 k b
      rw [if_neg (fun q => hb q.2)]
    rw [e]
    rfl
theorem fs_set {g : Ge} {n j : Nat} {f f' : Nat → Value} {v : Value} (h : ∀ b, f' b = if b = j then v else f b) (hv : cv g v = v) : ((List.range n).map (fun b => cv g (f b))).set j v = (List.range n).map (fun b => cv g (f' b)) := by
  apply List.ext_getElem?
  intro i
  rw [List.getElem?_set]
  by_cases hi : i < n
  · by_cases hij : j = i
    · subst hij
      simp [hi, h, hv]
    · rw [if_neg hij]
      have e0 : f' i = f i := by rw [h i, if_neg (fun q => hij q.symm)]
      simp [hi, e0]
  · by_cases hij : j = i
    · subst hij
      simp [hi]
    · rw [if_neg hij]
      simp [hi]
/-- a field of the pool: own class, entry, class, field -/
def FK (own : String) (idx ci j : Nat) : Prop := ∃ (C : String) (T : u_T), Cls[ci]? = some (C, T, nf ci) ∧ j < nf ci ∧ (∀ w ∈ u_ws C T (nf ci), w ∈ TT) ∧ Cond.fieldLink own idx (T j).1 (T j).2.1 (T j).2.2.1 ∈ TT
/-- a field that may be written -/
def PK (ci j : Nat) (ty : FieldType) : Prop := ∃ (C : String) (T : u_T) (tf : Nat → FieldType), Cls[ci]? = some (C, T, nf ci) ∧ (∀ k, k < nf ci → parseFieldDescriptor (T k).2.2.1 = some (tf k)) ∧ (∀ a, a < nf ci → ∀ b, b < nf ci → a ≠ b → (T a).2.1 ≠ (T b).2.1) ∧ (T j).2.2.2 = false ∧ parseFieldDescriptor (T j).2.2.1 = some ty
def VK (own : String) (idx : Nat) (y : MethodName) : Prop := Cond.methodLink own idx y ∈ TT ∧ Cond.instanceMethod y ∈ TT ∧ Cond.selects y.cls y y ∈ TT ∧ Cond.initialized y.cls ∈ TT
def SK (own : String) (idx : Nat) (y : MethodName) : Prop := Cond.methodLink own idx y ∈ TT ∧ Cond.static y ∈ TT ∧ Cond.initialized y.cls ∈ TT
def MK (y : MethodName) (M : MD) (n : Nat) : Prop := Cond.code y M.1 M.2.2.1 M.2.2.2.1 ∈ TT ∧ M.2.2.2.2.cells = 0 ∧ M.2.2.2.2.slots = 0 ∧ (y.cls ≠ "java/lang/invoke/MethodHandle" ∧ y.cls ≠ "java/lang/invoke/VarHandle" ∧ (parseMethodDescriptor y.desc).map (fun d => d.parameters.length) = some n)
abbrev RM (M M' : MD) : Prop := M'.2.2.2.2.frames + 1 ≤ M.2.2.2.2.frames ∧ 8 + (M'.2.2.1 + 11) + M'.2.2.2.2.locals ≤ M.2.2.2.2.locals
section XH
variable {M : MD} {out : Option Value × St} {pc pc' tgt : Nat} {lv lv' : List (Option Value)} {st : List Value} {σ : St}
theorem x_get {k idx ci j : Nat} (hF : FK M.2.1 idx ci j) (hk : Is k 0 ci) {v : Value} (hv : fv σ ci k j = v) (hd : decode M.1 pc = .ok (.getfield idx, 3)) (hp : pc + 3 = pc') (kk : Ex M out pc' lv (v :: st) σ) : Ex M out pc lv (.ref k :: st) σ := by
  subst hp
  subst hv
  intro g p l e s m args below meth c C H locs ls hP hS hl
  obtain ⟨Cn, T, h1, h2, h3, h4⟩ := hF
  have he := wld_get g σ hk.1
  rw [wE_0 hk.2] at he
  exact va_get (D := g.1) (cl := Cls) C.1 C.2.1 C.2.2.2.2.1 h3 C.2.2.2.1 C.2.2.2.2.2.2.2.1 hP k he h1 j h2 (C.2.2.2.2.1 _ h4) (fun _ h9 => h9) (v := cv g (fv σ ci k j)) (by simp [h2]) hd (kk g p l e s m args below meth c C H locs ls hP hS hl)
theorem x_puti {k idx ci j : Nat} {x : Int32} (hF : FK M.2.1 idx ci j) (hT : PK ci j .int) (hf : ft ci j = 0) (hk : Is k 0 ci) (hd : decode M.1 pc = .ok (.putfield idx, 3)) (hp : pc + 3 = pc') (kk : Ex M out pc' lv st (pI σ k j x)) : Ex M out pc lv (.int x :: .ref k :: st) σ := by
  subst hp
  intro g p l e s m args below meth c C H locs ls hP hS hl
  obtain ⟨Cn, T, h1, h2, h3, h4⟩ := hF
  obtain ⟨Cn', T', tf, g1, g2, g3, g4, g5⟩ := hT
  obtain ⟨rfl, hh⟩ := Prod.mk.inj (Option.some.inj (h1.symm.trans g1))
  obtain ⟨rfl, -⟩ := Prod.mk.inj hh
  have he := wld_get g σ hk.1
  rw [wE_0 hk.2] at he
  refine va_put (D := g.1) (cl := Cls) (A := Fr g) (H0 := s.heap) C.1 C.2.1 C.2.2.2.2.1 h3 tf g2 g3 C.2.2.2.1 C.2.2.2.2.2.2.2.1 hP (wld_D C.2.2.2.2.2.2.2.2.1 σ) hS k he h1 j h2 (C.2.2.2.2.1 _ h4) (fun _ h9 => h9) g4 (v := .int x) g5 rfl rfl (by simpa using h2) hd (fun H1 locs1 hP1 hD1 hS1 => ?_)
  rw [fs_set (f' := fun b => fv (pI σ k j x) ci k b) (fun b => fv_pI (Or.inl hf)) rfl, wld_set (g := g) (σ := σ) (σ' := pI σ k j x) (wE_0 hk.2) (fun i hi => wE_congr (pI_ne hi) rfl rfl)] at hP1
  exact kk g p l e s m args below meth c C H1 locs1 ls hP1 hS1 hl
theorem x_putz {k idx ci j : Nat} {x : Int32} (hF : FK M.2.1 idx ci j) (hT : PK ci j .boolean) (hf : ft ci j = 3) (hk : Is k 0 ci) (hx : narrow .boolean (.int x) = .int x) (hx2 : fits .boolean (.int x) = true) (hd : decode M.1 pc = .ok (.putfield idx, 3)) (hp : pc + 3 = pc') (kk : Ex M out pc' lv st (pI σ k j x)) : Ex M out pc lv (.int x :: .ref k :: st) σ := by
  subst hp
  intro g p l e s m args below meth c C H locs ls hP hS hl
  obtain ⟨Cn, T, h1, h2, h3, h4⟩ := hF
  obtain ⟨Cn', T', tf, g1, g2, g3, g4, g5⟩ := hT
  obtain ⟨rfl, hh⟩ := Prod.mk.inj (Option.some.inj (h1.symm.trans g1))
  obtain ⟨rfl, -⟩ := Prod.mk.inj hh
  have he := wld_get g σ hk.1
  rw [wE_0 hk.2] at he
  refine va_put (D := g.1) (cl := Cls) (A := Fr g) (H0 := s.heap) C.1 C.2.1 C.2.2.2.2.1 h3 tf g2 g3 C.2.2.2.1 C.2.2.2.2.2.2.2.1 hP (wld_D C.2.2.2.2.2.2.2.2.1 σ) hS k he h1 j h2 (C.2.2.2.2.1 _ h4) (fun _ h9 => h9) g4 (v := .int x) g5 hx hx2 (by simpa using h2) hd (fun H1 locs1 hP1 hD1 hS1 => ?_)
  rw [fs_set (f' := fun b => fv (pI σ k j x) ci k b) (fun b => fv_pI (Or.inr hf)) rfl, wld_set (g := g) (σ := σ) (σ' := pI σ k j x) (wE_0 hk.2) (fun i hi => wE_congr (pI_ne hi) rfl rfl)] at hP1
  exact kk g p l e s m args below meth c C H1 locs1 ls hP1 hS1 hl
theorem x_putl {k idx ci j : Nat} {x : Int64} (hF : FK M.2.1 idx ci j) (hT : PK ci j .long) (hf : ft ci j = 1) (hk : Is k 0 ci) (hd : decode M.1 pc = .ok (.putfield idx, 3)) (hp : pc + 3 = pc') (kk : Ex M out pc' lv st (pL σ k j x)) : Ex M out pc lv (.long x :: .ref k :: st) σ := by
  subst hp
  intro g p l e s m args below meth c C H locs ls hP hS hl
  obtain ⟨Cn, T, h1, h2, h3, h4⟩ := hF
  obtain ⟨Cn', T', tf, g1, g2, g3, g4, g5⟩ := hT
  obtain ⟨rfl, hh⟩ := Prod.mk.inj (Option.some.inj (h1.symm.trans g1))
  obtain ⟨rfl, -⟩ := Prod.mk.inj hh
  have he := wld_get g σ hk.1
  rw [wE_0 hk.2] at he
  refine va_put (D := g.1) (cl := Cls) (A := Fr g) (H0 := s.heap) C.1 C.2.1 C.2.2.2.2.1 h3 tf g2 g3 C.2.2.2.1 C.2.2.2.2.2.2.2.1 hP (wld_D C.2.2.2.2.2.2.2.2.1 σ) hS k he h1 j h2 (C.2.2.2.2.1 _ h4) (fun _ h9 => h9) g4 (v := .long x) g5 rfl rfl (by simpa using h2) hd (fun H1 locs1 hP1 hD1 hS1 => ?_)
  rw [fs_set (f' := fun b => fv (pL σ k j x) ci k b) (fun b => fv_pL hf) rfl, wld_set (g := g) (σ := σ) (σ' := pL σ k j x) (wE_0 hk.2) (fun i hi => wE_congr rfl (pL_ne hi) rfl)] at hP1
  exact kk g p l e s m args below meth c C H1 locs1 ls hP1 hS1 hl
theorem x_iald {k n : Nat} {i : Int32} (hk : Is k 1 n) (hi : vp_in i n) (hd : decode M.1 pc = .ok (.iaload, 1)) (hp : pc + 1 = pc') (kk : Ex M out pc' lv (.int (σ.1 k i.toNatClampNeg) :: st) σ) : Ex M out pc lv (.int i :: .ref k :: st) σ := by
  subst hp
  intro g p l e s m args below meth c C H locs ls hP hS hl
  have he := wld_get g σ hk.1
  rw [wE_1 hk.2] at he
  exact va_iald C.1 C.2.1 C.2.2.2.2.2.2.2.1 hP k 0 he rfl hi hd (kk g p l e s m args below meth c C H locs ls hP hS hl)
theorem x_zald {k n : Nat} {i : Int32} (hk : Is k 3 n) (hi : vp_in i n) (hd : decode M.1 pc = .ok (.baload, 1)) (hp : pc + 1 = pc') (kk : Ex M out pc' lv (.int (σ.1 k i.toNatClampNeg) :: st) σ) : Ex M out pc lv (.int i :: .ref k :: st) σ := by
  subst hp
  intro g p l e s m args below meth c C H locs ls hP hS hl
  have he := wld_get g σ hk.1
  rw [wE_3 hk.2] at he
  exact va_zald C.1 C.2.1 C.2.2.2.2.2.2.2.1 hP k 2 he rfl hi hd (kk g p l e s m args below meth c C H locs ls hP hS hl)
theorem x_lald {k n : Nat} {i : Int32} (hk : Is k 2 n) (hi : vp_in i n) (hd : decode M.1 pc = .ok (.laload, 1)) (hp : pc + 1 = pc') (kk : Ex M out pc' lv (.long (σ.2.1 k i.toNatClampNeg) :: st) σ) : Ex M out pc lv (.int i :: .ref k :: st) σ := by
  subst hp
  intro g p l e s m args below meth c C H locs ls hP hS hl
  have he := wld_get g σ hk.1
  rw [wE_2 hk.2] at he
  exact va_lald C.1 C.2.1 C.2.2.2.2.2.2.2.1 hP k 1 he rfl hi hd (kk g p l e s m args below meth c C H locs ls hP hS hl)
theorem x_aaldG {k n : Nat} {i : Int32} (hk : Is k 4 n) (hi : vp_in i n) (hd : decode M.1 pc = .ok (.aaload, 1)) (hp : pc + 1 = pc') (kk : Ex M out pc' lv (.ref (σ.2.2 k i.toNatClampNeg) :: st) σ) : Ex M out pc lv (.int i :: .ref k :: st) σ := by
  subst hp
  intro g p l e s m args below meth c C H locs ls hP hS hl
  have he := wld_get g σ hk.1
  rw [wE_4 hk.2] at he
  exact va_aldq C.1 C.2.1 C.2.2.2.2.2.2.2.1 hP k 3 he rfl hi hd (kk g p l e s m args below meth c C H locs ls hP hS hl)
theorem x_aaldS {k n : Nat} {i : Int32} (hk : Is k 5 n) (hi : vp_in i n) (hd : decode M.1 pc = .ok (.aaload, 1)) (hp : pc + 1 = pc') (kk : Ex M out pc' lv (.ref (31 + 2 * i.toNatClampNeg) :: st) σ) : Ex M out pc lv (.int i :: .ref k :: st) σ := by
  subst hp
  intro g p l e s m args below meth c C H locs ls hP hS hl
  have he := wld_get g σ hk.1
  rw [wE_5 hk.2] at he
  exact va_aldq C.1 C.2.1 C.2.2.2.2.2.2.2.1 hP k 4 he rfl hi hd (kk g p l e s m args below meth c C H locs ls hP hS hl)
theorem x_alen {k a n : Nat} {v : Int32} (ha : a = 1 ∨ a = 4) (hk : Is k a n) (hv : Int32.ofNat n = v) (hd : decode M.1 pc = .ok (.arraylength, 1)) (hp : pc + 1 = pc') (kk : Ex M out pc' lv (.int v :: st) σ) : Ex M out pc lv (.ref k :: st) σ := by
  subst hp
  intro g p l e s m args below meth c C H locs ls hP hS hl
  have he := wld_get g σ hk.1
  rcases ha with rfl | rfl
  · rw [wE_1 hk.2] at he
    exact va_alen C.1 C.2.1 C.2.2.2.2.2.2.2.1 hP k 0 he rfl hv hd (kk g p l e s m args below meth c C H locs ls hP hS hl)
  · rw [wE_4 hk.2] at he
    exact va_alen C.1 C.2.1 C.2.2.2.2.2.2.2.1 hP k 3 he rfl hv hd (kk g p l e s m args below meth c C H locs ls hP hS hl)
theorem pI_at (σ : St) (k j : Nat) (v : Int32) : (pI σ k j v).1 k = upd (σ.1 k) j v := by
  funext b
  show (if k = k ∧ b = j then v else σ.1 k b) = upd (σ.1 k) j v b
  by_cases h : b = j
  · subst h; rw [if_pos ⟨rfl, rfl⟩]; simp [upd]
  · rw [if_neg (fun q => h q.2)]; simp [upd, h]
theorem pL_at (σ : St) (k j : Nat) (v : Int64) : (pL σ k j v).2.1 k = vp_updL (σ.2.1 k) j v := by
  funext b
  show (if k = k ∧ b = j then v else σ.2.1 k b) = vp_updL (σ.2.1 k) j v b
  by_cases h : b = j
  · subst h; rw [if_pos ⟨rfl, rfl⟩]; simp [vp_updL]
  · rw [if_neg (fun q => h q.2)]; simp [vp_updL, h]
theorem x_iast {k n : Nat} {i x : Int32} (hk : Is k 1 n) (hi : vp_in i n) (hd : decode M.1 pc = .ok (.iastore, 1)) (hp : pc + 1 = pc') (kk : Ex M out pc' lv st (pI σ k i.toNatClampNeg x)) : Ex M out pc lv (.int x :: .int i :: .ref k :: st) σ := by
  subst hp
  intro g p l e s m args below meth c C H locs ls hP hS hl
  have he := wld_get g σ hk.1
  rw [wE_1 hk.2] at he
  refine va_iast (A := Fr g) (H0 := s.heap) C.1 C.2.1 C.2.2.2.2.2.2.2.1 hP (wld_D C.2.2.2.2.2.2.2.2.1 σ) hS k 0 he rfl hi hd (fun H1 locs1 hP1 hD1 hS1 => ?_)
  rw [wld_set (g := g) (σ := σ) (σ' := pI σ k i.toNatClampNeg x) (by rw [wE_1 hk.2, pI_at]) (fun i hi => wE_congr (pI_ne hi) rfl rfl)] at hP1
  exact kk g p l e s m args below meth c C H1 locs1 ls hP1 hS1 hl
theorem x_zast {k n : Nat} {i x : Int32} (hk : Is k 3 n) (hi : vp_in i n) (hx : vp_nar .boolean x = x) (hd : decode M.1 pc = .ok (.bastore, 1)) (hp : pc + 1 = pc') (kk : Ex M out pc' lv st (pI σ k i.toNatClampNeg x)) : Ex M out pc lv (.int x :: .int i :: .ref k :: st) σ := by
  subst hp
  intro g p l e s m args below meth c C H locs ls hP hS hl
  have he := wld_get g σ hk.1
  rw [wE_3 hk.2] at he
  refine va_zast (A := Fr g) (H0 := s.heap) C.1 C.2.1 C.2.2.2.2.2.2.2.1 hP (wld_D C.2.2.2.2.2.2.2.2.1 σ) hS k 2 he rfl hi hd (fun H1 locs1 hP1 hD1 hS1 => ?_)
  rw [hx, wld_set (g := g) (σ := σ) (σ' := pI σ k i.toNatClampNeg x) (by rw [wE_3 hk.2, pI_at]) (fun i hi => wE_congr (pI_ne hi) rfl rfl)] at hP1
  exact kk g p l e s m args below meth c C H1 locs1 ls hP1 hS1 hl
theorem x_last {k n : Nat} {i : Int32} {x : Int64} (hk : Is k 2 n) (hi : vp_in i n) (hd : decode M.1 pc = .ok (.lastore, 1)) (hp : pc + 1 = pc') (kk : Ex M out pc' lv st (pL σ k i.toNatClampNeg x)) : Ex M out pc lv (.long x :: .int i :: .ref k :: st) σ := by
  subst hp
  intro g p l e s m args below meth c C H locs ls hP hS hl
  have he := wld_get g σ hk.1
  rw [wE_2 hk.2] at he
  refine va_last (A := Fr g) (H0 := s.heap) C.1 C.2.1 C.2.2.2.2.2.2.2.1 hP (wld_D C.2.2.2.2.2.2.2.2.1 σ) hS k 1 he rfl hi hd (fun H1 locs1 hP1 hD1 hS1 => ?_)
  rw [wld_set (g := g) (σ := σ) (σ' := pL σ k i.toNatClampNeg x) (by rw [wE_2 hk.2, pL_at]) (fun i hi => wE_congr rfl (pL_ne hi) rfl)] at hP1
  exact kk g p l e s m args below meth c C H1 locs1 ls hP1 hS1 hl
theorem x_aastG {k n q : Nat} {i : Int32} (hk : Is k 4 n) (hq : Is q 0 3) (hi : vp_in i n) (hd : decode M.1 pc = .ok (.aastore, 1)) (hp : pc + 1 = pc') (kk : Ex M out pc' lv st (pP σ k i.toNatClampNeg q)) : Ex M out pc lv (.ref q :: .int i :: .ref k :: st) σ := by
  subst hp
  intro g p l e s m args below meth c C H locs ls hP hS hl
  have he := wld_get g σ hk.1
  rw [wE_4 hk.2] at he
  have hv := wld_get g σ hq.1
  rw [wE_0 hq.2] at hv
  refine va_astq (A := Fr g) (H0 := s.heap) (r := (RX4, TX4, 7)) C.1 C.2.1 C.2.2.2.2.2.2.2.1 hP (wld_D C.2.2.2.2.2.2.2.2.1 σ) hS k 3 q 3 he rfl hv rfl hi hd (fun H1 locs1 hP1 hD1 hS1 => ?_)
  have e1 : (fun j => some (g.2.1 ((pP σ k i.toNatClampNeg q).2.2 k j))) = va_up (fun j => some (g.2.1 (σ.2.2 k j))) i.toNatClampNeg (some (g.2.1 q)) := by
    funext b
    show some (g.2.1 (if k = k ∧ b = i.toNatClampNeg then q else σ.2.2 k b)) = _
    by_cases h : b = i.toNatClampNeg
    · rw [if_pos ⟨rfl, h⟩]; simp [va_up, h]
    · rw [if_neg (fun q => h q.2)]; simp [va_up, h]
  rw [wld_set (g := g) (σ := σ) (σ' := pP σ k i.toNatClampNeg q) (by rw [wE_4 hk.2, e1]) (fun i hi => wE_congr rfl rfl (pP_ne hi))] at hP1
  exact kk g p l e s m args below meth c C H1 locs1 ls hP1 hS1 hl
/-- System.arraycopy of a whole int array into another -/
theorem x_copy {k k2 n idx : Nat} {N : Int32} (hk : Is k 1 n) (hk2 : Is k2 1 n) (hN : nI n = N) (hn : n < 2 ^ 31) (hl1 : Cond.methodLink M.2.1 idx arraycopyName ∈ TT) (hl2 : Cond.native arraycopyName ∈ TT) (hl3 : Cond.static arraycopyName ∈ TT) (hl4 : Cond.initialized "java/lang/System" ∈ TT) (hf : 1 ≤ M.2.2.2.2.frames) (hloc : nativeFrameWords "java/lang/System" "arraycopy" 5 + 11 ≤ M.2.2.2.2.locals) (hd : decode M.1 pc = .ok (.invokestatic idx, 3)) (hp : pc + 3 = pc') (kk : Ex M out pc' lv [] (pA σ k2 (va_cpy (σ.1 k) (σ.1 k2) 0 0 n))) : Ex M out pc lv [.int N, .int 0, .ref k2, .int 0, .ref k] σ := by
  subst hp
  subst hN
  intro g p l e s m args below meth c C H locs ls hP hS hl
  have he := wld_get g σ hk.1
  rw [wE_1 hk.2] at he
  have he2 := wld_get g σ hk2.1
  rw [wE_1 hk2.2] at he2
  have c0 : (0 : Int32).toNatClampNeg = 0 := rfl
  have cn := nI_clamp hn
  refine va_copyi (A := Fr g) (H0 := s.heap) (a := g.2.1 k2) (a0 := g.2.1 k) (rest := []) (ty := .int) C.1 C.2.1 (C.2.2.1.trans hl.1.symm) C.2.2.2.1 (C.2.2.2.2.1 _ hl1) (C.2.2.2.2.1 _ hl2) (C.2.2.2.2.1 _ hl3) (C.2.2.2.2.1 _ hl4) C.2.2.2.2.2.2.2.1 hP (wld_D C.2.2.2.2.2.2.2.2.1 σ) hS k k2 0 0 he he2 rfl rfl rfl (by decide) (by decide) (nI_pos hn) (by rw [c0, cn]; omega) (by rw [c0, cn]; omega) (fun _ _ => rfl) hf (by simpa using hloc) hd (fun H1 locs1 hP1 hD1 hS1 => ?_)
  rw [c0, cn] at hP1
  have e1 : (pA σ k2 (va_cpy (σ.1 k) (σ.1 k2) 0 0 n)).1 k2 = va_cpy (σ.1 k) (σ.1 k2) 0 0 n := by
    funext b
    show (if k2 = k2 then _ else _) = _
    rw [if_pos rfl]
  rw [wld_set (g := g) (σ := σ) (σ' := pA σ k2 (va_cpy (σ.1 k) (σ.1 k2) 0 0 n)) (by rw [wE_1 hk2.2, e1]) (fun i hi => wE_congr (pA_ne hi) rfl rfl)] at hP1
  exact kk g p l e s m args below meth c C H1 locs1 ls hP1 hS1 hl
theorem blind {g : Ge} {as : List Value} {σ : St} : FrameBlind (va_Pc (as.map (cv g)) (Hs g σ)) := by
  intro a U g' mk h
  obtain ⟨h1, h2, h3, h4, h5⟩ := h
  exact ⟨h1, h2, va_K.moved (u := U) (U := U.calling g' mk a) (Vm.Alike.refl U.vm) h3, h4, va_Nw.same rfl rfl h5⟩
/-- behind a call -/
theorem W_ret {p : Program} {l : Launch} {e : Env} {R : Room} {s : State} {m : MethodId} {args : Array Value} {below : List Frame} {meth : Method} {c : Code} {H : Heap} {locs : List Loc} {Q : State → Prop} {g : Ge} {r : Option Value} {σ' : St} {ls : Array Slot} {stk rest : List Value} {a : Array Value}
    (hr : va_Run p l e R s m args below meth c H locs 0 0 0 0 (F0 m pc ls stk) rest (Qx g (r, σ') a) (Fr g)) (hS : va_S (Fr g) s.heap H locs)
    (kk : ∀ (H1 : Heap) (locs1 : List Loc), va_P g.1 Cls (wld g σ') H1 → va_S (Fr g) s.heap H1 locs1 → W p l e R s m args below meth c H1 locs1 0 0 Q (F0 m (pc + 3) ls ((r.map (cv g)).toList ++ rest))) : W p l e R s m args below meth c H locs 0 0 Q (F0 m pc ls stk) := by
  intro T hT X
  obtain ⟨v, st₀, t, T', L, h0, X', hL, e1, -, ⟨hv, hP1, hF⟩, st⟩ := hr T hT X
  cases hv
  have hS1 : va_S (Fr g) s.heap t.heap (locs ++ L) := by
    refine ⟨Nat.le_trans hS.1 (by rw [← h0]; exact hF.1), fun q h1 h2 => ?_, fun x hx => ?_⟩
    · rw [hF.2 q (by rw [h0]; exact Nat.lt_of_lt_of_le h1 hS.1) h2, h0]
      exact hS.2.1 q h1 h2
    · rcases List.mem_append.mp hx with h | h
      · exact hS.2.2 x h
      · exact hL x h
  obtain ⟨t2, a1, b1⟩ := kk t.heap _ hP1.1 hS1 T' e1 X'
  exact ⟨t2, st t2 a1, b1⟩
theorem cat_map (g : Ge) (st : List Value) : ((st.map (cv g)).map fun v => v.category) = st.map fun v => v.category := by
  rw [List.map_map]
  exact List.map_congr_left (fun v _ => cv_cat g v)
theorem callb {M' : MD} {y : MethodName} {n idx : Nat} {R : Room} {s : State} {args : Array Value} {own : String} (ht : ∀ w ∈ TT, w.before args s = true) (hm : MK y M' n) (hR : M'.2.2.2.2.frames + 1 ≤ R.frames ∧ 8 + (M'.2.2.1 + 11) + M'.2.2.2.2.locals ≤ R.locals) (h1 : Cond.initialized y.cls ∈ TT) (h2 : Cond.methodLink own idx y ∈ TT) :
    CallB R s args own idx y M'.1 M'.2.2.1 M'.2.2.2.1 (.code y M'.1 M'.2.2.1 M'.2.2.2.1 :: TT) M'.2.2.2.2 0 0 n :=
  callB_of n ht (fun w hw => (List.mem_cons.mp hw).elim (fun q => q ▸ tt_good _ hm.1) (fun q => tt_good w q)) rfl hm.2.1 hm.2.2.1 (ht _ h1) (ht _ h2) hm.2.2.2 hR
theorem runV {p : Program} {l : Launch} {e : Env} {R : Room} {s : State} {m : MethodId} {args : Array Value} {below : List Frame} {meth : Method} {c : Code} {cc : ByteArray} {nL : Nat} {own : String} {H : Heap} {locs : List Loc} {g : Ge} {ls : Array Slot} {M' : MD} {y : MethodName} {n idx b ci : Nat} {As rest : List Value} {r : Option Value} {σ' : St}
    (S : CallFix p m c cc nL s args TT own) (hK : Kb g s) (hP : va_P g.1 Cls (wld g σ) H) (hv : VK own idx y) (hm : MK y M' n) (hR : M'.2.2.2.2.frames + 1 ≤ R.frames ∧ 8 + (M'.2.2.1 + 11) + M'.2.2.2.2.locals ≤ R.locals) (hc : Ct y M' (.ref b :: As) σ (r, σ')) (hb : Is b 0 ci) (hcl : (Cls[ci]?).map (fun q => q.1) = some y.cls) (hn : As.length = n) (hls : ls.size = nL) (hw : (rest.map fun v => v.category).sum ≤ 8) {stk : List Value} (hs : stk = (As.map (cv g)).reverse ++ .ref (g.2.1 b) :: rest.map (cv g)) (hd : decode cc pc = .ok (.invokevirtual idx, 3)) :
    va_Run p l e R s m args below meth c H locs 0 0 0 0 (F0 m pc ls stk) (rest.map (cv g)) (Qx g (r, σ') ((.ref b :: As).map (cv g)).toArray) (Fr g) := by
  obtain ⟨v1, v2, v3, v4⟩ := hv
  have ht := S.2.2.2.2
  have he := wld_get g σ hb.1
  rw [wE_0 hb.2] at he
  cases hq : Cls[ci]? with
  | none => rw [hq] at hcl; cases hcl
  | some q =>
    rw [hq] at hcl
    have hcl : q.1 = y.cls := Option.some.inj hcl
    have hrecv := va_recv hK.1 hP hq he
    rw [hcl] at hrecv
    subst hs
    exact va_runV (As := As.map (cv g)) (C := y.cls) S (hc l g) ⟨callb ht hm hR v4 v1, ht _ v2, ht _ v3⟩ ⟨blind, hrecv, fun U hU hW => ⟨rfl, by rw [hU]; exact hP, hK.warm hW⟩⟩ rfl (by rw [List.length_map]; exact hn) hls rfl (lv_room (by rw [cat_map]; exact hw)) hd ⟨Nat.zero_le _, Nat.zero_le _⟩
theorem runS {p : Program} {l : Launch} {e : Env} {R : Room} {s : State} {m : MethodId} {args : Array Value} {below : List Frame} {meth : Method} {c : Code} {cc : ByteArray} {nL : Nat} {own : String} {H : Heap} {locs : List Loc} {g : Ge} {ls : Array Slot} {M' : MD} {y : MethodName} {n idx : Nat} {As rest : List Value} {r : Option Value} {σ' : St}
    (S : CallFix p m c cc nL s args TT own) (hK : Kb g s) (hP : va_P g.1 Cls (wld g σ) H) (hv : SK own idx y) (hm : MK y M' n) (hR : M'.2.2.2.2.frames + 1 ≤ R.frames ∧ 8 + (M'.2.2.1 + 11) + M'.2.2.2.2.locals ≤ R.locals) (hc : Ct y M' As σ (r, σ')) (hn : As.length = n) (hls : ls.size = nL) (hw : (rest.map fun v => v.category).sum ≤ 8) {stk : List Value} (hs : stk = (As.map (cv g)).reverse ++ rest.map (cv g)) (hd : decode cc pc = .ok (.invokestatic idx, 3)) :
    va_Run p l e R s m args below meth c H locs 0 0 0 0 (F0 m pc ls stk) (rest.map (cv g)) (Qx g (r, σ') (As.map (cv g)).toArray) (Fr g) := by
  obtain ⟨v1, v2, v4⟩ := hv
  have ht := S.2.2.2.2
  subst hs
  exact va_runS (As := As.map (cv g)) S (hc l g) ⟨callb ht hm hR v4 v1, ht _ v2⟩ ⟨blind, fun U hU hW => ⟨rfl, by rw [hU]; exact hP, hK.warm hW⟩⟩ rfl (by rw [List.length_map]; exact hn) hls rfl (lv_room (by rw [cat_map]; exact hw)) hd ⟨Nat.zero_le _, Nat.zero_le _⟩

theorem x_callVi {M' : MD} {y : MethodName} {n idx b ci : Nat} {As rest : List Value} {v : Value} {σ' : St} (hs : st = As.reverse ++ .ref b :: rest) (hv : VK M.2.1 idx y) (hm : MK y M' n) (hR : RM M M') (hb : Is b 0 ci) (hcl : (Cls[ci]?).map (fun q => q.1) = some y.cls) (hn : As.length = n) (hw : (rest.map fun v => v.category).sum ≤ 8) (hd : decode M.1 pc = .ok (.invokevirtual idx, 3)) (hp : pc + 3 = pc') (hc : Ct y M' (.ref b :: As) σ (some v, σ')) (kk : Ex M out pc' lv (v :: rest) σ') : Ex M out pc lv st σ := by
  subst hp
  subst hs
  intro g p l e s m args below meth c C H locs ls hP hS hl
  exact W_ret (runV (nL := M.2.2.1) ⟨C.1, C.2.1, C.2.2.1, C.2.2.2.1, C.2.2.2.2.1⟩ C.2.2.2.2.2.2.2 hP hv hm hR hc hb hcl hn hl.1 hw (by simp [cv]) hd) hS (fun H1 locs1 hP1 hS1 => kk g p l e s m args below meth c C H1 locs1 ls hP1 hS1 hl)
theorem x_callSi {M' : MD} {y : MethodName} {n idx : Nat} {As rest : List Value} {v : Value} {σ' : St} (hs : st = As.reverse ++ rest) (hv : SK M.2.1 idx y) (hm : MK y M' n) (hR : RM M M') (hn : As.length = n) (hw : (rest.map fun v => v.category).sum ≤ 8) (hd : decode M.1 pc = .ok (.invokestatic idx, 3)) (hp : pc + 3 = pc') (hc : Ct y M' As σ (some v, σ')) (kk : Ex M out pc' lv (v :: rest) σ') : Ex M out pc lv st σ := by
  subst hp
  subst hs
  intro g p l e s m args below meth c C H locs ls hP hS hl
  exact W_ret (runS (nL := M.2.2.1) ⟨C.1, C.2.1, C.2.2.1, C.2.2.2.1, C.2.2.2.2.1⟩ C.2.2.2.2.2.2.2 hP hv hm hR hc hn hl.1 hw (by simp) hd) hS (fun H1 locs1 hP1 hS1 => kk g p l e s m args below meth c C H1 locs1 ls hP1 hS1 hl)
theorem x_callVv {M' : MD} {y : MethodName} {n idx b ci : Nat} {As rest : List Value} {σ' : St} (hs : st = As.reverse ++ .ref b :: rest) (hv : VK M.2.1 idx y) (hm : MK y M' n) (hR : RM M M') (hb : Is b 0 ci) (hcl : (Cls[ci]?).map (fun q => q.1) = some y.cls) (hn : As.length = n) (hw : (rest.map fun v => v.category).sum ≤ 8) (hd : decode M.1 pc = .ok (.invokevirtual idx, 3)) (hp : pc + 3 = pc') (hc : Ct y M' (.ref b :: As) σ (none, σ')) (kk : Ex M out pc' lv (rest) σ') : Ex M out pc lv st σ := by
  subst hp
  subst hs
  intro g p l e s m args below meth c C H locs ls hP hS hl
  exact W_ret (runV (nL := M.2.2.1) ⟨C.1, C.2.1, C.2.2.1, C.2.2.2.1, C.2.2.2.2.1⟩ C.2.2.2.2.2.2.2 hP hv hm hR hc hb hcl hn hl.1 hw (by simp [cv]) hd) hS (fun H1 locs1 hP1 hS1 => kk g p l e s m args below meth c C H1 locs1 ls hP1 hS1 hl)
theorem x_callSv {M' : MD} {y : MethodName} {n idx : Nat} {As rest : List Value} {σ' : St} (hs : st = As.reverse ++ rest) (hv : SK M.2.1 idx y) (hm : MK y M' n) (hR : RM M M') (hn : As.length = n) (hw : (rest.map fun v => v.category).sum ≤ 8) (hd : decode M.1 pc = .ok (.invokestatic idx, 3)) (hp : pc + 3 = pc') (hc : Ct y M' As σ (none, σ')) (kk : Ex M out pc' lv (rest) σ') : Ex M out pc lv st σ := by
  subst hp
  subst hs
  intro g p l e s m args below meth c C H locs ls hP hS hl
  exact W_ret (runS (nL := M.2.2.1) ⟨C.1, C.2.1, C.2.2.1, C.2.2.2.1, C.2.2.2.2.1⟩ C.2.2.2.2.2.2.2 hP hv hm hR hc hn hl.1 hw (by simp) hd) hS (fun H1 locs1 hP1 hS1 => kk g p l e s m args below meth c C H1 locs1 ls hP1 hS1 hl)
/-- Search's call of ShiftGrids.isPlace, a private method of its nest mate -/
theorem x_callN {M' : MD} {n : Nat} {As rest : List Value} {v : Value} {σ' : St} (hown : M.2.1 = RX7) (hs : st = As.reverse ++ rest) (hst : Cond.static yX9_isPlace ∈ TT) (hini : Cond.initialized yX9_isPlace.cls ∈ TT) (hm : MK yX9_isPlace M' n) (hR : RM M M') (hn : As.length = n) (hw : (rest.map fun v => v.category).sum ≤ 8) (hd : decode M.1 pc = .ok (.invokestatic 22, 3)) (hp : pc + 3 = pc') (hc : Ct yX9_isPlace M' As σ (some v, σ')) (kk : Ex M out pc' lv (v :: rest) σ') : Ex M out pc lv st σ := by
  subst hp
  subst hs
  intro g p l e s m args below meth c C H locs ls hP hS hl
  have ht := C.2.2.2.2.1
  have hK := C.2.2.2.2.2.2.2
  refine W_ret (rest := rest.map (cv g)) (r := some v) (σ' := σ') (a := (As.map (cv g)).toArray) ?_ hS (fun H1 locs1 hP1 hS1 => kk g p l e s m args below meth c C H1 locs1 ls hP1 hS1 hl)
  rw [List.map_append, List.map_reverse]
  exact va_runSN (As := As.map (cv g)) (own := M.2.1) (host := RX9) ⟨C.1, C.2.1, C.2.2.1, C.2.2.2.1, C.2.2.2.2.1⟩ (hc l g) ⟨va_cnB n ht (fun w hw => (List.mem_cons.mp hw).elim (fun q => q ▸ tt_good _ hm.1) (fun q => tt_good w q)) rfl hm.2.1 hm.2.2.1 (by rw [hown]; exact hK.2.2) (ht _ hini) hm.2.2.2 hR, ht _ hst, trivial⟩ ⟨blind, fun U hU hW => ⟨rfl, by rw [hU]; exact hP, hK.warm hW⟩⟩ rfl (by rw [List.length_map]; exact hn) hl.1 rfl (lv_room (by rw [cat_map]; exact hw)) hd ⟨Nat.zero_le _, Nat.zero_le _⟩
end XH
