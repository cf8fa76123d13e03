/-! ===== the abstract machine: cells by number, a state (ints, longs, references by cell), a row an instruction ===== -/
def TT : List Cond := lw_tbl.filter goodWord
theorem tt_mem {w : Cond} (h : w ∈ lw_tbl) (hg : goodWord w = true) : w ∈ TT := List.mem_filter.mpr ⟨h, hg⟩
theorem tt_good : GoodIn TT TT := fun w h => ⟨h, good_of_word (List.mem_filter.mp h).2⟩
abbrev St : Type := (Nat → Nat → Int32) × (Nat → Nat → Int64) × (Nat → Nat → Nat)
def pI (σ : St) (k j : Nat) (v : Int32) : St := (fun a b => if a = k ∧ b = j then v else σ.1 a b, σ.2)
def pL (σ : St) (k j : Nat) (v : Int64) : St := (σ.1, fun a b => if a = k ∧ b = j then v else σ.2.1 a b, σ.2.2)
def pP (σ : St) (k j : Nat) (v : Nat) : St := (σ.1, σ.2.1, fun a b => if a = k ∧ b = j then v else σ.2.2 a b)
/-- a whole int array becomes another -/
def pA (σ : St) (k : Nat) (f : Nat → Int32) : St := (fun a b => if a = k then f b else σ.1 a b, σ.2)
abbrev Ge : Type := va_G × (Nat → Nat) × (Nat → ClassId)
def cv (g : Ge) : Value → Value
  | .ref k => .ref (g.2.1 k)
  | v => v
theorem cv_cat (g : Ge) (v : Value) : (cv g v).category = v.category := by cases v <;> rfl
def Cls : List vw_C := [(RX0, TX0, 4), (RX2, TX2, 5), (RX3, TX3, 1), (RX4, TX4, 7), (RX5, TX5, 3), (RX6, TX6, 3), (RX7, TX7, 4), (RX8, TX8, 3), (RX9, TX9, 8), (RX10, TX10, 16)]
def ftT : List (List Nat) := [[2, 2, 2, 0], [2, 2, 2, 2, 0], [0], [2, 0, 0, 0, 0, 0, 0], [2, 0, 0], [2, 0, 3], [2, 2, 0, 0], [2, 0, 0], [2, 2, 2, 2, 2, 2, 2, 2], [0, 2, 2, 0, 2, 2, 2, 1, 0, 2, 2, 2, 0, 0, 2, 2]]
def ft (ci j : Nat) : Nat := (ftT.getD ci []).getD j 0
def nf (ci : Nat) : Nat := (ftT.getD ci []).length
def rfT8 : List Nat := [29, 1, 3, 4, 5, 9, 10, 13]
def rfT9 : List Nat := [0, 19, 20, 0, 21, 22, 23, 0, 0, 24, 25, 26, 0, 0, 27, 28]
/-- the cell that a reference field holds, by class, field and cell -/
def rf (ci j k : Nat) : Nat := match ci with
  | 0 => 6 + j
  | 1 => 14 + j
  | 3 => k + 1
  | 4 => 2
  | 5 => 2 * k + 57
  | 6 => 11 + j
  | 7 => k + 1
  | 8 => rfT8.getD j 0
  | _ => rfT9.getD j 0
def fv (σ : St) (ci k j : Nat) : Value := match ft ci j with
  | 1 => .long (σ.2.1 k j)
  | 2 => .ref (rf ci j k)
  | _ => .int (σ.1 k j)
def layT : List (Nat × Nat) := [(0, 8), (0, 4), (5, 16), (0, 5), (0, 5), (0, 0), (1, 20), (1, 20), (1, 20), (0, 2), (0, 6), (1, 61), (1, 61), (0, 1), (1, 4), (1, 4), (2, 4), (2, 4), (0, 9), (1, 338), (1, 5408), (1, 676), (3, 2), (2, 2), (1, 20), (1, 20), (1, 20), (1, 61), (1, 61)]
/-- a cell's kind: 0 an object (of that class), 1 ints, 2 longs, 3 booleans, 4 Grids, 5 Sheets (so many) -/
def lay (k : Nat) : Nat × Nat := if k < 29 then layT.getD k (0, 0) else if k < 67 then (if k % 2 = 1 then (0, 7) else (4, 6)) else (if k % 2 = 1 then (0, 3) else (1, 50))
abbrev Is (k a n : Nat) : Prop := k < 295 ∧ lay k = (a, n)
def wE (g : Ge) (σ : St) (k : Nat) : va_E := match lay k with
  | (0, ci) => .inr (ci, (List.range (nf ci)).map (fun j => cv g (fv σ ci k j)))
  | (1, n) => .inl (g.2.2 0, n, .inl (σ.1 k))
  | (2, n) => .inl (g.2.2 1, n, .inr (.inl (σ.2.1 k)))
  | (3, n) => .inl (g.2.2 2, n, .inl (σ.1 k))
  | (4, n) => .inl (g.2.2 3, n, .inr (.inr (.inr (.inr (fun j => some (g.2.1 (σ.2.2 k j)))))))
  | (_, n) => .inl (g.2.2 4, n, .inr (.inr (.inr (.inr (fun j => some (g.2.1 (31 + 2 * j)))))))
def wld (g : Ge) (σ : St) : va_W := (List.range 295).map (fun k => (g.2.1 k, wE g σ k))
theorem wld_get (g : Ge) (σ : St) {k : Nat} (h : k < 295) : (wld g σ)[k]? = some (g.2.1 k, wE g σ k) := by
  simp [wld, h]
theorem wld_inv {g : Ge} {σ : St} {k : Nat} {q : Nat × va_E} (h : (wld g σ)[k]? = some q) : k < 295 ∧ q = (g.2.1 k, wE g σ k) := by
  have hk : k < 295 := by
    have := (List.getElem?_eq_some_iff.mp h).1
    simpa [wld] using this
  refine ⟨hk, ?_⟩
  rw [wld_get g σ hk] at h
  exact (Option.some.inj h).symm
theorem wE_congr {g : Ge} {σ σ' : St} {k : Nat} (h1 : σ'.1 k = σ.1 k) (h2 : σ'.2.1 k = σ.2.1 k) (h3 : σ'.2.2 k = σ.2.2 k) : wE g σ' k = wE g σ k := by
  unfold wE fv
  rw [h1, h2, h3]
theorem wld_set {g : Ge} {σ σ' : St} {k : Nat} {e : va_E} (he : wE g σ' k = e) (ho : ∀ j, j ≠ k → wE g σ' j = wE g σ j) : (wld g σ).set k (g.2.1 k, e) = wld g σ' := by
  apply List.ext_getElem?
  intro i
  rw [List.getElem?_set]
  by_cases hi : i < 295
  · rw [wld_get g σ' hi]
    by_cases hik : k = i
    · subst hik
      rw [if_pos rfl, if_pos (by simpa [wld] using hi), he]
    · rw [if_neg hik, wld_get g σ hi, ho i (fun h => hik h.symm)]
  · have h1 : (wld g σ)[i]? = none := by rw [List.getElem?_eq_none_iff]; simp [wld]; omega
    have h2 : (wld g σ')[i]? = none := by rw [List.getElem?_eq_none_iff]; simp [wld]; omega
    rw [h1, h2]
    by_cases hki : k = i
    · rw [if_pos hki, if_neg (by simp [wld]; omega)]
    · rw [if_neg hki]
def Fr (g : Ge) : Nat → Prop := fun q => ∃ k, k < 295 ∧ q = g.2.1 k
def Inj (g : Ge) : Prop := ∀ i j, i < 295 → j < 295 → g.2.1 i = g.2.1 j → i = j
def tys (g : Ge) : List (ClassId × FieldType) := [(g.2.2 0, .int), (g.2.2 1, .long), (g.2.2 2, .boolean), (g.2.2 3, .object RX4), (g.2.2 4, .object RX8)]
def nwW : Cond := .methodLinkNest RX7 22 yX9_isPlace RX9
def Kb (g : Ge) (U : State) : Prop := va_K g.1 Cls (tys g) U ∧ Inj g ∧ va_Nw nwW U
theorem Kb.warm {g : Ge} {s t : State} (h : Kb g s) (hW : s.WarmedH t.vm) : Kb g t := ⟨va_K.moved hW.alike h.1, h.2.1, va_Nw.warmM hW h.2.2⟩
theorem wld_D {g : Ge} (h : Inj g) (σ : St) : va_D (Fr g) (wld g σ) := by
  refine ⟨fun i j p q hi hj hpq => ?_, fun k q hk => ?_⟩
  · obtain ⟨i1, rfl⟩ := wld_inv hi
    obtain ⟨j1, rfl⟩ := wld_inv hj
    exact h i j i1 j1 hpq
  · obtain ⟨k1, rfl⟩ := wld_inv hk
    exact ⟨k, k1, rfl⟩
def Hs (g : Ge) (σ : St) (U : State) : Prop := va_P g.1 Cls (wld g σ) U.heap ∧ Kb g U
def Qx (g : Ge) (out : Option Value × St) : Array Value → State → Outcome → State → Prop := fun _ st oc t => oc = .returned (out.1.map (cv g)) ∧ Hs g out.2 t ∧ va_F (Fr g) st t
/-- code, own class, locals, what it returns, room -/
abbrev MD : Type := ByteArray × String × Nat × Option FieldType × Room
def Ct (y : MethodName) (M : MD) (as : List Value) (σ : St) (out : Option Value × St) : Prop := ∀ (l : Launch) (g : Ge), Met l y (.code y M.1 M.2.2.1 M.2.2.2.1 :: TT) M.2.2.2.2 (va_Pc (as.map (cv g)) (Hs g σ)) (Qx g out) 0 0 (Fr g)
def LH (g : Ge) (ls : Array Slot) (nL : Nat) (lv : List (Option Value)) : Prop := ls.size = nL ∧ lv_wf ls ∧ ∀ (i : Nat) (v : Value), lv[i]? = some (some v) → ls[i]? = some (.val (cv g v))
def lvr : List (Option Value) → Nat → Option Value
  | [], _ => none
  | a :: _, 0 => a
  | _ :: l, n + 1 => lvr l n
theorem lvr_get : ∀ (lv : List (Option Value)) (i : Nat) (v : Value), lvr lv i = some v → lv[i]? = some (some v)
  | [], _, _, h => by cases h
  | a :: _, 0, v, h => by simpa [lvr] using h
  | _ :: l, n + 1, v, h => by simpa using lvr_get l n v h
def isL2 : Option Value → Bool
  | some v => v.category == 2
  | none => false
def lv1 : List (Option Value) → Nat → Value → List (Option Value)
  | [], _, _ => []
  | _ :: l, 0, v => some v :: l
  | a :: l, 1, v => (match isL2 a with | true => none | false => a) :: lv1 l 0 v
  | a :: l, n + 2, v => a :: lv1 l (n + 1) v
def lv2 : List (Option Value) → Nat → Value → List (Option Value)
  | [], _, _ => []
  | [_], 0, _ => [none]
  | _ :: _ :: l, 0, v => some v :: none :: l
  | a :: l, 1, v => (match isL2 a with | true => none | false => a) :: lv2 l 0 v
  | a :: l, n + 2, v => a :: lv2 l (n + 1) v
theorem lv1_get : ∀ (lv : List (Option Value)) (i : Nat) (v w : Value) (j : Nat), (lv1 lv i v)[j]? = some (some w) → (j = i ∧ w = v) ∨ (j ≠ i ∧ lv[j]? = some (some w) ∧ ¬ (j + 1 = i ∧ w.category = 2))
  | [], i, v, w, j, h => by simp [lv1] at h
  | a :: l, 0, v, w, j, h => by
    cases j with
    | zero => left; simp [lv1] at h; exact ⟨rfl, h.symm⟩
    | succ j => right; simp [lv1] at h; exact ⟨by omega, by simpa using h, by omega⟩
  | a :: l, 1, v, w, j, h => by
    cases j with
    | zero =>
      right
      simp only [lv1, List.getElem?_cons_zero, Option.some.injEq] at h
      cases ha : isL2 a with
      | true => rw [ha] at h; cases h
      | false =>
        rw [ha] at h
        have h : a = some w := h
        subst h
        refine ⟨by omega, by simp, fun q => ?_⟩
        simp [isL2, q.2] at ha
    | succ j =>
      simp only [lv1, List.getElem?_cons_succ] at h
      rcases lv1_get l 0 v w j h with h | h
      · left; exact ⟨by omega, h.2⟩
      · right; exact ⟨by omega, by simpa using h.2.1, by omega⟩
  | a :: l, n + 2, v, w, j, h => by
    cases j with
    | zero => right; simp [lv1] at h; exact ⟨by omega, by simp [h], by omega⟩
    | succ j =>
      simp only [lv1, List.getElem?_cons_succ] at h
      rcases lv1_get l (n + 1) v w j h with h | h
      · left; exact ⟨by omega, h.2⟩
      · right; exact ⟨by omega, by simpa using h.2.1, by omega⟩
theorem lv2_get : ∀ (lv : List (Option Value)) (i : Nat) (v w : Value) (j : Nat), (lv2 lv i v)[j]? = some (some w) → (j = i ∧ w = v) ∨ (j ≠ i ∧ j ≠ i + 1 ∧ lv[j]? = some (some w) ∧ ¬ (j + 1 = i ∧ w.category = 2))
  | [], i, v, w, j, h => by simp [lv2] at h
  | [a], 0, v, w, j, h => by
    cases j with
    | zero => simp [lv2] at h
    | succ j => simp [lv2] at h
  | a :: b :: l, 0, v, w, j, h => by
    match j, h with
    | 0, h => left; simp [lv2] at h; exact ⟨rfl, h.symm⟩
    | 1, h => simp [lv2] at h
    | j + 2, h => right; simp [lv2] at h; exact ⟨by omega, by omega, by simpa using h, by omega⟩
  | a :: l, 1, v, w, j, h => by
    cases j with
    | zero =>
      right
      simp only [lv2, List.getElem?_cons_zero, Option.some.injEq] at h
      cases ha : isL2 a with
      | true => rw [ha] at h; cases h
      | false =>
        rw [ha] at h
        have h : a = some w := h
        subst h
        refine ⟨by omega, by omega, by simp, fun q => ?_⟩
        simp [isL2, q.2] at ha
    | succ j =>
      simp only [lv2, List.getElem?_cons_succ] at h
      rcases lv2_get l 0 v w j h with h | h
      · left; exact ⟨by omega, h.2⟩
      · right; exact ⟨by omega, by omega, by simpa using h.2.2.1, by omega⟩
  | a :: l, n + 2, v, w, j, h => by
    cases j with
    | zero => right; simp [lv2] at h; exact ⟨by omega, by omega, by simp [h], by omega⟩
    | succ j =>
      simp only [lv2, List.getElem?_cons_succ] at h
      rcases lv2_get l (n + 1) v w j h with h | h
      · left; exact ⟨by omega, h.2⟩
      · right; exact ⟨by omega, by omega, by simpa using h.2.2.1, by omega⟩
/-- the listed locals -/
def lvk (g : Ge) (lv : List (Option Value)) : List (Nat × Value) := (List.range lv.length).filterMap (fun i => (lv[i]?.join).map (fun v => (i, cv g v)))
theorem lvk_mem {g : Ge} {lv : List (Option Value)} {q : Nat × Value} : q ∈ lvk g lv ↔ ∃ v, lv[q.1]? = some (some v) ∧ q.2 = cv g v := by
  unfold lvk
  rw [List.mem_filterMap]
  constructor
  · rintro ⟨i, hi, h⟩
    cases hv : lv[i]? with
    | none => rw [hv] at h; cases h
    | some a =>
      cases a with
      | none => rw [hv] at h; cases h
      | some v =>
        rw [hv] at h
        cases h
        exact ⟨v, hv, rfl⟩
  · rintro ⟨v, hv, h2⟩
    refine ⟨q.1, List.mem_range.mpr (List.getElem?_eq_some_iff.mp hv).1, ?_⟩
    rw [hv]
    show some (q.1, cv g v) = some q
    rw [← h2]
theorem LH.has {g : Ge} {ls : Array Slot} {nL : Nat} {lv : List (Option Value)} (h : LH g ls nL lv) : lv_has ls nL (lvk g lv) := by
  refine ⟨h.1, h.2.1, fun q hq => ?_⟩
  obtain ⟨v, h1, h2⟩ := lvk_mem.mp hq
  rw [h2]
  exact h.2.2 _ _ h1
theorem LH.st1 {g : Ge} {ls : Array Slot} {nL i : Nat} {lv : List (Option Value)} {v : Value} (h : lv_has ls nL ((i, cv g v) :: (lvk g lv).filter (fun q => !(q.1 == i) && !(q.1 + 1 == i && q.2.category == 2)))) : LH g ls nL (lv1 lv i v) := by
  refine ⟨h.1, h.2.1, fun j w hj => ?_⟩
  rcases lv1_get lv i v w j hj with ⟨rfl, rfl⟩ | ⟨h1, h2, h3⟩
  · exact h.2.2 (j, cv g w) List.mem_cons_self
  · refine h.2.2 (j, cv g w) (List.mem_cons_of_mem _ (List.mem_filter.mpr ⟨lvk_mem.mpr ⟨w, h2, rfl⟩, ?_⟩))
    simp only [Bool.and_eq_true, Bool.not_eq_true', beq_eq_false_iff_ne, Bool.and_eq_false_imp, beq_iff_eq, cv_cat]
    exact ⟨h1, fun e => fun e2 => h3 ⟨e, e2⟩⟩
theorem LH.st2 {g : Ge} {ls : Array Slot} {nL i : Nat} {lv : List (Option Value)} {v : Value} (h : lv_has ls nL ((i, cv g v) :: (lvk g lv).filter (fun q => !(q.1 == i) && (!(q.1 == i + 1) && !(q.1 + 1 == i && q.2.category == 2))))) : LH g ls nL (lv2 lv i v) := by
  refine ⟨h.1, h.2.1, fun j w hj => ?_⟩
  rcases lv2_get lv i v w j hj with ⟨rfl, rfl⟩ | ⟨h1, h0, h2, h3⟩
  · exact h.2.2 (j, cv g w) List.mem_cons_self
  · refine h.2.2 (j, cv g w) (List.mem_cons_of_mem _ (List.mem_filter.mpr ⟨lvk_mem.mpr ⟨w, h2, rfl⟩, ?_⟩))
    simp only [Bool.and_eq_true, Bool.not_eq_true', beq_eq_false_iff_ne, Bool.and_eq_false_imp, beq_iff_eq, cv_cat]
    exact ⟨h1, h0, fun e => fun e2 => h3 ⟨e, e2⟩⟩
def Cx (M : MD) (g : Ge) (p : Program) (s : State) (m : MethodId) (args : Array Value) (meth : Method) (c : Code) : Prop :=
  p.tables.exec = Jvm.exec ∧ c.code = M.1 ∧ c.maxLocals = M.2.2.1 ∧ s.vm.findClass M.2.1 = some m.cls ∧ (∀ w ∈ TT, w.before args s = true) ∧ meth.sig.returnType = M.2.2.2.1 ∧ meth.locks = false ∧ Kb g s
/-- from pc, with these locals, stack and state, the method comes to its end with 'out' -/
def Ex (M : MD) (out : Option Value × St) (pc : Nat) (lv : List (Option Value)) (st : List Value) (σ : St) : Prop :=
  ∀ (g : Ge) (p : Program) (l : Launch) (e : Env) (s : State) (m : MethodId) (args : Array Value) (below : List Frame) (meth : Method) (c : Code), Cx M g p s m args meth c →
  ∀ (H : Heap) (locs : List Loc) (ls : Array Slot), va_P g.1 Cls (wld g σ) H → va_S (Fr g) s.heap H locs → LH g ls M.2.2.1 lv →
  W p l e M.2.2.2.2 s m args below meth c H locs 0 0 (MQ below (Qx g out) args s 0 0 (Fr g)) (F0 m pc ls (st.map (cv g)))
def lva : List Value → List (Option Value)
  | [] => []
  | v :: vs => match v.category == 2 with
    | true => some v :: none :: lva vs
    | false => some v :: lva vs
theorem lva_get (g : Ge) : ∀ (vs : List Value) (i j : Nat) (v : Value), (lva vs)[j]? = some (some v) → (i + j, cv g v) ∈ lv_args i (vs.map (cv g))
  | [], i, j, v, h => by simp [lva] at h
  | a :: vs, i, j, v, h => by
    cases hc : (a.category == 2) with
    | true =>
      have hc2 : (cv g a).category = 2 := by rw [cv_cat]; simpa using hc
      simp only [lva, hc] at h
      simp only [List.map_cons, lv_args, hc2, if_pos]
      match j, h with
      | 0, h => simp at h; subst h; simp
      | 1, h => simp at h
      | j + 2, h =>
        have := lva_get g vs (i + 2) j v (by simpa using h)
        rw [show i + (j + 2) = i + 2 + j by omega]
        exact List.mem_cons_of_mem _ this
    | false =>
      have hc2 : ¬ (cv g a).category = 2 := by rw [cv_cat]; simpa using hc
      simp only [lva, hc] at h
      simp only [List.map_cons, lv_args, if_neg hc2]
      match j, h with
      | 0, h => simp at h; subst h; simp
      | j + 1, h =>
        have := lva_get g vs (i + 1) j v (by simpa using h)
        rw [show i + (j + 1) = i + 1 + j by omega]
        exact List.mem_cons_of_mem _ this
theorem lva_len (g : Ge) : ∀ (vs : List Value), (lg_sl (vs.map (cv g))).length = (lva vs).length
  | [] => rfl
  | a :: vs => by
    have ih := lva_len g vs
    cases hc : (a.category == 2) with
    | true =>
      have hc2 : (cv g a).category = 2 := by rw [cv_cat]; simpa using hc
      simp only [lva, hc]
      simp [lg_sl, hc2] at ih ⊢
      omega
    | false =>
      have hc2 : ¬ (cv g a).category = 2 := by rw [cv_cat]; simpa using hc
      simp only [lva, hc]
      simp [lg_sl, hc2] at ih ⊢
      omega
set_option maxHeartbeats 4000000 in
theorem ct_of {y : MethodName} {M : MD} {as : List Value} {σ : St} {out : Option Value × St} {lv : List (Option Value)} {k : Nat} (hy : plainName y.cls = true) (hyc : y.cls = M.2.1) (hlv : lva as ++ List.replicate k none = lv) (hle : (lva as).length ≤ M.2.2.1) (hE : Ex M out 0 lv [] σ) : Ct y M as σ out := by
  intro l g
  refine Met.ofW (cc := M.1) (maxL := M.2.2.1) (ret := M.2.2.2.1) hy rfl ?_
  intro p e s m args below meth c s₁ B hml hv
  obtain ⟨rfl, hP, hK⟩ := hv
  have hts := atoms_spec (ws := .code y M.1 M.2.2.1 M.2.2.2.1 :: TT) B.pre
  have hown : s.vm.findClass M.2.1 = some m.cls := hyc ▸ findClass_of_methodNamed B.named
  have hl := lv_entry (as.map (cv g)) (n := M.2.2.1) (by rw [lva_len]; exact hle)
  rw [lg_entry_eq]
  refine hE g p l e s m _ below meth c ⟨B.exec, B.bytes, hml, hown, fun w hw => hts w (List.mem_cons_of_mem _ hw), B.returns, B.notSynchronized, hK⟩ s.heap [] _ hP va_S.rf ⟨hl.1, hl.2.1, fun i v hi => ?_⟩
  subst hlv
  have hi2 : (lva as)[i]? = some (some v) := by
    by_cases hlt : i < (lva as).length
    · rwa [List.getElem?_append_left hlt] at hi
    · rw [List.getElem?_append_right (by omega)] at hi
      have := List.mem_of_getElem? hi
      simp at this
  have := lva_get g as 0 i v hi2
  rw [Nat.zero_add] at this
  exact hl.2.2 _ this
section XR
variable {M : MD} {out : Option Value × St} {pc pc' tgt : Nat} {lv lv' : List (Option Value)} {st : List Value} {σ : St}

theorem x_iconst {n : Int} {v : Int32} (hv : Int32.ofInt n = v) (hd : decode M.1 pc = .ok (.iconst n, 1)) (hp : pc + 1 = pc') (kk : Ex M out pc' lv (.int v :: st) σ) : Ex M out pc lv (st) σ := by
  subst hp
  exact fun g p l e s m args below meth c C H locs ls hP hS hl => lv_iconst C.1 C.2.1 hd hv (kk g p l e s m args below meth c C H locs ls hP hS hl)
theorem x_bipush {n : Int} {v : Int32} (hv : (Int8.ofInt n).toInt32 = v) (hd : decode M.1 pc = .ok (.bipush n, 2)) (hp : pc + 2 = pc') (kk : Ex M out pc' lv (.int v :: st) σ) : Ex M out pc lv (st) σ := by
  subst hp
  exact fun g p l e s m args below meth c C H locs ls hP hS hl => lv_bipush C.1 C.2.1 hd hv (kk g p l e s m args below meth c C H locs ls hP hS hl)
theorem x_sipush {n : Int} {v : Int32} (hv : (Int16.ofInt n).toInt32 = v) (hd : decode M.1 pc = .ok (.sipush n, 3)) (hp : pc + 3 = pc') (kk : Ex M out pc' lv (.int v :: st) σ) : Ex M out pc lv (st) σ := by
  subst hp
  exact fun g p l e s m args below meth c C H locs ls hP hS hl => lv_sipush C.1 C.2.1 hd hv (kk g p l e s m args below meth c C H locs ls hP hS hl)
theorem x_lconst {n : Fin 2} {v : Int64} (hv : Int64.ofNat (n : Nat) = v) (hd : decode M.1 pc = .ok (.lconst n, 1)) (hp : pc + 1 = pc') (kk : Ex M out pc' lv (.long v :: st) σ) : Ex M out pc lv (st) σ := by
  subst hp
  exact fun g p l e s m args below meth c C H locs ls hP hS hl => lv_lconst C.1 C.2.1 hd hv (kk g p l e s m args below meth c C H locs ls hP hS hl)
theorem x_null  (hd : decode M.1 pc = .ok (.aconst_null, 1)) (hp : pc + 1 = pc') (kk : Ex M out pc' lv (.null :: st) σ) : Ex M out pc lv (st) σ := by
  subst hp
  exact fun g p l e s m args below meth c C H locs ls hP hS hl => lv_null C.1 C.2.1 hd (kk g p l e s m args below meth c C H locs ls hP hS hl)
theorem x_ldc {idx : Nat} {v : Int32} (hk : Cond.constant M.2.1 idx v ∈ TT) (hd : decode M.1 pc = .ok (.ldc idx, 2)) (hp : pc + 2 = pc') (kk : Ex M out pc' lv (.int v :: st) σ) : Ex M out pc lv st σ := by
  subst hp
  exact fun g p l e s m args below meth c C H locs ls hP hS hl => lv_ldc C.1 C.2.1 C.2.2.2.1 (C.2.2.2.2.1 _ hk) hd (kk g p l e s m args below meth c C H locs ls hP hS hl)
theorem x_ldc_w {idx : Nat} {v : Int32} (hk : Cond.constant M.2.1 idx v ∈ TT) (hd : decode M.1 pc = .ok (.ldc_w idx, 3)) (hp : pc + 3 = pc') (kk : Ex M out pc' lv (.int v :: st) σ) : Ex M out pc lv st σ := by
  subst hp
  exact fun g p l e s m args below meth c C H locs ls hP hS hl => lv_ldcw C.1 C.2.1 C.2.2.2.1 (C.2.2.2.2.1 _ hk) hd (kk g p l e s m args below meth c C H locs ls hP hS hl)
theorem x_ldc2 {idx : Nat} {v : Int64} (hk : Cond.constantLong M.2.1 idx v ∈ TT) (hd : decode M.1 pc = .ok (.ldc2_w idx, 3)) (hp : pc + 3 = pc') (kk : Ex M out pc' lv (.long v :: st) σ) : Ex M out pc lv st σ := by
  subst hp
  exact fun g p l e s m args below meth c C H locs ls hP hS hl => lv_ldc2 C.1 C.2.1 C.2.2.2.1 (C.2.2.2.2.1 _ hk) hd (kk g p l e s m args below meth c C H locs ls hP hS hl)
theorem x_iload_n {k : Fin 4} {x : Int32} (hl0 : lvr lv (k : Nat) = some (.int x)) (hd : decode M.1 pc = .ok (.iload_n k, 1)) (hp : pc + 1 = pc') (kk : Ex M out pc' lv (.int x :: st) σ) : Ex M out pc lv st σ := by
  subst hp
  exact fun g p l e s m args below meth c C H locs ls hP hS hl => lv_iload_n C.1 C.2.1 hd rfl (hl.2.2 _ _ (lvr_get _ _ _ hl0)) (kk g p l e s m args below meth c C H locs ls hP hS hl)
theorem x_iload {i : Nat} {x : Int32} (hl0 : lvr lv i = some (.int x)) (hd : decode M.1 pc = .ok (.iload i, 2)) (hp : pc + 2 = pc') (kk : Ex M out pc' lv (.int x :: st) σ) : Ex M out pc lv st σ := by
  subst hp
  exact fun g p l e s m args below meth c C H locs ls hP hS hl => lv_iload C.1 C.2.1 hd (hl.2.2 _ _ (lvr_get _ _ _ hl0)) (kk g p l e s m args below meth c C H locs ls hP hS hl)
theorem x_lload_n {k : Fin 4} {x : Int64} (hl0 : lvr lv (k : Nat) = some (.long x)) (hd : decode M.1 pc = .ok (.lload_n k, 1)) (hp : pc + 1 = pc') (kk : Ex M out pc' lv (.long x :: st) σ) : Ex M out pc lv st σ := by
  subst hp
  exact fun g p l e s m args below meth c C H locs ls hP hS hl => lv_lload_n C.1 C.2.1 hd rfl (hl.2.2 _ _ (lvr_get _ _ _ hl0)) (kk g p l e s m args below meth c C H locs ls hP hS hl)
theorem x_lload {i : Nat} {x : Int64} (hl0 : lvr lv i = some (.long x)) (hd : decode M.1 pc = .ok (.lload i, 2)) (hp : pc + 2 = pc') (kk : Ex M out pc' lv (.long x :: st) σ) : Ex M out pc lv st σ := by
  subst hp
  exact fun g p l e s m args below meth c C H locs ls hP hS hl => lv_lload C.1 C.2.1 hd (hl.2.2 _ _ (lvr_get _ _ _ hl0)) (kk g p l e s m args below meth c C H locs ls hP hS hl)
theorem x_aload_n {k : Fin 4} {x : Nat} (hl0 : lvr lv (k : Nat) = some (.ref x)) (hd : decode M.1 pc = .ok (.aload_n k, 1)) (hp : pc + 1 = pc') (kk : Ex M out pc' lv (.ref x :: st) σ) : Ex M out pc lv st σ := by
  subst hp
  exact fun g p l e s m args below meth c C H locs ls hP hS hl => lv_aload_n C.1 C.2.1 hd rfl (hl.2.2 _ _ (lvr_get _ _ _ hl0)) (kk g p l e s m args below meth c C H locs ls hP hS hl)
theorem x_aload {i : Nat} {x : Nat} (hl0 : lvr lv i = some (.ref x)) (hd : decode M.1 pc = .ok (.aload i, 2)) (hp : pc + 2 = pc') (kk : Ex M out pc' lv (.ref x :: st) σ) : Ex M out pc lv st σ := by
  subst hp
  exact fun g p l e s m args below meth c C H locs ls hP hS hl => lv_aload C.1 C.2.1 hd (hl.2.2 _ _ (lvr_get _ _ _ hl0)) (kk g p l e s m args below meth c C H locs ls hP hS hl)
theorem x_aload_nN {k : Fin 4} (hl0 : lvr lv (k : Nat) = some .null) (hd : decode M.1 pc = .ok (.aload_n k, 1)) (hp : pc + 1 = pc') (kk : Ex M out pc' lv (.null :: st) σ) : Ex M out pc lv st σ := by
  subst hp
  exact fun g p l e s m args below meth c C H locs ls hP hS hl => lv_aload_nN C.1 C.2.1 hd rfl (hl.2.2 _ _ (lvr_get _ _ _ hl0)) (kk g p l e s m args below meth c C H locs ls hP hS hl)
theorem x_aloadN {i : Nat} (hl0 : lvr lv i = some .null) (hd : decode M.1 pc = .ok (.aload i, 2)) (hp : pc + 2 = pc') (kk : Ex M out pc' lv (.null :: st) σ) : Ex M out pc lv st σ := by
  subst hp
  exact fun g p l e s m args below meth c C H locs ls hP hS hl => lv_aloadN C.1 C.2.1 hd (hl.2.2 _ _ (lvr_get _ _ _ hl0)) (kk g p l e s m args below meth c C H locs ls hP hS hl)
theorem x_istore_n {k : Fin 4} {x : Int32} (hn : (k : Nat) < M.2.2.1) (hv : lv1 lv (k : Nat) (.int x) = lv') (hd : decode M.1 pc = .ok (.istore_n k, 1)) (hp : pc + 1 = pc') (kk : Ex M out pc' lv' st σ) : Ex M out pc lv (.int x :: st) σ := by
  subst hp
  subst hv
  exact fun g p l e s m args below meth c C H locs ls hP hS hl => lv_istore_n C.1 C.2.1 hd rfl hl.has hn rfl (fun ls' hl' => kk g p l e s m args below meth c C H locs ls' hP hS (LH.st1 hl'))
theorem x_istore {i : Nat} {x : Int32} (hn : i < M.2.2.1) (hv : lv1 lv i (.int x) = lv') (hd : decode M.1 pc = .ok (.istore i, 2)) (hp : pc + 2 = pc') (kk : Ex M out pc' lv' st σ) : Ex M out pc lv (.int x :: st) σ := by
  subst hp
  subst hv
  exact fun g p l e s m args below meth c C H locs ls hP hS hl => lv_istore C.1 C.2.1 hd hl.has hn rfl (fun ls' hl' => kk g p l e s m args below meth c C H locs ls' hP hS (LH.st1 hl'))
theorem x_lstore_n {k : Fin 4} {x : Int64} (hn : (k : Nat) + 1 < M.2.2.1) (hv : lv2 lv (k : Nat) (.long x) = lv') (hd : decode M.1 pc = .ok (.lstore_n k, 1)) (hp : pc + 1 = pc') (kk : Ex M out pc' lv' st σ) : Ex M out pc lv (.long x :: st) σ := by
  subst hp
  subst hv
  exact fun g p l e s m args below meth c C H locs ls hP hS hl => lv_lstore_n C.1 C.2.1 hd rfl hl.has hn rfl (fun ls' hl' => kk g p l e s m args below meth c C H locs ls' hP hS (LH.st2 hl'))
theorem x_lstore {i : Nat} {x : Int64} (hn : i + 1 < M.2.2.1) (hv : lv2 lv i (.long x) = lv') (hd : decode M.1 pc = .ok (.lstore i, 2)) (hp : pc + 2 = pc') (kk : Ex M out pc' lv' st σ) : Ex M out pc lv (.long x :: st) σ := by
  subst hp
  subst hv
  exact fun g p l e s m args below meth c C H locs ls hP hS hl => lv_lstore C.1 C.2.1 hd hl.has hn rfl (fun ls' hl' => kk g p l e s m args below meth c C H locs ls' hP hS (LH.st2 hl'))
theorem x_astore_n {k : Fin 4} {x : Nat} (hn : (k : Nat) < M.2.2.1) (hv : lv1 lv (k : Nat) (.ref x) = lv') (hd : decode M.1 pc = .ok (.astore_n k, 1)) (hp : pc + 1 = pc') (kk : Ex M out pc' lv' st σ) : Ex M out pc lv (.ref x :: st) σ := by
  subst hp
  subst hv
  exact fun g p l e s m args below meth c C H locs ls hP hS hl => lv_astore_n C.1 C.2.1 hd rfl hl.has hn rfl (fun ls' hl' => kk g p l e s m args below meth c C H locs ls' hP hS (LH.st1 hl'))
theorem x_astore {i : Nat} {x : Nat} (hn : i < M.2.2.1) (hv : lv1 lv i (.ref x) = lv') (hd : decode M.1 pc = .ok (.astore i, 2)) (hp : pc + 2 = pc') (kk : Ex M out pc' lv' st σ) : Ex M out pc lv (.ref x :: st) σ := by
  subst hp
  subst hv
  exact fun g p l e s m args below meth c C H locs ls hP hS hl => lv_astore C.1 C.2.1 hd hl.has hn rfl (fun ls' hl' => kk g p l e s m args below meth c C H locs ls' hP hS (LH.st1 hl'))
theorem x_astore_nN {k : Fin 4}  (hn : (k : Nat) < M.2.2.1) (hv : lv1 lv (k : Nat) (.null) = lv') (hd : decode M.1 pc = .ok (.astore_n k, 1)) (hp : pc + 1 = pc') (kk : Ex M out pc' lv' st σ) : Ex M out pc lv (.null :: st) σ := by
  subst hp
  subst hv
  exact fun g p l e s m args below meth c C H locs ls hP hS hl => lv_astore_nN C.1 C.2.1 hd rfl hl.has hn rfl (fun ls' hl' => kk g p l e s m args below meth c C H locs ls' hP hS (LH.st1 hl'))
theorem x_astoreN {i : Nat}  (hn : i < M.2.2.1) (hv : lv1 lv i (.null) = lv') (hd : decode M.1 pc = .ok (.astore i, 2)) (hp : pc + 2 = pc') (kk : Ex M out pc' lv' st σ) : Ex M out pc lv (.null :: st) σ := by
  subst hp
  subst hv
  exact fun g p l e s m args below meth c C H locs ls hP hS hl => lv_astoreN C.1 C.2.1 hd hl.has hn rfl (fun ls' hl' => kk g p l e s m args below meth c C H locs ls' hP hS (LH.st1 hl'))
theorem x_iinc {i : Nat} {n : Int} {x v : Int32} (hl0 : lvr lv i = some (.int x)) (hx : x + Int32.ofInt n = v) (hn : i < M.2.2.1) (hv : lv1 lv i (.int v) = lv') (hd : decode M.1 pc = .ok (.iinc i n, 3)) (hp : pc + 3 = pc') (kk : Ex M out pc' lv' st σ) : Ex M out pc lv st σ := by
  subst hp
  subst hv
  intro g p l e s m args below meth c C H locs ls hP hS hl
  obtain ⟨k, hk⟩ := List.getElem?_of_mem (lvk_mem.mpr ⟨_, lvr_get _ _ _ hl0, rfl⟩ : (i, cv g (.int x)) ∈ lvk g lv)
  exact lv_iinc C.1 C.2.1 hd hl.has hk hx hn rfl (fun ls' hl' => kk g p l e s m args below meth c C H locs ls' hP hS (LH.st1 hl'))
theorem x_iadd {x y : Int32} (hd : decode M.1 pc = .ok (.iadd, 1)) (hp : pc + 1 = pc') (kk : Ex M out pc' lv (.int (x + y) :: st) σ) : Ex M out pc lv (.int y :: .int x :: st) σ := by
  subst hp
  exact fun g p l e s m args below meth c C H locs ls hP hS hl => lv_iadd C.1 C.2.1 hd (kk g p l e s m args below meth c C H locs ls hP hS hl)
theorem x_isub {x y : Int32} (hd : decode M.1 pc = .ok (.isub, 1)) (hp : pc + 1 = pc') (kk : Ex M out pc' lv (.int (x - y) :: st) σ) : Ex M out pc lv (.int y :: .int x :: st) σ := by
  subst hp
  exact fun g p l e s m args below meth c C H locs ls hP hS hl => lv_isub C.1 C.2.1 hd (kk g p l e s m args below meth c C H locs ls hP hS hl)
theorem x_imul {x y : Int32} (hd : decode M.1 pc = .ok (.imul, 1)) (hp : pc + 1 = pc') (kk : Ex M out pc' lv (.int (x * y) :: st) σ) : Ex M out pc lv (.int y :: .int x :: st) σ := by
  subst hp
  exact fun g p l e s m args below meth c C H locs ls hP hS hl => lv_imul C.1 C.2.1 hd (kk g p l e s m args below meth c C H locs ls hP hS hl)
theorem x_iand {x y : Int32} (hd : decode M.1 pc = .ok (.iand, 1)) (hp : pc + 1 = pc') (kk : Ex M out pc' lv (.int (x &&& y) :: st) σ) : Ex M out pc lv (.int y :: .int x :: st) σ := by
  subst hp
  exact fun g p l e s m args below meth c C H locs ls hP hS hl => lv_iand C.1 C.2.1 hd (kk g p l e s m args below meth c C H locs ls hP hS hl)
theorem x_ixor {x y : Int32} (hd : decode M.1 pc = .ok (.ixor, 1)) (hp : pc + 1 = pc') (kk : Ex M out pc' lv (.int (x ^^^ y) :: st) σ) : Ex M out pc lv (.int y :: .int x :: st) σ := by
  subst hp
  exact fun g p l e s m args below meth c C H locs ls hP hS hl => lv_ixor C.1 C.2.1 hd (kk g p l e s m args below meth c C H locs ls hP hS hl)
theorem x_idiv {x y : Int32} (hne : ¬ y = 0) (hd : decode M.1 pc = .ok (.idiv, 1)) (hp : pc + 1 = pc') (kk : Ex M out pc' lv (.int (x / y) :: st) σ) : Ex M out pc lv (.int y :: .int x :: st) σ := by
  subst hp
  exact fun g p l e s m args below meth c C H locs ls hP hS hl => lv_idiv C.1 C.2.1 hd hne (kk g p l e s m args below meth c C H locs ls hP hS hl)
theorem x_irem {x y : Int32} (hne : ¬ y = 0) (hd : decode M.1 pc = .ok (.irem, 1)) (hp : pc + 1 = pc') (kk : Ex M out pc' lv (.int (x - x / y * y) :: st) σ) : Ex M out pc lv (.int y :: .int x :: st) σ := by
  subst hp
  exact fun g p l e s m args below meth c C H locs ls hP hS hl => lv_irem C.1 C.2.1 hd hne (kk g p l e s m args below meth c C H locs ls hP hS hl)
theorem x_ineg {x : Int32} (hd : decode M.1 pc = .ok (.ineg, 1)) (hp : pc + 1 = pc') (kk : Ex M out pc' lv (.int (-x) :: st) σ) : Ex M out pc lv (.int x :: st) σ := by
  subst hp
  exact fun g p l e s m args below meth c C H locs ls hP hS hl => lv_ineg C.1 C.2.1 hd (kk g p l e s m args below meth c C H locs ls hP hS hl)
theorem x_ladd {x y : Int64} (hd : decode M.1 pc = .ok (.ladd, 1)) (hp : pc + 1 = pc') (kk : Ex M out pc' lv (.long (x + y) :: st) σ) : Ex M out pc lv (.long y :: .long x :: st) σ := by
  subst hp
  exact fun g p l e s m args below meth c C H locs ls hP hS hl => lv_ladd C.1 C.2.1 hd (kk g p l e s m args below meth c C H locs ls hP hS hl)
theorem x_lsub {x y : Int64} (hd : decode M.1 pc = .ok (.lsub, 1)) (hp : pc + 1 = pc') (kk : Ex M out pc' lv (.long (x - y) :: st) σ) : Ex M out pc lv (.long y :: .long x :: st) σ := by
  subst hp
  exact fun g p l e s m args below meth c C H locs ls hP hS hl => lv_lsub C.1 C.2.1 hd (kk g p l e s m args below meth c C H locs ls hP hS hl)
theorem x_lmul {x y : Int64} (hd : decode M.1 pc = .ok (.lmul, 1)) (hp : pc + 1 = pc') (kk : Ex M out pc' lv (.long (x * y) :: st) σ) : Ex M out pc lv (.long y :: .long x :: st) σ := by
  subst hp
  exact fun g p l e s m args below meth c C H locs ls hP hS hl => lv_lmul C.1 C.2.1 hd (kk g p l e s m args below meth c C H locs ls hP hS hl)
theorem x_land {x y : Int64} (hd : decode M.1 pc = .ok (.land, 1)) (hp : pc + 1 = pc') (kk : Ex M out pc' lv (.long (x &&& y) :: st) σ) : Ex M out pc lv (.long y :: .long x :: st) σ := by
  subst hp
  exact fun g p l e s m args below meth c C H locs ls hP hS hl => lv_land C.1 C.2.1 hd (kk g p l e s m args below meth c C H locs ls hP hS hl)
theorem x_lxor {x y : Int64} (hd : decode M.1 pc = .ok (.lxor, 1)) (hp : pc + 1 = pc') (kk : Ex M out pc' lv (.long (x ^^^ y) :: st) σ) : Ex M out pc lv (.long y :: .long x :: st) σ := by
  subst hp
  exact fun g p l e s m args below meth c C H locs ls hP hS hl => lv_lxor C.1 C.2.1 hd (kk g p l e s m args below meth c C H locs ls hP hS hl)
theorem x_ldiv {x y : Int64} (hne : ¬ y = 0) (hd : decode M.1 pc = .ok (.ldiv, 1)) (hp : pc + 1 = pc') (kk : Ex M out pc' lv (.long (x / y) :: st) σ) : Ex M out pc lv (.long y :: .long x :: st) σ := by
  subst hp
  exact fun g p l e s m args below meth c C H locs ls hP hS hl => lv_ldiv C.1 C.2.1 hd hne (kk g p l e s m args below meth c C H locs ls hP hS hl)
theorem x_lrem {x y : Int64} (hne : ¬ y = 0) (hd : decode M.1 pc = .ok (.lrem, 1)) (hp : pc + 1 = pc') (kk : Ex M out pc' lv (.long (x - x / y * y) :: st) σ) : Ex M out pc lv (.long y :: .long x :: st) σ := by
  subst hp
  exact fun g p l e s m args below meth c C H locs ls hP hS hl => lv_lrem C.1 C.2.1 hd hne (kk g p l e s m args below meth c C H locs ls hP hS hl)
theorem x_i2l {x : Int32} (hd : decode M.1 pc = .ok (.i2l, 1)) (hp : pc + 1 = pc') (kk : Ex M out pc' lv (.long x.toInt64 :: st) σ) : Ex M out pc lv (.int x :: st) σ := by
  subst hp
  exact fun g p l e s m args below meth c C H locs ls hP hS hl => lv_i2l C.1 C.2.1 hd rfl (kk g p l e s m args below meth c C H locs ls hP hS hl)
theorem x_l2i {x : Int64} (hd : decode M.1 pc = .ok (.l2i, 1)) (hp : pc + 1 = pc') (kk : Ex M out pc' lv (.int x.toInt32 :: st) σ) : Ex M out pc lv (.long x :: st) σ := by
  subst hp
  exact fun g p l e s m args below meth c C H locs ls hP hS hl => lv_l2i C.1 C.2.1 hd rfl (kk g p l e s m args below meth c C H locs ls hP hS hl)
theorem x_lcmp {x y : Int64} (hd : decode M.1 pc = .ok (.lcmp, 1)) (hp : pc + 1 = pc') (kk : Ex M out pc' lv (.int (lg_cmp x y) :: st) σ) : Ex M out pc lv (.long y :: .long x :: st) σ := by
  subst hp
  exact fun g p l e s m args below meth c C H locs ls hP hS hl => W.lcmp C.1 C.2.1 hd (kk g p l e s m args below meth c C H locs ls hP hS hl)
theorem x_dup {a : Value} (ha : a.category = 1) (hd : decode M.1 pc = .ok (.dup, 1)) (hp : pc + 1 = pc') (kk : Ex M out pc' lv (a :: a :: st) σ) : Ex M out pc lv (a :: st) σ := by
  subst hp
  exact fun g p l e s m args below meth c C H locs ls hP hS hl => lv_dup C.1 C.2.1 hd (by rw [cv_cat]; exact ha) (kk g p l e s m args below meth c C H locs ls hP hS hl)
theorem x_pop {a : Value} (ha : a.category = 1) (hd : decode M.1 pc = .ok (.pop, 1)) (hp : pc + 1 = pc') (kk : Ex M out pc' lv st σ) : Ex M out pc lv (a :: st) σ := by
  subst hp
  exact fun g p l e s m args below meth c C H locs ls hP hS hl => lv_pop C.1 C.2.1 hd (by rw [cv_cat]; exact ha) (kk g p l e s m args below meth c C H locs ls hP hS hl)
theorem x_dup2 {a b : Value} (ha : a.category = 1) (hb : b.category = 1) (hd : decode M.1 pc = .ok (.dup2, 1)) (hp : pc + 1 = pc') (kk : Ex M out pc' lv (a :: b :: a :: b :: st) σ) : Ex M out pc lv (a :: b :: st) σ := by
  subst hp
  exact fun g p l e s m args below meth c C H locs ls hP hS hl => lv_dup2_11 C.1 C.2.1 hd (by rw [cv_cat]; exact ha) (by rw [cv_cat]; exact hb) (kk g p l e s m args below meth c C H locs ls hP hS hl)
theorem x_if_eq {x : Int32} {off : Int} (ht : (pc : Int) + off = (tgt : Int)) (hd : decode M.1 pc = .ok (.ifCond .eq off, 3)) (hp : pc + 3 = pc') (kt : x = 0 → Ex M out tgt lv st σ) (kf : ¬ x = 0 → Ex M out pc' lv st σ) : Ex M out pc lv (.int x :: st) σ := by
  subst hp
  exact fun g p l e s m args below meth c C H locs ls hP hS hl => lv_if_eq C.1 C.2.1 hd ht (fun q => kt q g p l e s m args below meth c C H locs ls hP hS hl) (fun q => kf q g p l e s m args below meth c C H locs ls hP hS hl)
theorem x_icmp_eq {x y : Int32} {off : Int} (ht : (pc : Int) + off = (tgt : Int)) (hd : decode M.1 pc = .ok (.if_icmp .eq off, 3)) (hp : pc + 3 = pc') (kt : x = y → Ex M out tgt lv st σ) (kf : ¬ x = y → Ex M out pc' lv st σ) : Ex M out pc lv (.int y :: .int x :: st) σ := by
  subst hp
  exact fun g p l e s m args below meth c C H locs ls hP hS hl => lv_icmp_eq C.1 C.2.1 hd ht (fun q => kt q g p l e s m args below meth c C H locs ls hP hS hl) (fun q => kf q g p l e s m args below meth c C H locs ls hP hS hl)
theorem x_if_ne {x : Int32} {off : Int} (ht : (pc : Int) + off = (tgt : Int)) (hd : decode M.1 pc = .ok (.ifCond .ne off, 3)) (hp : pc + 3 = pc') (kt : ¬ x = 0 → Ex M out tgt lv st σ) (kf : x = 0 → Ex M out pc' lv st σ) : Ex M out pc lv (.int x :: st) σ := by
  subst hp
  exact fun g p l e s m args below meth c C H locs ls hP hS hl => lv_if_ne C.1 C.2.1 hd ht (fun q => kt q g p l e s m args below meth c C H locs ls hP hS hl) (fun q => kf q g p l e s m args below meth c C H locs ls hP hS hl)
theorem x_icmp_ne {x y : Int32} {off : Int} (ht : (pc : Int) + off = (tgt : Int)) (hd : decode M.1 pc = .ok (.if_icmp .ne off, 3)) (hp : pc + 3 = pc') (kt : ¬ x = y → Ex M out tgt lv st σ) (kf : x = y → Ex M out pc' lv st σ) : Ex M out pc lv (.int y :: .int x :: st) σ := by
  subst hp
  exact fun g p l e s m args below meth c C H locs ls hP hS hl => lv_icmp_ne C.1 C.2.1 hd ht (fun q => kt q g p l e s m args below meth c C H locs ls hP hS hl) (fun q => kf q g p l e s m args below meth c C H locs ls hP hS hl)
theorem x_if_lt {x : Int32} {off : Int} (ht : (pc : Int) + off = (tgt : Int)) (hd : decode M.1 pc = .ok (.ifCond .lt off, 3)) (hp : pc + 3 = pc') (kt : x < 0 → Ex M out tgt lv st σ) (kf : ¬ x < 0 → Ex M out pc' lv st σ) : Ex M out pc lv (.int x :: st) σ := by
  subst hp
  exact fun g p l e s m args below meth c C H locs ls hP hS hl => lv_if_lt C.1 C.2.1 hd ht (fun q => kt q g p l e s m args below meth c C H locs ls hP hS hl) (fun q => kf q g p l e s m args below meth c C H locs ls hP hS hl)
theorem x_icmp_lt {x y : Int32} {off : Int} (ht : (pc : Int) + off = (tgt : Int)) (hd : decode M.1 pc = .ok (.if_icmp .lt off, 3)) (hp : pc + 3 = pc') (kt : x < y → Ex M out tgt lv st σ) (kf : ¬ x < y → Ex M out pc' lv st σ) : Ex M out pc lv (.int y :: .int x :: st) σ := by
  subst hp
  exact fun g p l e s m args below meth c C H locs ls hP hS hl => lv_icmp_lt C.1 C.2.1 hd ht (fun q => kt q g p l e s m args below meth c C H locs ls hP hS hl) (fun q => kf q g p l e s m args below meth c C H locs ls hP hS hl)
theorem x_if_ge {x : Int32} {off : Int} (ht : (pc : Int) + off = (tgt : Int)) (hd : decode M.1 pc = .ok (.ifCond .ge off, 3)) (hp : pc + 3 = pc') (kt : 0 ≤ x → Ex M out tgt lv st σ) (kf : ¬ 0 ≤ x → Ex M out pc' lv st σ) : Ex M out pc lv (.int x :: st) σ := by
  subst hp
  exact fun g p l e s m args below meth c C H locs ls hP hS hl => lv_if_ge C.1 C.2.1 hd ht (fun q => kt q g p l e s m args below meth c C H locs ls hP hS hl) (fun q => kf q g p l e s m args below meth c C H locs ls hP hS hl)
theorem x_icmp_ge {x y : Int32} {off : Int} (ht : (pc : Int) + off = (tgt : Int)) (hd : decode M.1 pc = .ok (.if_icmp .ge off, 3)) (hp : pc + 3 = pc') (kt : y ≤ x → Ex M out tgt lv st σ) (kf : ¬ y ≤ x → Ex M out pc' lv st σ) : Ex M out pc lv (.int y :: .int x :: st) σ := by
  subst hp
  exact fun g p l e s m args below meth c C H locs ls hP hS hl => lv_icmp_ge C.1 C.2.1 hd ht (fun q => kt q g p l e s m args below meth c C H locs ls hP hS hl) (fun q => kf q g p l e s m args below meth c C H locs ls hP hS hl)
theorem x_if_gt {x : Int32} {off : Int} (ht : (pc : Int) + off = (tgt : Int)) (hd : decode M.1 pc = .ok (.ifCond .gt off, 3)) (hp : pc + 3 = pc') (kt : 0 < x → Ex M out tgt lv st σ) (kf : ¬ 0 < x → Ex M out pc' lv st σ) : Ex M out pc lv (.int x :: st) σ := by
  subst hp
  exact fun g p l e s m args below meth c C H locs ls hP hS hl => lv_if_gt C.1 C.2.1 hd ht (fun q => kt q g p l e s m args below meth c C H locs ls hP hS hl) (fun q => kf q g p l e s m args below meth c C H locs ls hP hS hl)
theorem x_icmp_gt {x y : Int32} {off : Int} (ht : (pc : Int) + off = (tgt : Int)) (hd : decode M.1 pc = .ok (.if_icmp .gt off, 3)) (hp : pc + 3 = pc') (kt : y < x → Ex M out tgt lv st σ) (kf : ¬ y < x → Ex M out pc' lv st σ) : Ex M out pc lv (.int y :: .int x :: st) σ := by
  subst hp
  exact fun g p l e s m args below meth c C H locs ls hP hS hl => lv_icmp_gt C.1 C.2.1 hd ht (fun q => kt q g p l e s m args below meth c C H locs ls hP hS hl) (fun q => kf q g p l e s m args below meth c C H locs ls hP hS hl)
theorem x_if_le {x : Int32} {off : Int} (ht : (pc : Int) + off = (tgt : Int)) (hd : decode M.1 pc = .ok (.ifCond .le off, 3)) (hp : pc + 3 = pc') (kt : x ≤ 0 → Ex M out tgt lv st σ) (kf : ¬ x ≤ 0 → Ex M out pc' lv st σ) : Ex M out pc lv (.int x :: st) σ := by
  subst hp
  exact fun g p l e s m args below meth c C H locs ls hP hS hl => lv_if_le C.1 C.2.1 hd ht (fun q => kt q g p l e s m args below meth c C H locs ls hP hS hl) (fun q => kf q g p l e s m args below meth c C H locs ls hP hS hl)
theorem x_icmp_le {x y : Int32} {off : Int} (ht : (pc : Int) + off = (tgt : Int)) (hd : decode M.1 pc = .ok (.if_icmp .le off, 3)) (hp : pc + 3 = pc') (kt : x ≤ y → Ex M out tgt lv st σ) (kf : ¬ x ≤ y → Ex M out pc' lv st σ) : Ex M out pc lv (.int y :: .int x :: st) σ := by
  subst hp
  exact fun g p l e s m args below meth c C H locs ls hP hS hl => lv_icmp_le C.1 C.2.1 hd ht (fun q => kt q g p l e s m args below meth c C H locs ls hP hS hl) (fun q => kf q g p l e s m args below meth c C H locs ls hP hS hl)
theorem x_goto {off : Int} (ht : (pc : Int) + off = (tgt : Int)) (hd : decode M.1 pc = .ok (.goto off, 3)) (kk : Ex M out tgt lv st σ) : Ex M out pc lv st σ :=
  fun g p l e s m args below meth c C H locs ls hP hS hl => lv_goto C.1 C.2.1 hd ht (kk g p l e s m args below meth c C H locs ls hP hS hl)
theorem x_ifnull {x : Nat} {off : Int} (hd : decode M.1 pc = .ok (.ifnull off, 3)) (hp : pc + 3 = pc') (kk : Ex M out pc' lv st σ) : Ex M out pc lv (.ref x :: st) σ := by
  subst hp
  exact fun g p l e s m args below meth c C H locs ls hP hS hl => lv_ifnull C.1 C.2.1 hd (kk g p l e s m args below meth c C H locs ls hP hS hl)
theorem x_ifnullN {off : Int} (ht : (pc : Int) + off = (tgt : Int)) (hd : decode M.1 pc = .ok (.ifnull off, 3)) (kk : Ex M out tgt lv st σ) : Ex M out pc lv (.null :: st) σ :=
  fun g p l e s m args below meth c C H locs ls hP hS hl => lv_ifnullN C.1 C.2.1 hd ht (kk g p l e s m args below meth c C H locs ls hP hS hl)
theorem x_ifnonnull {x : Nat} {off : Int} (ht : (pc : Int) + off = (tgt : Int)) (hd : decode M.1 pc = .ok (.ifnonnull off, 3)) (kk : Ex M out tgt lv st σ) : Ex M out pc lv (.ref x :: st) σ :=
  fun g p l e s m args below meth c C H locs ls hP hS hl => lv_ifnonnull C.1 C.2.1 hd ht (kk g p l e s m args below meth c C H locs ls hP hS hl)
theorem x_ifnonnullN {off : Int} (hd : decode M.1 pc = .ok (.ifnonnull off, 3)) (hp : pc + 3 = pc') (kk : Ex M out pc' lv st σ) : Ex M out pc lv (.null :: st) σ := by
  subst hp
  exact fun g p l e s m args below meth c C H locs ls hP hS hl => lv_ifnonnullN C.1 C.2.1 hd (kk g p l e s m args below meth c C H locs ls hP hS hl)
theorem x_tswIn {dflt lo hi : Int} {offs : Array Int} {len : Nat} {x : Int32} {off : Int} (h1 : ¬ x.toInt < lo) (h2 : ¬ hi < x.toInt) (ho : offs[(x.toInt - lo).toNat]? = some off) (ht : (pc : Int) + off = (tgt : Int)) (hd : decode M.1 pc = .ok (.tableswitch dflt lo hi offs, len)) (kk : Ex M out tgt lv st σ) : Ex M out pc lv (.int x :: st) σ :=
  fun g p l e s m args below meth c C H locs ls hP hS hl => lv_tableIn C.1 C.2.1 hd h1 h2 ho ht (kk g p l e s m args below meth c C H locs ls hP hS hl)
theorem x_tswOut {dflt lo hi : Int} {offs : Array Int} {len : Nat} {x : Int32} (h : x.toInt < lo ∨ hi < x.toInt) (ht : (pc : Int) + dflt = (tgt : Int)) (hd : decode M.1 pc = .ok (.tableswitch dflt lo hi offs, len)) (kk : Ex M out tgt lv st σ) : Ex M out pc lv (.int x :: st) σ :=
  fun g p l e s m args below meth c C H locs ls hP hS hl => lv_tableOut C.1 C.2.1 hd h ht (kk g p l e s m args below meth c C H locs ls hP hS hl)
theorem qx_of {g : Ge} {out : Option Value × St} {r : Option Value} {s t : State} {H : Heap} {locs : List Loc} {args : Array Value} (ho : (r, σ) = out) (hK : Kb g s) (hP : va_P g.1 Cls (wld g σ) H) (hS : va_S (Fr g) s.heap H locs) (ht : t.heap = H) (hW : s.WarmedH t.vm) : Qx g out args s (.returned (r.map (cv g))) t := by
  subst ho
  exact ⟨rfl, ⟨by rw [ht]; exact hP, hK.warm hW⟩, hS.F ht⟩
theorem x_iret {v : Int32} (hr : M.2.2.2.1 = some .int) (hd : decode M.1 pc = .ok (.ireturn, 1)) (ho : (some (.int v), σ) = out) : Ex M out pc lv [.int v] σ :=
  fun g p l e s m args below meth c C H locs ls hP hS hl => W.iret (v := v) C.1 C.2.1 (C.2.2.2.2.2.1.trans hr) (fun t ht hW => qx_of ho C.2.2.2.2.2.2.2 hP hS ht hW) hS.2.2 hd C.2.2.2.2.2.2.1
theorem x_zret {v : Int32} (hr : M.2.2.2.1 = some .boolean) (hn : narrow .boolean (.int v) = .int v) (hd : decode M.1 pc = .ok (.ireturn, 1)) (ho : (some (.int v), σ) = out) : Ex M out pc lv [.int v] σ :=
  fun g p l e s m args below meth c C H locs ls hP hS hl => W.zret (v := v) C.1 C.2.1 (C.2.2.2.2.2.1.trans hr) hn (fun t ht hW => qx_of ho C.2.2.2.2.2.2.2 hP hS ht hW) hS.2.2 hd C.2.2.2.2.2.2.1
theorem x_lret {v : Int64} (hr : M.2.2.2.1 = some .long) (hd : decode M.1 pc = .ok (.lreturn, 1)) (ho : (some (.long v), σ) = out) : Ex M out pc lv [.long v] σ :=
  fun g p l e s m args below meth c C H locs ls hP hS hl => W.lret (v := v) C.1 C.2.1 (C.2.2.2.2.2.1.trans hr) (fun t ht hW => qx_of ho C.2.2.2.2.2.2.2 hP hS ht hW) hS.2.2 hd C.2.2.2.2.2.2.1
theorem x_vret (hr : M.2.2.2.1 = none) (hd : decode M.1 pc = .ok (.return_, 1)) (ho : (none, σ) = out) : Ex M out pc lv [] σ :=
  fun g p l e s m args below meth c C H locs ls hP hS hl => W.vret C.1 C.2.1 (C.2.2.2.2.2.1.trans hr) (fun t ht hW => qx_of ho C.2.2.2.2.2.2.2 hP hS ht hW) hS.2.2 hd C.2.2.2.2.2.2.1
theorem x_aret {v : Value} {C0 : String} (hv : v = .null ∨ ∃ k, v = .ref k) (hr : M.2.2.2.1 = some (.object C0)) (hd : decode M.1 pc = .ok (.areturn, 1)) (ho : (some v, σ) = out) : Ex M out pc lv [v] σ :=
  fun g p l e s m args below meth c C H locs ls hP hS hl => W.aret (v := cv g v) C.1 C.2.1 (C.2.2.2.2.2.1.trans hr) (Or.inl ⟨_, rfl⟩) (hv.elim (fun q => Or.inl (by rw [q]; rfl)) (fun ⟨k, q⟩ => Or.inr ⟨g.2.1 k, by rw [q]; rfl⟩)) (fun t ht hW => qx_of ho C.2.2.2.2.2.2.2 hP hS ht hW) hS.2.2 hd C.2.2.2.2.2.2.1
end XR
