/-! ===== constructors: a world in the order of its making ===== -/
def wf (ad : Nat → Nat) (f : Nat → va_E) (n : Nat) : va_W := (List.range n).map (fun k => (ad k, f k))
theorem wf_get {ad : Nat → Nat} {f : Nat → va_E} {n k : Nat} (h : k < n) : (wf ad f n)[k]? = some (ad k, f k) := by simp [wf, h]
theorem wf_inv {ad : Nat → Nat} {f : Nat → va_E} {n k : Nat} {q : Nat × va_E} (h : (wf ad f n)[k]? = some q) : k < n ∧ q = (ad k, f k) := by
  have hk : k < n := by
    have := (List.getElem?_eq_some_iff.mp h).1
    simpa [wf] using this
  refine ⟨hk, ?_⟩
  rw [wf_get hk] at h
  exact (Option.some.inj h).symm
theorem wf_set {ad : Nat → Nat} {f : Nat → va_E} {n : Nat} (k : Nat) (e : va_E) : (wf ad f n).set k (ad k, e) = wf ad (va_up f k e) n := by
  apply List.ext_getElem?
  intro i
  rw [List.getElem?_set]
  by_cases hi : i < n
  · rw [wf_get (f := va_up f k e) hi]
    by_cases hik : k = i
    · subst hik
      rw [if_pos rfl, if_pos (by simpa [wf] using hi), va_up_self]
    · rw [if_neg hik, wf_get hi, va_up_ne _ _ (fun h => hik h.symm)]
  · have h1 : (wf ad f n)[i]? = none := by rw [List.getElem?_eq_none_iff]; simp [wf]; omega
    have h2 : (wf ad (va_up f k e) n)[i]? = none := by rw [List.getElem?_eq_none_iff]; simp [wf]; omega
    rw [h1, h2]
    by_cases hki : k = i
    · rw [if_pos hki, if_neg (by simp [wf]; omega)]
    · rw [if_neg hki]
theorem wf_app (ad : Nat → Nat) (f : Nat → va_E) (n q : Nat) (e : va_E) : wf ad f n ++ [(q, e)] = wf (va_up ad n q) (va_up f n e) (n + 1) := by
  unfold wf
  rw [List.range_succ, List.map_append]
  congr 1
  · exact List.map_congr_left (fun k hk => by
      have := List.mem_range.mp hk
      rw [va_up_ne _ _ (by omega), va_up_ne _ _ (by omega)])
  · simp [va_up_self]
theorem wf_c {ad ad' : Nat → Nat} {f f' : Nat → va_E} {n : Nat} (h : ∀ k, k < n → ad k = ad' k ∧ f k = f' k) : wf ad f n = wf ad' f' n :=
  List.map_congr_left (fun k hk => by
    obtain ⟨h1, h2⟩ := h k (List.mem_range.mp hk)
    rw [h1, h2])
def Ac (h0 sz : Nat) : Nat → Prop := fun q => q = h0 ∨ sz ≤ q
def df (ci : Nat) : List Value := (List.range (nf ci)).map (fun j => match ft ci j with
  | 1 => Value.long 0
  | 2 => .null
  | _ => .int 0)
abbrev FF : Type := (Nat → ClassId) → (Nat → Nat) → Nat → va_E
def gd (D : va_G) (ct : Nat → ClassId) : Ge := (D, fun k => k, ct)
def nsL : List (String × Nat × MethodName) := [(RX7, 22, yX9_isPlace), (RX8, 17, yX4_init), (RX9, 25, yX6_init), (RX9, 35, yX0_init), (RX9, 42, yX3_init), (RX9, 49, yX7_init), (RX9, 56, yX2_init)]
def Kn (D : va_G) (ct : Nat → ClassId) (U : State) : Prop := va_K D Cls (tys (gd D ct)) U ∧ (∀ q ∈ nsL, va_Nw (.methodLinkNest q.1 q.2.1 q.2.2 RX9) U) ∧ va_AO RX4 U ∧ va_AO RX8 U
theorem Kn.warm {D : va_G} {ct : Nat → ClassId} {s t : State} (h : Kn D ct s) (hW : s.WarmedH t.vm) : Kn D ct t := ⟨va_K.moved hW.alike h.1, fun q hq => va_Nw.warmM hW (h.2.1 q hq), h.2.2.1.moved hW.alike, h.2.2.2.moved hW.alike⟩
def Qk (D : va_G) (ct : Nat → ClassId) (h0 sz n : Nat) (F : FF) : Array Value → State → Outcome → State → Prop := fun _ st oc t => oc = .returned none ∧ (∃ ad, ad 0 = h0 ∧ va_P D Cls (wf ad (F ct ad) (n + 1)) t.heap ∧ va_D (Ac h0 sz) (wf ad (F ct ad) (n + 1))) ∧ va_F (Ac h0 sz) st t
/-- the contract of a constructor: so many new cells, this world -/
def Ck (y : MethodName) (M : MD) (ci : Nat) (F : FF) : Prop := ∀ (l : Launch) (D : va_G) (ct : Nat → ClassId) (h0 sz : Nat), Met l y (.code y M.1 M.2.2.1 M.2.2.2.1 :: TT) M.2.2.2.2 (va_Pc [.ref h0] (fun U => U.heap.size = sz ∧ va_P D Cls [(h0, .inr (ci, df ci))] U.heap ∧ Kn D ct U)) (Qk D ct h0 sz M.2.2.2.2.cells F) M.2.2.2.2.cells M.2.2.2.2.slots (Ac h0 sz)
def Cc (M : MD) (D : va_G) (ct : Nat → ClassId) (p : Program) (s : State) (m : MethodId) (args : Array Value) (meth : Method) (c : Code) : Prop :=
  p.tables.exec = Jvm.exec ∧ c.code = M.1 ∧ c.maxLocals = M.2.2.1 ∧ s.vm.findClass M.2.1 = some m.cls ∧ (∀ w ∈ TT, w.before args s = true) ∧ meth.sig.returnType = M.2.2.2.1 ∧ meth.locks = false ∧ Kn D ct s ∧ meth.name = "<init>"
def Ec (M : MD) (D : va_G) (ct : Nat → ClassId) (h0 sz : Nat) (F : FF) (pc : Nat) (lv : List (Option Value)) (st : List Value) (ad : Nat → Nat) (f : Nat → va_E) (k sl : Nat) : Prop :=
  ∀ (p : Program) (l : Launch) (e : Env) (s : State) (m : MethodId) (args : Array Value) (below : List Frame) (meth : Method) (c : Code), Cc M D ct p s m args meth c → s.heap.size = sz →
  ∀ (H : Heap) (locs : List Loc) (ls : Array Slot), va_P D Cls (wf ad f (k + 1)) H → va_D (Ac h0 sz) (wf ad f (k + 1)) → va_S (Ac h0 sz) s.heap H locs → LH (gd D ct) ls M.2.2.1 lv →
  W p l e M.2.2.2.2 s m args below meth c H locs k sl (MQ below (Qk D ct h0 sz M.2.2.2.2.cells F) args s M.2.2.2.2.cells M.2.2.2.2.slots (Ac h0 sz)) (F0 m pc ls st)
theorem ck_of {y : MethodName} {M : MD} {ci : Nat} {F : FF} {k : Nat} (hy : plainName y.cls = true) (hyc : y.cls = M.2.1) (hyn : y.name = "<init>") (hle : 1 ≤ M.2.2.1) (hE : ∀ D ct h0 sz, Ec M D ct h0 sz F 0 (some (.ref h0) :: List.replicate k none) [] (fun _ => h0) (fun _ => .inr (ci, df ci)) 0 0) : Ck y M ci F := by
  intro l D ct h0 sz
  refine Met.ofW (cc := M.1) (maxL := M.2.2.1) (ret := M.2.2.2.1) hy rfl ?_
  intro p e s m args below meth c s₁ B hml hv
  obtain ⟨rfl, hsz, hP, hK⟩ := hv
  have hts := atoms_spec (ws := .code y M.1 M.2.2.1 M.2.2.2.1 :: TT) B.pre
  have hown : s.vm.findClass M.2.1 = some m.cls := hyc ▸ findClass_of_methodNamed B.named
  have hl := lv_entry ([.ref h0] : List Value) (n := M.2.2.1) hle
  rw [lg_entry_eq]
  refine hE D ct h0 sz p l e s m _ below meth c ⟨B.exec, B.bytes, hml, hown, fun w hw => hts w (List.mem_cons_of_mem _ hw), B.returns, B.notSynchronized, hK, (name_of_methodNamed B.named B.method).1.trans hyn⟩ hsz s.heap [] _ hP ⟨fun i j p q hi hj _ => ?_, fun i q hi => ?_⟩ va_S.rf ⟨hl.1, hl.2.1, fun i v hi => ?_⟩
  · have := (wf_inv hi).1
    have := (wf_inv hj).1
    omega
  · rw [(wf_inv hi).2]
    exact Or.inl rfl
  · match i, hi with
    | 0, hi =>
      have : v = .ref h0 := by simpa using hi.symm
      subst this
      exact hl.2.2 (0, .ref h0) List.mem_cons_self
    | i + 1, hi => simp [List.getElem?_replicate] at hi
section KR
variable {M : MD} {D : va_G} {ct : Nat → ClassId} {h0 sz : Nat} {F : FF} {pc pc' tgt : Nat} {lv lv' : List (Option Value)} {st : List Value} {ad : Nat → Nat} {f : Nat → va_E} {k sl : Nat}
theorem e_iconst {n : Int} {v : Int32} (hv : Int32.ofInt n = v) (hd : decode M.1 pc = .ok (.iconst n, 1)) (hp : pc + 1 = pc') (kk : Ec M D ct h0 sz F pc' lv (.int v :: st) ad f k sl) : Ec M D ct h0 sz F pc lv (st) ad f k sl := by
  subst hp
  exact fun p l e s m args below meth c C hsz H locs ls hP hD hS hl => lv_iconst C.1 C.2.1 hd hv (kk p l e s m args below meth c C hsz H locs ls hP hD hS hl)
theorem e_bipush {n : Int} {v : Int32} (hv : (Int8.ofInt n).toInt32 = v) (hd : decode M.1 pc = .ok (.bipush n, 2)) (hp : pc + 2 = pc') (kk : Ec M D ct h0 sz F pc' lv (.int v :: st) ad f k sl) : Ec M D ct h0 sz F pc lv (st) ad f k sl := by
  subst hp
  exact fun p l e s m args below meth c C hsz H locs ls hP hD hS hl => lv_bipush C.1 C.2.1 hd hv (kk p l e s m args below meth c C hsz H locs ls hP hD hS hl)
theorem e_sipush {n : Int} {v : Int32} (hv : (Int16.ofInt n).toInt32 = v) (hd : decode M.1 pc = .ok (.sipush n, 3)) (hp : pc + 3 = pc') (kk : Ec M D ct h0 sz F pc' lv (.int v :: st) ad f k sl) : Ec M D ct h0 sz F pc lv (st) ad f k sl := by
  subst hp
  exact fun p l e s m args below meth c C hsz H locs ls hP hD hS hl => lv_sipush C.1 C.2.1 hd hv (kk p l e s m args below meth c C hsz H locs ls hP hD hS hl)
theorem e_lconst {n : Fin 2} {v : Int64} (hv : Int64.ofNat (n : Nat) = v) (hd : decode M.1 pc = .ok (.lconst n, 1)) (hp : pc + 1 = pc') (kk : Ec M D ct h0 sz F pc' lv (.long v :: st) ad f k sl) : Ec M D ct h0 sz F pc lv (st) ad f k sl := by
  subst hp
  exact fun p l e s m args below meth c C hsz H locs ls hP hD hS hl => lv_lconst C.1 C.2.1 hd hv (kk p l e s m args below meth c C hsz H locs ls hP hD hS hl)
theorem e_aload_n {j : Fin 4} {x : Nat} (hl0 : lvr lv (j : Nat) = some (.ref x)) (hd : decode M.1 pc = .ok (.aload_n j, 1)) (hp : pc + 1 = pc') (kk : Ec M D ct h0 sz F pc' lv (.ref x :: st) ad f k sl) : Ec M D ct h0 sz F pc lv (st) ad f k sl := by
  subst hp
  exact fun p l e s m args below meth c C hsz H locs ls hP hD hS hl => lv_aload_n C.1 C.2.1 hd rfl (hl.2.2 _ _ (lvr_get _ _ _ hl0)) (kk p l e s m args below meth c C hsz H locs ls hP hD hS hl)
theorem e_iload_n {j : Fin 4} {x : Int32} (hl0 : lvr lv (j : Nat) = some (.int x)) (hd : decode M.1 pc = .ok (.iload_n j, 1)) (hp : pc + 1 = pc') (kk : Ec M D ct h0 sz F pc' lv (.int x :: st) ad f k sl) : Ec M D ct h0 sz F pc lv (st) ad f k sl := by
  subst hp
  exact fun p l e s m args below meth c C hsz H locs ls hP hD hS hl => lv_iload_n C.1 C.2.1 hd rfl (hl.2.2 _ _ (lvr_get _ _ _ hl0)) (kk p l e s m args below meth c C hsz H locs ls hP hD hS hl)
theorem e_dup {a : Value} (ha : a.category = 1) (hd : decode M.1 pc = .ok (.dup, 1)) (hp : pc + 1 = pc') (kk : Ec M D ct h0 sz F pc' lv (a :: a :: st) ad f k sl) : Ec M D ct h0 sz F pc lv (a :: st) ad f k sl := by
  subst hp
  exact fun p l e s m args below meth c C hsz H locs ls hP hD hS hl => lv_dup C.1 C.2.1 hd ha (kk p l e s m args below meth c C hsz H locs ls hP hD hS hl)
set_option maxRecDepth 100000 in
theorem oi_inst : Cond.instanceMethod objectInit ∈ TT := tt_mem (List.mem_of_getElem? (i := 67) rfl) rfl
set_option maxRecDepth 100000 in
theorem oi_code : Cond.code objectInit ⟨#[0xb1]⟩ 1 none ∈ TT := tt_mem (List.mem_of_getElem? (i := 68) rfl) rfl
theorem e_istore_n {j : Fin 4} {x : Int32} (hn : (j : Nat) < M.2.2.1) (hv : lv1 lv (j : Nat) (.int x) = lv') (hd : decode M.1 pc = .ok (.istore_n j, 1)) (hp : pc + 1 = pc') (kk : Ec M D ct h0 sz F pc' lv' st ad f k sl) : Ec M D ct h0 sz F pc lv (.int x :: st) ad f k sl := by
  subst hp
  subst hv
  exact fun p l e s m args below meth c C hsz H locs ls hP hD hS hl => lv_istore_n C.1 C.2.1 hd rfl hl.has hn rfl (fun ls' hl' => kk p l e s m args below meth c C hsz H locs ls' hP hD hS (LH.st1 hl'))
theorem e_iinc {i : Nat} {n : Int} {x v : Int32} (hl0 : lvr lv i = some (.int x)) (hx : x + Int32.ofInt n = v) (hn : i < M.2.2.1) (hv : lv1 lv i (.int v) = lv') (hd : decode M.1 pc = .ok (.iinc i n, 3)) (hp : pc + 3 = pc') (kk : Ec M D ct h0 sz F pc' lv' st ad f k sl) : Ec M D ct h0 sz F pc lv st ad f k sl := by
  subst hp
  subst hv
  intro p l e s m args below meth c C hsz H locs ls hP hD hS hl
  obtain ⟨z, hk⟩ := List.getElem?_of_mem (lvk_mem.mpr ⟨_, lvr_get _ _ _ hl0, rfl⟩ : (i, cv (gd D ct) (.int x)) ∈ lvk (gd D ct) lv)
  exact lv_iinc C.1 C.2.1 hd hl.has hk hx hn rfl (fun ls' hl' => kk p l e s m args below meth c C hsz H locs ls' hP hD hS (LH.st1 hl'))
theorem e_goto {off : Int} (ht : (pc : Int) + off = (tgt : Int)) (hd : decode M.1 pc = .ok (.goto off, 3)) (kk : Ec M D ct h0 sz F tgt lv st ad f k sl) : Ec M D ct h0 sz F pc lv st ad f k sl :=
  fun p l e s m args below meth c C hsz H locs ls hP hD hS hl => lv_goto C.1 C.2.1 hd ht (kk p l e s m args below meth c C hsz H locs ls hP hD hS hl)
theorem e_icmp_ge {x y : Int32} {off : Int} (ht : (pc : Int) + off = (tgt : Int)) (hd : decode M.1 pc = .ok (.if_icmp .ge off, 3)) (hp : pc + 3 = pc') (kt : y ≤ x → Ec M D ct h0 sz F tgt lv st ad f k sl) (kf : ¬ y ≤ x → Ec M D ct h0 sz F pc' lv st ad f k sl) : Ec M D ct h0 sz F pc lv (.int y :: .int x :: st) ad f k sl := by
  subst hp
  exact fun p l e s m args below meth c C hsz H locs ls hP hD hS hl => lv_icmp_ge C.1 C.2.1 hd ht (fun q => kt q p l e s m args below meth c C hsz H locs ls hP hD hS hl) (fun q => kf q p l e s m args below meth c C hsz H locs ls hP hD hS hl)
theorem e_objInit {idx : Nat} {a : Nat} (h1 : Cond.methodLink M.2.1 idx objectInit ∈ TT) (hf : 1 ≤ M.2.2.2.2.frames) (hl2 : 12 ≤ M.2.2.2.2.locals) (hd : decode M.1 pc = .ok (.invokespecial idx, 3)) (hp : pc + 3 = pc') (kk : Ec M D ct h0 sz F pc' lv [] ad f k sl) : Ec M D ct h0 sz F pc lv [.ref a] ad f k sl := by
  subst hp
  intro p l e s m args below meth c C hsz H locs ls hP hD hS hl
  refine W.objInit C.1 C.2.1 C.2.2.2.1 (C.2.2.2.2.1 _ h1) (C.2.2.2.2.1 (.instanceMethod objectInit) oi_inst) (C.2.2.2.2.1 (.code objectInit ⟨#[0xb1]⟩ 1 none) oi_code) rfl (by rw [C.2.2.1]; exact hl.1) rfl hd hf hl2 ?_
  exact kk p l e s m args below meth c C hsz H locs ls hP hD hS hl
end KR
