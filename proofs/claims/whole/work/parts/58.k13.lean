theorem ak_obj {C : String} {s : State} (h : va_AO C s) : ∃ c, ArrOfT s c (.object C) ∧ va_RA s c (.object C) := by
  obtain ⟨comp, c, k, h1, h2, h3, h4, h5⟩ := Cond.arrayOver_spec h
  exact ⟨c, fun N z => ⟨(fun k h => by cases h), k, h3, comp, h4⟩, k, comp, h3, h4, h1, h5⟩
theorem ak_int {s : State} {args : Array Value} (h : (Cond.arrayClass .int).before args s = true) : ∃ c, ArrOfT s c .int ∧ va_RA s c .int := by
  obtain ⟨c, k, comp, h1, h2, h3⟩ := Cond.arrayClass_spec h
  exact ⟨c, fun n z => ⟨fun k h => (by cases h), k, h2, comp, h3⟩, h1⟩
theorem ak_long {s : State} {args : Array Value} (h : (Cond.arrayClass .long).before args s = true) : ∃ c, ArrOfT s c .long ∧ va_RA s c .long := by
  obtain ⟨c, k, comp, h1, h2, h3⟩ := Cond.arrayClass_spec h
  exact ⟨c, fun n z => ⟨fun k h => (by cases h), k, h2, comp, h3⟩, h1⟩
theorem ak_boolean {s : State} {args : Array Value} (h : (Cond.arrayClass .boolean).before args s = true) : ∃ c, ArrOfT s c .boolean ∧ va_RA s c .boolean := by
  obtain ⟨c, k, comp, h1, h2, h3⟩ := Cond.arrayClass_spec h
  exact ⟨c, fun n z => ⟨fun k h => (by cases h), k, h2, comp, h3⟩, h1⟩
theorem nk_of {s : State} {args : Array Value} (ht : ∀ w ∈ TT, w.before args s = true) {ci : Nat} (hN : NK ci) : ∃ (cC : ClassId) (iS : Nat → Nat), ∀ q, Cls[ci]? = some q → u_Kn s q.1 q.2.1 q.2.2 cC iS := by
  obtain ⟨C, T, ty, h1, h2, -, -, h5, -⟩ := hN
  obtain ⟨cC, iS, h⟩ := u_known ht h2 (ht _ h5)
  refine ⟨cC, iS, fun q hq => ?_⟩
  rw [h1] at hq
  cases hq
  exact h
set_option maxRecDepth 100000 in
theorem kn_start {s : State} {b : Nat} (hts : ∀ w ∈ lw_tbl, w.before #[Value.ref b] s = true) : ∃ D ct, Kn D ct s := by
  have ht : ∀ w ∈ TT, w.before #[Value.ref b] s = true := fun w hw => hts w (List.mem_filter.mp hw).1
  have H : ∀ ci : Nat, ∃ (cC : ClassId) (iS : Nat → Nat), ∀ q, Cls[ci]? = some q → u_Kn s q.1 q.2.1 q.2.2 cC iS := by
    intro ci
    match ci with
    | 0 => exact nk_of ht nk_0
    | 1 => exact nk_of ht nk_1
    | 2 => exact nk_of ht nk_2
    | 3 => exact nk_of ht nk_3
    | 4 => exact nk_of ht nk_4
    | 5 => exact nk_of ht nk_5
    | 6 => exact nk_of ht nk_6
    | 7 => exact nk_of ht nk_7
    | 8 => exact nk_of ht nk_8
    | 9 => exact nk_of ht nk_9
    | k + 10 =>
      obtain ⟨c, i, -⟩ := nk_of ht nk_0
      exact ⟨c, i, fun q hq => by simp [Cls] at hq⟩
  have a4 : va_AO RX4 s := va_AO.of (hts (.arrayOver (.object RX4)) (List.mem_of_getElem? (i := 76) rfl))
  have a8 : va_AO RX8 s := va_AO.of (hts (.arrayOver (.object RX8)) (List.mem_of_getElem? (i := 137) rfl))
  obtain ⟨c0, k0⟩ := ak_int (ht _ ac_int)
  obtain ⟨c1, k1⟩ := ak_long (ht _ ac_long)
  obtain ⟨c2, k2⟩ := ak_boolean (ht _ ac_boolean)
  obtain ⟨c3, k3⟩ := ak_obj a4
  obtain ⟨c4, k4⟩ := ak_obj a8
  refine ⟨(fun c => Classical.choose (H c), fun c => Classical.choose (Classical.choose_spec (H c))), fun t => if t = 0 then c0 else if t = 1 then c1 else if t = 2 then c2 else if t = 3 then c3 else c4, ⟨fun c q hq => Classical.choose_spec (Classical.choose_spec (H c)) q hq, fun k q hk => ?_⟩, fun q hq => ?_, a4, a8⟩
  · match k, hk with
    | 0, hk => cases hk; exact k0
    | 1, hk => cases hk; exact k1
    | 2, hk => cases hk; exact k2
    | 3, hk => cases hk; exact k3
    | 4, hk => cases hk; exact k4
    | k + 5, hk => simp [tys] at hk
  · have hn : ∀ q ∈ nsL, Cond.methodLinkNest q.1 q.2.1 q.2.2 RX9 ∈ lw_tbl := by
      intro q hq
      simp only [nsL, List.mem_cons, List.not_mem_nil, or_false] at hq
      rcases hq with rfl | rfl | rfl | rfl | rfl | rfl | rfl
      · exact List.mem_of_getElem? (i := 509) rfl
      · exact List.mem_of_getElem? (i := 78) rfl
      · exact List.mem_of_getElem? (i := 151) rfl
      · exact List.mem_of_getElem? (i := 169) rfl
      · exact List.mem_of_getElem? (i := 188) rfl
      · exact List.mem_of_getElem? (i := 198) rfl
      · exact List.mem_of_getElem? (i := 217) rfl
    exact va_Nw.of rfl (hts _ (hn q hq))
