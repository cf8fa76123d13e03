def ML : MD := (code, RL, 4, ret, room_1)
set_option maxRecDepth 100000 in
theorem clk_L_7 : Cond.classLink RL 7 RX9 ∈ TT := tt_mem (List.mem_of_getElem? (i := 61) rfl) rfl
set_option maxRecDepth 100000 in
theorem clk_L_10 : Cond.classLink RL 10 RX10 ∈ TT := tt_mem (List.mem_of_getElem? (i := 709) rfl) rfl
set_option maxRecDepth 100000 in
theorem ilk_L_9 : Cond.methodLink RL 9 yX9_init ∈ TT := tt_mem (List.mem_of_getElem? (i := 63) rfl) rfl
set_option maxRecDepth 100000 in
theorem ilk_L_12 : Cond.methodLink RL 12 yX10_init ∈ TT := tt_mem (List.mem_of_getElem? (i := 711) rfl) rfl
theorem Ac_iff {sz q : Nat} : Ac sz sz q → sz ≤ q := fun h => h.elim (fun h => by omega) id
set_option maxHeartbeats 4000000 in
theorem y_make {p : Program} {l : Launch} {e : Env} {s : State} {m : MethodId} {below : List Frame} {meth : Method} {c : Code} {b L : Nat} {xs : Nat → Int32} (C : lw_At p s m meth c b L xs) {D : va_G} {ct : Nat → ClassId} (hK : Kn D ct s) {C0 : String} {ci idx iidx : Nat} {y : MethodName} {M' : MD} {F' : FF} (hN : NK ci) (hC : (Cls[ci]?).map (fun q => q.1) = some C0) (hcl : Cond.classLink RL idx C0 ∈ TT) (hI : IK y M') (hlk : Cond.methodLink RL iidx y ∈ TT) (hCk : Ck y M' ci F') (hR : RM ML M') {n sl pc : Nat} {ad : Nat → Nat} {f : Nat → va_E} {H : Heap} {locs : List Loc} {ls : Array Slot} {Q : State → Prop} (hP : va_P D Cls (wf ad f n) H) (hD : va_D (Ac s.heap.size s.heap.size) (wf ad f n)) (hS : va_S (Ac s.heap.size s.heap.size) s.heap H locs) (hls : ls.size = 4) (hc : n + 1 + M'.2.2.2.2.cells ≤ 600000) (hs : sl + nf ci + M'.2.2.2.2.slots ≤ 7302250) (hd0 : decode code pc = .ok (.new idx, 3)) (hd1 : decode code (pc + 3) = .ok (.dup, 1)) (hd2 : decode code (pc + 3 + 1) = .ok (.invokespecial iidx, 3))
    (kk : ∀ (q : Nat) (ad' : Nat → Nat) (H1 : Heap) (locs1 : List Loc), ad' 0 = q → va_P D Cls (wf (adJ n (va_up ad n q) ad') (fJ n (va_up f n (.inr (ci, df ci))) (F' ct ad')) (n + M'.2.2.2.2.cells + 1)) H1 → va_D (Ac s.heap.size s.heap.size) (wf (adJ n (va_up ad n q) ad') (fJ n (va_up f n (.inr (ci, df ci))) (F' ct ad')) (n + M'.2.2.2.2.cells + 1)) → va_S (Ac s.heap.size s.heap.size) s.heap H1 locs1 → W p l e room_1 s m #[Value.ref b] below meth c H1 locs1 (n + 1 + M'.2.2.2.2.cells) (sl + nf ci + M'.2.2.2.2.slots) Q (F0 m (pc + 3 + 1 + 3) ls [.ref q])) : W p l e room_1 s m #[Value.ref b] below meth c H locs n sl Q (F0 m pc ls []) := by
  have ht : ∀ w ∈ TT, w.before #[Value.ref b] s = true := fun w hw => C.2.2.2.2.2.1 w (List.mem_filter.mp hw).1
  obtain ⟨C1, T, ty, h1, h2, h3, h4, h5, h6⟩ := hN
  rw [h1] at hC
  obtain rfl := Option.some.inj hC
  obtain ⟨i1, i2, i3, i4, i5, i6⟩ := hI
  obtain ⟨B, own, nL, rt, rm⟩ := M'
  obtain rfl : rt = none := i2
  refine va_new C.1 C.2.1 ht h2 ty h3 C.2.2.2.2.1 (ht _ hcl) (ht _ h5) (ht _ h6) hK.1 hP hD hS (fun q hq => Or.inr hq) h1 h4 (show n + 1 ≤ 600000 by omega) (show sl + nf ci ≤ 7302250 by omega) hd0 (fun q H1 hP1 hD1 hS1 => ?_)
  rw [wf_app] at hP1 hD1
  refine lv_dup C.1 C.2.1 hd1 rfl ?_
  have hPk : va_P D Cls [(va_up ad n q n, .inr (ci, df ci))] H1 := fun i z hz => by
    have hi : i < 1 := (List.getElem?_eq_some_iff.mp hz).1
    rw [show i = 0 by omega] at hz
    cases hz
    have := hP1 n _ (wf_get (by omega))
    rw [va_up_self (f := f)] at this
    exact this
  have hq : va_up ad n q n = q := va_up_self _ _ _
  refine e_back (M := ML) (k := n) (cn := n + 1) rfl hP1 hD1 hS1 (va_runI (As := []) (n := 0) (nL := 4) ⟨C.1, C.2.1, C.2.2.2.1, C.2.2.2.2.1, ht⟩ (hCk l D ct (va_up ad n q n) H1.size) ⟨callB_of 0 ht (fun w hw => (List.mem_cons.mp hw).elim (fun z => z ▸ tt_good _ i1) (fun z => tt_good w z)) rfl rfl rfl (ht _ i5) (ht _ hlk) i6 hR, i3, ht _ i4⟩ ⟨blindk, fun U hU hW => ⟨rfl, by rw [hU], by rw [hU]; exact hPk, hK.warm hW⟩⟩ rfl rfl hls (by rw [hq]; rfl) (lv_room (Nat.le_of_ble_eq_true rfl)) hd2 ⟨hc, hs⟩) (fun ad' H2 locs2 h00 hP2 hD2 hS2 => ?_)
  exact kk q ad' H2 locs2 (h00.trans hq) hP2 hD2 hS2
