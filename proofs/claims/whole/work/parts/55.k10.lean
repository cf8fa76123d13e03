/-! ===== the law ===== -/
def CS : Nat := 8 + 6906 + 16 + 6608
def El (D : va_G) (ct : Nat → ClassId) (ad : Nat → Nat) (b L : Nat) (xs : Nat → Int32) (i pc : Nat) (st : List Value) (σ : St) : Prop :=
  ∀ (p : Program) (l : Launch) (e : Env) (s : State) (m : MethodId) (below : List Frame) (meth : Method) (c : Code), lw_At p s m meth c b L xs → Kb (gL D ct ad) s → (∀ q, Fr (gL D ct ad) q → s.heap.size ≤ q) →
  ∀ (H : Heap) (locs : List Loc) (ls : Array Slot), va_P D Cls (wld (gL D ct ad) σ) H → va_S (fun q => s.heap.size ≤ q) s.heap H locs → lv_has ls 4 [(0, .ref b), (1, .ref (ad (pl 0))), (2, .ref (ad (pl 18))), (3, .int (nI i))] →
  W p l e room_1 s m #[Value.ref b] below meth c H locs 295 CS (lw_Z below #[Value.ref b] s) (F0 m pc ls st)
section LR
variable {D : va_G} {ct : Nat → ClassId} {ad : Nat → Nat} {b L : Nat} {xs : Nat → Int32} {i pc pc' tgt : Nat} {st : List Value} {σ : St}
theorem y_iconst {n : Int} {v : Int32} (hv : Int32.ofInt n = v) (hd : decode code pc = .ok (.iconst n, 1)) (hp : pc + 1 = pc') (kk : El D ct ad b L xs i pc' (.int v :: st) σ) : El D ct ad b L xs i pc (st) σ := by
  subst hp
  exact fun p l e s m below meth c C K hA H locs ls hP hS hl => lv_iconst C.1 C.2.1 hd hv (kk p l e s m below meth c C K hA H locs ls hP hS hl)
theorem y_bipush {n : Int} {v : Int32} (hv : (Int8.ofInt n).toInt32 = v) (hd : decode code pc = .ok (.bipush n, 2)) (hp : pc + 2 = pc') (kk : El D ct ad b L xs i pc' (.int v :: st) σ) : El D ct ad b L xs i pc (st) σ := by
  subst hp
  exact fun p l e s m below meth c C K hA H locs ls hP hS hl => lv_bipush C.1 C.2.1 hd hv (kk p l e s m below meth c C K hA H locs ls hP hS hl)
theorem y_scr (hd : decode code pc = .ok (.aload_n 0, 1)) (hp : pc + 1 = pc') (kk : El D ct ad b L xs i pc' (.ref b :: st) σ) : El D ct ad b L xs i pc (st) σ := by
  subst hp
  exact fun p l e s m below meth c C K hA H locs ls hP hS hl => lv_aload_n C.1 C.2.1 hd rfl (lv_at hl 0 rfl) (kk p l e s m below meth c C K hA H locs ls hP hS hl)
theorem y_cls (hd : decode code pc = .ok (.aload_n 1, 1)) (hp : pc + 1 = pc') (kk : El D ct ad b L xs i pc' (.ref (ad (pl 0)) :: st) σ) : El D ct ad b L xs i pc (st) σ := by
  subst hp
  exact fun p l e s m below meth c C K hA H locs ls hP hS hl => lv_aload_n C.1 C.2.1 hd rfl (lv_at hl 1 rfl) (kk p l e s m below meth c C K hA H locs ls hP hS hl)
theorem y_mod (hd : decode code pc = .ok (.aload_n 2, 1)) (hp : pc + 1 = pc') (kk : El D ct ad b L xs i pc' (.ref (ad (pl 18)) :: st) σ) : El D ct ad b L xs i pc (st) σ := by
  subst hp
  exact fun p l e s m below meth c C K hA H locs ls hP hS hl => lv_aload_n C.1 C.2.1 hd rfl (lv_at hl 2 rfl) (kk p l e s m below meth c C K hA H locs ls hP hS hl)
theorem y_i (hd : decode code pc = .ok (.iload_n 3, 1)) (hp : pc + 1 = pc') (kk : El D ct ad b L xs i pc' (.int (nI i) :: st) σ) : El D ct ad b L xs i pc (st) σ := by
  subst hp
  exact fun p l e s m below meth c C K hA H locs ls hP hS hl => lv_iload_n C.1 C.2.1 hd rfl (lv_at hl 3 rfl) (kk p l e s m below meth c C K hA H locs ls hP hS hl)
theorem y_iadd {x y : Int32} (hd : decode code pc = .ok (.iadd, 1)) (hp : pc + 1 = pc') (kk : El D ct ad b L xs i pc' (.int (x + y) :: st) σ) : El D ct ad b L xs i pc (.int y :: .int x :: st) σ := by
  subst hp
  exact fun p l e s m below meth c C K hA H locs ls hP hS hl => lv_iadd C.1 C.2.1 hd (kk p l e s m below meth c C K hA H locs ls hP hS hl)
theorem y_isub {x y : Int32} (hd : decode code pc = .ok (.isub, 1)) (hp : pc + 1 = pc') (kk : El D ct ad b L xs i pc' (.int (x - y) :: st) σ) : El D ct ad b L xs i pc (.int y :: .int x :: st) σ := by
  subst hp
  exact fun p l e s m below meth c C K hA H locs ls hP hS hl => lv_isub C.1 C.2.1 hd (kk p l e s m below meth c C K hA H locs ls hP hS hl)
theorem y_iand {x y : Int32} (hd : decode code pc = .ok (.iand, 1)) (hp : pc + 1 = pc') (kk : El D ct ad b L xs i pc' (.int (x &&& y) :: st) σ) : El D ct ad b L xs i pc (.int y :: .int x :: st) σ := by
  subst hp
  exact fun p l e s m below meth c C K hA H locs ls hP hS hl => lv_iand C.1 C.2.1 hd (kk p l e s m below meth c C K hA H locs ls hP hS hl)
theorem y_len (hd : decode code pc = .ok (.arraylength, 1)) (hp : pc + 1 = pc') (kk : El D ct ad b L xs i pc' (.int (Int32.ofNat L) :: st) σ) : El D ct ad b L xs i pc (.ref b :: st) σ := by
  subst hp
  exact fun p l e s m below meth c C K hA H locs ls hP hS hl => va_slen C.1 C.2.1 C.2.2.2.2.2.2.1 C.2.2.2.2.2.2.2.1 (Nat.not_le.mpr C.2.2.2.2.2.2.2.1) hS hd (kk p l e s m below meth c C K hA H locs ls hP hS hl)
theorem y_ld {x : Int32} (hin : vp_in x L) (hd : decode code pc = .ok (.iaload, 1)) (hp : pc + 1 = pc') (kk : El D ct ad b L xs i pc' (.int (xs x.toNatClampNeg) :: st) σ) : El D ct ad b L xs i pc (.int x :: .ref b :: st) σ := by
  subst hp
  exact fun p l e s m below meth c C K hA H locs ls hP hS hl => va_sld C.1 C.2.1 C.2.2.2.2.2.2.1 C.2.2.2.2.2.2.2.1 (Nat.not_le.mpr C.2.2.2.2.2.2.2.1) hS hin hd (kk p l e s m below meth c C K hA H locs ls hP hS hl)
theorem y_top {x y : Int32} (h : x = y) (kk : El D ct ad b L xs i pc (.int y :: st) σ) : El D ct ad b L xs i pc (.int x :: st) σ := by rw [h]; exact kk
theorem y_goto {off : Int} (ht : (pc : Int) + off = (tgt : Int)) (hd : decode code pc = .ok (.goto off, 3)) (kk : El D ct ad b L xs i tgt st σ) : El D ct ad b L xs i pc st σ :=
  fun p l e s m below meth c C K hA H locs ls hP hS hl => lv_goto C.1 C.2.1 hd ht (kk p l e s m below meth c C K hA H locs ls hP hS hl)
theorem y_icmp_eq {x : Int32} {off : Int} (ht : (pc : Int) + off = (tgt : Int)) (hd : decode code pc = .ok (.if_icmp .eq off, 3)) (kk : El D ct ad b L xs i tgt st σ) : El D ct ad b L xs i pc (.int x :: .int x :: st) σ :=
  fun p l e s m below meth c C K hA H locs ls hP hS hl => lv_icmp_eq C.1 C.2.1 hd ht (fun _ => kk p l e s m below meth c C K hA H locs ls hP hS hl) (fun q => absurd rfl q)
theorem y_icmp_gt {x y : Int32} {off : Int} (ht : (pc : Int) + off = (tgt : Int)) (hd : decode code pc = .ok (.if_icmp .gt off, 3)) (hp : pc + 3 = pc') (kt : y < x → El D ct ad b L xs i tgt st σ) (kf : ¬ y < x → El D ct ad b L xs i pc' st σ) : El D ct ad b L xs i pc (.int y :: .int x :: st) σ := by
  subst hp
  exact fun p l e s m below meth c C K hA H locs ls hP hS hl => lv_icmp_gt C.1 C.2.1 hd ht (fun q => kt q p l e s m below meth c C K hA H locs ls hP hS hl) (fun q => kf q p l e s m below meth c C K hA H locs ls hP hS hl)
theorem y_tswIn {dflt lo hi : Int} {offs : Array Int} {len : Nat} {x : Int32} {off : Int} (h1 : ¬ x.toInt < lo) (h2 : ¬ hi < x.toInt) (ho : offs[(x.toInt - lo).toNat]? = some off) (ht : (pc : Int) + off = (tgt : Int)) (hd : decode code pc = .ok (.tableswitch dflt lo hi offs, len)) (kk : El D ct ad b L xs i tgt st σ) : El D ct ad b L xs i pc (.int x :: st) σ :=
  fun p l e s m below meth c C K hA H locs ls hP hS hl => lv_tableIn C.1 C.2.1 hd h1 h2 ho ht (kk p l e s m below meth c C K hA H locs ls hP hS hl)
theorem y_tswOut {dflt lo hi : Int} {offs : Array Int} {len : Nat} {x : Int32} (h : x.toInt < lo ∨ hi < x.toInt) (ht : (pc : Int) + dflt = (tgt : Int)) (hd : decode code pc = .ok (.tableswitch dflt lo hi offs, len)) (kk : El D ct ad b L xs i tgt st σ) : El D ct ad b L xs i pc (.int x :: st) σ :=
  fun p l e s m below meth c C K hA H locs ls hP hS hl => lv_tableOut C.1 C.2.1 hd h ht (kk p l e s m below meth c C K hA H locs ls hP hS hl)
theorem y_end (hd : decode code pc = .ok (.ireturn, 1)) : El D ct ad b L xs i pc [.int 1] σ :=
  fun p l e s m below meth c C K hA H locs ls hP hS hl => va_forget (fun q hq => hS.2.2 q hq) (W.widen (k := 600000) (n := 7302250) (Nat.le_of_ble_eq_true rfl) (Nat.le_of_ble_eq_true rfl) (lw_ret C.1 C.2.1 C.2.2.1 C.2.2.2.2.2.2.2.2.1 hd))
theorem y_inc {v : Int32} (hx : nI i + Int32.ofInt 7 = v) (hv : v = nI (i + 7)) (hd : decode code pc = .ok (.iinc 3 7, 3)) (hp : pc + 3 = pc') (kk : El D ct ad b L xs (i + 7) pc' st σ) : El D ct ad b L xs i pc st σ := by
  subst hp
  subst hv
  exact fun p l e s m below meth c C K hA H locs ls hP hS hl => lv_iinc C.1 C.2.1 hd hl (k := 3) rfl hx (by decide) rfl (fun ls' hl' => kk p l e s m below meth c C K hA H locs ls' hP hS (lv_sub hl' [1, 2, 3, 0] rfl))
end LR
