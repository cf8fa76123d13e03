theorem lo_W : LocF WX 284 := by
  intro ct a a' h r hr
  unfold WX
  by_cases r0 : r = 0
  · rw [if_pos r0, if_pos r0, h 1 (by decide), h 15 (by decide), h 241 (by decide), h 256 (by decide), h 271 (by decide), h 275 (by decide), h 276 (by decide), h 279 (by decide)]
  · rw [if_neg r0, if_neg r0]
    by_cases r1 : r < 15
    · rw [if_pos r1, if_pos r1]
      exact lo_S _ _ _ (fun x hx => h _ (by omega)) _ (by omega)
    · rw [if_neg r1, if_neg r1]
      by_cases r2 : r < 241
      · rw [if_pos r2, if_pos r2]
        exact lo_H _ _ _ (fun x hx => h _ (by omega)) _ (by omega)
      · rw [if_neg r2, if_neg r2]
        by_cases r3 : r < 256
        · rw [if_pos r3, if_pos r3]
          exact lo_I _ _ _ (fun x hx => h _ (by omega)) _ (by omega)
        · rw [if_neg r3, if_neg r3]
          by_cases r4 : r < 271
          · rw [if_pos r4, if_pos r4]
            exact lo_I _ _ _ (fun x hx => h _ (by omega)) _ (by omega)
          · rw [if_neg r4, if_neg r4]
            by_cases r5 : r < 275
            · rw [if_pos r5, if_pos r5]
              exact lo_0 _ _ _ (fun x hx => h _ (by omega)) _ (by omega)
            · rw [if_neg r5, if_neg r5]
              by_cases r6 : r < 276
              · rw [if_pos r6, if_pos r6]
                exact lo_3 _ _ _ (fun x hx => h _ (by omega)) _ (by omega)
              · rw [if_neg r6, if_neg r6]
                by_cases r7 : r < 279
                · rw [if_pos r7, if_pos r7]
                  exact lo_7 _ _ _ (fun x hx => h _ (by omega)) _ (by omega)
                · rw [if_neg r7, if_neg r7]
                  exact lo_2 _ _ _ (fun x hx => h _ (by omega)) _ (by omega)
theorem lo_10 : LocF GX10 11 := by
  intro ct a a' h r hr
  match r, hr with
  | 0, _ =>
    have e : ∀ z : Nat → Nat, GX10 ct z 0 = GX10 ct z 0 := fun _ => rfl
    unfold GX10
    simp only [h 1 (by decide), h 2 (by decide), h 3 (by decide), h 4 (by decide), h 5 (by decide), h 6 (by decide), h 7 (by decide), h 8 (by decide), h 9 (by decide), h 10 (by decide)]
  | 1, _ => rfl
  | 2, _ => rfl
  | 3, _ => rfl
  | 4, _ => rfl
  | 5, _ => rfl
  | 6, _ => rfl
  | 7, _ => rfl
  | 8, _ => rfl
  | 9, _ => rfl
  | 10, _ => rfl
set_option maxRecDepth 100000 in
set_option maxHeartbeats 4000000 in
theorem whole_start {p : Program} {e : Env} {s : State} {m : MethodId} {below : List Frame} {meth : Method} {c : Code} (l : Launch) (hflags : l.flags = flags0) {b L : Nat} {xs : Nat → Int32} (hL : L ≤ 3584) (C0 : lw_At p s m meth c b L xs) : W p l e room_1 s m #[Value.ref b] below meth c s.heap [] 0 0 (lw_Z below #[Value.ref b] s) (entryFrame m ([Value.ref b] : List Value).toArray 4) := by
  obtain ⟨D, ct, hK⟩ := kn_start C0.2.2.2.2.2.1
  have hl := lv_entry ([.ref b]) (n := 4) (Nat.le_of_ble_eq_true rfl)
  rw [lg_entry_eq]
  generalize (lg_sl ([.ref b]) ++ List.replicate (4 - (lg_sl ([.ref b])).length) Slot.unset).toArray = ls at hl ⊢
  have hl : lv_has ls 4 [(0, .ref b)] := hl
  refine y_make C0 hK nk_8 rfl clk_L_7 ik_X9_init ilk_L_9 k_X9 ⟨Nat.le_of_ble_eq_true rfl, Nat.le_of_ble_eq_true rfl⟩ (n := 0) (ad := fun _ => 0) (f := fun _ => .inr (8, df 8)) (fun k q h => by simp [wf] at h) ⟨fun i j p q h => by simp [wf] at h, fun k q h => by simp [wf] at h⟩ va_S.rf hl.1 (Nat.le_of_ble_eq_true rfl) (Nat.le_of_ble_eq_true rfl) dL_law_0 dL_law_3 dL_law_4 (fun q0 a1 H1 l1 e1 hP1 hD1 hS1 => ?_)
  refine lv_astore_n (lv' := [(1, .ref q0), (0, .ref b)]) C0.1 C0.2.1 dL_law_7 rfl hl (by decide) rfl (fun ls hl => ?_)
  refine y_make C0 hK nk_9 rfl clk_L_10 ik_X10_init ilk_L_12 k_X10 ⟨Nat.le_of_ble_eq_true rfl, Nat.le_of_ble_eq_true rfl⟩ (n := 284) hP1 hD1 hS1 hl.1 (Nat.le_of_ble_eq_true rfl) (Nat.le_of_ble_eq_true rfl) dL_law_8 dL_law_11 dL_law_12 (fun q1 a2 H2 l2 e2 hP2 hD2 hS2 => ?_)
  refine lv_astore_n (lv' := [(2, .ref q1), (1, .ref q0), (0, .ref b)]) C0.1 C0.2.1 dL_law_15 rfl hl (by decide) rfl (fun ls hl => ?_)
  refine lv_iconst (v := 0) C0.1 C0.2.1 dL_law_16 (by decide) ?_
  refine lv_istore_n (lv' := [(3, .int 0), (2, .ref q1), (1, .ref q0), (0, .ref b)]) C0.1 C0.2.1 dL_law_17 rfl hl (by decide) rfl (fun ls hl => ?_)
  obtain ⟨AD, hAD⟩ : ∃ AD, AD = adJ 284 (va_up (adJ 0 (va_up (fun _ => 0) 0 q0) a1) 284 q1) a2 := ⟨_, rfl⟩
  have A1 : ∀ x, x < 284 → AD x = a1 x := fun x hx => by rw [hAD, adJ_lo hx, va_up_ne _ _ (by omega), adJ_hi (by omega), Nat.sub_zero]
  have A2 : ∀ x, AD (284 + x) = a2 x := fun x => by rw [hAD, adJ_hi (by omega), Nat.add_sub_cancel_left]
  rw [← hAD] at hP2 hD2
  have ew := wf_c (ad := AD) (ad' := AD) (f' := LX ct AD) (n := 295) (f := fJ 284 (va_up (fJ 0 (va_up (fun _ => .inr (8, df 8)) 0 (.inr (8, df 8))) (WX ct a1)) 284 (.inr (9, df 9))) (GX10 ct a2)) (fun k hk => ⟨rfl, by
    unfold LX
    by_cases h : k < 284
    · rw [fJ_lo h, va_up_ne _ _ (by omega), fJ_hi (by omega), Nat.sub_zero, if_pos h]
      exact lo_W _ _ _ (fun x hx => (A1 x hx).symm) _ h
    · rw [fJ_hi h, if_neg h]
      exact lo_10 _ _ _ (fun x hx => (A2 x).symm) _ (by omega)⟩)
  have hP3 : va_P D Cls (wf AD (LX ct AD) 295) H2 := by rw [← ew]; exact hP2
  have hD3 : va_D (Ac s.heap.size s.heap.size) (wf AD (LX ct AD) 295) := by rw [← ew]; exact hD2
  have q0e : AD (pl 0) = q0 := (A1 0 (by decide)).trans e1
  have q1e : AD (pl 18) = q1 := (A2 0).trans e2
  refine law_loop hL L 0 st0 (by omega) (by omega) rr_0 p l e s m below meth c C0 ⟨hK.1, inj_of hD3, hK.2.1 _ List.mem_cons_self⟩ (fun q hq => Ac_iff (fr_of hD3 q hq)) H2 l2 ls (wld_of hP3) ⟨hS2.1, fun q h1 h2 => hS2.2.1 q h1 (fun z => h2 (Ac_iff z)), fun x hx => Ac_iff (hS2.2.2 x hx)⟩ ?_
  rw [q0e, q1e]
  exact lv_sub hl [3, 2, 1, 0] rfl
