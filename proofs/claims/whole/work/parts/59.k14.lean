def ML : MD := (code, RL, 4, ret, room_1)
set_option maxRecDepth 100000 in
theorem clk_L_7 : Cond.classLink RL 7 RX9 ∈ TT := tt_mem (List.mem_of_getElem? (i := 61) rfl) rfl
set_option maxRecDepth 100000 in
theorem clk_L_10 : Cond.classLink RL 10 RX10 ∈ TT := tt_mem (List.mem_of_getElem? (i := 709) rfl) rfl
set_option maxRecDepth 100000 in
theorem ilk_L_9 : Cond.methodLink RL 9 yX9_init ∈ TT := tt_mem (List.mem_of_getElem? (i := 63) rfl) rfl
set_option maxRecDepth 100000 in
theorem ilk_L_12 : Cond.methodLink RL 12 yX10_init ∈ TT := tt_mem (List.mem_of_getElem? (i := 711) rfl) rfl
theorem Ac_iff {sz q : Nat} : Ac sz sz q → sz ≤ q := fun h => h.elim (fun h => by omega) id
