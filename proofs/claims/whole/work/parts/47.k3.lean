def M_X0_init : MD := (cX0_init, RX0, 1, none, { frames := 1, cells := 3, slots := 60, locals := 12 })
set_option maxRecDepth 100000 in
set_option maxHeartbeats 4000000 in
theorem ik_X0_init : IK yX0_init M_X0_init := ⟨tt_mem (List.mem_of_getElem? (i := 171) rfl) rfl, rfl, rfl, tt_mem (List.mem_of_getElem? (i := 170) rfl) rfl, tt_mem (List.mem_of_getElem? (i := 53) rfl) rfl, by decide +kernel⟩
set_option maxRecDepth 100000 in
set_option maxHeartbeats 4000000 in
theorem oi_X0 : Cond.methodLink RX0 3 objectInit ∈ TT := tt_mem (List.mem_of_getElem? (i := 172) rfl) rfl
set_option maxRecDepth 100000 in
set_option maxHeartbeats 4000000 in
theorem nk_0 : NK 0 := ⟨_, _, tyX0, rfl, uw_0, tyX0_ok, (fun j hj => by
  match j, hj with
  | 0, _ => rfl
  | 1, _ => rfl
  | 2, _ => rfl
  | 3, _ => rfl
  | j + 4, hj => exact absurd hj (by have : nf 0 = 4 := rfl; omega)), tt_mem (List.mem_of_getElem? (i := 168) rfl) rfl, tt_mem (List.mem_of_getElem? (i := 53) rfl) rfl⟩
set_option maxRecDepth 100000 in
set_option maxHeartbeats 4000000 in
theorem pf_0_0 (a : Nat) : PF RX0 0 0 (.ref a) := ⟨_, _, tyX0, tyX0 0, rfl, tyX0_ok, nmX0, rfl, rfl, tyX0_ok 0 (by decide), rfl, rfl⟩
set_option maxRecDepth 100000 in
set_option maxHeartbeats 4000000 in
theorem pf_0_1 (a : Nat) : PF RX0 0 1 (.ref a) := ⟨_, _, tyX0, tyX0 1, rfl, tyX0_ok, nmX0, rfl, rfl, tyX0_ok 1 (by decide), rfl, rfl⟩
set_option maxRecDepth 100000 in
set_option maxHeartbeats 4000000 in
theorem pf_0_2 (a : Nat) : PF RX0 0 2 (.ref a) := ⟨_, _, tyX0, tyX0 2, rfl, tyX0_ok, nmX0, rfl, rfl, tyX0_ok 2 (by decide), rfl, rfl⟩
def M_X2_init : MD := (cX2_init, RX2, 1, none, { frames := 1, cells := 4, slots := 16, locals := 12 })
set_option maxRecDepth 100000 in
set_option maxHeartbeats 4000000 in
theorem ik_X2_init : IK yX2_init M_X2_init := ⟨tt_mem (List.mem_of_getElem? (i := 219) rfl) rfl, rfl, rfl, tt_mem (List.mem_of_getElem? (i := 218) rfl) rfl, tt_mem (List.mem_of_getElem? (i := 56) rfl) rfl, by decide +kernel⟩
set_option maxRecDepth 100000 in
set_option maxHeartbeats 4000000 in
theorem oi_X2 : Cond.methodLink RX2 3 objectInit ∈ TT := tt_mem (List.mem_of_getElem? (i := 220) rfl) rfl
set_option maxRecDepth 100000 in
set_option maxHeartbeats 4000000 in
theorem nk_1 : NK 1 := ⟨_, _, tyX2, rfl, uw_1, tyX2_ok, (fun j hj => by
  match j, hj with
  | 0, _ => rfl
  | 1, _ => rfl
  | 2, _ => rfl
  | 3, _ => rfl
  | 4, _ => rfl
  | j + 5, hj => exact absurd hj (by have : nf 1 = 5 := rfl; omega)), tt_mem (List.mem_of_getElem? (i := 216) rfl) rfl, tt_mem (List.mem_of_getElem? (i := 56) rfl) rfl⟩
set_option maxRecDepth 100000 in
set_option maxHeartbeats 4000000 in
theorem pf_1_0 (a : Nat) : PF RX2 1 0 (.ref a) := ⟨_, _, tyX2, tyX2 0, rfl, tyX2_ok, nmX2, rfl, rfl, tyX2_ok 0 (by decide), rfl, rfl⟩
set_option maxRecDepth 100000 in
set_option maxHeartbeats 4000000 in
theorem pf_1_1 (a : Nat) : PF RX2 1 1 (.ref a) := ⟨_, _, tyX2, tyX2 1, rfl, tyX2_ok, nmX2, rfl, rfl, tyX2_ok 1 (by decide), rfl, rfl⟩
set_option maxRecDepth 100000 in
set_option maxHeartbeats 4000000 in
theorem pf_1_2 (a : Nat) : PF RX2 1 2 (.ref a) := ⟨_, _, tyX2, tyX2 2, rfl, tyX2_ok, nmX2, rfl, rfl, tyX2_ok 2 (by decide), rfl, rfl⟩
set_option maxRecDepth 100000 in
set_option maxHeartbeats 4000000 in
theorem pf_1_3 (a : Nat) : PF RX2 1 3 (.ref a) := ⟨_, _, tyX2, tyX2 3, rfl, tyX2_ok, nmX2, rfl, rfl, tyX2_ok 3 (by decide), rfl, rfl⟩
def M_X3_init : MD := (cX3_init, RX3, 1, none, { frames := 1, cells := 0, slots := 0, locals := 12 })
set_option maxRecDepth 100000 in
set_option maxHeartbeats 4000000 in
theorem ik_X3_init : IK yX3_init M_X3_init := ⟨tt_mem (List.mem_of_getElem? (i := 190) rfl) rfl, rfl, rfl, tt_mem (List.mem_of_getElem? (i := 189) rfl) rfl, tt_mem (List.mem_of_getElem? (i := 54) rfl) rfl, by decide +kernel⟩
set_option maxRecDepth 100000 in
set_option maxHeartbeats 4000000 in
theorem oi_X3 : Cond.methodLink RX3 1 objectInit ∈ TT := tt_mem (List.mem_of_getElem? (i := 191) rfl) rfl
set_option maxRecDepth 100000 in
set_option maxHeartbeats 4000000 in
theorem nk_2 : NK 2 := ⟨_, _, tyX3, rfl, uw_2, tyX3_ok, (fun j hj => by
  match j, hj with
  | 0, _ => rfl
  | j + 1, hj => exact absurd hj (by have : nf 2 = 1 := rfl; omega)), tt_mem (List.mem_of_getElem? (i := 187) rfl) rfl, tt_mem (List.mem_of_getElem? (i := 54) rfl) rfl⟩
def M_X4_init : MD := (cX4_init, RX4, 1, none, { frames := 1, cells := 1, slots := 50, locals := 12 })
set_option maxRecDepth 100000 in
set_option maxHeartbeats 4000000 in
theorem ik_X4_init : IK yX4_init M_X4_init := ⟨tt_mem (List.mem_of_getElem? (i := 80) rfl) rfl, rfl, rfl, tt_mem (List.mem_of_getElem? (i := 79) rfl) rfl, tt_mem (List.mem_of_getElem? (i := 50) rfl) rfl, by decide +kernel⟩
set_option maxRecDepth 100000 in
set_option maxHeartbeats 4000000 in
theorem oi_X4 : Cond.methodLink RX4 3 objectInit ∈ TT := tt_mem (List.mem_of_getElem? (i := 81) rfl) rfl
set_option maxRecDepth 100000 in
set_option maxHeartbeats 4000000 in
theorem nk_3 : NK 3 := ⟨_, _, tyX4, rfl, uw_3, tyX4_ok, (fun j hj => by
  match j, hj with
  | 0, _ => rfl
  | 1, _ => rfl
  | 2, _ => rfl
  | 3, _ => rfl
  | 4, _ => rfl
  | 5, _ => rfl
  | 6, _ => rfl
  | j + 7, hj => exact absurd hj (by have : nf 3 = 7 := rfl; omega)), tt_mem (List.mem_of_getElem? (i := 77) rfl) rfl, tt_mem (List.mem_of_getElem? (i := 50) rfl) rfl⟩
set_option maxRecDepth 100000 in
set_option maxHeartbeats 4000000 in
theorem pf_3_0 (a : Nat) : PF RX4 3 0 (.ref a) := ⟨_, _, tyX4, tyX4 0, rfl, tyX4_ok, nmX4, rfl, rfl, tyX4_ok 0 (by decide), rfl, rfl⟩
def M_X5_init : MD := (cX5_init, RX5, 2, none, { frames := 3, cells := 225, slots := 5632, locals := 53 })
set_option maxRecDepth 100000 in
set_option maxHeartbeats 4000000 in
theorem ik_X5_init : IK yX5_init M_X5_init := ⟨tt_mem (List.mem_of_getElem? (i := 134) rfl) rfl, rfl, rfl, tt_mem (List.mem_of_getElem? (i := 133) rfl) rfl, tt_mem (List.mem_of_getElem? (i := 51) rfl) rfl, by decide +kernel⟩
set_option maxRecDepth 100000 in
set_option maxHeartbeats 4000000 in
theorem oi_X5 : Cond.methodLink RX5 3 objectInit ∈ TT := tt_mem (List.mem_of_getElem? (i := 135) rfl) rfl
set_option maxRecDepth 100000 in
set_option maxHeartbeats 4000000 in
theorem nk_4 : NK 4 := ⟨_, _, tyX5, rfl, uw_4, tyX5_ok, (fun j hj => by
  match j, hj with
  | 0, _ => rfl
  | 1, _ => rfl
  | 2, _ => rfl
  | j + 3, hj => exact absurd hj (by have : nf 4 = 3 := rfl; omega)), tt_mem (List.mem_of_getElem? (i := 131) rfl) rfl, tt_mem (List.mem_of_getElem? (i := 51) rfl) rfl⟩
set_option maxRecDepth 100000 in
set_option maxHeartbeats 4000000 in
theorem pf_4_0 (a : Nat) : PF RX5 4 0 (.ref a) := ⟨_, _, tyX5, tyX5 0, rfl, tyX5_ok, nmX5, rfl, rfl, tyX5_ok 0 (by decide), rfl, rfl⟩
def M_X6_init : MD := (cX6_init, RX6, 1, none, { frames := 3, cells := 14, slots := 351, locals := 53 })
set_option maxRecDepth 100000 in
set_option maxHeartbeats 4000000 in
theorem ik_X6_init : IK yX6_init M_X6_init := ⟨tt_mem (List.mem_of_getElem? (i := 153) rfl) rfl, rfl, rfl, tt_mem (List.mem_of_getElem? (i := 152) rfl) rfl, tt_mem (List.mem_of_getElem? (i := 52) rfl) rfl, by decide +kernel⟩
set_option maxRecDepth 100000 in
set_option maxHeartbeats 4000000 in
theorem oi_X6 : Cond.methodLink RX6 1 objectInit ∈ TT := tt_mem (List.mem_of_getElem? (i := 154) rfl) rfl
set_option maxRecDepth 100000 in
set_option maxHeartbeats 4000000 in
theorem nk_5 : NK 5 := ⟨_, _, tyX6, rfl, uw_5, tyX6_ok, (fun j hj => by
  match j, hj with
  | 0, _ => rfl
  | 1, _ => rfl
  | 2, _ => rfl
  | j + 3, hj => exact absurd hj (by have : nf 5 = 3 := rfl; omega)), tt_mem (List.mem_of_getElem? (i := 150) rfl) rfl, tt_mem (List.mem_of_getElem? (i := 52) rfl) rfl⟩
set_option maxRecDepth 100000 in
set_option maxHeartbeats 4000000 in
theorem pf_5_0 (a : Nat) : PF RX6 5 0 (.ref a) := ⟨_, _, tyX6, tyX6 0, rfl, tyX6_ok, nmX6, rfl, rfl, tyX6_ok 0 (by decide), rfl, rfl⟩
def M_X7_init : MD := (cX7_init, RX7, 1, none, { frames := 1, cells := 2, slots := 122, locals := 12 })
set_option maxRecDepth 100000 in
set_option maxHeartbeats 4000000 in
theorem ik_X7_init : IK yX7_init M_X7_init := ⟨tt_mem (List.mem_of_getElem? (i := 200) rfl) rfl, rfl, rfl, tt_mem (List.mem_of_getElem? (i := 199) rfl) rfl, tt_mem (List.mem_of_getElem? (i := 55) rfl) rfl, by decide +kernel⟩
set_option maxRecDepth 100000 in
set_option maxHeartbeats 4000000 in
theorem oi_X7 : Cond.methodLink RX7 3 objectInit ∈ TT := tt_mem (List.mem_of_getElem? (i := 201) rfl) rfl
set_option maxRecDepth 100000 in
set_option maxHeartbeats 4000000 in
theorem nk_6 : NK 6 := ⟨_, _, tyX7, rfl, uw_6, tyX7_ok, (fun j hj => by
  match j, hj with
  | 0, _ => rfl
  | 1, _ => rfl
  | 2, _ => rfl
  | 3, _ => rfl
  | j + 4, hj => exact absurd hj (by have : nf 6 = 4 := rfl; omega)), tt_mem (List.mem_of_getElem? (i := 197) rfl) rfl, tt_mem (List.mem_of_getElem? (i := 55) rfl) rfl⟩
set_option maxRecDepth 100000 in
set_option maxHeartbeats 4000000 in
theorem pf_6_0 (a : Nat) : PF RX7 6 0 (.ref a) := ⟨_, _, tyX7, tyX7 0, rfl, tyX7_ok, nmX7, rfl, rfl, tyX7_ok 0 (by decide), rfl, rfl⟩
set_option maxRecDepth 100000 in
set_option maxHeartbeats 4000000 in
theorem pf_6_1 (a : Nat) : PF RX7 6 1 (.ref a) := ⟨_, _, tyX7, tyX7 1, rfl, tyX7_ok, nmX7, rfl, rfl, tyX7_ok 1 (by decide), rfl, rfl⟩
def M_X8_init : MD := (cX8_init, RX8, 2, none, { frames := 2, cells := 13, slots := 348, locals := 32 })
set_option maxRecDepth 100000 in
set_option maxHeartbeats 4000000 in
theorem ik_X8_init : IK yX8_init M_X8_init := ⟨tt_mem (List.mem_of_getElem? (i := 73) rfl) rfl, rfl, rfl, tt_mem (List.mem_of_getElem? (i := 72) rfl) rfl, tt_mem (List.mem_of_getElem? (i := 49) rfl) rfl, by decide +kernel⟩
set_option maxRecDepth 100000 in
set_option maxHeartbeats 4000000 in
theorem oi_X8 : Cond.methodLink RX8 3 objectInit ∈ TT := tt_mem (List.mem_of_getElem? (i := 74) rfl) rfl
set_option maxRecDepth 100000 in
set_option maxHeartbeats 4000000 in
theorem nk_7 : NK 7 := ⟨_, _, tyX8, rfl, uw_7, tyX8_ok, (fun j hj => by
  match j, hj with
  | 0, _ => rfl
  | 1, _ => rfl
  | 2, _ => rfl
  | j + 3, hj => exact absurd hj (by have : nf 7 = 3 := rfl; omega)), tt_mem (List.mem_of_getElem? (i := 70) rfl) rfl, tt_mem (List.mem_of_getElem? (i := 49) rfl) rfl⟩
set_option maxRecDepth 100000 in
set_option maxHeartbeats 4000000 in
theorem pf_7_0 (a : Nat) : PF RX8 7 0 (.ref a) := ⟨_, _, tyX8, tyX8 0, rfl, tyX8_ok, nmX8, rfl, rfl, tyX8_ok 0 (by decide), rfl, rfl⟩
def M_X9_init : MD := (cX9_init, RX9, 1, none, { frames := 4, cells := 283, slots := 6906, locals := 74 })
set_option maxRecDepth 100000 in
set_option maxHeartbeats 4000000 in
theorem ik_X9_init : IK yX9_init M_X9_init := ⟨tt_mem (List.mem_of_getElem? (i := 65) rfl) rfl, rfl, rfl, tt_mem (List.mem_of_getElem? (i := 64) rfl) rfl, tt_mem (List.mem_of_getElem? (i := 48) rfl) rfl, by decide +kernel⟩
set_option maxRecDepth 100000 in
set_option maxHeartbeats 4000000 in
theorem oi_X9 : Cond.methodLink RX9 3 objectInit ∈ TT := tt_mem (List.mem_of_getElem? (i := 66) rfl) rfl
set_option maxRecDepth 100000 in
set_option maxHeartbeats 4000000 in
theorem nk_8 : NK 8 := ⟨_, _, tyX9, rfl, uw_8, tyX9_ok, (fun j hj => by
  match j, hj with
  | 0, _ => rfl
  | 1, _ => rfl
  | 2, _ => rfl
  | 3, _ => rfl
  | 4, _ => rfl
  | 5, _ => rfl
  | 6, _ => rfl
  | 7, _ => rfl
  | j + 8, hj => exact absurd hj (by have : nf 8 = 8 := rfl; omega)), tt_mem (List.mem_of_getElem? (i := 62) rfl) rfl, tt_mem (List.mem_of_getElem? (i := 48) rfl) rfl⟩
set_option maxRecDepth 100000 in
set_option maxHeartbeats 4000000 in
theorem pf_8_0 (a : Nat) : PF RX9 8 0 (.ref a) := ⟨_, _, tyX9, tyX9 0, rfl, tyX9_ok, nmX9, rfl, rfl, tyX9_ok 0 (by decide), rfl, rfl⟩
set_option maxRecDepth 100000 in
set_option maxHeartbeats 4000000 in
theorem pf_8_1 (a : Nat) : PF RX9 8 1 (.ref a) := ⟨_, _, tyX9, tyX9 1, rfl, tyX9_ok, nmX9, rfl, rfl, tyX9_ok 1 (by decide), rfl, rfl⟩
set_option maxRecDepth 100000 in
set_option maxHeartbeats 4000000 in
theorem pf_8_2 (a : Nat) : PF RX9 8 2 (.ref a) := ⟨_, _, tyX9, tyX9 2, rfl, tyX9_ok, nmX9, rfl, rfl, tyX9_ok 2 (by decide), rfl, rfl⟩
set_option maxRecDepth 100000 in
set_option maxHeartbeats 4000000 in
theorem pf_8_3 (a : Nat) : PF RX9 8 3 (.ref a) := ⟨_, _, tyX9, tyX9 3, rfl, tyX9_ok, nmX9, rfl, rfl, tyX9_ok 3 (by decide), rfl, rfl⟩
set_option maxRecDepth 100000 in
set_option maxHeartbeats 4000000 in
theorem pf_8_4 (a : Nat) : PF RX9 8 4 (.ref a) := ⟨_, _, tyX9, tyX9 4, rfl, tyX9_ok, nmX9, rfl, rfl, tyX9_ok 4 (by decide), rfl, rfl⟩
set_option maxRecDepth 100000 in
set_option maxHeartbeats 4000000 in
theorem pf_8_5 (a : Nat) : PF RX9 8 5 (.ref a) := ⟨_, _, tyX9, tyX9 5, rfl, tyX9_ok, nmX9, rfl, rfl, tyX9_ok 5 (by decide), rfl, rfl⟩
set_option maxRecDepth 100000 in
set_option maxHeartbeats 4000000 in
theorem pf_8_6 (a : Nat) : PF RX9 8 6 (.ref a) := ⟨_, _, tyX9, tyX9 6, rfl, tyX9_ok, nmX9, rfl, rfl, tyX9_ok 6 (by decide), rfl, rfl⟩
set_option maxRecDepth 100000 in
set_option maxHeartbeats 4000000 in
theorem pf_8_7 (a : Nat) : PF RX9 8 7 (.ref a) := ⟨_, _, tyX9, tyX9 7, rfl, tyX9_ok, nmX9, rfl, rfl, tyX9_ok 7 (by decide), rfl, rfl⟩
def M_X10_init : MD := (cX10_init, RX10, 1, none, { frames := 1, cells := 10, slots := 6608, locals := 12 })
set_option maxRecDepth 100000 in
set_option maxHeartbeats 4000000 in
theorem ik_X10_init : IK yX10_init M_X10_init := ⟨tt_mem (List.mem_of_getElem? (i := 713) rfl) rfl, rfl, rfl, tt_mem (List.mem_of_getElem? (i := 712) rfl) rfl, tt_mem (List.mem_of_getElem? (i := 57) rfl) rfl, by decide +kernel⟩
set_option maxRecDepth 100000 in
set_option maxHeartbeats 4000000 in
theorem oi_X10 : Cond.methodLink RX10 1 objectInit ∈ TT := tt_mem (List.mem_of_getElem? (i := 714) rfl) rfl
set_option maxRecDepth 100000 in
set_option maxHeartbeats 4000000 in
theorem nk_9 : NK 9 := ⟨_, _, tyX10, rfl, uw_9, tyX10_ok, (fun j hj => by
  match j, hj with
  | 0, _ => rfl
  | 1, _ => rfl
  | 2, _ => rfl
  | 3, _ => rfl
  | 4, _ => rfl
  | 5, _ => rfl
  | 6, _ => rfl
  | 7, _ => rfl
  | 8, _ => rfl
  | 9, _ => rfl
  | 10, _ => rfl
  | 11, _ => rfl
  | 12, _ => rfl
  | 13, _ => rfl
  | 14, _ => rfl
  | 15, _ => rfl
  | j + 16, hj => exact absurd hj (by have : nf 9 = 16 := rfl; omega)), tt_mem (List.mem_of_getElem? (i := 710) rfl) rfl, tt_mem (List.mem_of_getElem? (i := 57) rfl) rfl⟩
set_option maxRecDepth 100000 in
set_option maxHeartbeats 4000000 in
theorem pf_9_1 (a : Nat) : PF RX10 9 1 (.ref a) := ⟨_, _, tyX10, tyX10 1, rfl, tyX10_ok, nmX10, rfl, rfl, tyX10_ok 1 (by decide), rfl, rfl⟩
set_option maxRecDepth 100000 in
set_option maxHeartbeats 4000000 in
theorem pf_9_2 (a : Nat) : PF RX10 9 2 (.ref a) := ⟨_, _, tyX10, tyX10 2, rfl, tyX10_ok, nmX10, rfl, rfl, tyX10_ok 2 (by decide), rfl, rfl⟩
set_option maxRecDepth 100000 in
set_option maxHeartbeats 4000000 in
theorem pf_9_4 (a : Nat) : PF RX10 9 4 (.ref a) := ⟨_, _, tyX10, tyX10 4, rfl, tyX10_ok, nmX10, rfl, rfl, tyX10_ok 4 (by decide), rfl, rfl⟩
set_option maxRecDepth 100000 in
set_option maxHeartbeats 4000000 in
theorem pf_9_5 (a : Nat) : PF RX10 9 5 (.ref a) := ⟨_, _, tyX10, tyX10 5, rfl, tyX10_ok, nmX10, rfl, rfl, tyX10_ok 5 (by decide), rfl, rfl⟩
set_option maxRecDepth 100000 in
set_option maxHeartbeats 4000000 in
theorem pf_9_6 (a : Nat) : PF RX10 9 6 (.ref a) := ⟨_, _, tyX10, tyX10 6, rfl, tyX10_ok, nmX10, rfl, rfl, tyX10_ok 6 (by decide), rfl, rfl⟩
set_option maxRecDepth 100000 in
set_option maxHeartbeats 4000000 in
theorem pf_9_9 (a : Nat) : PF RX10 9 9 (.ref a) := ⟨_, _, tyX10, tyX10 9, rfl, tyX10_ok, nmX10, rfl, rfl, tyX10_ok 9 (by decide), rfl, rfl⟩
set_option maxRecDepth 100000 in
set_option maxHeartbeats 4000000 in
theorem pf_9_10 (a : Nat) : PF RX10 9 10 (.ref a) := ⟨_, _, tyX10, tyX10 10, rfl, tyX10_ok, nmX10, rfl, rfl, tyX10_ok 10 (by decide), rfl, rfl⟩
set_option maxRecDepth 100000 in
set_option maxHeartbeats 4000000 in
theorem pf_9_11 (a : Nat) : PF RX10 9 11 (.ref a) := ⟨_, _, tyX10, tyX10 11, rfl, tyX10_ok, nmX10, rfl, rfl, tyX10_ok 11 (by decide), rfl, rfl⟩
set_option maxRecDepth 100000 in
set_option maxHeartbeats 4000000 in
theorem pf_9_14 (a : Nat) : PF RX10 9 14 (.ref a) := ⟨_, _, tyX10, tyX10 14, rfl, tyX10_ok, nmX10, rfl, rfl, tyX10_ok 14 (by decide), rfl, rfl⟩
set_option maxRecDepth 100000 in
set_option maxHeartbeats 4000000 in
theorem pf_9_15 (a : Nat) : PF RX10 9 15 (.ref a) := ⟨_, _, tyX10, tyX10 15, rfl, tyX10_ok, nmX10, rfl, rfl, tyX10_ok 15 (by decide), rfl, rfl⟩
set_option maxRecDepth 100000 in
theorem clk_X5_9 : Cond.classLink RX5 9 RX8 ∈ TT := tt_mem (List.mem_of_getElem? (i := 136) rfl) rfl
set_option maxRecDepth 100000 in
theorem ilk_X5_17 : Cond.methodLink RX5 17 yX8_init ∈ TT := tt_mem (List.mem_of_getElem? (i := 138) rfl) rfl
set_option maxRecDepth 100000 in
theorem clk_X6_7 : Cond.classLink RX6 7 RX8 ∈ TT := tt_mem (List.mem_of_getElem? (i := 155) rfl) rfl
set_option maxRecDepth 100000 in
theorem ilk_X6_9 : Cond.methodLink RX6 9 yX8_init ∈ TT := tt_mem (List.mem_of_getElem? (i := 156) rfl) rfl
set_option maxRecDepth 100000 in
theorem clk_X8_9 : Cond.classLink RX8 9 RX4 ∈ TT := tt_mem (List.mem_of_getElem? (i := 75) rfl) rfl
set_option maxRecDepth 100000 in
theorem clk_X9_9 : Cond.classLink RX9 9 RX8 ∈ TT := tt_mem (List.mem_of_getElem? (i := 69) rfl) rfl
set_option maxRecDepth 100000 in
theorem ilk_X9_11 : Cond.methodLink RX9 11 yX8_init ∈ TT := tt_mem (List.mem_of_getElem? (i := 71) rfl) rfl
set_option maxRecDepth 100000 in
theorem clk_X9_16 : Cond.classLink RX9 16 RX5 ∈ TT := tt_mem (List.mem_of_getElem? (i := 130) rfl) rfl
set_option maxRecDepth 100000 in
theorem ilk_X9_18 : Cond.methodLink RX9 18 yX5_init ∈ TT := tt_mem (List.mem_of_getElem? (i := 132) rfl) rfl
set_option maxRecDepth 100000 in
theorem clk_X9_23 : Cond.classLink RX9 23 RX6 ∈ TT := tt_mem (List.mem_of_getElem? (i := 149) rfl) rfl
set_option maxRecDepth 100000 in
theorem clk_X9_33 : Cond.classLink RX9 33 RX0 ∈ TT := tt_mem (List.mem_of_getElem? (i := 167) rfl) rfl
set_option maxRecDepth 100000 in
theorem clk_X9_40 : Cond.classLink RX9 40 RX3 ∈ TT := tt_mem (List.mem_of_getElem? (i := 186) rfl) rfl
set_option maxRecDepth 100000 in
theorem clk_X9_47 : Cond.classLink RX9 47 RX7 ∈ TT := tt_mem (List.mem_of_getElem? (i := 196) rfl) rfl
set_option maxRecDepth 100000 in
theorem clk_X9_54 : Cond.classLink RX9 54 RX2 ∈ TT := tt_mem (List.mem_of_getElem? (i := 215) rfl) rfl
set_option maxRecDepth 100000 in
theorem ac_int : Cond.arrayClass .int ∈ TT := tt_mem (List.mem_of_getElem? (i := 119) rfl) rfl
set_option maxRecDepth 100000 in
theorem ac_long : Cond.arrayClass .long ∈ TT := tt_mem (List.mem_of_getElem? (i := 237) rfl) rfl
set_option maxRecDepth 100000 in
theorem ac_boolean : Cond.arrayClass .boolean ∈ TT := tt_mem (List.mem_of_getElem? (i := 764) rfl) rfl
theorem up0 {α : Type} {f : Nat → α} {k : Nat} {v : α} (h : ¬ 0 = k) : va_up f k v 0 = f 0 := va_up_ne _ _ h
theorem e_topr {M : MD} {D : va_G} {ct : Nat → ClassId} {h0 sz : Nat} {F : FF} {pc : Nat} {lv : List (Option Value)} {st : List Value} {ad : Nat → Nat} {f : Nat → va_E} {k sl a b : Nat} (h : a = b) (kk : Ec M D ct h0 sz F pc lv (.ref b :: st) ad f k sl) : Ec M D ct h0 sz F pc lv (.ref a :: st) ad f k sl := by rw [h]; exact kk
theorem na_int (n : Nat) : ∀ cA : ClassId, vp_cell cA (n, .inl (fun _ => 0)) = arrV cA n (fun _ => defaultValue .int) := fun cA => by rw [vp_cell_i]; rfl
theorem na_long (n : Nat) : ∀ cA : ClassId, vp_cell cA (n, .inr (.inl (fun _ => 0))) = arrV cA n (fun _ => defaultValue .long) := fun cA => by rw [vp_cell_l]; rfl
theorem na_boolean (n : Nat) : ∀ cA : ClassId, vp_cell cA (n, .inl (fun _ => 0)) = arrV cA n (fun _ => defaultValue .boolean) := fun cA => by rw [vp_cell_i]; rfl
