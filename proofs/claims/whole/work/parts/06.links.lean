set_option maxRecDepth 100000 in
theorem uw_0 : ∀ w ∈ u_ws RX0 TX0 (nf 0), w ∈ TT := by
  have h : ∀ k, k < 4 → u_lay RX0 TX0 k ∈ TT := by
    intro k hk
    match k, hk with
    | 0, _ => exact tt_mem (List.mem_of_getElem? (i := 177) rfl) rfl
    | 1, _ => exact tt_mem (List.mem_of_getElem? (i := 179) rfl) rfl
    | 2, _ => exact tt_mem (List.mem_of_getElem? (i := 181) rfl) rfl
    | 3, _ => exact tt_mem (List.mem_of_getElem? (i := 183) rfl) rfl
    | k + 4, hk => exact absurd hk (by omega)
  intro w hw
  obtain ⟨k, hk, rfl⟩ := List.mem_map.mp hw
  exact h k (List.mem_range.mp hk)
set_option maxRecDepth 100000 in
theorem uw_1 : ∀ w ∈ u_ws RX2 TX2 (nf 1), w ∈ TT := by
  have h : ∀ k, k < 5 → u_lay RX2 TX2 k ∈ TT := by
    intro k hk
    match k, hk with
    | 0, _ => exact tt_mem (List.mem_of_getElem? (i := 226) rfl) rfl
    | 1, _ => exact tt_mem (List.mem_of_getElem? (i := 228) rfl) rfl
    | 2, _ => exact tt_mem (List.mem_of_getElem? (i := 230) rfl) rfl
    | 3, _ => exact tt_mem (List.mem_of_getElem? (i := 232) rfl) rfl
    | 4, _ => exact tt_mem (List.mem_of_getElem? (i := 234) rfl) rfl
    | k + 5, hk => exact absurd hk (by omega)
  intro w hw
  obtain ⟨k, hk, rfl⟩ := List.mem_map.mp hw
  exact h k (List.mem_range.mp hk)
set_option maxRecDepth 100000 in
theorem uw_2 : ∀ w ∈ u_ws RX3 TX3 (nf 2), w ∈ TT := by
  have h : ∀ k, k < 1 → u_lay RX3 TX3 k ∈ TT := by
    intro k hk
    match k, hk with
    | 0, _ => exact tt_mem (List.mem_of_getElem? (i := 193) rfl) rfl
    | k + 1, hk => exact absurd hk (by omega)
  intro w hw
  obtain ⟨k, hk, rfl⟩ := List.mem_map.mp hw
  exact h k (List.mem_range.mp hk)
set_option maxRecDepth 100000 in
theorem uw_3 : ∀ w ∈ u_ws RX4 TX4 (nf 3), w ∈ TT := by
  have h : ∀ k, k < 7 → u_lay RX4 TX4 k ∈ TT := by
    intro k hk
    match k, hk with
    | 0, _ => exact tt_mem (List.mem_of_getElem? (i := 104) rfl) rfl
    | 1, _ => exact tt_mem (List.mem_of_getElem? (i := 106) rfl) rfl
    | 2, _ => exact tt_mem (List.mem_of_getElem? (i := 108) rfl) rfl
    | 3, _ => exact tt_mem (List.mem_of_getElem? (i := 110) rfl) rfl
    | 4, _ => exact tt_mem (List.mem_of_getElem? (i := 112) rfl) rfl
    | 5, _ => exact tt_mem (List.mem_of_getElem? (i := 114) rfl) rfl
    | 6, _ => exact tt_mem (List.mem_of_getElem? (i := 116) rfl) rfl
    | k + 7, hk => exact absurd hk (by omega)
  intro w hw
  obtain ⟨k, hk, rfl⟩ := List.mem_map.mp hw
  exact h k (List.mem_range.mp hk)
set_option maxRecDepth 100000 in
theorem uw_4 : ∀ w ∈ u_ws RX5 TX5 (nf 4), w ∈ TT := by
  have h : ∀ k, k < 3 → u_lay RX5 TX5 k ∈ TT := by
    intro k hk
    match k, hk with
    | 0, _ => exact tt_mem (List.mem_of_getElem? (i := 142) rfl) rfl
    | 1, _ => exact tt_mem (List.mem_of_getElem? (i := 144) rfl) rfl
    | 2, _ => exact tt_mem (List.mem_of_getElem? (i := 146) rfl) rfl
    | k + 3, hk => exact absurd hk (by omega)
  intro w hw
  obtain ⟨k, hk, rfl⟩ := List.mem_map.mp hw
  exact h k (List.mem_range.mp hk)
set_option maxRecDepth 100000 in
theorem uw_5 : ∀ w ∈ u_ws RX6 TX6 (nf 5), w ∈ TT := by
  have h : ∀ k, k < 3 → u_lay RX6 TX6 k ∈ TT := by
    intro k hk
    match k, hk with
    | 0, _ => exact tt_mem (List.mem_of_getElem? (i := 160) rfl) rfl
    | 1, _ => exact tt_mem (List.mem_of_getElem? (i := 162) rfl) rfl
    | 2, _ => exact tt_mem (List.mem_of_getElem? (i := 164) rfl) rfl
    | k + 3, hk => exact absurd hk (by omega)
  intro w hw
  obtain ⟨k, hk, rfl⟩ := List.mem_map.mp hw
  exact h k (List.mem_range.mp hk)
set_option maxRecDepth 100000 in
theorem uw_6 : ∀ w ∈ u_ws RX7 TX7 (nf 6), w ∈ TT := by
  have h : ∀ k, k < 4 → u_lay RX7 TX7 k ∈ TT := by
    intro k hk
    match k, hk with
    | 0, _ => exact tt_mem (List.mem_of_getElem? (i := 206) rfl) rfl
    | 1, _ => exact tt_mem (List.mem_of_getElem? (i := 208) rfl) rfl
    | 2, _ => exact tt_mem (List.mem_of_getElem? (i := 210) rfl) rfl
    | 3, _ => exact tt_mem (List.mem_of_getElem? (i := 212) rfl) rfl
    | k + 4, hk => exact absurd hk (by omega)
  intro w hw
  obtain ⟨k, hk, rfl⟩ := List.mem_map.mp hw
  exact h k (List.mem_range.mp hk)
set_option maxRecDepth 100000 in
theorem uw_7 : ∀ w ∈ u_ws RX8 TX8 (nf 7), w ∈ TT := by
  have h : ∀ k, k < 3 → u_lay RX8 TX8 k ∈ TT := by
    intro k hk
    match k, hk with
    | 0, _ => exact tt_mem (List.mem_of_getElem? (i := 123) rfl) rfl
    | 1, _ => exact tt_mem (List.mem_of_getElem? (i := 125) rfl) rfl
    | 2, _ => exact tt_mem (List.mem_of_getElem? (i := 127) rfl) rfl
    | k + 3, hk => exact absurd hk (by omega)
  intro w hw
  obtain ⟨k, hk, rfl⟩ := List.mem_map.mp hw
  exact h k (List.mem_range.mp hk)
set_option maxRecDepth 100000 in
theorem uw_8 : ∀ w ∈ u_ws RX9 TX9 (nf 8), w ∈ TT := by
  have h : ∀ k, k < 8 → u_lay RX9 TX9 k ∈ TT := by
    intro k hk
    match k, hk with
    | 0, _ => exact tt_mem (List.mem_of_getElem? (i := 246) rfl) rfl
    | 1, _ => exact tt_mem (List.mem_of_getElem? (i := 248) rfl) rfl
    | 2, _ => exact tt_mem (List.mem_of_getElem? (i := 250) rfl) rfl
    | 3, _ => exact tt_mem (List.mem_of_getElem? (i := 252) rfl) rfl
    | 4, _ => exact tt_mem (List.mem_of_getElem? (i := 254) rfl) rfl
    | 5, _ => exact tt_mem (List.mem_of_getElem? (i := 256) rfl) rfl
    | 6, _ => exact tt_mem (List.mem_of_getElem? (i := 258) rfl) rfl
    | 7, _ => exact tt_mem (List.mem_of_getElem? (i := 260) rfl) rfl
    | k + 8, hk => exact absurd hk (by omega)
  intro w hw
  obtain ⟨k, hk, rfl⟩ := List.mem_map.mp hw
  exact h k (List.mem_range.mp hk)
set_option maxRecDepth 100000 in
theorem uw_9 : ∀ w ∈ u_ws RX10 TX10 (nf 9), w ∈ TT := by
  have h : ∀ k, k < 16 → u_lay RX10 TX10 k ∈ TT := by
    intro k hk
    match k, hk with
    | 0, _ => exact tt_mem (List.mem_of_getElem? (i := 731) rfl) rfl
    | 1, _ => exact tt_mem (List.mem_of_getElem? (i := 733) rfl) rfl
    | 2, _ => exact tt_mem (List.mem_of_getElem? (i := 735) rfl) rfl
    | 3, _ => exact tt_mem (List.mem_of_getElem? (i := 737) rfl) rfl
    | 4, _ => exact tt_mem (List.mem_of_getElem? (i := 739) rfl) rfl
    | 5, _ => exact tt_mem (List.mem_of_getElem? (i := 741) rfl) rfl
    | 6, _ => exact tt_mem (List.mem_of_getElem? (i := 743) rfl) rfl
    | 7, _ => exact tt_mem (List.mem_of_getElem? (i := 745) rfl) rfl
    | 8, _ => exact tt_mem (List.mem_of_getElem? (i := 747) rfl) rfl
    | 9, _ => exact tt_mem (List.mem_of_getElem? (i := 749) rfl) rfl
    | 10, _ => exact tt_mem (List.mem_of_getElem? (i := 751) rfl) rfl
    | 11, _ => exact tt_mem (List.mem_of_getElem? (i := 753) rfl) rfl
    | 12, _ => exact tt_mem (List.mem_of_getElem? (i := 755) rfl) rfl
    | 13, _ => exact tt_mem (List.mem_of_getElem? (i := 757) rfl) rfl
    | 14, _ => exact tt_mem (List.mem_of_getElem? (i := 759) rfl) rfl
    | 15, _ => exact tt_mem (List.mem_of_getElem? (i := 761) rfl) rfl
    | k + 16, hk => exact absurd hk (by omega)
  intro w hw
  obtain ⟨k, hk, rfl⟩ := List.mem_map.mp hw
  exact h k (List.mem_range.mp hk)
set_option maxRecDepth 100000 in
theorem fk_X0_9 : FK RX0 9 0 0 := ⟨_, _, rfl, by decide, uw_0, tt_mem (List.mem_of_getElem? (i := 173) rfl) rfl⟩
set_option maxRecDepth 100000 in
theorem fk_X0_15 : FK RX0 15 0 1 := ⟨_, _, rfl, by decide, uw_0, tt_mem (List.mem_of_getElem? (i := 174) rfl) rfl⟩
set_option maxRecDepth 100000 in
theorem fk_X0_18 : FK RX0 18 0 2 := ⟨_, _, rfl, by decide, uw_0, tt_mem (List.mem_of_getElem? (i := 175) rfl) rfl⟩
set_option maxRecDepth 100000 in
theorem fk_X0_21 : FK RX0 21 0 3 := ⟨_, _, rfl, by decide, uw_0, tt_mem (List.mem_of_getElem? (i := 176) rfl) rfl⟩
set_option maxRecDepth 100000 in
theorem fk_X1_39 : FK RX1 39 3 1 := ⟨_, _, rfl, by decide, uw_3, tt_mem (List.mem_of_getElem? (i := 84) rfl) rfl⟩
set_option maxRecDepth 100000 in
theorem fk_X1_49 : FK RX1 49 3 6 := ⟨_, _, rfl, by decide, uw_3, tt_mem (List.mem_of_getElem? (i := 101) rfl) rfl⟩
set_option maxRecDepth 100000 in
theorem fk_X1_52 : FK RX1 52 3 5 := ⟨_, _, rfl, by decide, uw_3, tt_mem (List.mem_of_getElem? (i := 97) rfl) rfl⟩
set_option maxRecDepth 100000 in
theorem fk_X10_7 : FK RX10 7 9 1 := ⟨_, _, rfl, by decide, uw_9, tt_mem (List.mem_of_getElem? (i := 716) rfl) rfl⟩
set_option maxRecDepth 100000 in
theorem fk_X10_13 : FK RX10 13 9 2 := ⟨_, _, rfl, by decide, uw_9, tt_mem (List.mem_of_getElem? (i := 717) rfl) rfl⟩
set_option maxRecDepth 100000 in
theorem fk_X10_16 : FK RX10 16 9 4 := ⟨_, _, rfl, by decide, uw_9, tt_mem (List.mem_of_getElem? (i := 719) rfl) rfl⟩
set_option maxRecDepth 100000 in
theorem fk_X10_19 : FK RX10 19 9 5 := ⟨_, _, rfl, by decide, uw_9, tt_mem (List.mem_of_getElem? (i := 720) rfl) rfl⟩
set_option maxRecDepth 100000 in
theorem fk_X10_23 : FK RX10 23 9 6 := ⟨_, _, rfl, by decide, uw_9, tt_mem (List.mem_of_getElem? (i := 721) rfl) rfl⟩
set_option maxRecDepth 100000 in
theorem fk_X10_27 : FK RX10 27 9 9 := ⟨_, _, rfl, by decide, uw_9, tt_mem (List.mem_of_getElem? (i := 724) rfl) rfl⟩
set_option maxRecDepth 100000 in
theorem fk_X10_30 : FK RX10 30 9 10 := ⟨_, _, rfl, by decide, uw_9, tt_mem (List.mem_of_getElem? (i := 725) rfl) rfl⟩
set_option maxRecDepth 100000 in
theorem fk_X10_33 : FK RX10 33 9 11 := ⟨_, _, rfl, by decide, uw_9, tt_mem (List.mem_of_getElem? (i := 726) rfl) rfl⟩
set_option maxRecDepth 100000 in
theorem fk_X10_36 : FK RX10 36 9 14 := ⟨_, _, rfl, by decide, uw_9, tt_mem (List.mem_of_getElem? (i := 729) rfl) rfl⟩
set_option maxRecDepth 100000 in
theorem fk_X10_39 : FK RX10 39 9 15 := ⟨_, _, rfl, by decide, uw_9, tt_mem (List.mem_of_getElem? (i := 730) rfl) rfl⟩
set_option maxRecDepth 100000 in
theorem fk_X10_42 : FK RX10 42 9 7 := ⟨_, _, rfl, by decide, uw_9, tt_mem (List.mem_of_getElem? (i := 722) rfl) rfl⟩
set_option maxRecDepth 100000 in
theorem fk_X10_46 : FK RX10 46 9 0 := ⟨_, _, rfl, by decide, uw_9, tt_mem (List.mem_of_getElem? (i := 715) rfl) rfl⟩
set_option maxRecDepth 100000 in
theorem fk_X10_111 : FK RX10 111 9 12 := ⟨_, _, rfl, by decide, uw_9, tt_mem (List.mem_of_getElem? (i := 727) rfl) rfl⟩
set_option maxRecDepth 100000 in
theorem fk_X10_114 : FK RX10 114 9 13 := ⟨_, _, rfl, by decide, uw_9, tt_mem (List.mem_of_getElem? (i := 728) rfl) rfl⟩
set_option maxRecDepth 100000 in
theorem fk_X10_142 : FK RX10 142 9 8 := ⟨_, _, rfl, by decide, uw_9, tt_mem (List.mem_of_getElem? (i := 723) rfl) rfl⟩
set_option maxRecDepth 100000 in
theorem fk_X10_166 : FK RX10 166 9 3 := ⟨_, _, rfl, by decide, uw_9, tt_mem (List.mem_of_getElem? (i := 718) rfl) rfl⟩
set_option maxRecDepth 100000 in
theorem fk_X2_11 : FK RX2 11 1 0 := ⟨_, _, rfl, by decide, uw_1, tt_mem (List.mem_of_getElem? (i := 221) rfl) rfl⟩
set_option maxRecDepth 100000 in
theorem fk_X2_15 : FK RX2 15 1 1 := ⟨_, _, rfl, by decide, uw_1, tt_mem (List.mem_of_getElem? (i := 222) rfl) rfl⟩
set_option maxRecDepth 100000 in
theorem fk_X2_18 : FK RX2 18 1 2 := ⟨_, _, rfl, by decide, uw_1, tt_mem (List.mem_of_getElem? (i := 223) rfl) rfl⟩
set_option maxRecDepth 100000 in
theorem fk_X2_22 : FK RX2 22 1 3 := ⟨_, _, rfl, by decide, uw_1, tt_mem (List.mem_of_getElem? (i := 224) rfl) rfl⟩
set_option maxRecDepth 100000 in
theorem fk_X2_31 : FK RX2 31 1 4 := ⟨_, _, rfl, by decide, uw_1, tt_mem (List.mem_of_getElem? (i := 225) rfl) rfl⟩
set_option maxRecDepth 100000 in
theorem fk_X3_7 : FK RX3 7 2 0 := ⟨_, _, rfl, by decide, uw_2, tt_mem (List.mem_of_getElem? (i := 192) rfl) rfl⟩
set_option maxRecDepth 100000 in
theorem fk_X3_34 : FK RX3 34 3 5 := ⟨_, _, rfl, by decide, uw_3, tt_mem (List.mem_of_getElem? (i := 99) rfl) rfl⟩
set_option maxRecDepth 100000 in
theorem fk_X3_39 : FK RX3 39 3 6 := ⟨_, _, rfl, by decide, uw_3, tt_mem (List.mem_of_getElem? (i := 103) rfl) rfl⟩
set_option maxRecDepth 100000 in
theorem fk_X4_9 : FK RX4 9 3 0 := ⟨_, _, rfl, by decide, uw_3, tt_mem (List.mem_of_getElem? (i := 82) rfl) rfl⟩
set_option maxRecDepth 100000 in
theorem fk_X4_15 : FK RX4 15 3 1 := ⟨_, _, rfl, by decide, uw_3, tt_mem (List.mem_of_getElem? (i := 83) rfl) rfl⟩
set_option maxRecDepth 100000 in
theorem fk_X4_19 : FK RX4 19 3 2 := ⟨_, _, rfl, by decide, uw_3, tt_mem (List.mem_of_getElem? (i := 87) rfl) rfl⟩
set_option maxRecDepth 100000 in
theorem fk_X4_22 : FK RX4 22 3 3 := ⟨_, _, rfl, by decide, uw_3, tt_mem (List.mem_of_getElem? (i := 90) rfl) rfl⟩
set_option maxRecDepth 100000 in
theorem fk_X4_25 : FK RX4 25 3 4 := ⟨_, _, rfl, by decide, uw_3, tt_mem (List.mem_of_getElem? (i := 93) rfl) rfl⟩
set_option maxRecDepth 100000 in
theorem fk_X4_28 : FK RX4 28 3 5 := ⟨_, _, rfl, by decide, uw_3, tt_mem (List.mem_of_getElem? (i := 96) rfl) rfl⟩
set_option maxRecDepth 100000 in
theorem fk_X4_31 : FK RX4 31 3 6 := ⟨_, _, rfl, by decide, uw_3, tt_mem (List.mem_of_getElem? (i := 100) rfl) rfl⟩
set_option maxRecDepth 100000 in
theorem fk_X5_11 : FK RX5 11 4 0 := ⟨_, _, rfl, by decide, uw_4, tt_mem (List.mem_of_getElem? (i := 139) rfl) rfl⟩
set_option maxRecDepth 100000 in
theorem fk_X5_18 : FK RX5 18 4 2 := ⟨_, _, rfl, by decide, uw_4, tt_mem (List.mem_of_getElem? (i := 141) rfl) rfl⟩
set_option maxRecDepth 100000 in
theorem fk_X5_22 : FK RX5 22 4 1 := ⟨_, _, rfl, by decide, uw_4, tt_mem (List.mem_of_getElem? (i := 140) rfl) rfl⟩
set_option maxRecDepth 100000 in
theorem fk_X6_10 : FK RX6 10 5 0 := ⟨_, _, rfl, by decide, uw_5, tt_mem (List.mem_of_getElem? (i := 157) rfl) rfl⟩
set_option maxRecDepth 100000 in
theorem fk_X6_16 : FK RX6 16 5 2 := ⟨_, _, rfl, by decide, uw_5, tt_mem (List.mem_of_getElem? (i := 159) rfl) rfl⟩
set_option maxRecDepth 100000 in
theorem fk_X6_30 : FK RX6 30 5 1 := ⟨_, _, rfl, by decide, uw_5, tt_mem (List.mem_of_getElem? (i := 158) rfl) rfl⟩
set_option maxRecDepth 100000 in
theorem fk_X7_9 : FK RX7 9 6 0 := ⟨_, _, rfl, by decide, uw_6, tt_mem (List.mem_of_getElem? (i := 202) rfl) rfl⟩
set_option maxRecDepth 100000 in
theorem fk_X7_15 : FK RX7 15 6 1 := ⟨_, _, rfl, by decide, uw_6, tt_mem (List.mem_of_getElem? (i := 203) rfl) rfl⟩
set_option maxRecDepth 100000 in
theorem fk_X7_18 : FK RX7 18 6 3 := ⟨_, _, rfl, by decide, uw_6, tt_mem (List.mem_of_getElem? (i := 205) rfl) rfl⟩
set_option maxRecDepth 100000 in
theorem fk_X7_26 : FK RX7 26 6 2 := ⟨_, _, rfl, by decide, uw_6, tt_mem (List.mem_of_getElem? (i := 204) rfl) rfl⟩
set_option maxRecDepth 100000 in
theorem fk_X8_11 : FK RX8 11 7 0 := ⟨_, _, rfl, by decide, uw_7, tt_mem (List.mem_of_getElem? (i := 120) rfl) rfl⟩
set_option maxRecDepth 100000 in
theorem fk_X8_18 : FK RX8 18 7 1 := ⟨_, _, rfl, by decide, uw_7, tt_mem (List.mem_of_getElem? (i := 121) rfl) rfl⟩
set_option maxRecDepth 100000 in
theorem fk_X8_22 : FK RX8 22 7 2 := ⟨_, _, rfl, by decide, uw_7, tt_mem (List.mem_of_getElem? (i := 122) rfl) rfl⟩
set_option maxRecDepth 100000 in
theorem fk_X8_33 : FK RX8 33 3 4 := ⟨_, _, rfl, by decide, uw_3, tt_mem (List.mem_of_getElem? (i := 95) rfl) rfl⟩
set_option maxRecDepth 100000 in
theorem fk_X8_36 : FK RX8 36 3 2 := ⟨_, _, rfl, by decide, uw_3, tt_mem (List.mem_of_getElem? (i := 89) rfl) rfl⟩
set_option maxRecDepth 100000 in
theorem fk_X8_43 : FK RX8 43 3 3 := ⟨_, _, rfl, by decide, uw_3, tt_mem (List.mem_of_getElem? (i := 92) rfl) rfl⟩
set_option maxRecDepth 100000 in
theorem fk_X8_49 : FK RX8 49 3 1 := ⟨_, _, rfl, by decide, uw_3, tt_mem (List.mem_of_getElem? (i := 86) rfl) rfl⟩
set_option maxRecDepth 100000 in
theorem fk_X9_12 : FK RX9 12 8 0 := ⟨_, _, rfl, by decide, uw_8, tt_mem (List.mem_of_getElem? (i := 238) rfl) rfl⟩
set_option maxRecDepth 100000 in
theorem fk_X9_19 : FK RX9 19 8 1 := ⟨_, _, rfl, by decide, uw_8, tt_mem (List.mem_of_getElem? (i := 239) rfl) rfl⟩
set_option maxRecDepth 100000 in
theorem fk_X9_26 : FK RX9 26 8 2 := ⟨_, _, rfl, by decide, uw_8, tt_mem (List.mem_of_getElem? (i := 240) rfl) rfl⟩
set_option maxRecDepth 100000 in
theorem fk_X9_30 : FK RX9 30 8 3 := ⟨_, _, rfl, by decide, uw_8, tt_mem (List.mem_of_getElem? (i := 241) rfl) rfl⟩
set_option maxRecDepth 100000 in
theorem fk_X9_36 : FK RX9 36 8 4 := ⟨_, _, rfl, by decide, uw_8, tt_mem (List.mem_of_getElem? (i := 242) rfl) rfl⟩
set_option maxRecDepth 100000 in
theorem fk_X9_43 : FK RX9 43 8 5 := ⟨_, _, rfl, by decide, uw_8, tt_mem (List.mem_of_getElem? (i := 243) rfl) rfl⟩
set_option maxRecDepth 100000 in
theorem fk_X9_50 : FK RX9 50 8 6 := ⟨_, _, rfl, by decide, uw_8, tt_mem (List.mem_of_getElem? (i := 244) rfl) rfl⟩
set_option maxRecDepth 100000 in
theorem fk_X9_57 : FK RX9 57 8 7 := ⟨_, _, rfl, by decide, uw_8, tt_mem (List.mem_of_getElem? (i := 245) rfl) rfl⟩
set_option maxRecDepth 100000 in
theorem fk_X9_104 : FK RX9 104 3 1 := ⟨_, _, rfl, by decide, uw_3, tt_mem (List.mem_of_getElem? (i := 85) rfl) rfl⟩
set_option maxRecDepth 100000 in
theorem fk_X9_110 : FK RX9 110 3 2 := ⟨_, _, rfl, by decide, uw_3, tt_mem (List.mem_of_getElem? (i := 88) rfl) rfl⟩
set_option maxRecDepth 100000 in
theorem fk_X9_113 : FK RX9 113 3 3 := ⟨_, _, rfl, by decide, uw_3, tt_mem (List.mem_of_getElem? (i := 91) rfl) rfl⟩
set_option maxRecDepth 100000 in
theorem fk_X9_116 : FK RX9 116 3 4 := ⟨_, _, rfl, by decide, uw_3, tt_mem (List.mem_of_getElem? (i := 94) rfl) rfl⟩
set_option maxRecDepth 100000 in
theorem fk_X9_119 : FK RX9 119 3 5 := ⟨_, _, rfl, by decide, uw_3, tt_mem (List.mem_of_getElem? (i := 98) rfl) rfl⟩
set_option maxRecDepth 100000 in
theorem fk_X9_122 : FK RX9 122 3 6 := ⟨_, _, rfl, by decide, uw_3, tt_mem (List.mem_of_getElem? (i := 102) rfl) rfl⟩
set_option maxRecDepth 100000 in
theorem pk_0_3 : PK 0 3 .int := ⟨_, _, tyX0, rfl, tyX0_ok, nmX0, rfl, by decide +kernel⟩
set_option maxRecDepth 100000 in
theorem pk_1_4 : PK 1 4 .int := ⟨_, _, tyX2, rfl, tyX2_ok, nmX2, rfl, by decide +kernel⟩
set_option maxRecDepth 100000 in
theorem pk_2_0 : PK 2 0 .int := ⟨_, _, tyX3, rfl, tyX3_ok, nmX3, rfl, by decide +kernel⟩
set_option maxRecDepth 100000 in
theorem pk_3_1 : PK 3 1 .int := ⟨_, _, tyX4, rfl, tyX4_ok, nmX4, rfl, by decide +kernel⟩
set_option maxRecDepth 100000 in
theorem pk_3_2 : PK 3 2 .int := ⟨_, _, tyX4, rfl, tyX4_ok, nmX4, rfl, by decide +kernel⟩
set_option maxRecDepth 100000 in
theorem pk_3_3 : PK 3 3 .int := ⟨_, _, tyX4, rfl, tyX4_ok, nmX4, rfl, by decide +kernel⟩
set_option maxRecDepth 100000 in
theorem pk_3_4 : PK 3 4 .int := ⟨_, _, tyX4, rfl, tyX4_ok, nmX4, rfl, by decide +kernel⟩
set_option maxRecDepth 100000 in
theorem pk_3_5 : PK 3 5 .int := ⟨_, _, tyX4, rfl, tyX4_ok, nmX4, rfl, by decide +kernel⟩
set_option maxRecDepth 100000 in
theorem pk_3_6 : PK 3 6 .int := ⟨_, _, tyX4, rfl, tyX4_ok, nmX4, rfl, by decide +kernel⟩
set_option maxRecDepth 100000 in
theorem pk_4_1 : PK 4 1 .int := ⟨_, _, tyX5, rfl, tyX5_ok, nmX5, rfl, by decide +kernel⟩
set_option maxRecDepth 100000 in
theorem pk_4_2 : PK 4 2 .int := ⟨_, _, tyX5, rfl, tyX5_ok, nmX5, rfl, by decide +kernel⟩
set_option maxRecDepth 100000 in
theorem pk_5_1 : PK 5 1 .int := ⟨_, _, tyX6, rfl, tyX6_ok, nmX6, rfl, by decide +kernel⟩
set_option maxRecDepth 100000 in
theorem pk_5_2 : PK 5 2 .boolean := ⟨_, _, tyX6, rfl, tyX6_ok, nmX6, rfl, by decide +kernel⟩
set_option maxRecDepth 100000 in
theorem pk_6_2 : PK 6 2 .int := ⟨_, _, tyX7, rfl, tyX7_ok, nmX7, rfl, by decide +kernel⟩
set_option maxRecDepth 100000 in
theorem pk_6_3 : PK 6 3 .int := ⟨_, _, tyX7, rfl, tyX7_ok, nmX7, rfl, by decide +kernel⟩
set_option maxRecDepth 100000 in
theorem pk_7_1 : PK 7 1 .int := ⟨_, _, tyX8, rfl, tyX8_ok, nmX8, rfl, by decide +kernel⟩
set_option maxRecDepth 100000 in
theorem pk_7_2 : PK 7 2 .int := ⟨_, _, tyX8, rfl, tyX8_ok, nmX8, rfl, by decide +kernel⟩
set_option maxRecDepth 100000 in
theorem pk_9_0 : PK 9 0 .int := ⟨_, _, tyX10, rfl, tyX10_ok, nmX10, rfl, by decide +kernel⟩
set_option maxRecDepth 100000 in
theorem pk_9_3 : PK 9 3 .int := ⟨_, _, tyX10, rfl, tyX10_ok, nmX10, rfl, by decide +kernel⟩
set_option maxRecDepth 100000 in
theorem pk_9_7 : PK 9 7 .long := ⟨_, _, tyX10, rfl, tyX10_ok, nmX10, rfl, by decide +kernel⟩
set_option maxRecDepth 100000 in
theorem pk_9_8 : PK 9 8 .int := ⟨_, _, tyX10, rfl, tyX10_ok, nmX10, rfl, by decide +kernel⟩
set_option maxRecDepth 100000 in
theorem pk_9_12 : PK 9 12 .int := ⟨_, _, tyX10, rfl, tyX10_ok, nmX10, rfl, by decide +kernel⟩
set_option maxRecDepth 100000 in
theorem pk_9_13 : PK 9 13 .int := ⟨_, _, tyX10, rfl, tyX10_ok, nmX10, rfl, by decide +kernel⟩
set_option maxRecDepth 100000 in
theorem kc_X10_169 : Cond.constant RX10 169 (-1000000002) ∈ TT := tt_mem (List.mem_of_getElem? (i := 881) rfl) rfl
set_option maxRecDepth 100000 in
theorem kc_X10_170 : Cond.constant RX10 170 (-1000000001) ∈ TT := tt_mem (List.mem_of_getElem? (i := 890) rfl) rfl
set_option maxRecDepth 100000 in
theorem kc_X10_184 : Cond.constant RX10 184 (1000000) ∈ TT := tt_mem (List.mem_of_getElem? (i := 909) rfl) rfl
set_option maxRecDepth 100000 in
theorem kc_X10_221 : Cond.constant RX10 221 (-1000000003) ∈ TT := tt_mem (List.mem_of_getElem? (i := 961) rfl) rfl
set_option maxRecDepth 100000 in
theorem kc_X10_222 : Cond.constant RX10 222 (-1000000004) ∈ TT := tt_mem (List.mem_of_getElem? (i := 962) rfl) rfl
set_option maxRecDepth 100000 in
theorem kc_X3_19 : Cond.constant RX3 19 (65536) ∈ TT := tt_mem (List.mem_of_getElem? (i := 642) rfl) rfl
set_option maxRecDepth 100000 in
theorem kc_X8_52 : Cond.constant RX8 52 (-1000000004) ∈ TT := tt_mem (List.mem_of_getElem? (i := 575) rfl) rfl
set_option maxRecDepth 100000 in
theorem kc_X9_102 : Cond.constant RX9 102 (-1000000002) ∈ TT := tt_mem (List.mem_of_getElem? (i := 438) rfl) rfl
set_option maxRecDepth 100000 in
theorem kc_X9_103 : Cond.constant RX9 103 (-1000000001) ∈ TT := tt_mem (List.mem_of_getElem? (i := 443) rfl) rfl
set_option maxRecDepth 100000 in
theorem kc_X9_151 : Cond.constant RX9 151 (1000000) ∈ TT := tt_mem (List.mem_of_getElem? (i := 464) rfl) rfl
set_option maxRecDepth 100000 in
theorem kc_X9_227 : Cond.constant RX9 227 (-1000000003) ∈ TT := tt_mem (List.mem_of_getElem? (i := 548) rfl) rfl
set_option maxRecDepth 100000 in
theorem kc_X9_228 : Cond.constant RX9 228 (-1000000004) ∈ TT := tt_mem (List.mem_of_getElem? (i := 549) rfl) rfl
set_option maxRecDepth 100000 in
theorem kc_X9_288 : Cond.constant RX9 288 (64000) ∈ TT := tt_mem (List.mem_of_getElem? (i := 490) rfl) rfl
set_option maxRecDepth 100000 in
theorem kc_X9_289 : Cond.constant RX9 289 (80000) ∈ TT := tt_mem (List.mem_of_getElem? (i := 504) rfl) rfl
set_option maxRecDepth 100000 in
theorem kl_X10_72 : Cond.constantLong RX10 72 (64000) ∈ TT := tt_mem (List.mem_of_getElem? (i := 931) rfl) rfl
set_option maxRecDepth 100000 in
theorem kl_X10_81 : Cond.constantLong RX10 81 (2) ∈ TT := tt_mem (List.mem_of_getElem? (i := 819) rfl) rfl
set_option maxRecDepth 100000 in
theorem kl_X10_171 : Cond.constantLong RX10 171 (10) ∈ TT := tt_mem (List.mem_of_getElem? (i := 891) rfl) rfl
set_option maxRecDepth 100000 in
theorem kl_X10_182 : Cond.constantLong RX10 182 (3) ∈ TT := tt_mem (List.mem_of_getElem? (i := 908) rfl) rfl
set_option maxRecDepth 100000 in
theorem kl_X10_188 : Cond.constantLong RX10 188 (-1000000001) ∈ TT := tt_mem (List.mem_of_getElem? (i := 918) rfl) rfl
set_option maxRecDepth 100000 in
theorem kl_X10_194 : Cond.constantLong RX10 194 (-1000000002) ∈ TT := tt_mem (List.mem_of_getElem? (i := 923) rfl) rfl
set_option maxRecDepth 100000 in
theorem kl_X10_200 : Cond.constantLong RX10 200 (-10000) ∈ TT := tt_mem (List.mem_of_getElem? (i := 940) rfl) rfl
set_option maxRecDepth 100000 in
theorem kl_X10_202 : Cond.constantLong RX10 202 (80000) ∈ TT := tt_mem (List.mem_of_getElem? (i := 941) rfl) rfl
set_option maxRecDepth 100000 in
theorem kl_X10_211 : Cond.constantLong RX10 211 (1000) ∈ TT := tt_mem (List.mem_of_getElem? (i := 950) rfl) rfl
set_option maxRecDepth 100000 in
theorem kl_X10_213 : Cond.constantLong RX10 213 (64) ∈ TT := tt_mem (List.mem_of_getElem? (i := 951) rfl) rfl
set_option maxRecDepth 100000 in
theorem kl_X10_215 : Cond.constantLong RX10 215 (5) ∈ TT := tt_mem (List.mem_of_getElem? (i := 952) rfl) rfl
set_option maxRecDepth 100000 in
theorem kl_X10_226 : Cond.constantLong RX10 226 (-999) ∈ TT := tt_mem (List.mem_of_getElem? (i := 974) rfl) rfl
set_option maxRecDepth 100000 in
theorem kl_X10_228 : Cond.constantLong RX10 228 (999) ∈ TT := tt_mem (List.mem_of_getElem? (i := 975) rfl) rfl
set_option maxRecDepth 100000 in
theorem kl_X10_237 : Cond.constantLong RX10 237 (1103515245) ∈ TT := tt_mem (List.mem_of_getElem? (i := 1005) rfl) rfl
set_option maxRecDepth 100000 in
theorem kl_X10_239 : Cond.constantLong RX10 239 (12345) ∈ TT := tt_mem (List.mem_of_getElem? (i := 1006) rfl) rfl
set_option maxRecDepth 100000 in
theorem kl_X10_241 : Cond.constantLong RX10 241 (2147483647) ∈ TT := tt_mem (List.mem_of_getElem? (i := 1007) rfl) rfl
set_option maxRecDepth 100000 in
theorem kl_X10_243 : Cond.constantLong RX10 243 (65536) ∈ TT := tt_mem (List.mem_of_getElem? (i := 1008) rfl) rfl
set_option maxRecDepth 100000 in
theorem kl_X10_245 : Cond.constantLong RX10 245 (12) ∈ TT := tt_mem (List.mem_of_getElem? (i := 1000) rfl) rfl
set_option maxRecDepth 100000 in
theorem kl_X10_250 : Cond.constantLong RX10 250 (16) ∈ TT := tt_mem (List.mem_of_getElem? (i := 1013) rfl) rfl
set_option maxRecDepth 100000 in
theorem kl_X3_13 : Cond.constantLong RX3 13 (1103515245) ∈ TT := tt_mem (List.mem_of_getElem? (i := 639) rfl) rfl
set_option maxRecDepth 100000 in
theorem kl_X3_15 : Cond.constantLong RX3 15 (12345) ∈ TT := tt_mem (List.mem_of_getElem? (i := 640) rfl) rfl
set_option maxRecDepth 100000 in
theorem kl_X3_17 : Cond.constantLong RX3 17 (2147483647) ∈ TT := tt_mem (List.mem_of_getElem? (i := 641) rfl) rfl
set_option maxRecDepth 100000 in
theorem kl_X4_82 : Cond.constantLong RX4 82 (2) ∈ TT := tt_mem (List.mem_of_getElem? (i := 388) rfl) rfl
set_option maxRecDepth 100000 in
theorem kl_X9_165 : Cond.constantLong RX9 165 (-1000000001) ∈ TT := tt_mem (List.mem_of_getElem? (i := 476) rfl) rfl
set_option maxRecDepth 100000 in
theorem kl_X9_185 : Cond.constantLong RX9 185 (-1000000002) ∈ TT := tt_mem (List.mem_of_getElem? (i := 482) rfl) rfl
def M_X9_told : MD := (cX9_told, RX9, 2, (some .int), { frames := 6, cells := 0, slots := 0, locals := 163 })
set_option maxRecDepth 100000 in
theorem mk_X9_told : MK yX9_told M_X9_told 1 := ⟨tt_mem (List.mem_of_getElem? (i := 266) rfl) rfl, rfl, rfl, by decide +kernel⟩
def M_X8_size : MD := (cX8_size, RX8, 1, (some .int), { frames := 0, cells := 0, slots := 0, locals := 0 })
set_option maxRecDepth 100000 in
theorem mk_X8_size : MK yX8_size M_X8_size 0 := ⟨tt_mem (List.mem_of_getElem? (i := 270) rfl) rfl, rfl, rfl, by decide +kernel⟩
def M_X8_ruleNow : MD := (cX8_ruleNow, RX8, 1, (some .int), { frames := 0, cells := 0, slots := 0, locals := 0 })
set_option maxRecDepth 100000 in
theorem mk_X8_ruleNow : MK yX8_ruleNow M_X8_ruleNow 0 := ⟨tt_mem (List.mem_of_getElem? (i := 274) rfl) rfl, rfl, rfl, by decide +kernel⟩
def M_X8_shiftedNodes : MD := (cX8_shiftedNodes, RX8, 4, (some .int), { frames := 2, cells := 0, slots := 0, locals := 47 })
set_option maxRecDepth 100000 in
theorem mk_X8_shiftedNodes : MK yX8_shiftedNodes M_X8_shiftedNodes 0 := ⟨tt_mem (List.mem_of_getElem? (i := 278) rfl) rfl, rfl, rfl, by decide +kernel⟩
def M_X8_at : MD := (cX8_at, RX8, 2, (some (.object "ShiftGrids$Grid")), { frames := 0, cells := 0, slots := 0, locals := 0 })
set_option maxRecDepth 100000 in
theorem mk_X8_at : MK yX8_at M_X8_at 1 := ⟨tt_mem (List.mem_of_getElem? (i := 282) rfl) rfl, rfl, rfl, by decide +kernel⟩
def M_X4_shiftedNodes : MD := (cX4_shiftedNodes, RX4, 4, (some .int), { frames := 1, cells := 0, slots := 0, locals := 24 })
set_option maxRecDepth 100000 in
theorem mk_X4_shiftedNodes : MK yX4_shiftedNodes M_X4_shiftedNodes 0 := ⟨tt_mem (List.mem_of_getElem? (i := 286) rfl) rfl, rfl, rfl, by decide +kernel⟩
def M_X4_offset : MD := (cX4_offset, RX4, 5, (some .int), { frames := 0, cells := 0, slots := 0, locals := 0 })
set_option maxRecDepth 100000 in
theorem mk_X4_offset : MK yX4_offset M_X4_offset 3 := ⟨tt_mem (List.mem_of_getElem? (i := 290) rfl) rfl, rfl, rfl, by decide +kernel⟩
def M_X9_unsureCellsOfAll : MD := (cX9_unsureCellsOfAll, RX9, 3, (some .int), { frames := 5, cells := 0, slots := 0, locals := 107 })
set_option maxRecDepth 100000 in
theorem mk_X9_unsureCellsOfAll : MK yX9_unsureCellsOfAll M_X9_unsureCellsOfAll 0 := ⟨tt_mem (List.mem_of_getElem? (i := 294) rfl) rfl, rfl, rfl, by decide +kernel⟩
def M_X9_unsureCells : MD := (cX9_unsureCells, RX9, 5, (some .int), { frames := 4, cells := 0, slots := 0, locals := 83 })
set_option maxRecDepth 100000 in
theorem mk_X9_unsureCells : MK yX9_unsureCells M_X9_unsureCells 1 := ⟨tt_mem (List.mem_of_getElem? (i := 299) rfl) rfl, rfl, rfl, by decide +kernel⟩
def M_X2_look : MD := (cX2_look, RX2, 7, none, { frames := 1, cells := 0, slots := 0, locals := 24 })
set_option maxRecDepth 100000 in
theorem mk_X2_look : MK yX2_look M_X2_look 3 := ⟨tt_mem (List.mem_of_getElem? (i := 303) rfl) rfl, rfl, rfl, by decide +kernel⟩
def M_X4_side : MD := (cX4_side, RX4, 1, (some .int), { frames := 0, cells := 0, slots := 0, locals := 0 })
set_option maxRecDepth 100000 in
theorem mk_X4_side : MK yX4_side M_X4_side 0 := ⟨tt_mem (List.mem_of_getElem? (i := 307) rfl) rfl, rfl, rfl, by decide +kernel⟩
def M_X4_columnPlace : MD := (cX4_columnPlace, RX4, 2, (some .int), { frames := 0, cells := 0, slots := 0, locals := 0 })
set_option maxRecDepth 100000 in
theorem mk_X4_columnPlace : MK yX4_columnPlace M_X4_columnPlace 1 := ⟨tt_mem (List.mem_of_getElem? (i := 312) rfl) rfl, rfl, rfl, by decide +kernel⟩
def M_X4_rowPlace : MD := (cX4_rowPlace, RX4, 2, (some .int), { frames := 0, cells := 0, slots := 0, locals := 0 })
set_option maxRecDepth 100000 in
theorem mk_X4_rowPlace : MK yX4_rowPlace M_X4_rowPlace 1 := ⟨tt_mem (List.mem_of_getElem? (i := 316) rfl) rfl, rfl, rfl, by decide +kernel⟩
def M_X2_isSure : MD := (cX2_isSure, RX2, 1, (some .boolean), { frames := 3, cells := 0, slots := 0, locals := 63 })
set_option maxRecDepth 100000 in
theorem mk_X2_isSure : MK yX2_isSure M_X2_isSure 0 := ⟨tt_mem (List.mem_of_getElem? (i := 320) rfl) rfl, rfl, rfl, by decide +kernel⟩
def M_X2_steepness : MD := (cX2_steepness, RX2, 1, (some .int), { frames := 2, cells := 0, slots := 0, locals := 43 })
set_option maxRecDepth 100000 in
theorem mk_X2_steepness : MK yX2_steepness M_X2_steepness 0 := ⟨tt_mem (List.mem_of_getElem? (i := 324) rfl) rfl, rfl, rfl, by decide +kernel⟩
def M_X2_steepnessOf : MD := (cX2_steepnessOf, RX2, 3, (some .int), { frames := 1, cells := 0, slots := 0, locals := 21 })
set_option maxRecDepth 100000 in
theorem mk_X2_steepnessOf : MK yX2_steepnessOf M_X2_steepnessOf 1 := ⟨tt_mem (List.mem_of_getElem? (i := 327) rfl) rfl, rfl, rfl, by decide +kernel⟩
def M_J9_abs_0f7a4 : MD := (cJ9_abs_0f7a4, RJ9, 1, (some .int), { frames := 0, cells := 0, slots := 0, locals := 0 })
set_option maxRecDepth 100000 in
theorem mk_J9_abs_0f7a4 : MK yJ9_abs_0f7a4 M_J9_abs_0f7a4 1 := ⟨tt_mem (List.mem_of_getElem? (i := 330) rfl) rfl, rfl, rfl, by decide +kernel⟩
def M_J9_max_7cf53 : MD := (cJ9_max_7cf53, RJ9, 2, (some .int), { frames := 0, cells := 0, slots := 0, locals := 0 })
set_option maxRecDepth 100000 in
theorem mk_J9_max_7cf53 : MK yJ9_max_7cf53 M_J9_max_7cf53 2 := ⟨tt_mem (List.mem_of_getElem? (i := 333) rfl) rfl, rfl, rfl, by decide +kernel⟩
def M_X9_foldedCellsOfAll : MD := (cX9_foldedCellsOfAll, RX9, 3, (some .int), { frames := 4, cells := 0, slots := 0, locals := 91 })
set_option maxRecDepth 100000 in
theorem mk_X9_foldedCellsOfAll : MK yX9_foldedCellsOfAll M_X9_foldedCellsOfAll 0 := ⟨tt_mem (List.mem_of_getElem? (i := 337) rfl) rfl, rfl, rfl, by decide +kernel⟩
def M_X9_foldedCells : MD := (cX9_foldedCells, RX9, 5, (some .int), { frames := 3, cells := 0, slots := 0, locals := 67 })
set_option maxRecDepth 100000 in
theorem mk_X9_foldedCells : MK yX9_foldedCells M_X9_foldedCells 1 := ⟨tt_mem (List.mem_of_getElem? (i := 341) rfl) rfl, rfl, rfl, by decide +kernel⟩
def M_X2_isFolded : MD := (cX2_isFolded, RX2, 2, (some .boolean), { frames := 2, cells := 0, slots := 0, locals := 46 })
set_option maxRecDepth 100000 in
theorem mk_X2_isFolded : MK yX2_isFolded M_X2_isFolded 0 := ⟨tt_mem (List.mem_of_getElem? (i := 345) rfl) rfl, rfl, rfl, by decide +kernel⟩
def M_X2_crossed : MD := (cX2_crossed, RX2, 5, (some .long), { frames := 1, cells := 0, slots := 0, locals := 22 })
set_option maxRecDepth 100000 in
theorem mk_X2_crossed : MK yX2_crossed M_X2_crossed 2 := ⟨tt_mem (List.mem_of_getElem? (i := 349) rfl) rfl, rfl, rfl, by decide +kernel⟩
def M_J9_floorMod_7cf53 : MD := (cJ9_floorMod_7cf53, RJ9, 3, (some .int), { frames := 0, cells := 0, slots := 0, locals := 0 })
set_option maxRecDepth 100000 in
theorem mk_J9_floorMod_7cf53 : MK yJ9_floorMod_7cf53 M_J9_floorMod_7cf53 2 := ⟨tt_mem (List.mem_of_getElem? (i := 352) rfl) rfl, rfl, rfl, by decide +kernel⟩
def M_X9_gapsOfAll : MD := (cX9_gapsOfAll, RX9, 3, (some .int), { frames := 5, cells := 0, slots := 0, locals := 139 })
set_option maxRecDepth 100000 in
theorem mk_X9_gapsOfAll : MK yX9_gapsOfAll M_X9_gapsOfAll 0 := ⟨tt_mem (List.mem_of_getElem? (i := 356) rfl) rfl, rfl, rfl, by decide +kernel⟩
def M_X1_gaps : MD := (cX1_gaps, RX1, 6, (some .int), { frames := 4, cells := 0, slots := 0, locals := 114 })
set_option maxRecDepth 100000 in
theorem mk_X1_gaps : MK yX1_gaps M_X1_gaps 2 := ⟨tt_mem (List.mem_of_getElem? (i := 359) rfl) rfl, rfl, rfl, by decide +kernel⟩
def M_X1_gap : MD := (cX1_gap, RX1, 9, (some .int), { frames := 3, cells := 0, slots := 0, locals := 86 })
set_option maxRecDepth 100000 in
theorem mk_X1_gap : MK yX1_gap M_X1_gap 5 := ⟨tt_mem (List.mem_of_getElem? (i := 364) rfl) rfl, rfl, rfl, by decide +kernel⟩
def M_X4_isOnBorder : MD := (cX4_isOnBorder, RX4, 3, (some .boolean), { frames := 0, cells := 0, slots := 0, locals := 0 })
set_option maxRecDepth 100000 in
theorem mk_X4_isOnBorder : MK yX4_isOnBorder M_X4_isOnBorder 2 := ⟨tt_mem (List.mem_of_getElem? (i := 368) rfl) rfl, rfl, rfl, by decide +kernel⟩
def M_X4_offsetBy : MD := (cX4_offsetBy, RX4, 19, (some .int), { frames := 2, cells := 0, slots := 0, locals := 48 })
set_option maxRecDepth 100000 in
theorem mk_X4_offsetBy : MK yX4_offsetBy M_X4_offsetBy 4 := ⟨tt_mem (List.mem_of_getElem? (i := 375) rfl) rfl, rfl, rfl, by decide +kernel⟩
def M_X4_cellAhead : MD := (cX4_cellAhead, RX4, 3, (some .int), { frames := 1, cells := 0, slots := 0, locals := 21 })
set_option maxRecDepth 100000 in
theorem mk_X4_cellAhead : MK yX4_cellAhead M_X4_cellAhead 3 := ⟨tt_mem (List.mem_of_getElem? (i := 380) rfl) rfl, rfl, rfl, by decide +kernel⟩
def M_J9_min_7cf53 : MD := (cJ9_min_7cf53, RJ9, 2, (some .int), { frames := 0, cells := 0, slots := 0, locals := 0 })
set_option maxRecDepth 100000 in
theorem mk_J9_min_7cf53 : MK yJ9_min_7cf53 M_J9_min_7cf53 2 := ⟨tt_mem (List.mem_of_getElem? (i := 383) rfl) rfl, rfl, rfl, by decide +kernel⟩
def M_X4_rounded : MD := (cX4_rounded, RX4, 4, (some .int), { frames := 1, cells := 0, slots := 0, locals := 25 })
set_option maxRecDepth 100000 in
theorem mk_X4_rounded : MK yX4_rounded M_X4_rounded 2 := ⟨tt_mem (List.mem_of_getElem? (i := 387) rfl) rfl, rfl, rfl, by decide +kernel⟩
def M_J9_floorDiv_f86c9 : MD := (cJ9_floorDiv_f86c9, RJ9, 6, (some .long), { frames := 0, cells := 0, slots := 0, locals := 0 })
set_option maxRecDepth 100000 in
theorem mk_J9_floorDiv_f86c9 : MK yJ9_floorDiv_f86c9 M_J9_floorDiv_f86c9 2 := ⟨tt_mem (List.mem_of_getElem? (i := 391) rfl) rfl, rfl, rfl, by decide +kernel⟩
def M_X9_firstWithGreatestGap : MD := (cX9_firstWithGreatestGap, RX9, 5, (some .int), { frames := 5, cells := 0, slots := 0, locals := 139 })
set_option maxRecDepth 100000 in
theorem mk_X9_firstWithGreatestGap : MK yX9_firstWithGreatestGap M_X9_firstWithGreatestGap 0 := ⟨tt_mem (List.mem_of_getElem? (i := 397) rfl) rfl, rfl, rfl, by decide +kernel⟩
def M_X1_greatestGap : MD := (cX1_greatestGap, RX1, 6, (some .int), { frames := 4, cells := 0, slots := 0, locals := 114 })
set_option maxRecDepth 100000 in
theorem mk_X1_greatestGap : MK yX1_greatestGap M_X1_greatestGap 2 := ⟨tt_mem (List.mem_of_getElem? (i := 400) rfl) rfl, rfl, rfl, by decide +kernel⟩
def M_X0_size : MD := (cX0_size, RX0, 1, (some .int), { frames := 0, cells := 0, slots := 0, locals := 0 })
set_option maxRecDepth 100000 in
theorem mk_X0_size : MK yX0_size M_X0_size 0 := ⟨tt_mem (List.mem_of_getElem? (i := 404) rfl) rfl, rfl, rfl, by decide +kernel⟩
def M_X0_firstWrong : MD := (cX0_firstWrong, RX0, 3, (some .int), { frames := 4, cells := 0, slots := 0, locals := 110 })
set_option maxRecDepth 100000 in
theorem mk_X0_firstWrong : MK yX0_firstWrong M_X0_firstWrong 1 := ⟨tt_mem (List.mem_of_getElem? (i := 408) rfl) rfl, rfl, rfl, by decide +kernel⟩
def M_X8_placeOffset : MD := (cX8_placeOffset, RX8, 5, (some .int), { frames := 3, cells := 0, slots := 0, locals := 86 })
set_option maxRecDepth 100000 in
theorem mk_X8_placeOffset : MK yX8_placeOffset M_X8_placeOffset 3 := ⟨tt_mem (List.mem_of_getElem? (i := 412) rfl) rfl, rfl, rfl, by decide +kernel⟩
def M_X8_owner : MD := (cX8_owner, RX8, 6, (some .int), { frames := 2, cells := 0, slots := 0, locals := 42 })
set_option maxRecDepth 100000 in
theorem mk_X8_owner : MK yX8_owner M_X8_owner 2 := ⟨tt_mem (List.mem_of_getElem? (i := 416) rfl) rfl, rfl, rfl, by decide +kernel⟩
def M_X4_isOnGround : MD := (cX4_isOnGround, RX4, 3, (some .boolean), { frames := 1, cells := 0, slots := 0, locals := 20 })
set_option maxRecDepth 100000 in
theorem mk_X4_isOnGround : MK yX4_isOnGround M_X4_isOnGround 2 := ⟨tt_mem (List.mem_of_getElem? (i := 420) rfl) rfl, rfl, rfl, by decide +kernel⟩
def M_X4_right : MD := (cX4_right, RX4, 1, (some .int), { frames := 0, cells := 0, slots := 0, locals := 0 })
set_option maxRecDepth 100000 in
theorem mk_X4_right : MK yX4_right M_X4_right 0 := ⟨tt_mem (List.mem_of_getElem? (i := 424) rfl) rfl, rfl, rfl, by decide +kernel⟩
def M_X4_bottom : MD := (cX4_bottom, RX4, 1, (some .int), { frames := 0, cells := 0, slots := 0, locals := 0 })
set_option maxRecDepth 100000 in
theorem mk_X4_bottom : MK yX4_bottom M_X4_bottom 0 := ⟨tt_mem (List.mem_of_getElem? (i := 428) rfl) rfl, rfl, rfl, by decide +kernel⟩
def M_X5_size : MD := (cX5_size, RX5, 1, (some .int), { frames := 0, cells := 0, slots := 0, locals := 0 })
set_option maxRecDepth 100000 in
theorem mk_X5_size : MK yX5_size M_X5_size 0 := ⟨tt_mem (List.mem_of_getElem? (i := 433) rfl) rfl, rfl, rfl, by decide +kernel⟩
def M_X3_seedNow : MD := (cX3_seedNow, RX3, 1, (some .int), { frames := 0, cells := 0, slots := 0, locals := 0 })
set_option maxRecDepth 100000 in
theorem mk_X3_seedNow : MK yX3_seedNow M_X3_seedNow 0 := ⟨tt_mem (List.mem_of_getElem? (i := 437) rfl) rfl, rfl, rfl, by decide +kernel⟩
def M_X9_gridAt : MD := (cX9_gridAt, RX9, 4, (some .int), { frames := 5, cells := 0, slots := 0, locals := 139 })
set_option maxRecDepth 100000 in
theorem mk_X9_gridAt : MK yX9_gridAt M_X9_gridAt 2 := ⟨tt_mem (List.mem_of_getElem? (i := 442) rfl) rfl, rfl, rfl, by decide +kernel⟩
def M_X8_children : MD := (cX8_children, RX8, 5, (some .int), { frames := 1, cells := 0, slots := 0, locals := 21 })
set_option maxRecDepth 100000 in
theorem mk_X8_children : MK yX8_children M_X8_children 1 := ⟨tt_mem (List.mem_of_getElem? (i := 447) rfl) rfl, rfl, rfl, by decide +kernel⟩
def M_X8_parentsAbove : MD := (cX8_parentsAbove, RX8, 6, (some .int), { frames := 1, cells := 0, slots := 0, locals := 21 })
set_option maxRecDepth 100000 in
theorem mk_X8_parentsAbove : MK yX8_parentsAbove M_X8_parentsAbove 1 := ⟨tt_mem (List.mem_of_getElem? (i := 451) rfl) rfl, rfl, rfl, by decide +kernel⟩
def M_X9_nodeAt : MD := (cX9_nodeAt, RX9, 7, (some .int), { frames := 3, cells := 0, slots := 0, locals := 86 })
set_option maxRecDepth 100000 in
theorem mk_X9_nodeAt : MK yX9_nodeAt M_X9_nodeAt 4 := ⟨tt_mem (List.mem_of_getElem? (i := 455) rfl) rfl, rfl, rfl, by decide +kernel⟩
def M_X4_hasNode : MD := (cX4_hasNode, RX4, 3, (some .boolean), { frames := 0, cells := 0, slots := 0, locals := 0 })
set_option maxRecDepth 100000 in
theorem mk_X4_hasNode : MK yX4_hasNode M_X4_hasNode 2 := ⟨tt_mem (List.mem_of_getElem? (i := 459) rfl) rfl, rfl, rfl, by decide +kernel⟩
def M_X9_isWithin : MD := (cX9_isWithin, RX9, 3, (some .boolean), { frames := 0, cells := 0, slots := 0, locals := 0 })
set_option maxRecDepth 100000 in
theorem mk_X9_isWithin : MK yX9_isWithin M_X9_isWithin 3 := ⟨tt_mem (List.mem_of_getElem? (i := 462) rfl) rfl, rfl, rfl, by decide +kernel⟩
def M_X9_cellAt : MD := (cX9_cellAt, RX9, 6, (some .long), { frames := 4, cells := 0, slots := 0, locals := 83 })
set_option maxRecDepth 100000 in
theorem mk_X9_cellAt : MK yX9_cellAt M_X9_cellAt 4 := ⟨tt_mem (List.mem_of_getElem? (i := 471) rfl) rfl, rfl, rfl, by decide +kernel⟩
def M_X4_hasCell : MD := (cX4_hasCell, RX4, 3, (some .boolean), { frames := 0, cells := 0, slots := 0, locals := 0 })
set_option maxRecDepth 100000 in
theorem mk_X4_hasCell : MK yX4_hasCell M_X4_hasCell 2 := ⟨tt_mem (List.mem_of_getElem? (i := 475) rfl) rfl, rfl, rfl, by decide +kernel⟩
def M_X2_area : MD := (cX2_area, RX2, 4, (some .long), { frames := 2, cells := 0, slots := 0, locals := 46 })
set_option maxRecDepth 100000 in
theorem mk_X2_area : MK yX2_area M_X2_area 0 := ⟨tt_mem (List.mem_of_getElem? (i := 481) rfl) rfl, rfl, rfl, by decide +kernel⟩
def M_X9_which : MD := (cX9_which, RX9, 3, (some .int), { frames := 3, cells := 0, slots := 0, locals := 67 })
set_option maxRecDepth 100000 in
theorem mk_X9_which : MK yX9_which M_X9_which 2 := ⟨tt_mem (List.mem_of_getElem? (i := 486) rfl) rfl, rfl, rfl, by decide +kernel⟩
def M_X9_isPlace : MD := (cX9_isPlace, RX9, 2, (some .boolean), { frames := 1, cells := 0, slots := 0, locals := 22 })
set_option maxRecDepth 100000 in
theorem mk_X9_isPlace : MK yX9_isPlace M_X9_isPlace 2 := ⟨tt_mem (List.mem_of_getElem? (i := 489) rfl) rfl, rfl, rfl, by decide +kernel⟩
def M_X9_moved : MD := (cX9_moved, RX9, 4, (some .int), { frames := 4, cells := 0, slots := 0, locals := 110 })
set_option maxRecDepth 100000 in
theorem mk_X9_moved : MK yX9_moved M_X9_moved 3 := ⟨tt_mem (List.mem_of_getElem? (i := 495) rfl) rfl, rfl, rfl, by decide +kernel⟩
def M_X9_back : MD := (cX9_back, RX9, 4, (some .int), { frames := 5, cells := 0, slots := 0, locals := 136 })
set_option maxRecDepth 100000 in
theorem mk_X9_back : MK yX9_back M_X9_back 3 := ⟨tt_mem (List.mem_of_getElem? (i := 500) rfl) rfl, rfl, rfl, by decide +kernel⟩
def M_X9_isNewPlace : MD := (cX9_isNewPlace, RX9, 2, (some .boolean), { frames := 1, cells := 0, slots := 0, locals := 22 })
set_option maxRecDepth 100000 in
theorem mk_X9_isNewPlace : MK yX9_isNewPlace M_X9_isNewPlace 2 := ⟨tt_mem (List.mem_of_getElem? (i := 503) rfl) rfl, rfl, rfl, by decide +kernel⟩
def M_X7_run : MD := (cX7_run, RX7, 7, none, { frames := 4, cells := 0, slots := 0, locals := 110 })
set_option maxRecDepth 100000 in
theorem mk_X7_run : MK yX7_run M_X7_run 3 := ⟨tt_mem (List.mem_of_getElem? (i := 508) rfl) rfl, rfl, rfl, by decide +kernel⟩
def M_X7_kindOf : MD := (cX7_kindOf, RX7, 5, (some .int), { frames := 2, cells := 0, slots := 0, locals := 43 })
set_option maxRecDepth 100000 in
theorem mk_X7_kindOf : MK yX7_kindOf M_X7_kindOf 1 := ⟨tt_mem (List.mem_of_getElem? (i := 514) rfl) rfl, rfl, rfl, by decide +kernel⟩
def M_X7_kindNow : MD := (cX7_kindNow, RX7, 1, (some .int), { frames := 0, cells := 0, slots := 0, locals := 0 })
set_option maxRecDepth 100000 in
theorem mk_X7_kindNow : MK yX7_kindNow M_X7_kindNow 0 := ⟨tt_mem (List.mem_of_getElem? (i := 518) rfl) rfl, rfl, rfl, by decide +kernel⟩
def M_X7_rounds : MD := (cX7_rounds, RX7, 1, (some .int), { frames := 0, cells := 0, slots := 0, locals := 0 })
set_option maxRecDepth 100000 in
theorem mk_X7_rounds : MK yX7_rounds M_X7_rounds 0 := ⟨tt_mem (List.mem_of_getElem? (i := 522) rfl) rfl, rfl, rfl, by decide +kernel⟩
def M_X7_lastX : MD := (cX7_lastX, RX7, 1, (some .int), { frames := 0, cells := 0, slots := 0, locals := 0 })
set_option maxRecDepth 100000 in
theorem mk_X7_lastX : MK yX7_lastX M_X7_lastX 0 := ⟨tt_mem (List.mem_of_getElem? (i := 526) rfl) rfl, rfl, rfl, by decide +kernel⟩
def M_X7_lastY : MD := (cX7_lastY, RX7, 1, (some .int), { frames := 0, cells := 0, slots := 0, locals := 0 })
set_option maxRecDepth 100000 in
theorem mk_X7_lastY : MK yX7_lastY M_X7_lastY 0 := ⟨tt_mem (List.mem_of_getElem? (i := 530) rfl) rfl, rfl, rfl, by decide +kernel⟩
def M_X9_grid : MD := (cX9_grid, RX9, 9, (some .int), { frames := 4, cells := 0, slots := 0, locals := 106 })
set_option maxRecDepth 100000 in
theorem mk_X9_grid : MK yX9_grid M_X9_grid 6 := ⟨tt_mem (List.mem_of_getElem? (i := 534) rfl) rfl, rfl, rfl, by decide +kernel⟩
def M_X9_isGridWithin : MD := (cX9_isGridWithin, RX9, 5, (some .boolean), { frames := 1, cells := 0, slots := 0, locals := 22 })
set_option maxRecDepth 100000 in
theorem mk_X9_isGridWithin : MK yX9_isGridWithin M_X9_isGridWithin 5 := ⟨tt_mem (List.mem_of_getElem? (i := 537) rfl) rfl, rfl, rfl, by decide +kernel⟩
def M_X8_fitsParent : MD := (cX8_fitsParent, RX8, 8, (some .boolean), { frames := 1, cells := 0, slots := 0, locals := 21 })
set_option maxRecDepth 100000 in
theorem mk_X8_fitsParent : MK yX8_fitsParent M_X8_fitsParent 6 := ⟨tt_mem (List.mem_of_getElem? (i := 541) rfl) rfl, rfl, rfl, by decide +kernel⟩
def M_X8_isApart : MD := (cX8_isApart, RX8, 8, (some .boolean), { frames := 1, cells := 0, slots := 0, locals := 21 })
set_option maxRecDepth 100000 in
theorem mk_X8_isApart : MK yX8_isApart M_X8_isApart 5 := ⟨tt_mem (List.mem_of_getElem? (i := 547) rfl) rfl, rfl, rfl, by decide +kernel⟩
def M_X5_push : MD := (cX5_push, RX5, 3, none, { frames := 3, cells := 0, slots := 0, locals := 84 })
set_option maxRecDepth 100000 in
theorem mk_X5_push : MK yX5_push M_X5_push 1 := ⟨tt_mem (List.mem_of_getElem? (i := 553) rfl) rfl, rfl, rfl, by decide +kernel⟩
def M_X8_copyFrom : MD := (cX8_copyFrom, RX8, 4, none, { frames := 2, cells := 0, slots := 0, locals := 61 })
set_option maxRecDepth 100000 in
theorem mk_X8_copyFrom : MK yX8_copyFrom M_X8_copyFrom 1 := ⟨tt_mem (List.mem_of_getElem? (i := 558) rfl) rfl, rfl, rfl, by decide +kernel⟩
def M_X4_copyFrom : MD := (cX4_copyFrom, RX4, 2, none, { frames := 1, cells := 0, slots := 0, locals := 40 })
set_option maxRecDepth 100000 in
theorem mk_X4_copyFrom : MK yX4_copyFrom M_X4_copyFrom 1 := ⟨tt_mem (List.mem_of_getElem? (i := 562) rfl) rfl, rfl, rfl, by decide +kernel⟩
def M_X4_place : MD := (cX4_place, RX4, 7, none, { frames := 0, cells := 0, slots := 0, locals := 0 })
set_option maxRecDepth 100000 in
theorem mk_X4_place : MK yX4_place M_X4_place 6 := ⟨tt_mem (List.mem_of_getElem? (i := 566) rfl) rfl, rfl, rfl, by decide +kernel⟩
def M_X8_add : MD := (cX8_add, RX8, 9, (some .int), { frames := 2, cells := 0, slots := 0, locals := 51 })
set_option maxRecDepth 100000 in
theorem mk_X8_add : MK yX8_add M_X8_add 6 := ⟨tt_mem (List.mem_of_getElem? (i := 574) rfl) rfl, rfl, rfl, by decide +kernel⟩
def M_X4_setOffsets : MD := (cX4_setOffsets, RX4, 6, (some .int), { frames := 1, cells := 0, slots := 0, locals := 26 })
set_option maxRecDepth 100000 in
theorem mk_X4_setOffsets : MK yX4_setOffsets M_X4_setOffsets 2 := ⟨tt_mem (List.mem_of_getElem? (i := 580) rfl) rfl, rfl, rfl, by decide +kernel⟩
def M_X4_setOffset : MD := (cX4_setOffset, RX4, 7, (some .boolean), { frames := 0, cells := 0, slots := 0, locals := 0 })
set_option maxRecDepth 100000 in
theorem mk_X4_setOffset : MK yX4_setOffset M_X4_setOffset 4 := ⟨tt_mem (List.mem_of_getElem? (i := 584) rfl) rfl, rfl, rfl, by decide +kernel⟩
def M_X9_node : MD := (cX9_node, RX9, 7, (some .int), { frames := 4, cells := 0, slots := 0, locals := 106 })
set_option maxRecDepth 100000 in
theorem mk_X9_node : MK yX9_node M_X9_node 5 := ⟨tt_mem (List.mem_of_getElem? (i := 588) rfl) rfl, rfl, rfl, by decide +kernel⟩
def M_X9_isOffset : MD := (cX9_isOffset, RX9, 2, (some .boolean), { frames := 1, cells := 0, slots := 0, locals := 22 })
set_option maxRecDepth 100000 in
theorem mk_X9_isOffset : MK yX9_isOffset M_X9_isOffset 2 := ⟨tt_mem (List.mem_of_getElem? (i := 591) rfl) rfl, rfl, rfl, by decide +kernel⟩
def M_X9_fill : MD := (cX9_fill, RX9, 5, (some .int), { frames := 4, cells := 0, slots := 0, locals := 106 })
set_option maxRecDepth 100000 in
theorem mk_X9_fill : MK yX9_fill M_X9_fill 3 := ⟨tt_mem (List.mem_of_getElem? (i := 596) rfl) rfl, rfl, rfl, by decide +kernel⟩
def M_X9_fit : MD := (cX9_fit, RX9, 4, (some .int), { frames := 5, cells := 0, slots := 0, locals := 139 })
set_option maxRecDepth 100000 in
theorem mk_X9_fit : MK yX9_fit M_X9_fit 1 := ⟨tt_mem (List.mem_of_getElem? (i := 601) rfl) rfl, rfl, rfl, by decide +kernel⟩
def M_X1_meet : MD := (cX1_meet, RX1, 7, none, { frames := 3, cells := 0, slots := 0, locals := 86 })
set_option maxRecDepth 100000 in
theorem mk_X1_meet : MK yX1_meet M_X1_meet 2 := ⟨tt_mem (List.mem_of_getElem? (i := 604) rfl) rfl, rfl, rfl, by decide +kernel⟩
def M_X9_drop : MD := (cX9_drop, RX9, 2, (some .int), { frames := 4, cells := 0, slots := 0, locals := 106 })
set_option maxRecDepth 100000 in
theorem mk_X9_drop : MK yX9_drop M_X9_drop 1 := ⟨tt_mem (List.mem_of_getElem? (i := 609) rfl) rfl, rfl, rfl, by decide +kernel⟩
def M_X8_remove : MD := (cX8_remove, RX8, 5, none, { frames := 2, cells := 0, slots := 0, locals := 44 })
set_option maxRecDepth 100000 in
theorem mk_X8_remove : MK yX8_remove M_X8_remove 1 := ⟨tt_mem (List.mem_of_getElem? (i := 613) rfl) rfl, rfl, rfl, by decide +kernel⟩
def M_X8_lowerParentsBehind : MD := (cX8_lowerParentsBehind, RX8, 4, none, { frames := 1, cells := 0, slots := 0, locals := 21 })
set_option maxRecDepth 100000 in
theorem mk_X8_lowerParentsBehind : MK yX8_lowerParentsBehind M_X8_lowerParentsBehind 1 := ⟨tt_mem (List.mem_of_getElem? (i := 617) rfl) rfl, rfl, rfl, by decide +kernel⟩
def M_X9_rule : MD := (cX9_rule, RX9, 3, (some .int), { frames := 4, cells := 0, slots := 0, locals := 106 })
set_option maxRecDepth 100000 in
theorem mk_X9_rule : MK yX9_rule M_X9_rule 1 := ⟨tt_mem (List.mem_of_getElem? (i := 621) rfl) rfl, rfl, rfl, by decide +kernel⟩
def M_X8_setRule : MD := (cX8_setRule, RX8, 2, none, { frames := 0, cells := 0, slots := 0, locals := 0 })
set_option maxRecDepth 100000 in
theorem mk_X8_setRule : MK yX8_setRule M_X8_setRule 1 := ⟨tt_mem (List.mem_of_getElem? (i := 625) rfl) rfl, rfl, rfl, by decide +kernel⟩
def M_X9_drift : MD := (cX9_drift, RX9, 3, (some .int), { frames := 4, cells := 0, slots := 0, locals := 106 })
set_option maxRecDepth 100000 in
theorem mk_X9_drift : MK yX9_drift M_X9_drift 1 := ⟨tt_mem (List.mem_of_getElem? (i := 629) rfl) rfl, rfl, rfl, by decide +kernel⟩
def M_X3_shiftNode : MD := (cX3_shiftNode, RX3, 7, none, { frames := 1, cells := 0, slots := 0, locals := 26 })
set_option maxRecDepth 100000 in
theorem mk_X3_shiftNode : MK yX3_shiftNode M_X3_shiftNode 1 := ⟨tt_mem (List.mem_of_getElem? (i := 633) rfl) rfl, rfl, rfl, by decide +kernel⟩
def M_X3_draw : MD := (cX3_draw, RX3, 2, (some .int), { frames := 0, cells := 0, slots := 0, locals := 0 })
set_option maxRecDepth 100000 in
theorem mk_X3_draw : MK yX3_draw M_X3_draw 1 := ⟨tt_mem (List.mem_of_getElem? (i := 638) rfl) rfl, rfl, rfl, by decide +kernel⟩
def M_X9_undo : MD := (cX9_undo, RX9, 2, (some .int), { frames := 4, cells := 0, slots := 0, locals := 106 })
set_option maxRecDepth 100000 in
theorem mk_X9_undo : MK yX9_undo M_X9_undo 1 := ⟨tt_mem (List.mem_of_getElem? (i := 648) rfl) rfl, rfl, rfl, by decide +kernel⟩
def M_X5_takeBack : MD := (cX5_takeBack, RX5, 3, none, { frames := 3, cells := 0, slots := 0, locals := 84 })
set_option maxRecDepth 100000 in
theorem mk_X5_takeBack : MK yX5_takeBack M_X5_takeBack 2 := ⟨tt_mem (List.mem_of_getElem? (i := 652) rfl) rfl, rfl, rfl, by decide +kernel⟩
def M_X9_write : MD := (cX9_write, RX9, 4, (some .int), { frames := 2, cells := 0, slots := 0, locals := 43 })
set_option maxRecDepth 100000 in
theorem mk_X9_write : MK yX9_write M_X9_write 3 := ⟨tt_mem (List.mem_of_getElem? (i := 657) rfl) rfl, rfl, rfl, by decide +kernel⟩
def M_X0_add : MD := (cX0_add, RX0, 4, (some .boolean), { frames := 0, cells := 0, slots := 0, locals := 0 })
set_option maxRecDepth 100000 in
theorem mk_X0_add : MK yX0_add M_X0_add 3 := ⟨tt_mem (List.mem_of_getElem? (i := 661) rfl) rfl, rfl, rfl, by decide +kernel⟩
def M_X9_tear : MD := (cX9_tear, RX9, 2, (some .int), { frames := 1, cells := 0, slots := 0, locals := 20 })
set_option maxRecDepth 100000 in
theorem mk_X9_tear : MK yX9_tear M_X9_tear 0 := ⟨tt_mem (List.mem_of_getElem? (i := 665) rfl) rfl, rfl, rfl, by decide +kernel⟩
def M_X0_clear : MD := (cX0_clear, RX0, 1, none, { frames := 0, cells := 0, slots := 0, locals := 0 })
set_option maxRecDepth 100000 in
theorem mk_X0_clear : MK yX0_clear M_X0_clear 0 := ⟨tt_mem (List.mem_of_getElem? (i := 669) rfl) rfl, rfl, rfl, by decide +kernel⟩
def M_X9_seed : MD := (cX9_seed, RX9, 3, (some .int), { frames := 1, cells := 0, slots := 0, locals := 21 })
set_option maxRecDepth 100000 in
theorem mk_X9_seed : MK yX9_seed M_X9_seed 1 := ⟨tt_mem (List.mem_of_getElem? (i := 673) rfl) rfl, rfl, rfl, by decide +kernel⟩
def M_X3_setSeed : MD := (cX3_setSeed, RX3, 2, none, { frames := 0, cells := 0, slots := 0, locals := 0 })
set_option maxRecDepth 100000 in
theorem mk_X3_setSeed : MK yX3_setSeed M_X3_setSeed 1 := ⟨tt_mem (List.mem_of_getElem? (i := 677) rfl) rfl, rfl, rfl, by decide +kernel⟩
def M_X9_keep : MD := (cX9_keep, RX9, 3, (some .int), { frames := 4, cells := 0, slots := 0, locals := 106 })
set_option maxRecDepth 100000 in
theorem mk_X9_keep : MK yX9_keep M_X9_keep 1 := ⟨tt_mem (List.mem_of_getElem? (i := 681) rfl) rfl, rfl, rfl, by decide +kernel⟩
def M_X9_imageOf : MD := (cX9_imageOf, RX9, 2, (some (.object "ShiftGrids$Image")), { frames := 0, cells := 0, slots := 0, locals := 0 })
set_option maxRecDepth 100000 in
theorem mk_X9_imageOf : MK yX9_imageOf M_X9_imageOf 1 := ⟨tt_mem (List.mem_of_getElem? (i := 685) rfl) rfl, rfl, rfl, by decide +kernel⟩
def M_X6_take : MD := (cX6_take, RX6, 3, none, { frames := 3, cells := 0, slots := 0, locals := 84 })
set_option maxRecDepth 100000 in
theorem mk_X6_take : MK yX6_take M_X6_take 2 := ⟨tt_mem (List.mem_of_getElem? (i := 689) rfl) rfl, rfl, rfl, by decide +kernel⟩
def M_X5_clear : MD := (cX5_clear, RX5, 1, none, { frames := 0, cells := 0, slots := 0, locals := 0 })
set_option maxRecDepth 100000 in
theorem mk_X5_clear : MK yX5_clear M_X5_clear 0 := ⟨tt_mem (List.mem_of_getElem? (i := 695) rfl) rfl, rfl, rfl, by decide +kernel⟩
def M_X9_goBack : MD := (cX9_goBack, RX9, 3, (some .int), { frames := 4, cells := 0, slots := 0, locals := 106 })
set_option maxRecDepth 100000 in
theorem mk_X9_goBack : MK yX9_goBack M_X9_goBack 1 := ⟨tt_mem (List.mem_of_getElem? (i := 699) rfl) rfl, rfl, rfl, by decide +kernel⟩
def M_X6_wasTaken : MD := (cX6_wasTaken, RX6, 1, (some .boolean), { frames := 0, cells := 0, slots := 0, locals := 0 })
set_option maxRecDepth 100000 in
theorem mk_X6_wasTaken : MK yX6_wasTaken M_X6_wasTaken 0 := ⟨tt_mem (List.mem_of_getElem? (i := 703) rfl) rfl, rfl, rfl, by decide +kernel⟩
def M_X6_give : MD := (cX6_give, RX6, 3, none, { frames := 3, cells := 0, slots := 0, locals := 84 })
set_option maxRecDepth 100000 in
theorem mk_X6_give : MK yX6_give M_X6_give 2 := ⟨tt_mem (List.mem_of_getElem? (i := 707) rfl) rfl, rfl, rfl, by decide +kernel⟩
def M_X10_told : MD := (cX10_told, RX10, 2, (some .int), { frames := 8, cells := 0, slots := 0, locals := 185 })
set_option maxRecDepth 100000 in
theorem mk_X10_told : MK yX10_told M_X10_told 1 := ⟨tt_mem (List.mem_of_getElem? (i := 768) rfl) rfl, rfl, rfl, by decide +kernel⟩
def M_X10_nodesMoved : MD := (cX10_nodesMoved, RX10, 6, (some .int), { frames := 2, cells := 0, slots := 0, locals := 46 })
set_option maxRecDepth 100000 in
theorem mk_X10_nodesMoved : MK yX10_nodesMoved M_X10_nodesMoved 0 := ⟨tt_mem (List.mem_of_getElem? (i := 772) rfl) rfl, rfl, rfl, by decide +kernel⟩
def M_X10_its : MD := (cX10_its, RX10, 3, (some .int), { frames := 0, cells := 0, slots := 0, locals := 0 })
set_option maxRecDepth 100000 in
theorem mk_X10_its : MK yX10_its M_X10_its 2 := ⟨tt_mem (List.mem_of_getElem? (i := 776) rfl) rfl, rfl, rfl, by decide +kernel⟩
def M_X10_off : MD := (cX10_off, RX10, 5, (some .int), { frames := 1, cells := 0, slots := 0, locals := 22 })
set_option maxRecDepth 100000 in
theorem mk_X10_off : MK yX10_off M_X10_off 4 := ⟨tt_mem (List.mem_of_getElem? (i := 780) rfl) rfl, rfl, rfl, by decide +kernel⟩
def M_X10_at : MD := (cX10_at, RX10, 3, (some .int), { frames := 0, cells := 0, slots := 0, locals := 0 })
set_option maxRecDepth 100000 in
theorem mk_X10_at : MK yX10_at M_X10_at 3 := ⟨tt_mem (List.mem_of_getElem? (i := 783) rfl) rfl, rfl, rfl, by decide +kernel⟩
def M_X10_tally : MD := (cX10_tally, RX10, 6, (some .int), { frames := 6, cells := 0, slots := 0, locals := 160 })
set_option maxRecDepth 100000 in
theorem mk_X10_tally : MK yX10_tally M_X10_tally 1 := ⟨tt_mem (List.mem_of_getElem? (i := 787) rfl) rfl, rfl, rfl, by decide +kernel⟩
def M_X10_gaps : MD := (cX10_gaps, RX10, 5, none, { frames := 5, cells := 0, slots := 0, locals := 136 })
set_option maxRecDepth 100000 in
theorem mk_X10_gaps : MK yX10_gaps M_X10_gaps 1 := ⟨tt_mem (List.mem_of_getElem? (i := 791) rfl) rfl, rfl, rfl, by decide +kernel⟩
def M_X10_isBorder : MD := (cX10_isBorder, RX10, 4, (some .boolean), { frames := 1, cells := 0, slots := 0, locals := 22 })
set_option maxRecDepth 100000 in
theorem mk_X10_isBorder : MK yX10_isBorder M_X10_isBorder 3 := ⟨tt_mem (List.mem_of_getElem? (i := 795) rfl) rfl, rfl, rfl, by decide +kernel⟩
def M_X10_gapAt : MD := (cX10_gapAt, RX10, 5, (some .int), { frames := 4, cells := 0, slots := 0, locals := 112 })
set_option maxRecDepth 100000 in
theorem mk_X10_gapAt : MK yX10_gapAt M_X10_gapAt 3 := ⟨tt_mem (List.mem_of_getElem? (i := 799) rfl) rfl, rfl, rfl, by decide +kernel⟩
def M_X10_ofParent : MD := (cX10_ofParent, RX10, 5, (some .int), { frames := 3, cells := 0, slots := 0, locals := 88 })
set_option maxRecDepth 100000 in
theorem mk_X10_ofParent : MK yX10_ofParent M_X10_ofParent 4 := ⟨tt_mem (List.mem_of_getElem? (i := 803) rfl) rfl, rfl, rfl, by decide +kernel⟩
def M_X10_stands : MD := (cX10_stands, RX10, 4, (some .int), { frames := 1, cells := 0, slots := 0, locals := 22 })
set_option maxRecDepth 100000 in
theorem mk_X10_stands : MK yX10_stands M_X10_stands 3 := ⟨tt_mem (List.mem_of_getElem? (i := 807) rfl) rfl, rfl, rfl, by decide +kernel⟩
def M_X10_offset : MD := (cX10_offset, RX10, 10, (some .int), { frames := 2, cells := 0, slots := 0, locals := 59 })
set_option maxRecDepth 100000 in
theorem mk_X10_offset : MK yX10_offset M_X10_offset 4 := ⟨tt_mem (List.mem_of_getElem? (i := 811) rfl) rfl, rfl, rfl, by decide +kernel⟩
def M_X10_between : MD := (cX10_between, RX10, 13, (some .int), { frames := 1, cells := 0, slots := 0, locals := 27 })
set_option maxRecDepth 100000 in
theorem mk_X10_between : MK yX10_between M_X10_between 7 := ⟨tt_mem (List.mem_of_getElem? (i := 815) rfl) rfl, rfl, rfl, by decide +kernel⟩
def M_X10_rounded : MD := (cX10_rounded, RX10, 8, (some .long), { frames := 0, cells := 0, slots := 0, locals := 0 })
set_option maxRecDepth 100000 in
theorem mk_X10_rounded : MK yX10_rounded M_X10_rounded 2 := ⟨tt_mem (List.mem_of_getElem? (i := 818) rfl) rfl, rfl, rfl, by decide +kernel⟩
def M_X10_size : MD := (cX10_size, RX10, 1, (some .int), { frames := 0, cells := 0, slots := 0, locals := 0 })
set_option maxRecDepth 100000 in
theorem mk_X10_size : MK yX10_size M_X10_size 1 := ⟨tt_mem (List.mem_of_getElem? (i := 822) rfl) rfl, rfl, rfl, by decide +kernel⟩
def M_X10_larger : MD := (cX10_larger, RX10, 2, (some .int), { frames := 0, cells := 0, slots := 0, locals := 0 })
set_option maxRecDepth 100000 in
theorem mk_X10_larger : MK yX10_larger M_X10_larger 2 := ⟨tt_mem (List.mem_of_getElem? (i := 825) rfl) rfl, rfl, rfl, by decide +kernel⟩
def M_X10_cells : MD := (cX10_cells, RX10, 6, (some .int), { frames := 5, cells := 0, slots := 0, locals := 123 })
set_option maxRecDepth 100000 in
theorem mk_X10_cells : MK yX10_cells M_X10_cells 2 := ⟨tt_mem (List.mem_of_getElem? (i := 829) rfl) rfl, rfl, rfl, by decide +kernel⟩
def M_X10_isFolded : MD := (cX10_isFolded, RX10, 6, (some .boolean), { frames := 4, cells := 0, slots := 0, locals := 98 })
set_option maxRecDepth 100000 in
theorem mk_X10_isFolded : MK yX10_isFolded M_X10_isFolded 3 := ⟨tt_mem (List.mem_of_getElem? (i := 833) rfl) rfl, rfl, rfl, by decide +kernel⟩
def M_X10_cross : MD := (cX10_cross, RX10, 6, (some .long), { frames := 3, cells := 0, slots := 0, locals := 73 })
set_option maxRecDepth 100000 in
theorem mk_X10_cross : MK yX10_cross M_X10_cross 5 := ⟨tt_mem (List.mem_of_getElem? (i := 837) rfl) rfl, rfl, rfl, by decide +kernel⟩
def M_X10_corner : MD := (cX10_corner, RX10, 8, (some .long), { frames := 2, cells := 0, slots := 0, locals := 46 })
set_option maxRecDepth 100000 in
theorem mk_X10_corner : MK yX10_corner M_X10_corner 5 := ⟨tt_mem (List.mem_of_getElem? (i := 841) rfl) rfl, rfl, rfl, by decide +kernel⟩
def M_X10_isSure : MD := (cX10_isSure, RX10, 4, (some .boolean), { frames := 4, cells := 0, slots := 0, locals := 97 })
set_option maxRecDepth 100000 in
theorem mk_X10_isSure : MK yX10_isSure M_X10_isSure 3 := ⟨tt_mem (List.mem_of_getElem? (i := 845) rfl) rfl, rfl, rfl, by decide +kernel⟩
def M_X10_steep : MD := (cX10_steep, RX10, 4, (some .int), { frames := 3, cells := 0, slots := 0, locals := 74 })
set_option maxRecDepth 100000 in
theorem mk_X10_steep : MK yX10_steep M_X10_steep 3 := ⟨tt_mem (List.mem_of_getElem? (i := 849) rfl) rfl, rfl, rfl, by decide +kernel⟩
def M_X10_steepIn : MD := (cX10_steepIn, RX10, 9, (some .int), { frames := 2, cells := 0, slots := 0, locals := 46 })
set_option maxRecDepth 100000 in
theorem mk_X10_steepIn : MK yX10_steepIn M_X10_steepIn 4 := ⟨tt_mem (List.mem_of_getElem? (i := 853) rfl) rfl, rfl, rfl, by decide +kernel⟩
def M_X10_wrong : MD := (cX10_wrong, RX10, 2, (some .int), { frames := 7, cells := 0, slots := 0, locals := 162 })
set_option maxRecDepth 100000 in
theorem mk_X10_wrong : MK yX10_wrong M_X10_wrong 0 := ⟨tt_mem (List.mem_of_getElem? (i := 857) rfl) rfl, rfl, rfl, by decide +kernel⟩
def M_X10_movedBy : MD := (cX10_movedBy, RX10, 5, (some .int), { frames := 6, cells := 0, slots := 0, locals := 138 })
set_option maxRecDepth 100000 in
theorem mk_X10_movedBy : MK yX10_movedBy M_X10_movedBy 3 := ⟨tt_mem (List.mem_of_getElem? (i := 861) rfl) rfl, rfl, rfl, by decide +kernel⟩
def M_X10_belongs : MD := (cX10_belongs, RX10, 5, (some .int), { frames := 5, cells := 0, slots := 0, locals := 114 })
set_option maxRecDepth 100000 in
theorem mk_X10_belongs : MK yX10_belongs M_X10_belongs 2 := ⟨tt_mem (List.mem_of_getElem? (i := 865) rfl) rfl, rfl, rfl, by decide +kernel⟩
def M_X10_child : MD := (cX10_child, RX10, 5, (some .int), { frames := 4, cells := 0, slots := 0, locals := 90 })
set_option maxRecDepth 100000 in
theorem mk_X10_child : MK yX10_child M_X10_child 3 := ⟨tt_mem (List.mem_of_getElem? (i := 869) rfl) rfl, rfl, rfl, by decide +kernel⟩
def M_X10_isOn : MD := (cX10_isOn, RX10, 4, (some .boolean), { frames := 3, cells := 0, slots := 0, locals := 67 })
set_option maxRecDepth 100000 in
theorem mk_X10_isOn : MK yX10_isOn M_X10_isOn 3 := ⟨tt_mem (List.mem_of_getElem? (i := 873) rfl) rfl, rfl, rfl, by decide +kernel⟩
def M_X10_last : MD := (cX10_last, RX10, 3, (some .int), { frames := 2, cells := 0, slots := 0, locals := 45 })
set_option maxRecDepth 100000 in
theorem mk_X10_last : MK yX10_last M_X10_last 2 := ⟨tt_mem (List.mem_of_getElem? (i := 877) rfl) rfl, rfl, rfl, by decide +kernel⟩
def M_X10_in : MD := (cX10_in, RX10, 6, (some .boolean), { frames := 0, cells := 0, slots := 0, locals := 0 })
set_option maxRecDepth 100000 in
theorem mk_X10_in : MK yX10_in M_X10_in 3 := ⟨tt_mem (List.mem_of_getElem? (i := 880) rfl) rfl, rfl, rfl, by decide +kernel⟩
def M_X10_gridAt : MD := (cX10_gridAt, RX10, 3, (some .int), { frames := 6, cells := 0, slots := 0, locals := 160 })
set_option maxRecDepth 100000 in
theorem mk_X10_gridAt : MK yX10_gridAt M_X10_gridAt 2 := ⟨tt_mem (List.mem_of_getElem? (i := 885) rfl) rfl, rfl, rfl, by decide +kernel⟩
def M_X10_isGrid : MD := (cX10_isGrid, RX10, 2, (some .boolean), { frames := 1, cells := 0, slots := 0, locals := 25 })
set_option maxRecDepth 100000 in
theorem mk_X10_isGrid : MK yX10_isGrid M_X10_isGrid 1 := ⟨tt_mem (List.mem_of_getElem? (i := 889) rfl) rfl, rfl, rfl, by decide +kernel⟩
def M_X10_children : MD := (cX10_children, RX10, 4, (some .int), { frames := 1, cells := 0, slots := 0, locals := 22 })
set_option maxRecDepth 100000 in
theorem mk_X10_children : MK yX10_children M_X10_children 1 := ⟨tt_mem (List.mem_of_getElem? (i := 895) rfl) rfl, rfl, rfl, by decide +kernel⟩
def M_X10_depth : MD := (cX10_depth, RX10, 4, (some .int), { frames := 1, cells := 0, slots := 0, locals := 22 })
set_option maxRecDepth 100000 in
theorem mk_X10_depth : MK yX10_depth M_X10_depth 1 := ⟨tt_mem (List.mem_of_getElem? (i := 899) rfl) rfl, rfl, rfl, by decide +kernel⟩
def M_X10_nodeAt : MD := (cX10_nodeAt, RX10, 5, (some .int), { frames := 4, cells := 0, slots := 0, locals := 112 })
set_option maxRecDepth 100000 in
theorem mk_X10_nodeAt : MK yX10_nodeAt M_X10_nodeAt 4 := ⟨tt_mem (List.mem_of_getElem? (i := 903) rfl) rfl, rfl, rfl, by decide +kernel⟩
def M_X10_isNode : MD := (cX10_isNode, RX10, 4, (some .boolean), { frames := 2, cells := 0, slots := 0, locals := 46 })
set_option maxRecDepth 100000 in
theorem mk_X10_isNode : MK yX10_isNode M_X10_isNode 3 := ⟨tt_mem (List.mem_of_getElem? (i := 907) rfl) rfl, rfl, rfl, by decide +kernel⟩
def M_X10_cellAt : MD := (cX10_cellAt, RX10, 5, (some .long), { frames := 5, cells := 0, slots := 0, locals := 123 })
set_option maxRecDepth 100000 in
theorem mk_X10_cellAt : MK yX10_cellAt M_X10_cellAt 4 := ⟨tt_mem (List.mem_of_getElem? (i := 913) rfl) rfl, rfl, rfl, by decide +kernel⟩
def M_X10_isCell : MD := (cX10_isCell, RX10, 4, (some .boolean), { frames := 2, cells := 0, slots := 0, locals := 46 })
set_option maxRecDepth 100000 in
theorem mk_X10_isCell : MK yX10_isCell M_X10_isCell 3 := ⟨tt_mem (List.mem_of_getElem? (i := 917) rfl) rfl, rfl, rfl, by decide +kernel⟩
def M_X10_area : MD := (cX10_area, RX10, 4, (some .long), { frames := 4, cells := 0, slots := 0, locals := 98 })
set_option maxRecDepth 100000 in
theorem mk_X10_area : MK yX10_area M_X10_area 3 := ⟨tt_mem (List.mem_of_getElem? (i := 922) rfl) rfl, rfl, rfl, by decide +kernel⟩
def M_X10_which : MD := (cX10_which, RX10, 3, (some .int), { frames := 6, cells := 0, slots := 0, locals := 138 })
set_option maxRecDepth 100000 in
theorem mk_X10_which : MK yX10_which M_X10_which 2 := ⟨tt_mem (List.mem_of_getElem? (i := 927) rfl) rfl, rfl, rfl, by decide +kernel⟩
def M_X10_isPlace : MD := (cX10_isPlace, RX10, 2, (some .boolean), { frames := 1, cells := 0, slots := 0, locals := 25 })
set_option maxRecDepth 100000 in
theorem mk_X10_isPlace : MK yX10_isPlace M_X10_isPlace 2 := ⟨tt_mem (List.mem_of_getElem? (i := 930) rfl) rfl, rfl, rfl, by decide +kernel⟩
def M_X10_moved : MD := (cX10_moved, RX10, 4, (some .int), { frames := 7, cells := 0, slots := 0, locals := 162 })
set_option maxRecDepth 100000 in
theorem mk_X10_moved : MK yX10_moved M_X10_moved 3 := ⟨tt_mem (List.mem_of_getElem? (i := 935) rfl) rfl, rfl, rfl, by decide +kernel⟩
def M_X10_back : MD := (cX10_back, RX10, 7, (some .int), { frames := 7, cells := 0, slots := 0, locals := 162 })
set_option maxRecDepth 100000 in
theorem mk_X10_back : MK yX10_back M_X10_back 3 := ⟨tt_mem (List.mem_of_getElem? (i := 939) rfl) rfl, rfl, rfl, by decide +kernel⟩
def M_X10_wasThere : MD := (cX10_wasThere, RX10, 3, (some .boolean), { frames := 0, cells := 0, slots := 0, locals := 0 })
set_option maxRecDepth 100000 in
theorem mk_X10_wasThere : MK yX10_wasThere M_X10_wasThere 1 := ⟨tt_mem (List.mem_of_getElem? (i := 945) rfl) rfl, rfl, rfl, by decide +kernel⟩
def M_X10_grid : MD := (cX10_grid, RX10, 11, (some .int), { frames := 5, cells := 0, slots := 0, locals := 117 })
set_option maxRecDepth 100000 in
theorem mk_X10_grid : MK yX10_grid M_X10_grid 6 := ⟨tt_mem (List.mem_of_getElem? (i := 949) rfl) rfl, rfl, rfl, by decide +kernel⟩
def M_X10_mayBe : MD := (cX10_mayBe, RX10, 8, (some .boolean), { frames := 4, cells := 0, slots := 0, locals := 90 })
set_option maxRecDepth 100000 in
theorem mk_X10_mayBe : MK yX10_mayBe M_X10_mayBe 6 := ⟨tt_mem (List.mem_of_getElem? (i := 956) rfl) rfl, rfl, rfl, by decide +kernel⟩
def M_X10_overlaps : MD := (cX10_overlaps, RX10, 8, (some .boolean), { frames := 1, cells := 0, slots := 0, locals := 22 })
set_option maxRecDepth 100000 in
theorem mk_X10_overlaps : MK yX10_overlaps M_X10_overlaps 5 := ⟨tt_mem (List.mem_of_getElem? (i := 960) rfl) rfl, rfl, rfl, by decide +kernel⟩
def M_X10_notes : MD := (cX10_notes, RX10, 2, none, { frames := 0, cells := 0, slots := 0, locals := 0 })
set_option maxRecDepth 100000 in
theorem mk_X10_notes : MK yX10_notes M_X10_notes 0 := ⟨tt_mem (List.mem_of_getElem? (i := 966) rfl) rfl, rfl, rfl, by decide +kernel⟩
def M_X10_node : MD := (cX10_node, RX10, 6, (some .int), { frames := 3, cells := 0, slots := 0, locals := 69 })
set_option maxRecDepth 100000 in
theorem mk_X10_node : MK yX10_node M_X10_node 5 := ⟨tt_mem (List.mem_of_getElem? (i := 970) rfl) rfl, rfl, rfl, by decide +kernel⟩
def M_X10_isOffset : MD := (cX10_isOffset, RX10, 2, (some .boolean), { frames := 1, cells := 0, slots := 0, locals := 25 })
set_option maxRecDepth 100000 in
theorem mk_X10_isOffset : MK yX10_isOffset M_X10_isOffset 2 := ⟨tt_mem (List.mem_of_getElem? (i := 973) rfl) rfl, rfl, rfl, by decide +kernel⟩
def M_X10_sets : MD := (cX10_sets, RX10, 8, (some .int), { frames := 1, cells := 0, slots := 0, locals := 22 })
set_option maxRecDepth 100000 in
theorem mk_X10_sets : MK yX10_sets M_X10_sets 5 := ⟨tt_mem (List.mem_of_getElem? (i := 979) rfl) rfl, rfl, rfl, by decide +kernel⟩
def M_X10_fill : MD := (cX10_fill, RX10, 6, (some .int), { frames := 2, cells := 0, slots := 0, locals := 49 })
set_option maxRecDepth 100000 in
theorem mk_X10_fill : MK yX10_fill M_X10_fill 3 := ⟨tt_mem (List.mem_of_getElem? (i := 983) rfl) rfl, rfl, rfl, by decide +kernel⟩
def M_X10_fit : MD := (cX10_fit, RX10, 6, (some .int), { frames := 4, cells := 0, slots := 0, locals := 112 })
set_option maxRecDepth 100000 in
theorem mk_X10_fit : MK yX10_fit M_X10_fit 1 := ⟨tt_mem (List.mem_of_getElem? (i := 987) rfl) rfl, rfl, rfl, by decide +kernel⟩
def M_X10_drop : MD := (cX10_drop, RX10, 4, (some .int), { frames := 2, cells := 0, slots := 0, locals := 46 })
set_option maxRecDepth 100000 in
theorem mk_X10_drop : MK yX10_drop M_X10_drop 1 := ⟨tt_mem (List.mem_of_getElem? (i := 991) rfl) rfl, rfl, rfl, by decide +kernel⟩
def M_X10_rule : MD := (cX10_rule, RX10, 3, (some .int), { frames := 1, cells := 0, slots := 0, locals := 25 })
set_option maxRecDepth 100000 in
theorem mk_X10_rule : MK yX10_rule M_X10_rule 1 := ⟨tt_mem (List.mem_of_getElem? (i := 995) rfl) rfl, rfl, rfl, by decide +kernel⟩
def M_X10_drift : MD := (cX10_drift, RX10, 7, (some .int), { frames := 3, cells := 0, slots := 0, locals := 71 })
set_option maxRecDepth 100000 in
theorem mk_X10_drift : MK yX10_drift M_X10_drift 1 := ⟨tt_mem (List.mem_of_getElem? (i := 999) rfl) rfl, rfl, rfl, by decide +kernel⟩
def M_X10_draw : MD := (cX10_draw, RX10, 2, (some .int), { frames := 0, cells := 0, slots := 0, locals := 0 })
set_option maxRecDepth 100000 in
theorem mk_X10_draw : MK yX10_draw M_X10_draw 1 := ⟨tt_mem (List.mem_of_getElem? (i := 1004) rfl) rfl, rfl, rfl, by decide +kernel⟩
def M_X10_undo : MD := (cX10_undo, RX10, 3, (some .int), { frames := 1, cells := 0, slots := 0, locals := 25 })
set_option maxRecDepth 100000 in
theorem mk_X10_undo : MK yX10_undo M_X10_undo 1 := ⟨tt_mem (List.mem_of_getElem? (i := 1012) rfl) rfl, rfl, rfl, by decide +kernel⟩
def M_X10_write : MD := (cX10_write, RX10, 4, (some .int), { frames := 2, cells := 0, slots := 0, locals := 46 })
set_option maxRecDepth 100000 in
theorem mk_X10_write : MK yX10_write M_X10_write 3 := ⟨tt_mem (List.mem_of_getElem? (i := 1017) rfl) rfl, rfl, rfl, by decide +kernel⟩
def M_X10_tear : MD := (cX10_tear, RX10, 2, (some .int), { frames := 0, cells := 0, slots := 0, locals := 0 })
set_option maxRecDepth 100000 in
theorem mk_X10_tear : MK yX10_tear M_X10_tear 0 := ⟨tt_mem (List.mem_of_getElem? (i := 1021) rfl) rfl, rfl, rfl, by decide +kernel⟩
def M_X10_seed : MD := (cX10_seed, RX10, 3, (some .int), { frames := 0, cells := 0, slots := 0, locals := 0 })
set_option maxRecDepth 100000 in
theorem mk_X10_seed : MK yX10_seed M_X10_seed 1 := ⟨tt_mem (List.mem_of_getElem? (i := 1025) rfl) rfl, rfl, rfl, by decide +kernel⟩
def M_X10_keep : MD := (cX10_keep, RX10, 3, (some .int), { frames := 1, cells := 0, slots := 0, locals := 25 })
set_option maxRecDepth 100000 in
theorem mk_X10_keep : MK yX10_keep M_X10_keep 1 := ⟨tt_mem (List.mem_of_getElem? (i := 1029) rfl) rfl, rfl, rfl, by decide +kernel⟩
def M_X10_goBack : MD := (cX10_goBack, RX10, 3, (some .int), { frames := 1, cells := 0, slots := 0, locals := 25 })
set_option maxRecDepth 100000 in
theorem mk_X10_goBack : MK yX10_goBack M_X10_goBack 1 := ⟨tt_mem (List.mem_of_getElem? (i := 1033) rfl) rfl, rfl, rfl, by decide +kernel⟩
set_option maxRecDepth 100000 in
theorem vk_X0_25 : VK RX0 25 yX8_placeOffset := ⟨tt_mem (List.mem_of_getElem? (i := 409) rfl) rfl, tt_mem (List.mem_of_getElem? (i := 410) rfl) rfl, tt_mem (List.mem_of_getElem? (i := 411) rfl) rfl, tt_mem (List.mem_of_getElem? (i := 49) rfl) rfl⟩
set_option maxRecDepth 100000 in
theorem vk_X1_9 : VK RX1 9 yX4_isOnBorder := ⟨tt_mem (List.mem_of_getElem? (i := 365) rfl) rfl, tt_mem (List.mem_of_getElem? (i := 366) rfl) rfl, tt_mem (List.mem_of_getElem? (i := 367) rfl) rfl, tt_mem (List.mem_of_getElem? (i := 50) rfl) rfl⟩
set_option maxRecDepth 100000 in
theorem vk_X1_15 : VK RX1 15 yX4_columnPlace := ⟨tt_mem (List.mem_of_getElem? (i := 369) rfl) rfl, tt_mem (List.mem_of_getElem? (i := 310) rfl) rfl, tt_mem (List.mem_of_getElem? (i := 311) rfl) rfl, tt_mem (List.mem_of_getElem? (i := 50) rfl) rfl⟩
set_option maxRecDepth 100000 in
theorem vk_X1_19 : VK RX1 19 yX4_rowPlace := ⟨tt_mem (List.mem_of_getElem? (i := 370) rfl) rfl, tt_mem (List.mem_of_getElem? (i := 314) rfl) rfl, tt_mem (List.mem_of_getElem? (i := 315) rfl) rfl, tt_mem (List.mem_of_getElem? (i := 50) rfl) rfl⟩
set_option maxRecDepth 100000 in
theorem vk_X1_22 : VK RX1 22 yX4_offset := ⟨tt_mem (List.mem_of_getElem? (i := 371) rfl) rfl, tt_mem (List.mem_of_getElem? (i := 288) rfl) rfl, tt_mem (List.mem_of_getElem? (i := 289) rfl) rfl, tt_mem (List.mem_of_getElem? (i := 50) rfl) rfl⟩
set_option maxRecDepth 100000 in
theorem vk_X1_26 : VK RX1 26 yX4_offsetBy := ⟨tt_mem (List.mem_of_getElem? (i := 372) rfl) rfl, tt_mem (List.mem_of_getElem? (i := 373) rfl) rfl, tt_mem (List.mem_of_getElem? (i := 374) rfl) rfl, tt_mem (List.mem_of_getElem? (i := 50) rfl) rfl⟩
set_option maxRecDepth 100000 in
theorem sk_X1_30 : SK RX1 30 yJ9_abs_0f7a4 := ⟨tt_mem (List.mem_of_getElem? (i := 392) rfl) rfl, tt_mem (List.mem_of_getElem? (i := 329) rfl) rfl, tt_mem (List.mem_of_getElem? (i := 58) rfl) rfl⟩
set_option maxRecDepth 100000 in
theorem sk_X1_35 : SK RX1 35 yJ9_max_7cf53 := ⟨tt_mem (List.mem_of_getElem? (i := 393) rfl) rfl, tt_mem (List.mem_of_getElem? (i := 332) rfl) rfl, tt_mem (List.mem_of_getElem? (i := 58) rfl) rfl⟩
set_option maxRecDepth 100000 in
theorem vk_X1_43 : VK RX1 43 yX8_at := ⟨tt_mem (List.mem_of_getElem? (i := 360) rfl) rfl, tt_mem (List.mem_of_getElem? (i := 280) rfl) rfl, tt_mem (List.mem_of_getElem? (i := 281) rfl) rfl, tt_mem (List.mem_of_getElem? (i := 49) rfl) rfl⟩
set_option maxRecDepth 100000 in
theorem vk_X1_55 : VK RX1 55 yX8_ruleNow := ⟨tt_mem (List.mem_of_getElem? (i := 361) rfl) rfl, tt_mem (List.mem_of_getElem? (i := 272) rfl) rfl, tt_mem (List.mem_of_getElem? (i := 273) rfl) rfl, tt_mem (List.mem_of_getElem? (i := 49) rfl) rfl⟩
set_option maxRecDepth 100000 in
theorem sk_X1_59 : SK RX1 59 yX1_gap := ⟨tt_mem (List.mem_of_getElem? (i := 362) rfl) rfl, tt_mem (List.mem_of_getElem? (i := 363) rfl) rfl, tt_mem (List.mem_of_getElem? (i := 59) rfl) rfl⟩
set_option maxRecDepth 100000 in
theorem vk_X1_65 : VK RX1 65 yX4_setOffset := ⟨tt_mem (List.mem_of_getElem? (i := 605) rfl) rfl, tt_mem (List.mem_of_getElem? (i := 582) rfl) rfl, tt_mem (List.mem_of_getElem? (i := 583) rfl) rfl, tt_mem (List.mem_of_getElem? (i := 50) rfl) rfl⟩
set_option maxRecDepth 100000 in
theorem vk_X2_25 : VK RX2 25 yX4_side := ⟨tt_mem (List.mem_of_getElem? (i := 304) rfl) rfl, tt_mem (List.mem_of_getElem? (i := 305) rfl) rfl, tt_mem (List.mem_of_getElem? (i := 306) rfl) rfl, tt_mem (List.mem_of_getElem? (i := 50) rfl) rfl⟩
set_option maxRecDepth 100000 in
theorem vk_X2_34 : VK RX2 34 yX4_offset := ⟨tt_mem (List.mem_of_getElem? (i := 308) rfl) rfl, tt_mem (List.mem_of_getElem? (i := 288) rfl) rfl, tt_mem (List.mem_of_getElem? (i := 289) rfl) rfl, tt_mem (List.mem_of_getElem? (i := 50) rfl) rfl⟩
set_option maxRecDepth 100000 in
theorem vk_X2_38 : VK RX2 38 yX4_columnPlace := ⟨tt_mem (List.mem_of_getElem? (i := 309) rfl) rfl, tt_mem (List.mem_of_getElem? (i := 310) rfl) rfl, tt_mem (List.mem_of_getElem? (i := 311) rfl) rfl, tt_mem (List.mem_of_getElem? (i := 50) rfl) rfl⟩
set_option maxRecDepth 100000 in
theorem vk_X2_42 : VK RX2 42 yX4_rowPlace := ⟨tt_mem (List.mem_of_getElem? (i := 313) rfl) rfl, tt_mem (List.mem_of_getElem? (i := 314) rfl) rfl, tt_mem (List.mem_of_getElem? (i := 315) rfl) rfl, tt_mem (List.mem_of_getElem? (i := 50) rfl) rfl⟩
set_option maxRecDepth 100000 in
theorem sk_X2_45 : SK RX2 45 yJ9_abs_0f7a4 := ⟨tt_mem (List.mem_of_getElem? (i := 328) rfl) rfl, tt_mem (List.mem_of_getElem? (i := 329) rfl) rfl, tt_mem (List.mem_of_getElem? (i := 58) rfl) rfl⟩
set_option maxRecDepth 100000 in
theorem sk_X2_50 : SK RX2 50 yJ9_max_7cf53 := ⟨tt_mem (List.mem_of_getElem? (i := 331) rfl) rfl, tt_mem (List.mem_of_getElem? (i := 332) rfl) rfl, tt_mem (List.mem_of_getElem? (i := 58) rfl) rfl⟩
set_option maxRecDepth 100000 in
theorem sk_X2_54 : SK RX2 54 yX2_steepnessOf := ⟨tt_mem (List.mem_of_getElem? (i := 325) rfl) rfl, tt_mem (List.mem_of_getElem? (i := 326) rfl) rfl, tt_mem (List.mem_of_getElem? (i := 56) rfl) rfl⟩
set_option maxRecDepth 100000 in
theorem vk_X2_58 : VK RX2 58 yX2_steepness := ⟨tt_mem (List.mem_of_getElem? (i := 321) rfl) rfl, tt_mem (List.mem_of_getElem? (i := 322) rfl) rfl, tt_mem (List.mem_of_getElem? (i := 323) rfl) rfl, tt_mem (List.mem_of_getElem? (i := 56) rfl) rfl⟩
set_option maxRecDepth 100000 in
theorem sk_X2_61 : SK RX2 61 yJ9_floorMod_7cf53 := ⟨tt_mem (List.mem_of_getElem? (i := 350) rfl) rfl, tt_mem (List.mem_of_getElem? (i := 351) rfl) rfl, tt_mem (List.mem_of_getElem? (i := 58) rfl) rfl⟩
set_option maxRecDepth 100000 in
theorem vk_X2_64 : VK RX2 64 yX2_crossed := ⟨tt_mem (List.mem_of_getElem? (i := 346) rfl) rfl, tt_mem (List.mem_of_getElem? (i := 348) rfl) rfl, tt_mem (List.mem_of_getElem? (i := 4) rfl) rfl, tt_mem (List.mem_of_getElem? (i := 56) rfl) rfl⟩
set_option maxRecDepth 100000 in
theorem vk_X3_20 : VK RX3 20 yX8_size := ⟨tt_mem (List.mem_of_getElem? (i := 634) rfl) rfl, tt_mem (List.mem_of_getElem? (i := 268) rfl) rfl, tt_mem (List.mem_of_getElem? (i := 269) rfl) rfl, tt_mem (List.mem_of_getElem? (i := 49) rfl) rfl⟩
set_option maxRecDepth 100000 in
theorem vk_X3_26 : VK RX3 26 yX3_draw := ⟨tt_mem (List.mem_of_getElem? (i := 635) rfl) rfl, tt_mem (List.mem_of_getElem? (i := 637) rfl) rfl, tt_mem (List.mem_of_getElem? (i := 9) rfl) rfl, tt_mem (List.mem_of_getElem? (i := 54) rfl) rfl⟩
set_option maxRecDepth 100000 in
theorem vk_X3_30 : VK RX3 30 yX8_at := ⟨tt_mem (List.mem_of_getElem? (i := 643) rfl) rfl, tt_mem (List.mem_of_getElem? (i := 280) rfl) rfl, tt_mem (List.mem_of_getElem? (i := 281) rfl) rfl, tt_mem (List.mem_of_getElem? (i := 49) rfl) rfl⟩
set_option maxRecDepth 100000 in
theorem vk_X3_42 : VK RX3 42 yX4_setOffset := ⟨tt_mem (List.mem_of_getElem? (i := 644) rfl) rfl, tt_mem (List.mem_of_getElem? (i := 582) rfl) rfl, tt_mem (List.mem_of_getElem? (i := 583) rfl) rfl, tt_mem (List.mem_of_getElem? (i := 50) rfl) rfl⟩
set_option maxRecDepth 100000 in
theorem vk_X4_34 : VK RX4 34 yX4_place := ⟨tt_mem (List.mem_of_getElem? (i := 563) rfl) rfl, tt_mem (List.mem_of_getElem? (i := 564) rfl) rfl, tt_mem (List.mem_of_getElem? (i := 565) rfl) rfl, tt_mem (List.mem_of_getElem? (i := 50) rfl) rfl⟩
set_option maxRecDepth 100000 in
theorem cp_X4_38 : Cond.methodLink RX4 38 arraycopyName ∈ TT := tt_mem (List.mem_of_getElem? (i := 567) rfl) rfl
set_option maxRecDepth 100000 in
theorem cp_nat : Cond.native arraycopyName ∈ TT := tt_mem (List.mem_of_getElem? (i := 569) rfl) rfl
set_option maxRecDepth 100000 in
theorem cp_sta : Cond.static arraycopyName ∈ TT := tt_mem (List.mem_of_getElem? (i := 568) rfl) rfl
set_option maxRecDepth 100000 in
theorem cp_ini : Cond.initialized "java/lang/System" ∈ TT := tt_mem (List.mem_of_getElem? (i := 60) rfl) rfl
set_option maxRecDepth 100000 in
theorem vk_X4_44 : VK RX4 44 yX4_right := ⟨tt_mem (List.mem_of_getElem? (i := 421) rfl) rfl, tt_mem (List.mem_of_getElem? (i := 422) rfl) rfl, tt_mem (List.mem_of_getElem? (i := 423) rfl) rfl, tt_mem (List.mem_of_getElem? (i := 50) rfl) rfl⟩
set_option maxRecDepth 100000 in
theorem vk_X4_48 : VK RX4 48 yX4_bottom := ⟨tt_mem (List.mem_of_getElem? (i := 425) rfl) rfl, tt_mem (List.mem_of_getElem? (i := 426) rfl) rfl, tt_mem (List.mem_of_getElem? (i := 427) rfl) rfl, tt_mem (List.mem_of_getElem? (i := 50) rfl) rfl⟩
set_option maxRecDepth 100000 in
theorem vk_X4_51 : VK RX4 51 yX4_setOffset := ⟨tt_mem (List.mem_of_getElem? (i := 581) rfl) rfl, tt_mem (List.mem_of_getElem? (i := 582) rfl) rfl, tt_mem (List.mem_of_getElem? (i := 583) rfl) rfl, tt_mem (List.mem_of_getElem? (i := 50) rfl) rfl⟩
set_option maxRecDepth 100000 in
theorem vk_X4_55 : VK RX4 55 yX4_offset := ⟨tt_mem (List.mem_of_getElem? (i := 287) rfl) rfl, tt_mem (List.mem_of_getElem? (i := 288) rfl) rfl, tt_mem (List.mem_of_getElem? (i := 289) rfl) rfl, tt_mem (List.mem_of_getElem? (i := 50) rfl) rfl⟩
set_option maxRecDepth 100000 in
theorem sk_X4_59 : SK RX4 59 yJ9_min_7cf53 := ⟨tt_mem (List.mem_of_getElem? (i := 381) rfl) rfl, tt_mem (List.mem_of_getElem? (i := 382) rfl) rfl, tt_mem (List.mem_of_getElem? (i := 58) rfl) rfl⟩
set_option maxRecDepth 100000 in
theorem vk_X4_65 : VK RX4 65 yX4_columnPlace := ⟨tt_mem (List.mem_of_getElem? (i := 376) rfl) rfl, tt_mem (List.mem_of_getElem? (i := 310) rfl) rfl, tt_mem (List.mem_of_getElem? (i := 311) rfl) rfl, tt_mem (List.mem_of_getElem? (i := 50) rfl) rfl⟩
set_option maxRecDepth 100000 in
theorem vk_X4_69 : VK RX4 69 yX4_side := ⟨tt_mem (List.mem_of_getElem? (i := 377) rfl) rfl, tt_mem (List.mem_of_getElem? (i := 305) rfl) rfl, tt_mem (List.mem_of_getElem? (i := 306) rfl) rfl, tt_mem (List.mem_of_getElem? (i := 50) rfl) rfl⟩
set_option maxRecDepth 100000 in
theorem sk_X4_72 : SK RX4 72 yX4_cellAhead := ⟨tt_mem (List.mem_of_getElem? (i := 378) rfl) rfl, tt_mem (List.mem_of_getElem? (i := 379) rfl) rfl, tt_mem (List.mem_of_getElem? (i := 50) rfl) rfl⟩
set_option maxRecDepth 100000 in
theorem vk_X4_75 : VK RX4 75 yX4_rowPlace := ⟨tt_mem (List.mem_of_getElem? (i := 384) rfl) rfl, tt_mem (List.mem_of_getElem? (i := 314) rfl) rfl, tt_mem (List.mem_of_getElem? (i := 315) rfl) rfl, tt_mem (List.mem_of_getElem? (i := 50) rfl) rfl⟩
set_option maxRecDepth 100000 in
theorem sk_X4_78 : SK RX4 78 yX4_rounded := ⟨tt_mem (List.mem_of_getElem? (i := 385) rfl) rfl, tt_mem (List.mem_of_getElem? (i := 386) rfl) rfl, tt_mem (List.mem_of_getElem? (i := 50) rfl) rfl⟩
set_option maxRecDepth 100000 in
theorem sk_X4_84 : SK RX4 84 yJ9_floorDiv_f86c9 := ⟨tt_mem (List.mem_of_getElem? (i := 389) rfl) rfl, tt_mem (List.mem_of_getElem? (i := 390) rfl) rfl, tt_mem (List.mem_of_getElem? (i := 58) rfl) rfl⟩
set_option maxRecDepth 100000 in
theorem sk_X5_25 : SK RX5 25 yJ9_floorMod_7cf53 := ⟨tt_mem (List.mem_of_getElem? (i := 554) rfl) rfl, tt_mem (List.mem_of_getElem? (i := 351) rfl) rfl, tt_mem (List.mem_of_getElem? (i := 58) rfl) rfl⟩
set_option maxRecDepth 100000 in
theorem vk_X5_31 : VK RX5 31 yX8_copyFrom := ⟨tt_mem (List.mem_of_getElem? (i := 555) rfl) rfl, tt_mem (List.mem_of_getElem? (i := 556) rfl) rfl, tt_mem (List.mem_of_getElem? (i := 557) rfl) rfl, tt_mem (List.mem_of_getElem? (i := 49) rfl) rfl⟩
set_option maxRecDepth 100000 in
theorem sk_X5_35 : SK RX5 35 yJ9_min_7cf53 := ⟨tt_mem (List.mem_of_getElem? (i := 570) rfl) rfl, tt_mem (List.mem_of_getElem? (i := 382) rfl) rfl, tt_mem (List.mem_of_getElem? (i := 58) rfl) rfl⟩
set_option maxRecDepth 100000 in
theorem sk_X5_38 : SK RX5 38 yJ9_max_7cf53 := ⟨tt_mem (List.mem_of_getElem? (i := 653) rfl) rfl, tt_mem (List.mem_of_getElem? (i := 332) rfl) rfl, tt_mem (List.mem_of_getElem? (i := 58) rfl) rfl⟩
set_option maxRecDepth 100000 in
theorem vk_X6_20 : VK RX6 20 yX8_copyFrom := ⟨tt_mem (List.mem_of_getElem? (i := 690) rfl) rfl, tt_mem (List.mem_of_getElem? (i := 556) rfl) rfl, tt_mem (List.mem_of_getElem? (i := 557) rfl) rfl, tt_mem (List.mem_of_getElem? (i := 49) rfl) rfl⟩
set_option maxRecDepth 100000 in
theorem vk_X6_24 : VK RX6 24 yX3_seedNow := ⟨tt_mem (List.mem_of_getElem? (i := 691) rfl) rfl, tt_mem (List.mem_of_getElem? (i := 435) rfl) rfl, tt_mem (List.mem_of_getElem? (i := 436) rfl) rfl, tt_mem (List.mem_of_getElem? (i := 54) rfl) rfl⟩
set_option maxRecDepth 100000 in
theorem vk_X6_34 : VK RX6 34 yX3_setSeed := ⟨tt_mem (List.mem_of_getElem? (i := 708) rfl) rfl, tt_mem (List.mem_of_getElem? (i := 675) rfl) rfl, tt_mem (List.mem_of_getElem? (i := 676) rfl) rfl, tt_mem (List.mem_of_getElem? (i := 54) rfl) rfl⟩
set_option maxRecDepth 100000 in
theorem vk_X7_29 : VK RX7 29 yX8_placeOffset := ⟨tt_mem (List.mem_of_getElem? (i := 510) rfl) rfl, tt_mem (List.mem_of_getElem? (i := 410) rfl) rfl, tt_mem (List.mem_of_getElem? (i := 411) rfl) rfl, tt_mem (List.mem_of_getElem? (i := 49) rfl) rfl⟩
set_option maxRecDepth 100000 in
theorem vk_X7_35 : VK RX7 35 yX7_kindOf := ⟨tt_mem (List.mem_of_getElem? (i := 511) rfl) rfl, tt_mem (List.mem_of_getElem? (i := 513) rfl) rfl, tt_mem (List.mem_of_getElem? (i := 7) rfl) rfl, tt_mem (List.mem_of_getElem? (i := 55) rfl) rfl⟩
set_option maxRecDepth 100000 in
theorem vk_X8_25 : VK RX8 25 yX8_at := ⟨tt_mem (List.mem_of_getElem? (i := 279) rfl) rfl, tt_mem (List.mem_of_getElem? (i := 280) rfl) rfl, tt_mem (List.mem_of_getElem? (i := 281) rfl) rfl, tt_mem (List.mem_of_getElem? (i := 49) rfl) rfl⟩
set_option maxRecDepth 100000 in
theorem vk_X8_29 : VK RX8 29 yX4_copyFrom := ⟨tt_mem (List.mem_of_getElem? (i := 559) rfl) rfl, tt_mem (List.mem_of_getElem? (i := 560) rfl) rfl, tt_mem (List.mem_of_getElem? (i := 561) rfl) rfl, tt_mem (List.mem_of_getElem? (i := 50) rfl) rfl⟩
set_option maxRecDepth 100000 in
theorem vk_X8_39 : VK RX8 39 yX4_right := ⟨tt_mem (List.mem_of_getElem? (i := 542) rfl) rfl, tt_mem (List.mem_of_getElem? (i := 422) rfl) rfl, tt_mem (List.mem_of_getElem? (i := 423) rfl) rfl, tt_mem (List.mem_of_getElem? (i := 50) rfl) rfl⟩
set_option maxRecDepth 100000 in
theorem vk_X8_46 : VK RX8 46 yX4_bottom := ⟨tt_mem (List.mem_of_getElem? (i := 543) rfl) rfl, tt_mem (List.mem_of_getElem? (i := 426) rfl) rfl, tt_mem (List.mem_of_getElem? (i := 427) rfl) rfl, tt_mem (List.mem_of_getElem? (i := 50) rfl) rfl⟩
set_option maxRecDepth 100000 in
theorem vk_X8_53 : VK RX8 53 yX4_place := ⟨tt_mem (List.mem_of_getElem? (i := 576) rfl) rfl, tt_mem (List.mem_of_getElem? (i := 564) rfl) rfl, tt_mem (List.mem_of_getElem? (i := 565) rfl) rfl, tt_mem (List.mem_of_getElem? (i := 50) rfl) rfl⟩
set_option maxRecDepth 100000 in
theorem vk_X8_57 : VK RX8 57 yX4_setOffsets := ⟨tt_mem (List.mem_of_getElem? (i := 577) rfl) rfl, tt_mem (List.mem_of_getElem? (i := 578) rfl) rfl, tt_mem (List.mem_of_getElem? (i := 579) rfl) rfl, tt_mem (List.mem_of_getElem? (i := 50) rfl) rfl⟩
set_option maxRecDepth 100000 in
theorem vk_X8_61 : VK RX8 61 yX8_lowerParentsBehind := ⟨tt_mem (List.mem_of_getElem? (i := 614) rfl) rfl, tt_mem (List.mem_of_getElem? (i := 616) rfl) rfl, tt_mem (List.mem_of_getElem? (i := 8) rfl) rfl, tt_mem (List.mem_of_getElem? (i := 49) rfl) rfl⟩
set_option maxRecDepth 100000 in
theorem vk_X8_65 : VK RX8 65 yX4_shiftedNodes := ⟨tt_mem (List.mem_of_getElem? (i := 283) rfl) rfl, tt_mem (List.mem_of_getElem? (i := 284) rfl) rfl, tt_mem (List.mem_of_getElem? (i := 285) rfl) rfl, tt_mem (List.mem_of_getElem? (i := 50) rfl) rfl⟩
set_option maxRecDepth 100000 in
theorem vk_X8_68 : VK RX8 68 yX4_isOnGround := ⟨tt_mem (List.mem_of_getElem? (i := 417) rfl) rfl, tt_mem (List.mem_of_getElem? (i := 418) rfl) rfl, tt_mem (List.mem_of_getElem? (i := 419) rfl) rfl, tt_mem (List.mem_of_getElem? (i := 50) rfl) rfl⟩
set_option maxRecDepth 100000 in
theorem vk_X8_72 : VK RX8 72 yX8_owner := ⟨tt_mem (List.mem_of_getElem? (i := 413) rfl) rfl, tt_mem (List.mem_of_getElem? (i := 414) rfl) rfl, tt_mem (List.mem_of_getElem? (i := 415) rfl) rfl, tt_mem (List.mem_of_getElem? (i := 49) rfl) rfl⟩
set_option maxRecDepth 100000 in
theorem vk_X8_75 : VK RX8 75 yX4_offsetBy := ⟨tt_mem (List.mem_of_getElem? (i := 429) rfl) rfl, tt_mem (List.mem_of_getElem? (i := 373) rfl) rfl, tt_mem (List.mem_of_getElem? (i := 374) rfl) rfl, tt_mem (List.mem_of_getElem? (i := 50) rfl) rfl⟩
set_option maxRecDepth 100000 in
theorem vk_X9_61 : VK RX9 61 yX8_size := ⟨tt_mem (List.mem_of_getElem? (i := 267) rfl) rfl, tt_mem (List.mem_of_getElem? (i := 268) rfl) rfl, tt_mem (List.mem_of_getElem? (i := 269) rfl) rfl, tt_mem (List.mem_of_getElem? (i := 49) rfl) rfl⟩
set_option maxRecDepth 100000 in
theorem vk_X9_65 : VK RX9 65 yX8_ruleNow := ⟨tt_mem (List.mem_of_getElem? (i := 271) rfl) rfl, tt_mem (List.mem_of_getElem? (i := 272) rfl) rfl, tt_mem (List.mem_of_getElem? (i := 273) rfl) rfl, tt_mem (List.mem_of_getElem? (i := 49) rfl) rfl⟩
set_option maxRecDepth 100000 in
theorem vk_X9_68 : VK RX9 68 yX8_shiftedNodes := ⟨tt_mem (List.mem_of_getElem? (i := 275) rfl) rfl, tt_mem (List.mem_of_getElem? (i := 276) rfl) rfl, tt_mem (List.mem_of_getElem? (i := 277) rfl) rfl, tt_mem (List.mem_of_getElem? (i := 49) rfl) rfl⟩
set_option maxRecDepth 100000 in
theorem vk_X9_71 : VK RX9 71 yX9_unsureCellsOfAll := ⟨tt_mem (List.mem_of_getElem? (i := 291) rfl) rfl, tt_mem (List.mem_of_getElem? (i := 293) rfl) rfl, tt_mem (List.mem_of_getElem? (i := 0) rfl) rfl, tt_mem (List.mem_of_getElem? (i := 48) rfl) rfl⟩
set_option maxRecDepth 100000 in
theorem vk_X9_74 : VK RX9 74 yX9_foldedCellsOfAll := ⟨tt_mem (List.mem_of_getElem? (i := 334) rfl) rfl, tt_mem (List.mem_of_getElem? (i := 336) rfl) rfl, tt_mem (List.mem_of_getElem? (i := 2) rfl) rfl, tt_mem (List.mem_of_getElem? (i := 48) rfl) rfl⟩
set_option maxRecDepth 100000 in
theorem vk_X9_77 : VK RX9 77 yX9_gapsOfAll := ⟨tt_mem (List.mem_of_getElem? (i := 353) rfl) rfl, tt_mem (List.mem_of_getElem? (i := 355) rfl) rfl, tt_mem (List.mem_of_getElem? (i := 5) rfl) rfl, tt_mem (List.mem_of_getElem? (i := 48) rfl) rfl⟩
set_option maxRecDepth 100000 in
theorem vk_X9_80 : VK RX9 80 yX9_firstWithGreatestGap := ⟨tt_mem (List.mem_of_getElem? (i := 394) rfl) rfl, tt_mem (List.mem_of_getElem? (i := 396) rfl) rfl, tt_mem (List.mem_of_getElem? (i := 6) rfl) rfl, tt_mem (List.mem_of_getElem? (i := 48) rfl) rfl⟩
set_option maxRecDepth 100000 in
theorem vk_X9_83 : VK RX9 83 yX8_at := ⟨tt_mem (List.mem_of_getElem? (i := 295) rfl) rfl, tt_mem (List.mem_of_getElem? (i := 280) rfl) rfl, tt_mem (List.mem_of_getElem? (i := 281) rfl) rfl, tt_mem (List.mem_of_getElem? (i := 49) rfl) rfl⟩
set_option maxRecDepth 100000 in
theorem sk_X9_87 : SK RX9 87 yX1_greatestGap := ⟨tt_mem (List.mem_of_getElem? (i := 398) rfl) rfl, tt_mem (List.mem_of_getElem? (i := 399) rfl) rfl, tt_mem (List.mem_of_getElem? (i := 59) rfl) rfl⟩
set_option maxRecDepth 100000 in
theorem vk_X9_93 : VK RX9 93 yX0_size := ⟨tt_mem (List.mem_of_getElem? (i := 401) rfl) rfl, tt_mem (List.mem_of_getElem? (i := 402) rfl) rfl, tt_mem (List.mem_of_getElem? (i := 403) rfl) rfl, tt_mem (List.mem_of_getElem? (i := 53) rfl) rfl⟩
set_option maxRecDepth 100000 in
theorem vk_X9_94 : VK RX9 94 yX0_firstWrong := ⟨tt_mem (List.mem_of_getElem? (i := 405) rfl) rfl, tt_mem (List.mem_of_getElem? (i := 406) rfl) rfl, tt_mem (List.mem_of_getElem? (i := 407) rfl) rfl, tt_mem (List.mem_of_getElem? (i := 53) rfl) rfl⟩
set_option maxRecDepth 100000 in
theorem vk_X9_98 : VK RX9 98 yX5_size := ⟨tt_mem (List.mem_of_getElem? (i := 430) rfl) rfl, tt_mem (List.mem_of_getElem? (i := 431) rfl) rfl, tt_mem (List.mem_of_getElem? (i := 432) rfl) rfl, tt_mem (List.mem_of_getElem? (i := 51) rfl) rfl⟩
set_option maxRecDepth 100000 in
theorem vk_X9_99 : VK RX9 99 yX3_seedNow := ⟨tt_mem (List.mem_of_getElem? (i := 434) rfl) rfl, tt_mem (List.mem_of_getElem? (i := 435) rfl) rfl, tt_mem (List.mem_of_getElem? (i := 436) rfl) rfl, tt_mem (List.mem_of_getElem? (i := 54) rfl) rfl⟩
set_option maxRecDepth 100000 in
theorem vk_X9_125 : VK RX9 125 yX8_children := ⟨tt_mem (List.mem_of_getElem? (i := 444) rfl) rfl, tt_mem (List.mem_of_getElem? (i := 445) rfl) rfl, tt_mem (List.mem_of_getElem? (i := 446) rfl) rfl, tt_mem (List.mem_of_getElem? (i := 49) rfl) rfl⟩
set_option maxRecDepth 100000 in
theorem vk_X9_129 : VK RX9 129 yX8_parentsAbove := ⟨tt_mem (List.mem_of_getElem? (i := 448) rfl) rfl, tt_mem (List.mem_of_getElem? (i := 449) rfl) rfl, tt_mem (List.mem_of_getElem? (i := 450) rfl) rfl, tt_mem (List.mem_of_getElem? (i := 49) rfl) rfl⟩
set_option maxRecDepth 100000 in
theorem sk_X9_132 : SK RX9 132 yX1_gaps := ⟨tt_mem (List.mem_of_getElem? (i := 357) rfl) rfl, tt_mem (List.mem_of_getElem? (i := 358) rfl) rfl, tt_mem (List.mem_of_getElem? (i := 59) rfl) rfl⟩
set_option maxRecDepth 100000 in
theorem vk_X9_135 : VK RX9 135 yX9_foldedCells := ⟨tt_mem (List.mem_of_getElem? (i := 338) rfl) rfl, tt_mem (List.mem_of_getElem? (i := 340) rfl) rfl, tt_mem (List.mem_of_getElem? (i := 3) rfl) rfl, tt_mem (List.mem_of_getElem? (i := 48) rfl) rfl⟩
set_option maxRecDepth 100000 in
theorem vk_X9_139 : VK RX9 139 yX4_hasNode := ⟨tt_mem (List.mem_of_getElem? (i := 456) rfl) rfl, tt_mem (List.mem_of_getElem? (i := 457) rfl) rfl, tt_mem (List.mem_of_getElem? (i := 458) rfl) rfl, tt_mem (List.mem_of_getElem? (i := 50) rfl) rfl⟩
set_option maxRecDepth 100000 in
theorem sk_X9_143 : SK RX9 143 yX9_isWithin := ⟨tt_mem (List.mem_of_getElem? (i := 460) rfl) rfl, tt_mem (List.mem_of_getElem? (i := 461) rfl) rfl, tt_mem (List.mem_of_getElem? (i := 48) rfl) rfl⟩
set_option maxRecDepth 100000 in
theorem vk_X9_147 : VK RX9 147 yX4_offset := ⟨tt_mem (List.mem_of_getElem? (i := 463) rfl) rfl, tt_mem (List.mem_of_getElem? (i := 288) rfl) rfl, tt_mem (List.mem_of_getElem? (i := 289) rfl) rfl, tt_mem (List.mem_of_getElem? (i := 50) rfl) rfl⟩
set_option maxRecDepth 100000 in
theorem vk_X9_152 : VK RX9 152 yX4_columnPlace := ⟨tt_mem (List.mem_of_getElem? (i := 465) rfl) rfl, tt_mem (List.mem_of_getElem? (i := 310) rfl) rfl, tt_mem (List.mem_of_getElem? (i := 311) rfl) rfl, tt_mem (List.mem_of_getElem? (i := 50) rfl) rfl⟩
set_option maxRecDepth 100000 in
theorem vk_X9_155 : VK RX9 155 yX4_rowPlace := ⟨tt_mem (List.mem_of_getElem? (i := 466) rfl) rfl, tt_mem (List.mem_of_getElem? (i := 314) rfl) rfl, tt_mem (List.mem_of_getElem? (i := 315) rfl) rfl, tt_mem (List.mem_of_getElem? (i := 50) rfl) rfl⟩
set_option maxRecDepth 100000 in
theorem vk_X9_158 : VK RX9 158 yX4_offsetBy := ⟨tt_mem (List.mem_of_getElem? (i := 467) rfl) rfl, tt_mem (List.mem_of_getElem? (i := 373) rfl) rfl, tt_mem (List.mem_of_getElem? (i := 374) rfl) rfl, tt_mem (List.mem_of_getElem? (i := 50) rfl) rfl⟩
set_option maxRecDepth 100000 in
theorem vk_X9_162 : VK RX9 162 yX4_hasCell := ⟨tt_mem (List.mem_of_getElem? (i := 472) rfl) rfl, tt_mem (List.mem_of_getElem? (i := 473) rfl) rfl, tt_mem (List.mem_of_getElem? (i := 474) rfl) rfl, tt_mem (List.mem_of_getElem? (i := 50) rfl) rfl⟩
set_option maxRecDepth 100000 in
theorem vk_X9_167 : VK RX9 167 yX2_look := ⟨tt_mem (List.mem_of_getElem? (i := 300) rfl) rfl, tt_mem (List.mem_of_getElem? (i := 301) rfl) rfl, tt_mem (List.mem_of_getElem? (i := 302) rfl) rfl, tt_mem (List.mem_of_getElem? (i := 56) rfl) rfl⟩
set_option maxRecDepth 100000 in
theorem vk_X9_171 : VK RX9 171 yX2_steepness := ⟨tt_mem (List.mem_of_getElem? (i := 477) rfl) rfl, tt_mem (List.mem_of_getElem? (i := 322) rfl) rfl, tt_mem (List.mem_of_getElem? (i := 323) rfl) rfl, tt_mem (List.mem_of_getElem? (i := 56) rfl) rfl⟩
set_option maxRecDepth 100000 in
theorem vk_X9_174 : VK RX9 174 yX2_isSure := ⟨tt_mem (List.mem_of_getElem? (i := 317) rfl) rfl, tt_mem (List.mem_of_getElem? (i := 318) rfl) rfl, tt_mem (List.mem_of_getElem? (i := 319) rfl) rfl, tt_mem (List.mem_of_getElem? (i := 56) rfl) rfl⟩
set_option maxRecDepth 100000 in
theorem vk_X9_178 : VK RX9 178 yX2_isFolded := ⟨tt_mem (List.mem_of_getElem? (i := 342) rfl) rfl, tt_mem (List.mem_of_getElem? (i := 343) rfl) rfl, tt_mem (List.mem_of_getElem? (i := 344) rfl) rfl, tt_mem (List.mem_of_getElem? (i := 56) rfl) rfl⟩
set_option maxRecDepth 100000 in
theorem vk_X9_181 : VK RX9 181 yX2_area := ⟨tt_mem (List.mem_of_getElem? (i := 478) rfl) rfl, tt_mem (List.mem_of_getElem? (i := 479) rfl) rfl, tt_mem (List.mem_of_getElem? (i := 480) rfl) rfl, tt_mem (List.mem_of_getElem? (i := 56) rfl) rfl⟩
set_option maxRecDepth 100000 in
theorem sk_X9_187 : SK RX9 187 yX9_isPlace := ⟨tt_mem (List.mem_of_getElem? (i := 487) rfl) rfl, tt_mem (List.mem_of_getElem? (i := 488) rfl) rfl, tt_mem (List.mem_of_getElem? (i := 48) rfl) rfl⟩
set_option maxRecDepth 100000 in
theorem vk_X9_190 : VK RX9 190 yX8_owner := ⟨tt_mem (List.mem_of_getElem? (i := 491) rfl) rfl, tt_mem (List.mem_of_getElem? (i := 414) rfl) rfl, tt_mem (List.mem_of_getElem? (i := 415) rfl) rfl, tt_mem (List.mem_of_getElem? (i := 49) rfl) rfl⟩
set_option maxRecDepth 100000 in
theorem vk_X9_194 : VK RX9 194 yX8_placeOffset := ⟨tt_mem (List.mem_of_getElem? (i := 496) rfl) rfl, tt_mem (List.mem_of_getElem? (i := 410) rfl) rfl, tt_mem (List.mem_of_getElem? (i := 411) rfl) rfl, tt_mem (List.mem_of_getElem? (i := 49) rfl) rfl⟩
set_option maxRecDepth 100000 in
theorem sk_X9_197 : SK RX9 197 yX9_isNewPlace := ⟨tt_mem (List.mem_of_getElem? (i := 501) rfl) rfl, tt_mem (List.mem_of_getElem? (i := 502) rfl) rfl, tt_mem (List.mem_of_getElem? (i := 48) rfl) rfl⟩
set_option maxRecDepth 100000 in
theorem vk_X9_200 : VK RX9 200 yX7_run := ⟨tt_mem (List.mem_of_getElem? (i := 505) rfl) rfl, tt_mem (List.mem_of_getElem? (i := 506) rfl) rfl, tt_mem (List.mem_of_getElem? (i := 507) rfl) rfl, tt_mem (List.mem_of_getElem? (i := 55) rfl) rfl⟩
set_option maxRecDepth 100000 in
theorem vk_X9_204 : VK RX9 204 yX7_kindNow := ⟨tt_mem (List.mem_of_getElem? (i := 515) rfl) rfl, tt_mem (List.mem_of_getElem? (i := 516) rfl) rfl, tt_mem (List.mem_of_getElem? (i := 517) rfl) rfl, tt_mem (List.mem_of_getElem? (i := 55) rfl) rfl⟩
set_option maxRecDepth 100000 in
theorem vk_X9_207 : VK RX9 207 yX7_rounds := ⟨tt_mem (List.mem_of_getElem? (i := 519) rfl) rfl, tt_mem (List.mem_of_getElem? (i := 520) rfl) rfl, tt_mem (List.mem_of_getElem? (i := 521) rfl) rfl, tt_mem (List.mem_of_getElem? (i := 55) rfl) rfl⟩
set_option maxRecDepth 100000 in
theorem vk_X9_210 : VK RX9 210 yX7_lastX := ⟨tt_mem (List.mem_of_getElem? (i := 523) rfl) rfl, tt_mem (List.mem_of_getElem? (i := 524) rfl) rfl, tt_mem (List.mem_of_getElem? (i := 525) rfl) rfl, tt_mem (List.mem_of_getElem? (i := 55) rfl) rfl⟩
set_option maxRecDepth 100000 in
theorem vk_X9_213 : VK RX9 213 yX7_lastY := ⟨tt_mem (List.mem_of_getElem? (i := 527) rfl) rfl, tt_mem (List.mem_of_getElem? (i := 528) rfl) rfl, tt_mem (List.mem_of_getElem? (i := 529) rfl) rfl, tt_mem (List.mem_of_getElem? (i := 55) rfl) rfl⟩
set_option maxRecDepth 100000 in
theorem sk_X9_216 : SK RX9 216 yX9_isGridWithin := ⟨tt_mem (List.mem_of_getElem? (i := 535) rfl) rfl, tt_mem (List.mem_of_getElem? (i := 536) rfl) rfl, tt_mem (List.mem_of_getElem? (i := 48) rfl) rfl⟩
set_option maxRecDepth 100000 in
theorem vk_X9_220 : VK RX9 220 yX8_fitsParent := ⟨tt_mem (List.mem_of_getElem? (i := 538) rfl) rfl, tt_mem (List.mem_of_getElem? (i := 539) rfl) rfl, tt_mem (List.mem_of_getElem? (i := 540) rfl) rfl, tt_mem (List.mem_of_getElem? (i := 49) rfl) rfl⟩
set_option maxRecDepth 100000 in
theorem vk_X9_224 : VK RX9 224 yX8_isApart := ⟨tt_mem (List.mem_of_getElem? (i := 544) rfl) rfl, tt_mem (List.mem_of_getElem? (i := 545) rfl) rfl, tt_mem (List.mem_of_getElem? (i := 546) rfl) rfl, tt_mem (List.mem_of_getElem? (i := 49) rfl) rfl⟩
set_option maxRecDepth 100000 in
theorem vk_X9_229 : VK RX9 229 yX5_push := ⟨tt_mem (List.mem_of_getElem? (i := 550) rfl) rfl, tt_mem (List.mem_of_getElem? (i := 551) rfl) rfl, tt_mem (List.mem_of_getElem? (i := 552) rfl) rfl, tt_mem (List.mem_of_getElem? (i := 51) rfl) rfl⟩
set_option maxRecDepth 100000 in
theorem vk_X9_233 : VK RX9 233 yX8_add := ⟨tt_mem (List.mem_of_getElem? (i := 571) rfl) rfl, tt_mem (List.mem_of_getElem? (i := 572) rfl) rfl, tt_mem (List.mem_of_getElem? (i := 573) rfl) rfl, tt_mem (List.mem_of_getElem? (i := 49) rfl) rfl⟩
set_option maxRecDepth 100000 in
theorem sk_X9_237 : SK RX9 237 yX9_isOffset := ⟨tt_mem (List.mem_of_getElem? (i := 589) rfl) rfl, tt_mem (List.mem_of_getElem? (i := 590) rfl) rfl, tt_mem (List.mem_of_getElem? (i := 48) rfl) rfl⟩
set_option maxRecDepth 100000 in
theorem vk_X9_240 : VK RX9 240 yX4_setOffset := ⟨tt_mem (List.mem_of_getElem? (i := 592) rfl) rfl, tt_mem (List.mem_of_getElem? (i := 582) rfl) rfl, tt_mem (List.mem_of_getElem? (i := 583) rfl) rfl, tt_mem (List.mem_of_getElem? (i := 50) rfl) rfl⟩
set_option maxRecDepth 100000 in
theorem vk_X9_244 : VK RX9 244 yX4_setOffsets := ⟨tt_mem (List.mem_of_getElem? (i := 597) rfl) rfl, tt_mem (List.mem_of_getElem? (i := 578) rfl) rfl, tt_mem (List.mem_of_getElem? (i := 579) rfl) rfl, tt_mem (List.mem_of_getElem? (i := 50) rfl) rfl⟩
set_option maxRecDepth 100000 in
theorem sk_X9_247 : SK RX9 247 yX1_meet := ⟨tt_mem (List.mem_of_getElem? (i := 602) rfl) rfl, tt_mem (List.mem_of_getElem? (i := 603) rfl) rfl, tt_mem (List.mem_of_getElem? (i := 59) rfl) rfl⟩
set_option maxRecDepth 100000 in
theorem vk_X9_251 : VK RX9 251 yX8_remove := ⟨tt_mem (List.mem_of_getElem? (i := 610) rfl) rfl, tt_mem (List.mem_of_getElem? (i := 611) rfl) rfl, tt_mem (List.mem_of_getElem? (i := 612) rfl) rfl, tt_mem (List.mem_of_getElem? (i := 49) rfl) rfl⟩
set_option maxRecDepth 100000 in
theorem vk_X9_255 : VK RX9 255 yX8_setRule := ⟨tt_mem (List.mem_of_getElem? (i := 622) rfl) rfl, tt_mem (List.mem_of_getElem? (i := 623) rfl) rfl, tt_mem (List.mem_of_getElem? (i := 624) rfl) rfl, tt_mem (List.mem_of_getElem? (i := 49) rfl) rfl⟩
set_option maxRecDepth 100000 in
theorem vk_X9_258 : VK RX9 258 yX3_shiftNode := ⟨tt_mem (List.mem_of_getElem? (i := 630) rfl) rfl, tt_mem (List.mem_of_getElem? (i := 631) rfl) rfl, tt_mem (List.mem_of_getElem? (i := 632) rfl) rfl, tt_mem (List.mem_of_getElem? (i := 54) rfl) rfl⟩
set_option maxRecDepth 100000 in
theorem vk_X9_261 : VK RX9 261 yX5_takeBack := ⟨tt_mem (List.mem_of_getElem? (i := 649) rfl) rfl, tt_mem (List.mem_of_getElem? (i := 650) rfl) rfl, tt_mem (List.mem_of_getElem? (i := 651) rfl) rfl, tt_mem (List.mem_of_getElem? (i := 51) rfl) rfl⟩
set_option maxRecDepth 100000 in
theorem vk_X9_265 : VK RX9 265 yX0_add := ⟨tt_mem (List.mem_of_getElem? (i := 658) rfl) rfl, tt_mem (List.mem_of_getElem? (i := 659) rfl) rfl, tt_mem (List.mem_of_getElem? (i := 660) rfl) rfl, tt_mem (List.mem_of_getElem? (i := 53) rfl) rfl⟩
set_option maxRecDepth 100000 in
theorem vk_X9_267 : VK RX9 267 yX0_clear := ⟨tt_mem (List.mem_of_getElem? (i := 666) rfl) rfl, tt_mem (List.mem_of_getElem? (i := 667) rfl) rfl, tt_mem (List.mem_of_getElem? (i := 668) rfl) rfl, tt_mem (List.mem_of_getElem? (i := 53) rfl) rfl⟩
set_option maxRecDepth 100000 in
theorem vk_X9_270 : VK RX9 270 yX3_setSeed := ⟨tt_mem (List.mem_of_getElem? (i := 674) rfl) rfl, tt_mem (List.mem_of_getElem? (i := 675) rfl) rfl, tt_mem (List.mem_of_getElem? (i := 676) rfl) rfl, tt_mem (List.mem_of_getElem? (i := 54) rfl) rfl⟩
set_option maxRecDepth 100000 in
theorem vk_X9_273 : VK RX9 273 yX9_imageOf := ⟨tt_mem (List.mem_of_getElem? (i := 682) rfl) rfl, tt_mem (List.mem_of_getElem? (i := 684) rfl) rfl, tt_mem (List.mem_of_getElem? (i := 10) rfl) rfl, tt_mem (List.mem_of_getElem? (i := 48) rfl) rfl⟩
set_option maxRecDepth 100000 in
theorem vk_X9_277 : VK RX9 277 yX6_take := ⟨tt_mem (List.mem_of_getElem? (i := 686) rfl) rfl, tt_mem (List.mem_of_getElem? (i := 687) rfl) rfl, tt_mem (List.mem_of_getElem? (i := 688) rfl) rfl, tt_mem (List.mem_of_getElem? (i := 52) rfl) rfl⟩
set_option maxRecDepth 100000 in
theorem vk_X9_281 : VK RX9 281 yX5_clear := ⟨tt_mem (List.mem_of_getElem? (i := 692) rfl) rfl, tt_mem (List.mem_of_getElem? (i := 693) rfl) rfl, tt_mem (List.mem_of_getElem? (i := 694) rfl) rfl, tt_mem (List.mem_of_getElem? (i := 51) rfl) rfl⟩
set_option maxRecDepth 100000 in
theorem vk_X9_282 : VK RX9 282 yX6_wasTaken := ⟨tt_mem (List.mem_of_getElem? (i := 700) rfl) rfl, tt_mem (List.mem_of_getElem? (i := 701) rfl) rfl, tt_mem (List.mem_of_getElem? (i := 702) rfl) rfl, tt_mem (List.mem_of_getElem? (i := 52) rfl) rfl⟩
set_option maxRecDepth 100000 in
theorem vk_X9_285 : VK RX9 285 yX6_give := ⟨tt_mem (List.mem_of_getElem? (i := 704) rfl) rfl, tt_mem (List.mem_of_getElem? (i := 705) rfl) rfl, tt_mem (List.mem_of_getElem? (i := 706) rfl) rfl, tt_mem (List.mem_of_getElem? (i := 52) rfl) rfl⟩
set_option maxRecDepth 100000 in
theorem vk_X9_290 : VK RX9 290 yX9_unsureCells := ⟨tt_mem (List.mem_of_getElem? (i := 296) rfl) rfl, tt_mem (List.mem_of_getElem? (i := 298) rfl) rfl, tt_mem (List.mem_of_getElem? (i := 1) rfl) rfl, tt_mem (List.mem_of_getElem? (i := 48) rfl) rfl⟩
set_option maxRecDepth 100000 in
theorem sk_X10_50 : SK RX10 50 yX10_in := ⟨tt_mem (List.mem_of_getElem? (i := 878) rfl) rfl, tt_mem (List.mem_of_getElem? (i := 879) rfl) rfl, tt_mem (List.mem_of_getElem? (i := 57) rfl) rfl⟩
set_option maxRecDepth 100000 in
theorem vk_X10_54 : VK RX10 54 yX10_isGrid := ⟨tt_mem (List.mem_of_getElem? (i := 886) rfl) rfl, tt_mem (List.mem_of_getElem? (i := 888) rfl) rfl, tt_mem (List.mem_of_getElem? (i := 35) rfl) rfl, tt_mem (List.mem_of_getElem? (i := 57) rfl) rfl⟩
set_option maxRecDepth 100000 in
theorem vk_X10_58 : VK RX10 58 yX10_its := ⟨tt_mem (List.mem_of_getElem? (i := 773) rfl) rfl, tt_mem (List.mem_of_getElem? (i := 775) rfl) rfl, tt_mem (List.mem_of_getElem? (i := 12) rfl) rfl, tt_mem (List.mem_of_getElem? (i := 57) rfl) rfl⟩
set_option maxRecDepth 100000 in
theorem sk_X10_62 : SK RX10 62 yX10_at := ⟨tt_mem (List.mem_of_getElem? (i := 781) rfl) rfl, tt_mem (List.mem_of_getElem? (i := 782) rfl) rfl, tt_mem (List.mem_of_getElem? (i := 57) rfl) rfl⟩
set_option maxRecDepth 100000 in
theorem vk_X10_66 : VK RX10 66 yX10_stands := ⟨tt_mem (List.mem_of_getElem? (i := 804) rfl) rfl, tt_mem (List.mem_of_getElem? (i := 806) rfl) rfl, tt_mem (List.mem_of_getElem? (i := 19) rfl) rfl, tt_mem (List.mem_of_getElem? (i := 57) rfl) rfl⟩
set_option maxRecDepth 100000 in
theorem vk_X10_69 : VK RX10 69 yX10_last := ⟨tt_mem (List.mem_of_getElem? (i := 874) rfl) rfl, tt_mem (List.mem_of_getElem? (i := 876) rfl) rfl, tt_mem (List.mem_of_getElem? (i := 34) rfl) rfl, tt_mem (List.mem_of_getElem? (i := 57) rfl) rfl⟩
set_option maxRecDepth 100000 in
theorem vk_X10_74 : VK RX10 74 yX10_isOn := ⟨tt_mem (List.mem_of_getElem? (i := 870) rfl) rfl, tt_mem (List.mem_of_getElem? (i := 872) rfl) rfl, tt_mem (List.mem_of_getElem? (i := 33) rfl) rfl, tt_mem (List.mem_of_getElem? (i := 57) rfl) rfl⟩
set_option maxRecDepth 100000 in
theorem vk_X10_78 : VK RX10 78 yX10_child := ⟨tt_mem (List.mem_of_getElem? (i := 866) rfl) rfl, tt_mem (List.mem_of_getElem? (i := 868) rfl) rfl, tt_mem (List.mem_of_getElem? (i := 32) rfl) rfl, tt_mem (List.mem_of_getElem? (i := 57) rfl) rfl⟩
set_option maxRecDepth 100000 in
theorem sk_X10_83 : SK RX10 83 yX10_rounded := ⟨tt_mem (List.mem_of_getElem? (i := 816) rfl) rfl, tt_mem (List.mem_of_getElem? (i := 817) rfl) rfl, tt_mem (List.mem_of_getElem? (i := 57) rfl) rfl⟩
set_option maxRecDepth 100000 in
theorem vk_X10_87 : VK RX10 87 yX10_off := ⟨tt_mem (List.mem_of_getElem? (i := 777) rfl) rfl, tt_mem (List.mem_of_getElem? (i := 779) rfl) rfl, tt_mem (List.mem_of_getElem? (i := 13) rfl) rfl, tt_mem (List.mem_of_getElem? (i := 57) rfl) rfl⟩
set_option maxRecDepth 100000 in
theorem vk_X10_91 : VK RX10 91 yX10_between := ⟨tt_mem (List.mem_of_getElem? (i := 812) rfl) rfl, tt_mem (List.mem_of_getElem? (i := 814) rfl) rfl, tt_mem (List.mem_of_getElem? (i := 21) rfl) rfl, tt_mem (List.mem_of_getElem? (i := 57) rfl) rfl⟩
set_option maxRecDepth 100000 in
theorem vk_X10_95 : VK RX10 95 yX10_belongs := ⟨tt_mem (List.mem_of_getElem? (i := 862) rfl) rfl, tt_mem (List.mem_of_getElem? (i := 864) rfl) rfl, tt_mem (List.mem_of_getElem? (i := 31) rfl) rfl, tt_mem (List.mem_of_getElem? (i := 57) rfl) rfl⟩
set_option maxRecDepth 100000 in
theorem vk_X10_98 : VK RX10 98 yX10_offset := ⟨tt_mem (List.mem_of_getElem? (i := 808) rfl) rfl, tt_mem (List.mem_of_getElem? (i := 810) rfl) rfl, tt_mem (List.mem_of_getElem? (i := 20) rfl) rfl, tt_mem (List.mem_of_getElem? (i := 57) rfl) rfl⟩
set_option maxRecDepth 100000 in
theorem vk_X10_101 : VK RX10 101 yX10_ofParent := ⟨tt_mem (List.mem_of_getElem? (i := 800) rfl) rfl, tt_mem (List.mem_of_getElem? (i := 802) rfl) rfl, tt_mem (List.mem_of_getElem? (i := 18) rfl) rfl, tt_mem (List.mem_of_getElem? (i := 57) rfl) rfl⟩
set_option maxRecDepth 100000 in
theorem sk_X10_104 : SK RX10 104 yX10_size := ⟨tt_mem (List.mem_of_getElem? (i := 820) rfl) rfl, tt_mem (List.mem_of_getElem? (i := 821) rfl) rfl, tt_mem (List.mem_of_getElem? (i := 57) rfl) rfl⟩
set_option maxRecDepth 100000 in
theorem sk_X10_108 : SK RX10 108 yX10_larger := ⟨tt_mem (List.mem_of_getElem? (i := 823) rfl) rfl, tt_mem (List.mem_of_getElem? (i := 824) rfl) rfl, tt_mem (List.mem_of_getElem? (i := 57) rfl) rfl⟩
set_option maxRecDepth 100000 in
theorem vk_X10_117 : VK RX10 117 yX10_isBorder := ⟨tt_mem (List.mem_of_getElem? (i := 792) rfl) rfl, tt_mem (List.mem_of_getElem? (i := 794) rfl) rfl, tt_mem (List.mem_of_getElem? (i := 16) rfl) rfl, tt_mem (List.mem_of_getElem? (i := 57) rfl) rfl⟩
set_option maxRecDepth 100000 in
theorem vk_X10_120 : VK RX10 120 yX10_gapAt := ⟨tt_mem (List.mem_of_getElem? (i := 796) rfl) rfl, tt_mem (List.mem_of_getElem? (i := 798) rfl) rfl, tt_mem (List.mem_of_getElem? (i := 17) rfl) rfl, tt_mem (List.mem_of_getElem? (i := 57) rfl) rfl⟩
set_option maxRecDepth 100000 in
theorem vk_X10_123 : VK RX10 123 yX10_steepIn := ⟨tt_mem (List.mem_of_getElem? (i := 850) rfl) rfl, tt_mem (List.mem_of_getElem? (i := 852) rfl) rfl, tt_mem (List.mem_of_getElem? (i := 28) rfl) rfl, tt_mem (List.mem_of_getElem? (i := 57) rfl) rfl⟩
set_option maxRecDepth 100000 in
theorem vk_X10_126 : VK RX10 126 yX10_steep := ⟨tt_mem (List.mem_of_getElem? (i := 846) rfl) rfl, tt_mem (List.mem_of_getElem? (i := 848) rfl) rfl, tt_mem (List.mem_of_getElem? (i := 27) rfl) rfl, tt_mem (List.mem_of_getElem? (i := 57) rfl) rfl⟩
set_option maxRecDepth 100000 in
theorem vk_X10_129 : VK RX10 129 yX10_corner := ⟨tt_mem (List.mem_of_getElem? (i := 838) rfl) rfl, tt_mem (List.mem_of_getElem? (i := 840) rfl) rfl, tt_mem (List.mem_of_getElem? (i := 25) rfl) rfl, tt_mem (List.mem_of_getElem? (i := 57) rfl) rfl⟩
set_option maxRecDepth 100000 in
theorem vk_X10_133 : VK RX10 133 yX10_cross := ⟨tt_mem (List.mem_of_getElem? (i := 834) rfl) rfl, tt_mem (List.mem_of_getElem? (i := 836) rfl) rfl, tt_mem (List.mem_of_getElem? (i := 24) rfl) rfl, tt_mem (List.mem_of_getElem? (i := 57) rfl) rfl⟩
set_option maxRecDepth 100000 in
theorem vk_X10_136 : VK RX10 136 yX10_isFolded := ⟨tt_mem (List.mem_of_getElem? (i := 830) rfl) rfl, tt_mem (List.mem_of_getElem? (i := 832) rfl) rfl, tt_mem (List.mem_of_getElem? (i := 23) rfl) rfl, tt_mem (List.mem_of_getElem? (i := 57) rfl) rfl⟩
set_option maxRecDepth 100000 in
theorem vk_X10_139 : VK RX10 139 yX10_isSure := ⟨tt_mem (List.mem_of_getElem? (i := 842) rfl) rfl, tt_mem (List.mem_of_getElem? (i := 844) rfl) rfl, tt_mem (List.mem_of_getElem? (i := 26) rfl) rfl, tt_mem (List.mem_of_getElem? (i := 57) rfl) rfl⟩
set_option maxRecDepth 100000 in
theorem vk_X10_145 : VK RX10 145 yX10_movedBy := ⟨tt_mem (List.mem_of_getElem? (i := 858) rfl) rfl, tt_mem (List.mem_of_getElem? (i := 860) rfl) rfl, tt_mem (List.mem_of_getElem? (i := 30) rfl) rfl, tt_mem (List.mem_of_getElem? (i := 57) rfl) rfl⟩
set_option maxRecDepth 100000 in
theorem vk_X10_148 : VK RX10 148 yX10_gaps := ⟨tt_mem (List.mem_of_getElem? (i := 788) rfl) rfl, tt_mem (List.mem_of_getElem? (i := 790) rfl) rfl, tt_mem (List.mem_of_getElem? (i := 15) rfl) rfl, tt_mem (List.mem_of_getElem? (i := 57) rfl) rfl⟩
set_option maxRecDepth 100000 in
theorem vk_X10_152 : VK RX10 152 yX10_cells := ⟨tt_mem (List.mem_of_getElem? (i := 826) rfl) rfl, tt_mem (List.mem_of_getElem? (i := 828) rfl) rfl, tt_mem (List.mem_of_getElem? (i := 22) rfl) rfl, tt_mem (List.mem_of_getElem? (i := 57) rfl) rfl⟩
set_option maxRecDepth 100000 in
theorem vk_X10_156 : VK RX10 156 yX10_nodesMoved := ⟨tt_mem (List.mem_of_getElem? (i := 769) rfl) rfl, tt_mem (List.mem_of_getElem? (i := 771) rfl) rfl, tt_mem (List.mem_of_getElem? (i := 11) rfl) rfl, tt_mem (List.mem_of_getElem? (i := 57) rfl) rfl⟩
set_option maxRecDepth 100000 in
theorem vk_X10_160 : VK RX10 160 yX10_tally := ⟨tt_mem (List.mem_of_getElem? (i := 784) rfl) rfl, tt_mem (List.mem_of_getElem? (i := 786) rfl) rfl, tt_mem (List.mem_of_getElem? (i := 14) rfl) rfl, tt_mem (List.mem_of_getElem? (i := 57) rfl) rfl⟩
set_option maxRecDepth 100000 in
theorem vk_X10_163 : VK RX10 163 yX10_wrong := ⟨tt_mem (List.mem_of_getElem? (i := 854) rfl) rfl, tt_mem (List.mem_of_getElem? (i := 856) rfl) rfl, tt_mem (List.mem_of_getElem? (i := 29) rfl) rfl, tt_mem (List.mem_of_getElem? (i := 57) rfl) rfl⟩
set_option maxRecDepth 100000 in
theorem vk_X10_173 : VK RX10 173 yX10_children := ⟨tt_mem (List.mem_of_getElem? (i := 892) rfl) rfl, tt_mem (List.mem_of_getElem? (i := 894) rfl) rfl, tt_mem (List.mem_of_getElem? (i := 36) rfl) rfl, tt_mem (List.mem_of_getElem? (i := 57) rfl) rfl⟩
set_option maxRecDepth 100000 in
theorem vk_X10_176 : VK RX10 176 yX10_depth := ⟨tt_mem (List.mem_of_getElem? (i := 896) rfl) rfl, tt_mem (List.mem_of_getElem? (i := 898) rfl) rfl, tt_mem (List.mem_of_getElem? (i := 37) rfl) rfl, tt_mem (List.mem_of_getElem? (i := 57) rfl) rfl⟩
set_option maxRecDepth 100000 in
theorem vk_X10_179 : VK RX10 179 yX10_isNode := ⟨tt_mem (List.mem_of_getElem? (i := 904) rfl) rfl, tt_mem (List.mem_of_getElem? (i := 906) rfl) rfl, tt_mem (List.mem_of_getElem? (i := 38) rfl) rfl, tt_mem (List.mem_of_getElem? (i := 57) rfl) rfl⟩
set_option maxRecDepth 100000 in
theorem vk_X10_185 : VK RX10 185 yX10_isCell := ⟨tt_mem (List.mem_of_getElem? (i := 914) rfl) rfl, tt_mem (List.mem_of_getElem? (i := 916) rfl) rfl, tt_mem (List.mem_of_getElem? (i := 39) rfl) rfl, tt_mem (List.mem_of_getElem? (i := 57) rfl) rfl⟩
set_option maxRecDepth 100000 in
theorem vk_X10_190 : VK RX10 190 yX10_area := ⟨tt_mem (List.mem_of_getElem? (i := 919) rfl) rfl, tt_mem (List.mem_of_getElem? (i := 921) rfl) rfl, tt_mem (List.mem_of_getElem? (i := 40) rfl) rfl, tt_mem (List.mem_of_getElem? (i := 57) rfl) rfl⟩
set_option maxRecDepth 100000 in
theorem sk_X10_196 : SK RX10 196 yX10_isPlace := ⟨tt_mem (List.mem_of_getElem? (i := 928) rfl) rfl, tt_mem (List.mem_of_getElem? (i := 929) rfl) rfl, tt_mem (List.mem_of_getElem? (i := 57) rfl) rfl⟩
set_option maxRecDepth 100000 in
theorem vk_X10_204 : VK RX10 204 yX10_wasThere := ⟨tt_mem (List.mem_of_getElem? (i := 942) rfl) rfl, tt_mem (List.mem_of_getElem? (i := 944) rfl) rfl, tt_mem (List.mem_of_getElem? (i := 41) rfl) rfl, tt_mem (List.mem_of_getElem? (i := 57) rfl) rfl⟩
set_option maxRecDepth 100000 in
theorem vk_X10_207 : VK RX10 207 yX10_overlaps := ⟨tt_mem (List.mem_of_getElem? (i := 957) rfl) rfl, tt_mem (List.mem_of_getElem? (i := 959) rfl) rfl, tt_mem (List.mem_of_getElem? (i := 43) rfl) rfl, tt_mem (List.mem_of_getElem? (i := 57) rfl) rfl⟩
set_option maxRecDepth 100000 in
theorem vk_X10_217 : VK RX10 217 yX10_mayBe := ⟨tt_mem (List.mem_of_getElem? (i := 953) rfl) rfl, tt_mem (List.mem_of_getElem? (i := 955) rfl) rfl, tt_mem (List.mem_of_getElem? (i := 42) rfl) rfl, tt_mem (List.mem_of_getElem? (i := 57) rfl) rfl⟩
set_option maxRecDepth 100000 in
theorem vk_X10_223 : VK RX10 223 yX10_notes := ⟨tt_mem (List.mem_of_getElem? (i := 963) rfl) rfl, tt_mem (List.mem_of_getElem? (i := 965) rfl) rfl, tt_mem (List.mem_of_getElem? (i := 44) rfl) rfl, tt_mem (List.mem_of_getElem? (i := 57) rfl) rfl⟩
set_option maxRecDepth 100000 in
theorem sk_X10_230 : SK RX10 230 yX10_isOffset := ⟨tt_mem (List.mem_of_getElem? (i := 971) rfl) rfl, tt_mem (List.mem_of_getElem? (i := 972) rfl) rfl, tt_mem (List.mem_of_getElem? (i := 57) rfl) rfl⟩
set_option maxRecDepth 100000 in
theorem vk_X10_233 : VK RX10 233 yX10_sets := ⟨tt_mem (List.mem_of_getElem? (i := 976) rfl) rfl, tt_mem (List.mem_of_getElem? (i := 978) rfl) rfl, tt_mem (List.mem_of_getElem? (i := 45) rfl) rfl, tt_mem (List.mem_of_getElem? (i := 57) rfl) rfl⟩
set_option maxRecDepth 100000 in
theorem vk_X10_247 : VK RX10 247 yX10_draw := ⟨tt_mem (List.mem_of_getElem? (i := 1001) rfl) rfl, tt_mem (List.mem_of_getElem? (i := 1003) rfl) rfl, tt_mem (List.mem_of_getElem? (i := 46) rfl) rfl, tt_mem (List.mem_of_getElem? (i := 57) rfl) rfl⟩
set_option maxRecDepth 100000 in
theorem vk_L_13 : VK RL 13 yX9_told := ⟨tt_mem (List.mem_of_getElem? (i := 263) rfl) rfl, tt_mem (List.mem_of_getElem? (i := 264) rfl) rfl, tt_mem (List.mem_of_getElem? (i := 265) rfl) rfl, tt_mem (List.mem_of_getElem? (i := 48) rfl) rfl⟩
set_option maxRecDepth 100000 in
theorem vk_L_17 : VK RL 17 yX10_told := ⟨tt_mem (List.mem_of_getElem? (i := 765) rfl) rfl, tt_mem (List.mem_of_getElem? (i := 766) rfl) rfl, tt_mem (List.mem_of_getElem? (i := 767) rfl) rfl, tt_mem (List.mem_of_getElem? (i := 57) rfl) rfl⟩
set_option maxRecDepth 100000 in
theorem vk_L_18 : VK RL 18 yX9_gridAt := ⟨tt_mem (List.mem_of_getElem? (i := 439) rfl) rfl, tt_mem (List.mem_of_getElem? (i := 440) rfl) rfl, tt_mem (List.mem_of_getElem? (i := 441) rfl) rfl, tt_mem (List.mem_of_getElem? (i := 48) rfl) rfl⟩
set_option maxRecDepth 100000 in
theorem vk_L_22 : VK RL 22 yX10_gridAt := ⟨tt_mem (List.mem_of_getElem? (i := 882) rfl) rfl, tt_mem (List.mem_of_getElem? (i := 883) rfl) rfl, tt_mem (List.mem_of_getElem? (i := 884) rfl) rfl, tt_mem (List.mem_of_getElem? (i := 57) rfl) rfl⟩
set_option maxRecDepth 100000 in
theorem vk_L_23 : VK RL 23 yX9_nodeAt := ⟨tt_mem (List.mem_of_getElem? (i := 452) rfl) rfl, tt_mem (List.mem_of_getElem? (i := 453) rfl) rfl, tt_mem (List.mem_of_getElem? (i := 454) rfl) rfl, tt_mem (List.mem_of_getElem? (i := 48) rfl) rfl⟩
set_option maxRecDepth 100000 in
theorem vk_L_27 : VK RL 27 yX10_nodeAt := ⟨tt_mem (List.mem_of_getElem? (i := 900) rfl) rfl, tt_mem (List.mem_of_getElem? (i := 901) rfl) rfl, tt_mem (List.mem_of_getElem? (i := 902) rfl) rfl, tt_mem (List.mem_of_getElem? (i := 57) rfl) rfl⟩
set_option maxRecDepth 100000 in
theorem vk_L_28 : VK RL 28 yX9_cellAt := ⟨tt_mem (List.mem_of_getElem? (i := 468) rfl) rfl, tt_mem (List.mem_of_getElem? (i := 469) rfl) rfl, tt_mem (List.mem_of_getElem? (i := 470) rfl) rfl, tt_mem (List.mem_of_getElem? (i := 48) rfl) rfl⟩
set_option maxRecDepth 100000 in
theorem vk_L_32 : VK RL 32 yX10_cellAt := ⟨tt_mem (List.mem_of_getElem? (i := 910) rfl) rfl, tt_mem (List.mem_of_getElem? (i := 911) rfl) rfl, tt_mem (List.mem_of_getElem? (i := 912) rfl) rfl, tt_mem (List.mem_of_getElem? (i := 57) rfl) rfl⟩
set_option maxRecDepth 100000 in
theorem vk_L_33 : VK RL 33 yX9_which := ⟨tt_mem (List.mem_of_getElem? (i := 483) rfl) rfl, tt_mem (List.mem_of_getElem? (i := 484) rfl) rfl, tt_mem (List.mem_of_getElem? (i := 485) rfl) rfl, tt_mem (List.mem_of_getElem? (i := 48) rfl) rfl⟩
set_option maxRecDepth 100000 in
theorem vk_L_36 : VK RL 36 yX10_which := ⟨tt_mem (List.mem_of_getElem? (i := 924) rfl) rfl, tt_mem (List.mem_of_getElem? (i := 925) rfl) rfl, tt_mem (List.mem_of_getElem? (i := 926) rfl) rfl, tt_mem (List.mem_of_getElem? (i := 57) rfl) rfl⟩
set_option maxRecDepth 100000 in
theorem vk_L_37 : VK RL 37 yX9_moved := ⟨tt_mem (List.mem_of_getElem? (i := 492) rfl) rfl, tt_mem (List.mem_of_getElem? (i := 493) rfl) rfl, tt_mem (List.mem_of_getElem? (i := 494) rfl) rfl, tt_mem (List.mem_of_getElem? (i := 48) rfl) rfl⟩
set_option maxRecDepth 100000 in
theorem vk_L_41 : VK RL 41 yX10_moved := ⟨tt_mem (List.mem_of_getElem? (i := 932) rfl) rfl, tt_mem (List.mem_of_getElem? (i := 933) rfl) rfl, tt_mem (List.mem_of_getElem? (i := 934) rfl) rfl, tt_mem (List.mem_of_getElem? (i := 57) rfl) rfl⟩
set_option maxRecDepth 100000 in
theorem vk_L_42 : VK RL 42 yX9_back := ⟨tt_mem (List.mem_of_getElem? (i := 497) rfl) rfl, tt_mem (List.mem_of_getElem? (i := 498) rfl) rfl, tt_mem (List.mem_of_getElem? (i := 499) rfl) rfl, tt_mem (List.mem_of_getElem? (i := 48) rfl) rfl⟩
set_option maxRecDepth 100000 in
theorem vk_L_45 : VK RL 45 yX10_back := ⟨tt_mem (List.mem_of_getElem? (i := 936) rfl) rfl, tt_mem (List.mem_of_getElem? (i := 937) rfl) rfl, tt_mem (List.mem_of_getElem? (i := 938) rfl) rfl, tt_mem (List.mem_of_getElem? (i := 57) rfl) rfl⟩
set_option maxRecDepth 100000 in
theorem vk_L_46 : VK RL 46 yX9_grid := ⟨tt_mem (List.mem_of_getElem? (i := 531) rfl) rfl, tt_mem (List.mem_of_getElem? (i := 532) rfl) rfl, tt_mem (List.mem_of_getElem? (i := 533) rfl) rfl, tt_mem (List.mem_of_getElem? (i := 48) rfl) rfl⟩
set_option maxRecDepth 100000 in
theorem vk_L_50 : VK RL 50 yX10_grid := ⟨tt_mem (List.mem_of_getElem? (i := 946) rfl) rfl, tt_mem (List.mem_of_getElem? (i := 947) rfl) rfl, tt_mem (List.mem_of_getElem? (i := 948) rfl) rfl, tt_mem (List.mem_of_getElem? (i := 57) rfl) rfl⟩
set_option maxRecDepth 100000 in
theorem vk_L_51 : VK RL 51 yX9_node := ⟨tt_mem (List.mem_of_getElem? (i := 585) rfl) rfl, tt_mem (List.mem_of_getElem? (i := 586) rfl) rfl, tt_mem (List.mem_of_getElem? (i := 587) rfl) rfl, tt_mem (List.mem_of_getElem? (i := 48) rfl) rfl⟩
set_option maxRecDepth 100000 in
theorem vk_L_55 : VK RL 55 yX10_node := ⟨tt_mem (List.mem_of_getElem? (i := 967) rfl) rfl, tt_mem (List.mem_of_getElem? (i := 968) rfl) rfl, tt_mem (List.mem_of_getElem? (i := 969) rfl) rfl, tt_mem (List.mem_of_getElem? (i := 57) rfl) rfl⟩
set_option maxRecDepth 100000 in
theorem vk_L_56 : VK RL 56 yX9_fill := ⟨tt_mem (List.mem_of_getElem? (i := 593) rfl) rfl, tt_mem (List.mem_of_getElem? (i := 594) rfl) rfl, tt_mem (List.mem_of_getElem? (i := 595) rfl) rfl, tt_mem (List.mem_of_getElem? (i := 48) rfl) rfl⟩
set_option maxRecDepth 100000 in
theorem vk_L_59 : VK RL 59 yX10_fill := ⟨tt_mem (List.mem_of_getElem? (i := 980) rfl) rfl, tt_mem (List.mem_of_getElem? (i := 981) rfl) rfl, tt_mem (List.mem_of_getElem? (i := 982) rfl) rfl, tt_mem (List.mem_of_getElem? (i := 57) rfl) rfl⟩
set_option maxRecDepth 100000 in
theorem vk_L_60 : VK RL 60 yX9_fit := ⟨tt_mem (List.mem_of_getElem? (i := 598) rfl) rfl, tt_mem (List.mem_of_getElem? (i := 599) rfl) rfl, tt_mem (List.mem_of_getElem? (i := 600) rfl) rfl, tt_mem (List.mem_of_getElem? (i := 48) rfl) rfl⟩
set_option maxRecDepth 100000 in
theorem vk_L_63 : VK RL 63 yX10_fit := ⟨tt_mem (List.mem_of_getElem? (i := 984) rfl) rfl, tt_mem (List.mem_of_getElem? (i := 985) rfl) rfl, tt_mem (List.mem_of_getElem? (i := 986) rfl) rfl, tt_mem (List.mem_of_getElem? (i := 57) rfl) rfl⟩
set_option maxRecDepth 100000 in
theorem vk_L_64 : VK RL 64 yX9_drop := ⟨tt_mem (List.mem_of_getElem? (i := 606) rfl) rfl, tt_mem (List.mem_of_getElem? (i := 607) rfl) rfl, tt_mem (List.mem_of_getElem? (i := 608) rfl) rfl, tt_mem (List.mem_of_getElem? (i := 48) rfl) rfl⟩
set_option maxRecDepth 100000 in
theorem vk_L_67 : VK RL 67 yX10_drop := ⟨tt_mem (List.mem_of_getElem? (i := 988) rfl) rfl, tt_mem (List.mem_of_getElem? (i := 989) rfl) rfl, tt_mem (List.mem_of_getElem? (i := 990) rfl) rfl, tt_mem (List.mem_of_getElem? (i := 57) rfl) rfl⟩
set_option maxRecDepth 100000 in
theorem vk_L_68 : VK RL 68 yX9_rule := ⟨tt_mem (List.mem_of_getElem? (i := 618) rfl) rfl, tt_mem (List.mem_of_getElem? (i := 619) rfl) rfl, tt_mem (List.mem_of_getElem? (i := 620) rfl) rfl, tt_mem (List.mem_of_getElem? (i := 48) rfl) rfl⟩
set_option maxRecDepth 100000 in
theorem vk_L_71 : VK RL 71 yX10_rule := ⟨tt_mem (List.mem_of_getElem? (i := 992) rfl) rfl, tt_mem (List.mem_of_getElem? (i := 993) rfl) rfl, tt_mem (List.mem_of_getElem? (i := 994) rfl) rfl, tt_mem (List.mem_of_getElem? (i := 57) rfl) rfl⟩
set_option maxRecDepth 100000 in
theorem vk_L_72 : VK RL 72 yX9_drift := ⟨tt_mem (List.mem_of_getElem? (i := 626) rfl) rfl, tt_mem (List.mem_of_getElem? (i := 627) rfl) rfl, tt_mem (List.mem_of_getElem? (i := 628) rfl) rfl, tt_mem (List.mem_of_getElem? (i := 48) rfl) rfl⟩
set_option maxRecDepth 100000 in
theorem vk_L_75 : VK RL 75 yX10_drift := ⟨tt_mem (List.mem_of_getElem? (i := 996) rfl) rfl, tt_mem (List.mem_of_getElem? (i := 997) rfl) rfl, tt_mem (List.mem_of_getElem? (i := 998) rfl) rfl, tt_mem (List.mem_of_getElem? (i := 57) rfl) rfl⟩
set_option maxRecDepth 100000 in
theorem vk_L_76 : VK RL 76 yX9_undo := ⟨tt_mem (List.mem_of_getElem? (i := 645) rfl) rfl, tt_mem (List.mem_of_getElem? (i := 646) rfl) rfl, tt_mem (List.mem_of_getElem? (i := 647) rfl) rfl, tt_mem (List.mem_of_getElem? (i := 48) rfl) rfl⟩
set_option maxRecDepth 100000 in
theorem vk_L_79 : VK RL 79 yX10_undo := ⟨tt_mem (List.mem_of_getElem? (i := 1009) rfl) rfl, tt_mem (List.mem_of_getElem? (i := 1010) rfl) rfl, tt_mem (List.mem_of_getElem? (i := 1011) rfl) rfl, tt_mem (List.mem_of_getElem? (i := 57) rfl) rfl⟩
set_option maxRecDepth 100000 in
theorem vk_L_80 : VK RL 80 yX9_write := ⟨tt_mem (List.mem_of_getElem? (i := 654) rfl) rfl, tt_mem (List.mem_of_getElem? (i := 655) rfl) rfl, tt_mem (List.mem_of_getElem? (i := 656) rfl) rfl, tt_mem (List.mem_of_getElem? (i := 48) rfl) rfl⟩
set_option maxRecDepth 100000 in
theorem vk_L_83 : VK RL 83 yX10_write := ⟨tt_mem (List.mem_of_getElem? (i := 1014) rfl) rfl, tt_mem (List.mem_of_getElem? (i := 1015) rfl) rfl, tt_mem (List.mem_of_getElem? (i := 1016) rfl) rfl, tt_mem (List.mem_of_getElem? (i := 57) rfl) rfl⟩
set_option maxRecDepth 100000 in
theorem vk_L_84 : VK RL 84 yX9_tear := ⟨tt_mem (List.mem_of_getElem? (i := 662) rfl) rfl, tt_mem (List.mem_of_getElem? (i := 663) rfl) rfl, tt_mem (List.mem_of_getElem? (i := 664) rfl) rfl, tt_mem (List.mem_of_getElem? (i := 48) rfl) rfl⟩
set_option maxRecDepth 100000 in
theorem vk_L_88 : VK RL 88 yX10_tear := ⟨tt_mem (List.mem_of_getElem? (i := 1018) rfl) rfl, tt_mem (List.mem_of_getElem? (i := 1019) rfl) rfl, tt_mem (List.mem_of_getElem? (i := 1020) rfl) rfl, tt_mem (List.mem_of_getElem? (i := 57) rfl) rfl⟩
set_option maxRecDepth 100000 in
theorem vk_L_89 : VK RL 89 yX9_seed := ⟨tt_mem (List.mem_of_getElem? (i := 670) rfl) rfl, tt_mem (List.mem_of_getElem? (i := 671) rfl) rfl, tt_mem (List.mem_of_getElem? (i := 672) rfl) rfl, tt_mem (List.mem_of_getElem? (i := 48) rfl) rfl⟩
set_option maxRecDepth 100000 in
theorem vk_L_92 : VK RL 92 yX10_seed := ⟨tt_mem (List.mem_of_getElem? (i := 1022) rfl) rfl, tt_mem (List.mem_of_getElem? (i := 1023) rfl) rfl, tt_mem (List.mem_of_getElem? (i := 1024) rfl) rfl, tt_mem (List.mem_of_getElem? (i := 57) rfl) rfl⟩
set_option maxRecDepth 100000 in
theorem vk_L_93 : VK RL 93 yX9_keep := ⟨tt_mem (List.mem_of_getElem? (i := 678) rfl) rfl, tt_mem (List.mem_of_getElem? (i := 679) rfl) rfl, tt_mem (List.mem_of_getElem? (i := 680) rfl) rfl, tt_mem (List.mem_of_getElem? (i := 48) rfl) rfl⟩
set_option maxRecDepth 100000 in
theorem vk_L_96 : VK RL 96 yX10_keep := ⟨tt_mem (List.mem_of_getElem? (i := 1026) rfl) rfl, tt_mem (List.mem_of_getElem? (i := 1027) rfl) rfl, tt_mem (List.mem_of_getElem? (i := 1028) rfl) rfl, tt_mem (List.mem_of_getElem? (i := 57) rfl) rfl⟩
set_option maxRecDepth 100000 in
theorem vk_L_97 : VK RL 97 yX9_goBack := ⟨tt_mem (List.mem_of_getElem? (i := 696) rfl) rfl, tt_mem (List.mem_of_getElem? (i := 697) rfl) rfl, tt_mem (List.mem_of_getElem? (i := 698) rfl) rfl, tt_mem (List.mem_of_getElem? (i := 48) rfl) rfl⟩
set_option maxRecDepth 100000 in
theorem vk_L_100 : VK RL 100 yX10_goBack := ⟨tt_mem (List.mem_of_getElem? (i := 1030) rfl) rfl, tt_mem (List.mem_of_getElem? (i := 1031) rfl) rfl, tt_mem (List.mem_of_getElem? (i := 1032) rfl) rfl, tt_mem (List.mem_of_getElem? (i := 57) rfl) rfl⟩
set_option maxRecDepth 100000 in
theorem np_sta : Cond.static yX9_isPlace ∈ TT := tt_mem (List.mem_of_getElem? (i := 488) rfl) rfl
set_option maxRecDepth 100000 in
theorem np_ini : Cond.initialized yX9_isPlace.cls ∈ TT := tt_mem (List.mem_of_getElem? (i := 48) rfl) rfl
