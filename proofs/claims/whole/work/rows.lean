section
-- ===== PART A: goes FIRST, ahead of the names: the tables' words, and 'selects' of the private methods out of them =====
/-- a private method of a class that the tables say can be made, by its rows of tables_1 -/
def lw_okq (q : MethodName × Nat) : Prop := (q.1.cls ≠ "java/lang/invoke/MethodHandle" ∧ q.1.cls ≠ "java/lang/invoke/VarHandle") ∧ Cond.instantiable q.1.cls q.2 ∈ tables_1 ∧ Cond.privateMethod q.1 ∈ tables_1 ∧ Cond.instanceMethod q.1 ∈ tables_1
theorem lw_p0 : lw_okq (⟨"ShiftGrids", "unsureCellsOfAll", "()I"⟩, 8) := ⟨⟨by decide +kernel, by decide +kernel⟩, List.mem_of_getElem? (i := 15) (by decide +kernel), List.mem_of_getElem? (i := 245) (by decide +kernel), List.mem_of_getElem? (i := 246) (by decide +kernel)⟩
theorem lw_p1 : lw_okq (⟨"ShiftGrids", "unsureCells", "(LShiftGrids$Grid;)I"⟩, 8) := ⟨⟨by decide +kernel, by decide +kernel⟩, List.mem_of_getElem? (i := 15) (by decide +kernel), List.mem_of_getElem? (i := 250) (by decide +kernel), List.mem_of_getElem? (i := 251) (by decide +kernel)⟩
theorem lw_p2 : lw_okq (⟨"ShiftGrids", "foldedCellsOfAll", "()I"⟩, 8) := ⟨⟨by decide +kernel, by decide +kernel⟩, List.mem_of_getElem? (i := 15) (by decide +kernel), List.mem_of_getElem? (i := 288) (by decide +kernel), List.mem_of_getElem? (i := 289) (by decide +kernel)⟩
theorem lw_p3 : lw_okq (⟨"ShiftGrids", "foldedCells", "(LShiftGrids$Grid;)I"⟩, 8) := ⟨⟨by decide +kernel, by decide +kernel⟩, List.mem_of_getElem? (i := 15) (by decide +kernel), List.mem_of_getElem? (i := 292) (by decide +kernel), List.mem_of_getElem? (i := 293) (by decide +kernel)⟩
theorem lw_p4 : lw_okq (⟨"ShiftGrids$Cell", "crossed", "(II)J"⟩, 5) := ⟨⟨by decide +kernel, by decide +kernel⟩, List.mem_of_getElem? (i := 169) (by decide +kernel), List.mem_of_getElem? (i := 300) (by decide +kernel), List.mem_of_getElem? (i := 301) (by decide +kernel)⟩
theorem lw_p5 : lw_okq (⟨"ShiftGrids", "gapsOfAll", "()I"⟩, 8) := ⟨⟨by decide +kernel, by decide +kernel⟩, List.mem_of_getElem? (i := 15) (by decide +kernel), List.mem_of_getElem? (i := 307) (by decide +kernel), List.mem_of_getElem? (i := 308) (by decide +kernel)⟩
theorem lw_p6 : lw_okq (⟨"ShiftGrids", "firstWithGreatestGap", "()I"⟩, 8) := ⟨⟨by decide +kernel, by decide +kernel⟩, List.mem_of_getElem? (i := 15) (by decide +kernel), List.mem_of_getElem? (i := 348) (by decide +kernel), List.mem_of_getElem? (i := 349) (by decide +kernel)⟩
theorem lw_p7 : lw_okq (⟨"ShiftGrids$Search", "kindOf", "(I)I"⟩, 4) := ⟨⟨by decide +kernel, by decide +kernel⟩, List.mem_of_getElem? (i := 150) (by decide +kernel), List.mem_of_getElem? (i := 465) (by decide +kernel), List.mem_of_getElem? (i := 466) (by decide +kernel)⟩
theorem lw_p8 : lw_okq (⟨"ShiftGrids$Sheet", "lowerParentsBehind", "(I)V"⟩, 3) := ⟨⟨by decide +kernel, by decide +kernel⟩, List.mem_of_getElem? (i := 23) (by decide +kernel), List.mem_of_getElem? (i := 568) (by decide +kernel), List.mem_of_getElem? (i := 569) (by decide +kernel)⟩
theorem lw_p9 : lw_okq (⟨"ShiftGrids$Draws", "draw", "(I)I"⟩, 1) := ⟨⟨by decide +kernel, by decide +kernel⟩, List.mem_of_getElem? (i := 140) (by decide +kernel), List.mem_of_getElem? (i := 589) (by decide +kernel), List.mem_of_getElem? (i := 590) (by decide +kernel)⟩
theorem lw_p10 : lw_okq (⟨"ShiftGrids", "imageOf", "(I)LShiftGrids$Image;"⟩, 8) := ⟨⟨by decide +kernel, by decide +kernel⟩, List.mem_of_getElem? (i := 15) (by decide +kernel), List.mem_of_getElem? (i := 636) (by decide +kernel), List.mem_of_getElem? (i := 637) (by decide +kernel)⟩
theorem lw_p11 : lw_okq (⟨"ShiftGridsModel", "nodesMoved", "()I"⟩, 16) := ⟨⟨by decide +kernel, by decide +kernel⟩, List.mem_of_getElem? (i := 663) (by decide +kernel), List.mem_of_getElem? (i := 723) (by decide +kernel), List.mem_of_getElem? (i := 724) (by decide +kernel)⟩
theorem lw_p12 : lw_okq (⟨"ShiftGridsModel", "its", "(II)I"⟩, 16) := ⟨⟨by decide +kernel, by decide +kernel⟩, List.mem_of_getElem? (i := 663) (by decide +kernel), List.mem_of_getElem? (i := 727) (by decide +kernel), List.mem_of_getElem? (i := 728) (by decide +kernel)⟩
theorem lw_p13 : lw_okq (⟨"ShiftGridsModel", "off", "(IIII)I"⟩, 16) := ⟨⟨by decide +kernel, by decide +kernel⟩, List.mem_of_getElem? (i := 663) (by decide +kernel), List.mem_of_getElem? (i := 731) (by decide +kernel), List.mem_of_getElem? (i := 732) (by decide +kernel)⟩
theorem lw_p14 : lw_okq (⟨"ShiftGridsModel", "tally", "(I)I"⟩, 16) := ⟨⟨by decide +kernel, by decide +kernel⟩, List.mem_of_getElem? (i := 663) (by decide +kernel), List.mem_of_getElem? (i := 738) (by decide +kernel), List.mem_of_getElem? (i := 739) (by decide +kernel)⟩
theorem lw_p15 : lw_okq (⟨"ShiftGridsModel", "gaps", "(I)V"⟩, 16) := ⟨⟨by decide +kernel, by decide +kernel⟩, List.mem_of_getElem? (i := 663) (by decide +kernel), List.mem_of_getElem? (i := 742) (by decide +kernel), List.mem_of_getElem? (i := 743) (by decide +kernel)⟩
def lw_privs_1 : List (MethodName × Nat) := [(⟨"ShiftGrids", "unsureCellsOfAll", "()I"⟩, 8), (⟨"ShiftGrids", "unsureCells", "(LShiftGrids$Grid;)I"⟩, 8), (⟨"ShiftGrids", "foldedCellsOfAll", "()I"⟩, 8), (⟨"ShiftGrids", "foldedCells", "(LShiftGrids$Grid;)I"⟩, 8), (⟨"ShiftGrids$Cell", "crossed", "(II)J"⟩, 5), (⟨"ShiftGrids", "gapsOfAll", "()I"⟩, 8), (⟨"ShiftGrids", "firstWithGreatestGap", "()I"⟩, 8), (⟨"ShiftGrids$Search", "kindOf", "(I)I"⟩, 4), (⟨"ShiftGrids$Sheet", "lowerParentsBehind", "(I)V"⟩, 3), (⟨"ShiftGrids$Draws", "draw", "(I)I"⟩, 1), (⟨"ShiftGrids", "imageOf", "(I)LShiftGrids$Image;"⟩, 8), (⟨"ShiftGridsModel", "nodesMoved", "()I"⟩, 16), (⟨"ShiftGridsModel", "its", "(II)I"⟩, 16), (⟨"ShiftGridsModel", "off", "(IIII)I"⟩, 16), (⟨"ShiftGridsModel", "tally", "(I)I"⟩, 16), (⟨"ShiftGridsModel", "gaps", "(I)V"⟩, 16)]
theorem lw_r1 : ∀ q ∈ lw_privs_1, lw_okq q := List.forall_mem_cons.mpr ⟨lw_p0, List.forall_mem_cons.mpr ⟨lw_p1, List.forall_mem_cons.mpr ⟨lw_p2, List.forall_mem_cons.mpr ⟨lw_p3, List.forall_mem_cons.mpr ⟨lw_p4, List.forall_mem_cons.mpr ⟨lw_p5, List.forall_mem_cons.mpr ⟨lw_p6, List.forall_mem_cons.mpr ⟨lw_p7, List.forall_mem_cons.mpr ⟨lw_p8, List.forall_mem_cons.mpr ⟨lw_p9, List.forall_mem_cons.mpr ⟨lw_p10, List.forall_mem_cons.mpr ⟨lw_p11, List.forall_mem_cons.mpr ⟨lw_p12, List.forall_mem_cons.mpr ⟨lw_p13, List.forall_mem_cons.mpr ⟨lw_p14, List.forall_mem_cons.mpr ⟨lw_p15, fun _ h => absurd h List.not_mem_nil⟩⟩⟩⟩⟩⟩⟩⟩⟩⟩⟩⟩⟩⟩⟩⟩
theorem lw_p16 : lw_okq (⟨"ShiftGridsModel", "isBorder", "(III)Z"⟩, 16) := ⟨⟨by decide +kernel, by decide +kernel⟩, List.mem_of_getElem? (i := 663) (by decide +kernel), List.mem_of_getElem? (i := 746) (by decide +kernel), List.mem_of_getElem? (i := 747) (by decide +kernel)⟩
theorem lw_p17 : lw_okq (⟨"ShiftGridsModel", "gapAt", "(III)I"⟩, 16) := ⟨⟨by decide +kernel, by decide +kernel⟩, List.mem_of_getElem? (i := 663) (by decide +kernel), List.mem_of_getElem? (i := 750) (by decide +kernel), List.mem_of_getElem? (i := 751) (by decide +kernel)⟩
theorem lw_p18 : lw_okq (⟨"ShiftGridsModel", "ofParent", "(IIII)I"⟩, 16) := ⟨⟨by decide +kernel, by decide +kernel⟩, List.mem_of_getElem? (i := 663) (by decide +kernel), List.mem_of_getElem? (i := 754) (by decide +kernel), List.mem_of_getElem? (i := 755) (by decide +kernel)⟩
theorem lw_p19 : lw_okq (⟨"ShiftGridsModel", "stands", "(III)I"⟩, 16) := ⟨⟨by decide +kernel, by decide +kernel⟩, List.mem_of_getElem? (i := 663) (by decide +kernel), List.mem_of_getElem? (i := 758) (by decide +kernel), List.mem_of_getElem? (i := 759) (by decide +kernel)⟩
theorem lw_p20 : lw_okq (⟨"ShiftGridsModel", "offset", "(IIII)I"⟩, 16) := ⟨⟨by decide +kernel, by decide +kernel⟩, List.mem_of_getElem? (i := 663) (by decide +kernel), List.mem_of_getElem? (i := 762) (by decide +kernel), List.mem_of_getElem? (i := 763) (by decide +kernel)⟩
theorem lw_p21 : lw_okq (⟨"ShiftGridsModel", "between", "(IIIIJJJ)I"⟩, 16) := ⟨⟨by decide +kernel, by decide +kernel⟩, List.mem_of_getElem? (i := 663) (by decide +kernel), List.mem_of_getElem? (i := 766) (by decide +kernel), List.mem_of_getElem? (i := 767) (by decide +kernel)⟩
theorem lw_p22 : lw_okq (⟨"ShiftGridsModel", "cells", "(IZ)I"⟩, 16) := ⟨⟨by decide +kernel, by decide +kernel⟩, List.mem_of_getElem? (i := 663) (by decide +kernel), List.mem_of_getElem? (i := 780) (by decide +kernel), List.mem_of_getElem? (i := 781) (by decide +kernel)⟩
theorem lw_p23 : lw_okq (⟨"ShiftGridsModel", "isFolded", "(III)Z"⟩, 16) := ⟨⟨by decide +kernel, by decide +kernel⟩, List.mem_of_getElem? (i := 663) (by decide +kernel), List.mem_of_getElem? (i := 784) (by decide +kernel), List.mem_of_getElem? (i := 785) (by decide +kernel)⟩
theorem lw_p24 : lw_okq (⟨"ShiftGridsModel", "cross", "(IIIII)J"⟩, 16) := ⟨⟨by decide +kernel, by decide +kernel⟩, List.mem_of_getElem? (i := 663) (by decide +kernel), List.mem_of_getElem? (i := 788) (by decide +kernel), List.mem_of_getElem? (i := 789) (by decide +kernel)⟩
theorem lw_p25 : lw_okq (⟨"ShiftGridsModel", "corner", "(IIIII)J"⟩, 16) := ⟨⟨by decide +kernel, by decide +kernel⟩, List.mem_of_getElem? (i := 663) (by decide +kernel), List.mem_of_getElem? (i := 792) (by decide +kernel), List.mem_of_getElem? (i := 793) (by decide +kernel)⟩
theorem lw_p26 : lw_okq (⟨"ShiftGridsModel", "isSure", "(III)Z"⟩, 16) := ⟨⟨by decide +kernel, by decide +kernel⟩, List.mem_of_getElem? (i := 663) (by decide +kernel), List.mem_of_getElem? (i := 796) (by decide +kernel), List.mem_of_getElem? (i := 797) (by decide +kernel)⟩
theorem lw_p27 : lw_okq (⟨"ShiftGridsModel", "steep", "(III)I"⟩, 16) := ⟨⟨by decide +kernel, by decide +kernel⟩, List.mem_of_getElem? (i := 663) (by decide +kernel), List.mem_of_getElem? (i := 800) (by decide +kernel), List.mem_of_getElem? (i := 801) (by decide +kernel)⟩
theorem lw_p28 : lw_okq (⟨"ShiftGridsModel", "steepIn", "(IIII)I"⟩, 16) := ⟨⟨by decide +kernel, by decide +kernel⟩, List.mem_of_getElem? (i := 663) (by decide +kernel), List.mem_of_getElem? (i := 804) (by decide +kernel), List.mem_of_getElem? (i := 805) (by decide +kernel)⟩
theorem lw_p29 : lw_okq (⟨"ShiftGridsModel", "wrong", "()I"⟩, 16) := ⟨⟨by decide +kernel, by decide +kernel⟩, List.mem_of_getElem? (i := 663) (by decide +kernel), List.mem_of_getElem? (i := 808) (by decide +kernel), List.mem_of_getElem? (i := 809) (by decide +kernel)⟩
theorem lw_p30 : lw_okq (⟨"ShiftGridsModel", "movedBy", "(III)I"⟩, 16) := ⟨⟨by decide +kernel, by decide +kernel⟩, List.mem_of_getElem? (i := 663) (by decide +kernel), List.mem_of_getElem? (i := 812) (by decide +kernel), List.mem_of_getElem? (i := 813) (by decide +kernel)⟩
theorem lw_p31 : lw_okq (⟨"ShiftGridsModel", "belongs", "(II)I"⟩, 16) := ⟨⟨by decide +kernel, by decide +kernel⟩, List.mem_of_getElem? (i := 663) (by decide +kernel), List.mem_of_getElem? (i := 816) (by decide +kernel), List.mem_of_getElem? (i := 817) (by decide +kernel)⟩
def lw_privs_2 : List (MethodName × Nat) := [(⟨"ShiftGridsModel", "isBorder", "(III)Z"⟩, 16), (⟨"ShiftGridsModel", "gapAt", "(III)I"⟩, 16), (⟨"ShiftGridsModel", "ofParent", "(IIII)I"⟩, 16), (⟨"ShiftGridsModel", "stands", "(III)I"⟩, 16), (⟨"ShiftGridsModel", "offset", "(IIII)I"⟩, 16), (⟨"ShiftGridsModel", "between", "(IIIIJJJ)I"⟩, 16), (⟨"ShiftGridsModel", "cells", "(IZ)I"⟩, 16), (⟨"ShiftGridsModel", "isFolded", "(III)Z"⟩, 16), (⟨"ShiftGridsModel", "cross", "(IIIII)J"⟩, 16), (⟨"ShiftGridsModel", "corner", "(IIIII)J"⟩, 16), (⟨"ShiftGridsModel", "isSure", "(III)Z"⟩, 16), (⟨"ShiftGridsModel", "steep", "(III)I"⟩, 16), (⟨"ShiftGridsModel", "steepIn", "(IIII)I"⟩, 16), (⟨"ShiftGridsModel", "wrong", "()I"⟩, 16), (⟨"ShiftGridsModel", "movedBy", "(III)I"⟩, 16), (⟨"ShiftGridsModel", "belongs", "(II)I"⟩, 16)]
theorem lw_r2 : ∀ q ∈ lw_privs_2, lw_okq q := List.forall_mem_cons.mpr ⟨lw_p16, List.forall_mem_cons.mpr ⟨lw_p17, List.forall_mem_cons.mpr ⟨lw_p18, List.forall_mem_cons.mpr ⟨lw_p19, List.forall_mem_cons.mpr ⟨lw_p20, List.forall_mem_cons.mpr ⟨lw_p21, List.forall_mem_cons.mpr ⟨lw_p22, List.forall_mem_cons.mpr ⟨lw_p23, List.forall_mem_cons.mpr ⟨lw_p24, List.forall_mem_cons.mpr ⟨lw_p25, List.forall_mem_cons.mpr ⟨lw_p26, List.forall_mem_cons.mpr ⟨lw_p27, List.forall_mem_cons.mpr ⟨lw_p28, List.forall_mem_cons.mpr ⟨lw_p29, List.forall_mem_cons.mpr ⟨lw_p30, List.forall_mem_cons.mpr ⟨lw_p31, fun _ h => absurd h List.not_mem_nil⟩⟩⟩⟩⟩⟩⟩⟩⟩⟩⟩⟩⟩⟩⟩⟩
theorem lw_p32 : lw_okq (⟨"ShiftGridsModel", "child", "(III)I"⟩, 16) := ⟨⟨by decide +kernel, by decide +kernel⟩, List.mem_of_getElem? (i := 663) (by decide +kernel), List.mem_of_getElem? (i := 820) (by decide +kernel), List.mem_of_getElem? (i := 821) (by decide +kernel)⟩
theorem lw_p33 : lw_okq (⟨"ShiftGridsModel", "isOn", "(III)Z"⟩, 16) := ⟨⟨by decide +kernel, by decide +kernel⟩, List.mem_of_getElem? (i := 663) (by decide +kernel), List.mem_of_getElem? (i := 824) (by decide +kernel), List.mem_of_getElem? (i := 825) (by decide +kernel)⟩
theorem lw_p34 : lw_okq (⟨"ShiftGridsModel", "last", "(II)I"⟩, 16) := ⟨⟨by decide +kernel, by decide +kernel⟩, List.mem_of_getElem? (i := 663) (by decide +kernel), List.mem_of_getElem? (i := 828) (by decide +kernel), List.mem_of_getElem? (i := 829) (by decide +kernel)⟩
theorem lw_p35 : lw_okq (⟨"ShiftGridsModel", "isGrid", "(I)Z"⟩, 16) := ⟨⟨by decide +kernel, by decide +kernel⟩, List.mem_of_getElem? (i := 663) (by decide +kernel), List.mem_of_getElem? (i := 840) (by decide +kernel), List.mem_of_getElem? (i := 841) (by decide +kernel)⟩
theorem lw_p36 : lw_okq (⟨"ShiftGridsModel", "children", "(I)I"⟩, 16) := ⟨⟨by decide +kernel, by decide +kernel⟩, List.mem_of_getElem? (i := 663) (by decide +kernel), List.mem_of_getElem? (i := 846) (by decide +kernel), List.mem_of_getElem? (i := 847) (by decide +kernel)⟩
theorem lw_p37 : lw_okq (⟨"ShiftGridsModel", "depth", "(I)I"⟩, 16) := ⟨⟨by decide +kernel, by decide +kernel⟩, List.mem_of_getElem? (i := 663) (by decide +kernel), List.mem_of_getElem? (i := 850) (by decide +kernel), List.mem_of_getElem? (i := 851) (by decide +kernel)⟩
theorem lw_p38 : lw_okq (⟨"ShiftGridsModel", "isNode", "(III)Z"⟩, 16) := ⟨⟨by decide +kernel, by decide +kernel⟩, List.mem_of_getElem? (i := 663) (by decide +kernel), List.mem_of_getElem? (i := 858) (by decide +kernel), List.mem_of_getElem? (i := 859) (by decide +kernel)⟩
theorem lw_p39 : lw_okq (⟨"ShiftGridsModel", "isCell", "(III)Z"⟩, 16) := ⟨⟨by decide +kernel, by decide +kernel⟩, List.mem_of_getElem? (i := 663) (by decide +kernel), List.mem_of_getElem? (i := 868) (by decide +kernel), List.mem_of_getElem? (i := 869) (by decide +kernel)⟩
theorem lw_p40 : lw_okq (⟨"ShiftGridsModel", "area", "(III)J"⟩, 16) := ⟨⟨by decide +kernel, by decide +kernel⟩, List.mem_of_getElem? (i := 663) (by decide +kernel), List.mem_of_getElem? (i := 873) (by decide +kernel), List.mem_of_getElem? (i := 874) (by decide +kernel)⟩
theorem lw_p41 : lw_okq (⟨"ShiftGridsModel", "wasThere", "(I)Z"⟩, 16) := ⟨⟨by decide +kernel, by decide +kernel⟩, List.mem_of_getElem? (i := 663) (by decide +kernel), List.mem_of_getElem? (i := 896) (by decide +kernel), List.mem_of_getElem? (i := 897) (by decide +kernel)⟩
theorem lw_p42 : lw_okq (⟨"ShiftGridsModel", "mayBe", "(IIIIII)Z"⟩, 16) := ⟨⟨by decide +kernel, by decide +kernel⟩, List.mem_of_getElem? (i := 663) (by decide +kernel), List.mem_of_getElem? (i := 907) (by decide +kernel), List.mem_of_getElem? (i := 908) (by decide +kernel)⟩
theorem lw_p43 : lw_okq (⟨"ShiftGridsModel", "overlaps", "(IIIII)Z"⟩, 16) := ⟨⟨by decide +kernel, by decide +kernel⟩, List.mem_of_getElem? (i := 663) (by decide +kernel), List.mem_of_getElem? (i := 911) (by decide +kernel), List.mem_of_getElem? (i := 912) (by decide +kernel)⟩
theorem lw_p44 : lw_okq (⟨"ShiftGridsModel", "notes", "()V"⟩, 16) := ⟨⟨by decide +kernel, by decide +kernel⟩, List.mem_of_getElem? (i := 663) (by decide +kernel), List.mem_of_getElem? (i := 917) (by decide +kernel), List.mem_of_getElem? (i := 918) (by decide +kernel)⟩
theorem lw_p45 : lw_okq (⟨"ShiftGridsModel", "sets", "(IIIII)I"⟩, 16) := ⟨⟨by decide +kernel, by decide +kernel⟩, List.mem_of_getElem? (i := 663) (by decide +kernel), List.mem_of_getElem? (i := 930) (by decide +kernel), List.mem_of_getElem? (i := 931) (by decide +kernel)⟩
theorem lw_p46 : lw_okq (⟨"ShiftGridsModel", "draw", "(I)I"⟩, 16) := ⟨⟨by decide +kernel, by decide +kernel⟩, List.mem_of_getElem? (i := 663) (by decide +kernel), List.mem_of_getElem? (i := 955) (by decide +kernel), List.mem_of_getElem? (i := 956) (by decide +kernel)⟩
def lw_privs_3 : List (MethodName × Nat) := [(⟨"ShiftGridsModel", "child", "(III)I"⟩, 16), (⟨"ShiftGridsModel", "isOn", "(III)Z"⟩, 16), (⟨"ShiftGridsModel", "last", "(II)I"⟩, 16), (⟨"ShiftGridsModel", "isGrid", "(I)Z"⟩, 16), (⟨"ShiftGridsModel", "children", "(I)I"⟩, 16), (⟨"ShiftGridsModel", "depth", "(I)I"⟩, 16), (⟨"ShiftGridsModel", "isNode", "(III)Z"⟩, 16), (⟨"ShiftGridsModel", "isCell", "(III)Z"⟩, 16), (⟨"ShiftGridsModel", "area", "(III)J"⟩, 16), (⟨"ShiftGridsModel", "wasThere", "(I)Z"⟩, 16), (⟨"ShiftGridsModel", "mayBe", "(IIIIII)Z"⟩, 16), (⟨"ShiftGridsModel", "overlaps", "(IIIII)Z"⟩, 16), (⟨"ShiftGridsModel", "notes", "()V"⟩, 16), (⟨"ShiftGridsModel", "sets", "(IIIII)I"⟩, 16), (⟨"ShiftGridsModel", "draw", "(I)I"⟩, 16)]
theorem lw_r3 : ∀ q ∈ lw_privs_3, lw_okq q := List.forall_mem_cons.mpr ⟨lw_p32, List.forall_mem_cons.mpr ⟨lw_p33, List.forall_mem_cons.mpr ⟨lw_p34, List.forall_mem_cons.mpr ⟨lw_p35, List.forall_mem_cons.mpr ⟨lw_p36, List.forall_mem_cons.mpr ⟨lw_p37, List.forall_mem_cons.mpr ⟨lw_p38, List.forall_mem_cons.mpr ⟨lw_p39, List.forall_mem_cons.mpr ⟨lw_p40, List.forall_mem_cons.mpr ⟨lw_p41, List.forall_mem_cons.mpr ⟨lw_p42, List.forall_mem_cons.mpr ⟨lw_p43, List.forall_mem_cons.mpr ⟨lw_p44, List.forall_mem_cons.mpr ⟨lw_p45, List.forall_mem_cons.mpr ⟨lw_p46, fun _ h => absurd h List.not_mem_nil⟩⟩⟩⟩⟩⟩⟩⟩⟩⟩⟩⟩⟩⟩⟩
def lw_privs : List (MethodName × Nat) := lw_privs_1 ++ (lw_privs_2 ++ (lw_privs_3))
def lw_tbl : List Cond := k2_sels lw_privs ++ tables_1
theorem lw_privs_ok : ∀ q ∈ lw_privs, lw_okq q := by
  show ∀ q ∈ lw_privs_1 ++ (lw_privs_2 ++ (lw_privs_3)), lw_okq q
  exact List.forall_mem_append.mpr ⟨lw_r1, List.forall_mem_append.mpr ⟨lw_r2, lw_r3⟩⟩
end
section
def RX0 : String := "ShiftGrids$Book"
def TX0 : u_T := fun k => match k with
  | 0 => ("ShiftGrids$Book", "xs", "[I", true)
  | 1 => ("ShiftGrids$Book", "ys", "[I", true)
  | 2 => ("ShiftGrids$Book", "said", "[I", true)
  | _ => ("ShiftGrids$Book", "count", "I", false)
def tyX0 : Nat → FieldType := fun k => match k with
  | 0 => .array .int
  | 1 => .array .int
  | 2 => .array .int
  | _ => .int
theorem nmX0 : ∀ a, a < 4 → ∀ b, b < 4 → a ≠ b → (TX0 a).2.1 ≠ (TX0 b).2.1 := by decide +kernel
theorem tyX0_ok : ∀ k, k < 4 → parseFieldDescriptor (TX0 k).2.2.1 = some (tyX0 k) := by decide +kernel
abbrev cX0_init : ByteArray := prog_2_method_1_code
def yX0_init : MethodName := ⟨RX0, "<init>", "()V"⟩
abbrev cX0_size : ByteArray := prog_2_method_2_code
def yX0_size : MethodName := ⟨RX0, "size", "()I"⟩
abbrev cX0_clear : ByteArray := prog_2_method_3_code
def yX0_clear : MethodName := ⟨RX0, "clear", "()V"⟩
abbrev cX0_add : ByteArray := prog_2_method_4_code
def yX0_add : MethodName := ⟨RX0, "add", "(III)Z"⟩
abbrev cX0_firstWrong : ByteArray := prog_2_method_5_code
def yX0_firstWrong : MethodName := ⟨RX0, "firstWrong", "(LShiftGrids$Sheet;)I"⟩
def RX1 : String := "ShiftGrids$Border"
def TX1 : u_T := fun k => match k with
  | _ => ("", "", "", false)
def tyX1 : Nat → FieldType := fun k => match k with
  | _ => .int
theorem nmX1 : ∀ a, a < 0 → ∀ b, b < 0 → a ≠ b → (TX1 a).2.1 ≠ (TX1 b).2.1 := by decide +kernel
theorem tyX1_ok : ∀ k, k < 0 → parseFieldDescriptor (TX1 k).2.2.1 = some (tyX1 k) := by decide +kernel
abbrev cX1_gap : ByteArray := prog_3_method_2_code
def yX1_gap : MethodName := ⟨RX1, "gap", "(LShiftGrids$Grid;LShiftGrids$Grid;III)I"⟩
abbrev cX1_gaps : ByteArray := prog_3_method_3_code
def yX1_gaps : MethodName := ⟨RX1, "gaps", "(LShiftGrids$Sheet;LShiftGrids$Grid;)I"⟩
abbrev cX1_greatestGap : ByteArray := prog_3_method_4_code
def yX1_greatestGap : MethodName := ⟨RX1, "greatestGap", "(LShiftGrids$Sheet;LShiftGrids$Grid;)I"⟩
abbrev cX1_meet : ByteArray := prog_3_method_5_code
def yX1_meet : MethodName := ⟨RX1, "meet", "(LShiftGrids$Sheet;LShiftGrids$Grid;)V"⟩
def RX2 : String := "ShiftGrids$Cell"
def TX2 : u_T := fun k => match k with
  | 0 => ("ShiftGrids$Cell", "dxs", "[I", true)
  | 1 => ("ShiftGrids$Cell", "dys", "[I", true)
  | 2 => ("ShiftGrids$Cell", "xs", "[J", true)
  | 3 => ("ShiftGrids$Cell", "ys", "[J", true)
  | _ => ("ShiftGrids$Cell", "side", "I", false)
def tyX2 : Nat → FieldType := fun k => match k with
  | 0 => .array .int
  | 1 => .array .int
  | 2 => .array .long
  | 3 => .array .long
  | _ => .int
theorem nmX2 : ∀ a, a < 5 → ∀ b, b < 5 → a ≠ b → (TX2 a).2.1 ≠ (TX2 b).2.1 := by decide +kernel
theorem tyX2_ok : ∀ k, k < 5 → parseFieldDescriptor (TX2 k).2.2.1 = some (tyX2 k) := by decide +kernel
abbrev cX2_init : ByteArray := prog_4_method_1_code
def yX2_init : MethodName := ⟨RX2, "<init>", "()V"⟩
abbrev cX2_look : ByteArray := prog_4_method_2_code
def yX2_look : MethodName := ⟨RX2, "look", "(LShiftGrids$Grid;II)V"⟩
abbrev cX2_steepnessOf : ByteArray := prog_4_method_3_code
def yX2_steepnessOf : MethodName := ⟨RX2, "steepnessOf", "([I)I"⟩
abbrev cX2_steepness : ByteArray := prog_4_method_4_code
def yX2_steepness : MethodName := ⟨RX2, "steepness", "()I"⟩
abbrev cX2_isSure : ByteArray := prog_4_method_5_code
def yX2_isSure : MethodName := ⟨RX2, "isSure", "()Z"⟩
abbrev cX2_crossed : ByteArray := prog_4_method_6_code
def yX2_crossed : MethodName := ⟨RX2, "crossed", "(II)J"⟩
abbrev cX2_area : ByteArray := prog_4_method_7_code
def yX2_area : MethodName := ⟨RX2, "area", "()J"⟩
abbrev cX2_isFolded : ByteArray := prog_4_method_8_code
def yX2_isFolded : MethodName := ⟨RX2, "isFolded", "()Z"⟩
def RX3 : String := "ShiftGrids$Draws"
def TX3 : u_T := fun k => match k with
  | _ => ("ShiftGrids$Draws", "seedValue", "I", false)
def tyX3 : Nat → FieldType := fun k => match k with
  | _ => .int
theorem nmX3 : ∀ a, a < 1 → ∀ b, b < 1 → a ≠ b → (TX3 a).2.1 ≠ (TX3 b).2.1 := by decide +kernel
theorem tyX3_ok : ∀ k, k < 1 → parseFieldDescriptor (TX3 k).2.2.1 = some (tyX3 k) := by decide +kernel
abbrev cX3_init : ByteArray := prog_5_method_1_code
def yX3_init : MethodName := ⟨RX3, "<init>", "()V"⟩
abbrev cX3_seedNow : ByteArray := prog_5_method_2_code
def yX3_seedNow : MethodName := ⟨RX3, "seedNow", "()I"⟩
abbrev cX3_setSeed : ByteArray := prog_5_method_3_code
def yX3_setSeed : MethodName := ⟨RX3, "setSeed", "(I)V"⟩
abbrev cX3_draw : ByteArray := prog_5_method_4_code
def yX3_draw : MethodName := ⟨RX3, "draw", "(I)I"⟩
abbrev cX3_shiftNode : ByteArray := prog_5_method_5_code
def yX3_shiftNode : MethodName := ⟨RX3, "shiftNode", "(LShiftGrids$Sheet;)V"⟩
def RX4 : String := "ShiftGrids$Grid"
def TX4 : u_T := fun k => match k with
  | 0 => ("ShiftGrids$Grid", "offsets", "[I", true)
  | 1 => ("ShiftGrids$Grid", "parent", "I", false)
  | 2 => ("ShiftGrids$Grid", "left", "I", false)
  | 3 => ("ShiftGrids$Grid", "top", "I", false)
  | 4 => ("ShiftGrids$Grid", "step", "I", false)
  | 5 => ("ShiftGrids$Grid", "columns", "I", false)
  | _ => ("ShiftGrids$Grid", "rows", "I", false)
def tyX4 : Nat → FieldType := fun k => match k with
  | 0 => .array .int
  | 1 => .int
  | 2 => .int
  | 3 => .int
  | 4 => .int
  | 5 => .int
  | _ => .int
theorem nmX4 : ∀ a, a < 7 → ∀ b, b < 7 → a ≠ b → (TX4 a).2.1 ≠ (TX4 b).2.1 := by decide +kernel
theorem tyX4_ok : ∀ k, k < 7 → parseFieldDescriptor (TX4 k).2.2.1 = some (tyX4 k) := by decide +kernel
abbrev cX4_init : ByteArray := prog_6_method_1_code
def yX4_init : MethodName := ⟨RX4, "<init>", "()V"⟩
abbrev cX4_place : ByteArray := prog_6_method_2_code
def yX4_place : MethodName := ⟨RX4, "place", "(IIIIII)V"⟩
abbrev cX4_copyFrom : ByteArray := prog_6_method_3_code
def yX4_copyFrom : MethodName := ⟨RX4, "copyFrom", "(LShiftGrids$Grid;)V"⟩
abbrev cX4_hasNode : ByteArray := prog_6_method_4_code
def yX4_hasNode : MethodName := ⟨RX4, "hasNode", "(II)Z"⟩
abbrev cX4_hasCell : ByteArray := prog_6_method_5_code
def yX4_hasCell : MethodName := ⟨RX4, "hasCell", "(II)Z"⟩
abbrev cX4_isOnBorder : ByteArray := prog_6_method_6_code
def yX4_isOnBorder : MethodName := ⟨RX4, "isOnBorder", "(II)Z"⟩
abbrev cX4_right : ByteArray := prog_6_method_7_code
def yX4_right : MethodName := ⟨RX4, "right", "()I"⟩
abbrev cX4_bottom : ByteArray := prog_6_method_8_code
def yX4_bottom : MethodName := ⟨RX4, "bottom", "()I"⟩
abbrev cX4_side : ByteArray := prog_6_method_9_code
def yX4_side : MethodName := ⟨RX4, "side", "()I"⟩
abbrev cX4_columnPlace : ByteArray := prog_6_method_10_code
def yX4_columnPlace : MethodName := ⟨RX4, "columnPlace", "(I)I"⟩
abbrev cX4_rowPlace : ByteArray := prog_6_method_11_code
def yX4_rowPlace : MethodName := ⟨RX4, "rowPlace", "(I)I"⟩
abbrev cX4_isOnGround : ByteArray := prog_6_method_12_code
def yX4_isOnGround : MethodName := ⟨RX4, "isOnGround", "(II)Z"⟩
abbrev cX4_offset : ByteArray := prog_6_method_13_code
def yX4_offset : MethodName := ⟨RX4, "offset", "(III)I"⟩
abbrev cX4_setOffset : ByteArray := prog_6_method_14_code
def yX4_setOffset : MethodName := ⟨RX4, "setOffset", "(IIII)Z"⟩
abbrev cX4_setOffsets : ByteArray := prog_6_method_15_code
def yX4_setOffsets : MethodName := ⟨RX4, "setOffsets", "(II)I"⟩
abbrev cX4_shiftedNodes : ByteArray := prog_6_method_16_code
def yX4_shiftedNodes : MethodName := ⟨RX4, "shiftedNodes", "()I"⟩
abbrev cX4_cellAhead : ByteArray := prog_6_method_17_code
def yX4_cellAhead : MethodName := ⟨RX4, "cellAhead", "(III)I"⟩
abbrev cX4_offsetBy : ByteArray := prog_6_method_18_code
def yX4_offsetBy : MethodName := ⟨RX4, "offsetBy", "(IIII)I"⟩
abbrev cX4_rounded : ByteArray := prog_6_method_19_code
def yX4_rounded : MethodName := ⟨RX4, "rounded", "(JJ)I"⟩
def RX5 : String := "ShiftGrids$History"
def TX5 : u_T := fun k => match k with
  | 0 => ("ShiftGrids$History", "sheets", "[LShiftGrids$Sheet;", true)
  | 1 => ("ShiftGrids$History", "next", "I", false)
  | _ => ("ShiftGrids$History", "count", "I", false)
def tyX5 : Nat → FieldType := fun k => match k with
  | 0 => .array (.object "ShiftGrids$Sheet")
  | 1 => .int
  | _ => .int
theorem nmX5 : ∀ a, a < 3 → ∀ b, b < 3 → a ≠ b → (TX5 a).2.1 ≠ (TX5 b).2.1 := by decide +kernel
theorem tyX5_ok : ∀ k, k < 3 → parseFieldDescriptor (TX5 k).2.2.1 = some (tyX5 k) := by decide +kernel
abbrev cX5_init : ByteArray := prog_7_method_1_code
def yX5_init : MethodName := ⟨RX5, "<init>", "()V"⟩
abbrev cX5_size : ByteArray := prog_7_method_2_code
def yX5_size : MethodName := ⟨RX5, "size", "()I"⟩
abbrev cX5_clear : ByteArray := prog_7_method_3_code
def yX5_clear : MethodName := ⟨RX5, "clear", "()V"⟩
abbrev cX5_push : ByteArray := prog_7_method_4_code
def yX5_push : MethodName := ⟨RX5, "push", "(LShiftGrids$Sheet;)V"⟩
abbrev cX5_takeBack : ByteArray := prog_7_method_5_code
def yX5_takeBack : MethodName := ⟨RX5, "takeBack", "(LShiftGrids$Sheet;I)V"⟩
def RX6 : String := "ShiftGrids$Image"
def TX6 : u_T := fun k => match k with
  | 0 => ("ShiftGrids$Image", "kept", "LShiftGrids$Sheet;", true)
  | 1 => ("ShiftGrids$Image", "seedThen", "I", false)
  | _ => ("ShiftGrids$Image", "taken", "Z", false)
def tyX6 : Nat → FieldType := fun k => match k with
  | 0 => .object "ShiftGrids$Sheet"
  | 1 => .int
  | _ => .boolean
theorem nmX6 : ∀ a, a < 3 → ∀ b, b < 3 → a ≠ b → (TX6 a).2.1 ≠ (TX6 b).2.1 := by decide +kernel
theorem tyX6_ok : ∀ k, k < 3 → parseFieldDescriptor (TX6 k).2.2.1 = some (tyX6 k) := by decide +kernel
abbrev cX6_init : ByteArray := prog_8_method_1_code
def yX6_init : MethodName := ⟨RX6, "<init>", "()V"⟩
abbrev cX6_wasTaken : ByteArray := prog_8_method_2_code
def yX6_wasTaken : MethodName := ⟨RX6, "wasTaken", "()Z"⟩
abbrev cX6_take : ByteArray := prog_8_method_3_code
def yX6_take : MethodName := ⟨RX6, "take", "(LShiftGrids$Sheet;LShiftGrids$Draws;)V"⟩
abbrev cX6_give : ByteArray := prog_8_method_4_code
def yX6_give : MethodName := ⟨RX6, "give", "(LShiftGrids$Sheet;LShiftGrids$Draws;)V"⟩
def RX7 : String := "ShiftGrids$Search"
def TX7 : u_T := fun k => match k with
  | 0 => ("ShiftGrids$Search", "xs", "[I", true)
  | 1 => ("ShiftGrids$Search", "ys", "[I", true)
  | 2 => ("ShiftGrids$Search", "kind", "I", false)
  | _ => ("ShiftGrids$Search", "last", "I", false)
def tyX7 : Nat → FieldType := fun k => match k with
  | 0 => .array .int
  | 1 => .array .int
  | 2 => .int
  | _ => .int
theorem nmX7 : ∀ a, a < 4 → ∀ b, b < 4 → a ≠ b → (TX7 a).2.1 ≠ (TX7 b).2.1 := by decide +kernel
theorem tyX7_ok : ∀ k, k < 4 → parseFieldDescriptor (TX7 k).2.2.1 = some (tyX7 k) := by decide +kernel
abbrev cX7_init : ByteArray := prog_9_method_1_code
def yX7_init : MethodName := ⟨RX7, "<init>", "()V"⟩
abbrev cX7_run : ByteArray := prog_9_method_2_code
def yX7_run : MethodName := ⟨RX7, "run", "(LShiftGrids$Sheet;II)V"⟩
abbrev cX7_kindOf : ByteArray := prog_9_method_3_code
def yX7_kindOf : MethodName := ⟨RX7, "kindOf", "(I)I"⟩
abbrev cX7_kindNow : ByteArray := prog_9_method_4_code
def yX7_kindNow : MethodName := ⟨RX7, "kindNow", "()I"⟩
abbrev cX7_rounds : ByteArray := prog_9_method_5_code
def yX7_rounds : MethodName := ⟨RX7, "rounds", "()I"⟩
abbrev cX7_lastX : ByteArray := prog_9_method_6_code
def yX7_lastX : MethodName := ⟨RX7, "lastX", "()I"⟩
abbrev cX7_lastY : ByteArray := prog_9_method_7_code
def yX7_lastY : MethodName := ⟨RX7, "lastY", "()I"⟩
def RX8 : String := "ShiftGrids$Sheet"
def TX8 : u_T := fun k => match k with
  | 0 => ("ShiftGrids$Sheet", "grids", "[LShiftGrids$Grid;", true)
  | 1 => ("ShiftGrids$Sheet", "count", "I", false)
  | _ => ("ShiftGrids$Sheet", "rule", "I", false)
def tyX8 : Nat → FieldType := fun k => match k with
  | 0 => .array (.object "ShiftGrids$Grid")
  | 1 => .int
  | _ => .int
theorem nmX8 : ∀ a, a < 3 → ∀ b, b < 3 → a ≠ b → (TX8 a).2.1 ≠ (TX8 b).2.1 := by decide +kernel
theorem tyX8_ok : ∀ k, k < 3 → parseFieldDescriptor (TX8 k).2.2.1 = some (tyX8 k) := by decide +kernel
abbrev cX8_init : ByteArray := prog_10_method_1_code
def yX8_init : MethodName := ⟨RX8, "<init>", "()V"⟩
abbrev cX8_copyFrom : ByteArray := prog_10_method_2_code
def yX8_copyFrom : MethodName := ⟨RX8, "copyFrom", "(LShiftGrids$Sheet;)V"⟩
abbrev cX8_size : ByteArray := prog_10_method_3_code
def yX8_size : MethodName := ⟨RX8, "size", "()I"⟩
abbrev cX8_ruleNow : ByteArray := prog_10_method_4_code
def yX8_ruleNow : MethodName := ⟨RX8, "ruleNow", "()I"⟩
abbrev cX8_setRule : ByteArray := prog_10_method_5_code
def yX8_setRule : MethodName := ⟨RX8, "setRule", "(I)V"⟩
abbrev cX8_at : ByteArray := prog_10_method_6_code
def yX8_at : MethodName := ⟨RX8, "at", "(I)LShiftGrids$Grid;"⟩
abbrev cX8_fitsParent : ByteArray := prog_10_method_7_code
def yX8_fitsParent : MethodName := ⟨RX8, "fitsParent", "(IIIIII)Z"⟩
abbrev cX8_isApart : ByteArray := prog_10_method_8_code
def yX8_isApart : MethodName := ⟨RX8, "isApart", "(IIIII)Z"⟩
abbrev cX8_add : ByteArray := prog_10_method_9_code
def yX8_add : MethodName := ⟨RX8, "add", "(IIIIII)I"⟩
abbrev cX8_remove : ByteArray := prog_10_method_10_code
def yX8_remove : MethodName := ⟨RX8, "remove", "(I)V"⟩
abbrev cX8_lowerParentsBehind : ByteArray := prog_10_method_11_code
def yX8_lowerParentsBehind : MethodName := ⟨RX8, "lowerParentsBehind", "(I)V"⟩
abbrev cX8_shiftedNodes : ByteArray := prog_10_method_12_code
def yX8_shiftedNodes : MethodName := ⟨RX8, "shiftedNodes", "()I"⟩
abbrev cX8_children : ByteArray := prog_10_method_13_code
def yX8_children : MethodName := ⟨RX8, "children", "(I)I"⟩
abbrev cX8_parentsAbove : ByteArray := prog_10_method_14_code
def yX8_parentsAbove : MethodName := ⟨RX8, "parentsAbove", "(I)I"⟩
abbrev cX8_owner : ByteArray := prog_10_method_15_code
def yX8_owner : MethodName := ⟨RX8, "owner", "(II)I"⟩
abbrev cX8_placeOffset : ByteArray := prog_10_method_16_code
def yX8_placeOffset : MethodName := ⟨RX8, "placeOffset", "(III)I"⟩
def RX9 : String := "ShiftGrids"
def TX9 : u_T := fun k => match k with
  | 0 => ("ShiftGrids", "sheet", "LShiftGrids$Sheet;", true)
  | 1 => ("ShiftGrids", "history", "LShiftGrids$History;", true)
  | 2 => ("ShiftGrids", "firstImage", "LShiftGrids$Image;", true)
  | 3 => ("ShiftGrids", "secondImage", "LShiftGrids$Image;", true)
  | 4 => ("ShiftGrids", "book", "LShiftGrids$Book;", true)
  | 5 => ("ShiftGrids", "draws", "LShiftGrids$Draws;", true)
  | 6 => ("ShiftGrids", "search", "LShiftGrids$Search;", true)
  | _ => ("ShiftGrids", "cell", "LShiftGrids$Cell;", true)
def tyX9 : Nat → FieldType := fun k => match k with
  | 0 => .object "ShiftGrids$Sheet"
  | 1 => .object "ShiftGrids$History"
  | 2 => .object "ShiftGrids$Image"
  | 3 => .object "ShiftGrids$Image"
  | 4 => .object "ShiftGrids$Book"
  | 5 => .object "ShiftGrids$Draws"
  | 6 => .object "ShiftGrids$Search"
  | _ => .object "ShiftGrids$Cell"
theorem nmX9 : ∀ a, a < 8 → ∀ b, b < 8 → a ≠ b → (TX9 a).2.1 ≠ (TX9 b).2.1 := by decide +kernel
theorem tyX9_ok : ∀ k, k < 8 → parseFieldDescriptor (TX9 k).2.2.1 = some (tyX9 k) := by decide +kernel
abbrev cX9_init : ByteArray := prog_1_method_1_code
def yX9_init : MethodName := ⟨RX9, "<init>", "()V"⟩
abbrev cX9_told : ByteArray := prog_1_method_2_code
def yX9_told : MethodName := ⟨RX9, "told", "(I)I"⟩
abbrev cX9_gridAt : ByteArray := prog_1_method_3_code
def yX9_gridAt : MethodName := ⟨RX9, "gridAt", "(II)I"⟩
abbrev cX9_nodeAt : ByteArray := prog_1_method_4_code
def yX9_nodeAt : MethodName := ⟨RX9, "nodeAt", "(IIII)I"⟩
abbrev cX9_cellAt : ByteArray := prog_1_method_5_code
def yX9_cellAt : MethodName := ⟨RX9, "cellAt", "(IIII)J"⟩
abbrev cX9_which : ByteArray := prog_1_method_6_code
def yX9_which : MethodName := ⟨RX9, "which", "(II)I"⟩
abbrev cX9_moved : ByteArray := prog_1_method_7_code
def yX9_moved : MethodName := ⟨RX9, "moved", "(III)I"⟩
abbrev cX9_back : ByteArray := prog_1_method_8_code
def yX9_back : MethodName := ⟨RX9, "back", "(III)I"⟩
abbrev cX9_grid : ByteArray := prog_1_method_9_code
def yX9_grid : MethodName := ⟨RX9, "grid", "(IIIIII)I"⟩
abbrev cX9_node : ByteArray := prog_1_method_10_code
def yX9_node : MethodName := ⟨RX9, "node", "(IIIII)I"⟩
abbrev cX9_fill : ByteArray := prog_1_method_11_code
def yX9_fill : MethodName := ⟨RX9, "fill", "(III)I"⟩
abbrev cX9_fit : ByteArray := prog_1_method_12_code
def yX9_fit : MethodName := ⟨RX9, "fit", "(I)I"⟩
abbrev cX9_drop : ByteArray := prog_1_method_13_code
def yX9_drop : MethodName := ⟨RX9, "drop", "(I)I"⟩
abbrev cX9_rule : ByteArray := prog_1_method_14_code
def yX9_rule : MethodName := ⟨RX9, "rule", "(I)I"⟩
abbrev cX9_drift : ByteArray := prog_1_method_15_code
def yX9_drift : MethodName := ⟨RX9, "drift", "(I)I"⟩
abbrev cX9_undo : ByteArray := prog_1_method_16_code
def yX9_undo : MethodName := ⟨RX9, "undo", "(I)I"⟩
abbrev cX9_write : ByteArray := prog_1_method_17_code
def yX9_write : MethodName := ⟨RX9, "write", "(III)I"⟩
abbrev cX9_tear : ByteArray := prog_1_method_18_code
def yX9_tear : MethodName := ⟨RX9, "tear", "()I"⟩
abbrev cX9_seed : ByteArray := prog_1_method_19_code
def yX9_seed : MethodName := ⟨RX9, "seed", "(I)I"⟩
abbrev cX9_keep : ByteArray := prog_1_method_20_code
def yX9_keep : MethodName := ⟨RX9, "keep", "(I)I"⟩
abbrev cX9_goBack : ByteArray := prog_1_method_21_code
def yX9_goBack : MethodName := ⟨RX9, "goBack", "(I)I"⟩
abbrev cX9_imageOf : ByteArray := prog_1_method_22_code
def yX9_imageOf : MethodName := ⟨RX9, "imageOf", "(I)LShiftGrids$Image;"⟩
abbrev cX9_isWithin : ByteArray := prog_1_method_23_code
def yX9_isWithin : MethodName := ⟨RX9, "isWithin", "(III)Z"⟩
abbrev cX9_isPlace : ByteArray := prog_1_method_24_code
def yX9_isPlace : MethodName := ⟨RX9, "isPlace", "(II)Z"⟩
abbrev cX9_isNewPlace : ByteArray := prog_1_method_25_code
def yX9_isNewPlace : MethodName := ⟨RX9, "isNewPlace", "(II)Z"⟩
abbrev cX9_isOffset : ByteArray := prog_1_method_26_code
def yX9_isOffset : MethodName := ⟨RX9, "isOffset", "(II)Z"⟩
abbrev cX9_isGridWithin : ByteArray := prog_1_method_27_code
def yX9_isGridWithin : MethodName := ⟨RX9, "isGridWithin", "(IIIII)Z"⟩
abbrev cX9_foldedCells : ByteArray := prog_1_method_28_code
def yX9_foldedCells : MethodName := ⟨RX9, "foldedCells", "(LShiftGrids$Grid;)I"⟩
abbrev cX9_unsureCells : ByteArray := prog_1_method_29_code
def yX9_unsureCells : MethodName := ⟨RX9, "unsureCells", "(LShiftGrids$Grid;)I"⟩
abbrev cX9_foldedCellsOfAll : ByteArray := prog_1_method_30_code
def yX9_foldedCellsOfAll : MethodName := ⟨RX9, "foldedCellsOfAll", "()I"⟩
abbrev cX9_unsureCellsOfAll : ByteArray := prog_1_method_31_code
def yX9_unsureCellsOfAll : MethodName := ⟨RX9, "unsureCellsOfAll", "()I"⟩
abbrev cX9_gapsOfAll : ByteArray := prog_1_method_32_code
def yX9_gapsOfAll : MethodName := ⟨RX9, "gapsOfAll", "()I"⟩
abbrev cX9_firstWithGreatestGap : ByteArray := prog_1_method_33_code
def yX9_firstWithGreatestGap : MethodName := ⟨RX9, "firstWithGreatestGap", "()I"⟩
def RX10 : String := "ShiftGridsModel"
def TX10 : u_T := fun k => match k with
  | 0 => ("ShiftGridsModel", "thrown", "I", false)
  | 1 => ("ShiftGridsModel", "s", "[I", true)
  | 2 => ("ShiftGridsModel", "past", "[I", true)
  | 3 => ("ShiftGridsModel", "undos", "I", false)
  | 4 => ("ShiftGridsModel", "kept", "[I", true)
  | 5 => ("ShiftGridsModel", "isKept", "[Z", true)
  | 6 => ("ShiftGridsModel", "keptSeed", "[J", true)
  | 7 => ("ShiftGridsModel", "seed", "J", false)
  | 8 => ("ShiftGridsModel", "entries", "I", false)
  | 9 => ("ShiftGridsModel", "bookX", "[I", true)
  | 10 => ("ShiftGridsModel", "bookY", "[I", true)
  | 11 => ("ShiftGridsModel", "bookIs", "[I", true)
  | 12 => ("ShiftGridsModel", "gapsMany", "I", false)
  | 13 => ("ShiftGridsModel", "gapsMost", "I", false)
  | 14 => ("ShiftGridsModel", "guessX", "[I", true)
  | _ => ("ShiftGridsModel", "guessY", "[I", true)
def tyX10 : Nat → FieldType := fun k => match k with
  | 0 => .int
  | 1 => .array .int
  | 2 => .array .int
  | 3 => .int
  | 4 => .array .int
  | 5 => .array .boolean
  | 6 => .array .long
  | 7 => .long
  | 8 => .int
  | 9 => .array .int
  | 10 => .array .int
  | 11 => .array .int
  | 12 => .int
  | 13 => .int
  | 14 => .array .int
  | _ => .array .int
theorem nmX10 : ∀ a, a < 16 → ∀ b, b < 16 → a ≠ b → (TX10 a).2.1 ≠ (TX10 b).2.1 := by decide +kernel
theorem tyX10_ok : ∀ k, k < 16 → parseFieldDescriptor (TX10 k).2.2.1 = some (tyX10 k) := by decide +kernel
abbrev cX10_init : ByteArray := prog_12_method_1_code
def yX10_init : MethodName := ⟨RX10, "<init>", "()V"⟩
abbrev cX10_in : ByteArray := prog_12_method_3_code
def yX10_in : MethodName := ⟨RX10, "in", "(JJJ)Z"⟩
abbrev cX10_size : ByteArray := prog_12_method_4_code
def yX10_size : MethodName := ⟨RX10, "size", "(I)I"⟩
abbrev cX10_larger : ByteArray := prog_12_method_5_code
def yX10_larger : MethodName := ⟨RX10, "larger", "(II)I"⟩
abbrev cX10_its : ByteArray := prog_12_method_6_code
def yX10_its : MethodName := ⟨RX10, "its", "(II)I"⟩
abbrev cX10_isGrid : ByteArray := prog_12_method_7_code
def yX10_isGrid : MethodName := ⟨RX10, "isGrid", "(I)Z"⟩
abbrev cX10_isNode : ByteArray := prog_12_method_8_code
def yX10_isNode : MethodName := ⟨RX10, "isNode", "(III)Z"⟩
abbrev cX10_isCell : ByteArray := prog_12_method_9_code
def yX10_isCell : MethodName := ⟨RX10, "isCell", "(III)Z"⟩
abbrev cX10_at : ByteArray := prog_12_method_10_code
def yX10_at : MethodName := ⟨RX10, "at", "(III)I"⟩
abbrev cX10_off : ByteArray := prog_12_method_11_code
def yX10_off : MethodName := ⟨RX10, "off", "(IIII)I"⟩
abbrev cX10_stands : ByteArray := prog_12_method_12_code
def yX10_stands : MethodName := ⟨RX10, "stands", "(III)I"⟩
abbrev cX10_last : ByteArray := prog_12_method_13_code
def yX10_last : MethodName := ⟨RX10, "last", "(II)I"⟩
abbrev cX10_isOn : ByteArray := prog_12_method_14_code
def yX10_isOn : MethodName := ⟨RX10, "isOn", "(III)Z"⟩
abbrev cX10_isPlace : ByteArray := prog_12_method_15_code
def yX10_isPlace : MethodName := ⟨RX10, "isPlace", "(II)Z"⟩
abbrev cX10_child : ByteArray := prog_12_method_16_code
def yX10_child : MethodName := ⟨RX10, "child", "(III)I"⟩
abbrev cX10_belongs : ByteArray := prog_12_method_17_code
def yX10_belongs : MethodName := ⟨RX10, "belongs", "(II)I"⟩
abbrev cX10_rounded : ByteArray := prog_12_method_18_code
def yX10_rounded : MethodName := ⟨RX10, "rounded", "(JJ)J"⟩
abbrev cX10_between : ByteArray := prog_12_method_19_code
def yX10_between : MethodName := ⟨RX10, "between", "(IIIIJJJ)I"⟩
abbrev cX10_offset : ByteArray := prog_12_method_20_code
def yX10_offset : MethodName := ⟨RX10, "offset", "(IIII)I"⟩
abbrev cX10_movedBy : ByteArray := prog_12_method_21_code
def yX10_movedBy : MethodName := ⟨RX10, "movedBy", "(III)I"⟩
abbrev cX10_isBorder : ByteArray := prog_12_method_22_code
def yX10_isBorder : MethodName := ⟨RX10, "isBorder", "(III)Z"⟩
abbrev cX10_ofParent : ByteArray := prog_12_method_23_code
def yX10_ofParent : MethodName := ⟨RX10, "ofParent", "(IIII)I"⟩
abbrev cX10_gapAt : ByteArray := prog_12_method_24_code
def yX10_gapAt : MethodName := ⟨RX10, "gapAt", "(III)I"⟩
abbrev cX10_gaps : ByteArray := prog_12_method_25_code
def yX10_gaps : MethodName := ⟨RX10, "gaps", "(I)V"⟩
abbrev cX10_steepIn : ByteArray := prog_12_method_26_code
def yX10_steepIn : MethodName := ⟨RX10, "steepIn", "(IIII)I"⟩
abbrev cX10_steep : ByteArray := prog_12_method_27_code
def yX10_steep : MethodName := ⟨RX10, "steep", "(III)I"⟩
abbrev cX10_isSure : ByteArray := prog_12_method_28_code
def yX10_isSure : MethodName := ⟨RX10, "isSure", "(III)Z"⟩
abbrev cX10_corner : ByteArray := prog_12_method_29_code
def yX10_corner : MethodName := ⟨RX10, "corner", "(IIIII)J"⟩
abbrev cX10_cross : ByteArray := prog_12_method_30_code
def yX10_cross : MethodName := ⟨RX10, "cross", "(IIIII)J"⟩
abbrev cX10_area : ByteArray := prog_12_method_31_code
def yX10_area : MethodName := ⟨RX10, "area", "(III)J"⟩
abbrev cX10_isFolded : ByteArray := prog_12_method_32_code
def yX10_isFolded : MethodName := ⟨RX10, "isFolded", "(III)Z"⟩
abbrev cX10_cells : ByteArray := prog_12_method_33_code
def yX10_cells : MethodName := ⟨RX10, "cells", "(IZ)I"⟩
abbrev cX10_nodesMoved : ByteArray := prog_12_method_34_code
def yX10_nodesMoved : MethodName := ⟨RX10, "nodesMoved", "()I"⟩
abbrev cX10_wrong : ByteArray := prog_12_method_35_code
def yX10_wrong : MethodName := ⟨RX10, "wrong", "()I"⟩
abbrev cX10_tally : ByteArray := prog_12_method_36_code
def yX10_tally : MethodName := ⟨RX10, "tally", "(I)I"⟩
abbrev cX10_told : ByteArray := prog_12_method_37_code
def yX10_told : MethodName := ⟨RX10, "told", "(I)I"⟩
abbrev cX10_children : ByteArray := prog_12_method_38_code
def yX10_children : MethodName := ⟨RX10, "children", "(I)I"⟩
abbrev cX10_depth : ByteArray := prog_12_method_39_code
def yX10_depth : MethodName := ⟨RX10, "depth", "(I)I"⟩
abbrev cX10_gridAt : ByteArray := prog_12_method_40_code
def yX10_gridAt : MethodName := ⟨RX10, "gridAt", "(II)I"⟩
abbrev cX10_nodeAt : ByteArray := prog_12_method_41_code
def yX10_nodeAt : MethodName := ⟨RX10, "nodeAt", "(IIII)I"⟩
abbrev cX10_cellAt : ByteArray := prog_12_method_42_code
def yX10_cellAt : MethodName := ⟨RX10, "cellAt", "(IIII)J"⟩
abbrev cX10_which : ByteArray := prog_12_method_43_code
def yX10_which : MethodName := ⟨RX10, "which", "(II)I"⟩
abbrev cX10_moved : ByteArray := prog_12_method_44_code
def yX10_moved : MethodName := ⟨RX10, "moved", "(III)I"⟩
abbrev cX10_wasThere : ByteArray := prog_12_method_45_code
def yX10_wasThere : MethodName := ⟨RX10, "wasThere", "(I)Z"⟩
abbrev cX10_back : ByteArray := prog_12_method_46_code
def yX10_back : MethodName := ⟨RX10, "back", "(III)I"⟩
abbrev cX10_notes : ByteArray := prog_12_method_47_code
def yX10_notes : MethodName := ⟨RX10, "notes", "()V"⟩
abbrev cX10_overlaps : ByteArray := prog_12_method_48_code
def yX10_overlaps : MethodName := ⟨RX10, "overlaps", "(IIIII)Z"⟩
abbrev cX10_mayBe : ByteArray := prog_12_method_49_code
def yX10_mayBe : MethodName := ⟨RX10, "mayBe", "(IIIIII)Z"⟩
abbrev cX10_grid : ByteArray := prog_12_method_50_code
def yX10_grid : MethodName := ⟨RX10, "grid", "(IIIIII)I"⟩
abbrev cX10_isOffset : ByteArray := prog_12_method_51_code
def yX10_isOffset : MethodName := ⟨RX10, "isOffset", "(II)Z"⟩
abbrev cX10_sets : ByteArray := prog_12_method_52_code
def yX10_sets : MethodName := ⟨RX10, "sets", "(IIIII)I"⟩
abbrev cX10_node : ByteArray := prog_12_method_53_code
def yX10_node : MethodName := ⟨RX10, "node", "(IIIII)I"⟩
abbrev cX10_fill : ByteArray := prog_12_method_54_code
def yX10_fill : MethodName := ⟨RX10, "fill", "(III)I"⟩
abbrev cX10_fit : ByteArray := prog_12_method_55_code
def yX10_fit : MethodName := ⟨RX10, "fit", "(I)I"⟩
abbrev cX10_drop : ByteArray := prog_12_method_56_code
def yX10_drop : MethodName := ⟨RX10, "drop", "(I)I"⟩
abbrev cX10_rule : ByteArray := prog_12_method_57_code
def yX10_rule : MethodName := ⟨RX10, "rule", "(I)I"⟩
abbrev cX10_draw : ByteArray := prog_12_method_58_code
def yX10_draw : MethodName := ⟨RX10, "draw", "(I)I"⟩
abbrev cX10_drift : ByteArray := prog_12_method_59_code
def yX10_drift : MethodName := ⟨RX10, "drift", "(I)I"⟩
abbrev cX10_undo : ByteArray := prog_12_method_60_code
def yX10_undo : MethodName := ⟨RX10, "undo", "(I)I"⟩
abbrev cX10_write : ByteArray := prog_12_method_61_code
def yX10_write : MethodName := ⟨RX10, "write", "(III)I"⟩
abbrev cX10_tear : ByteArray := prog_12_method_62_code
def yX10_tear : MethodName := ⟨RX10, "tear", "()I"⟩
abbrev cX10_seed : ByteArray := prog_12_method_63_code
def yX10_seed : MethodName := ⟨RX10, "seed", "(I)I"⟩
abbrev cX10_keep : ByteArray := prog_12_method_64_code
def yX10_keep : MethodName := ⟨RX10, "keep", "(I)I"⟩
abbrev cX10_goBack : ByteArray := prog_12_method_65_code
def yX10_goBack : MethodName := ⟨RX10, "goBack", "(I)I"⟩
def RJ9 : String := "java/lang/Math"
def TJ9 : u_T := fun k => match k with
  | _ => ("", "", "", false)
def tyJ9 : Nat → FieldType := fun k => match k with
  | _ => .int
theorem nmJ9 : ∀ a, a < 0 → ∀ b, b < 0 → a ≠ b → (TJ9 a).2.1 ≠ (TJ9 b).2.1 := by decide +kernel
theorem tyJ9_ok : ∀ k, k < 0 → parseFieldDescriptor (TJ9 k).2.2.1 = some (tyJ9 k) := by decide +kernel
abbrev cJ9_floorDiv_f86c9 : ByteArray := prog_13_method_49_code
def yJ9_floorDiv_f86c9 : MethodName := ⟨RJ9, "floorDiv", "(JJ)J"⟩
abbrev cJ9_floorMod_7cf53 : ByteArray := prog_13_method_50_code
def yJ9_floorMod_7cf53 : MethodName := ⟨RJ9, "floorMod", "(II)I"⟩
abbrev cJ9_abs_0f7a4 : ByteArray := prog_13_method_59_code
def yJ9_abs_0f7a4 : MethodName := ⟨RJ9, "abs", "(I)I"⟩
abbrev cJ9_max_7cf53 : ByteArray := prog_13_method_65_code
def yJ9_max_7cf53 : MethodName := ⟨RJ9, "max", "(II)I"⟩
abbrev cJ9_min_7cf53 : ByteArray := prog_13_method_69_code
def yJ9_min_7cf53 : MethodName := ⟨RJ9, "min", "(II)I"⟩
def RJ10 : String := "java/lang/System"
def TJ10 : u_T := fun k => match k with
  | _ => ("", "", "", false)
def tyJ10 : Nat → FieldType := fun k => match k with
  | _ => .int
theorem nmJ10 : ∀ a, a < 0 → ∀ b, b < 0 → a ≠ b → (TJ10 a).2.1 ≠ (TJ10 b).2.1 := by decide +kernel
theorem tyJ10_ok : ∀ k, k < 0 → parseFieldDescriptor (TJ10 k).2.2.1 = some (tyJ10 k) := by decide +kernel
def RL : String := "ShiftGridsLaw"
abbrev cL_law : ByteArray := code
def yL_law : MethodName := ⟨RL, "law", "([I)Z"⟩
end
section
theorem dX0_init_0 : decode cX0_init 0 = .ok (.aload_n 0, 1) := by decide +kernel
theorem dX0_init_1 : decode cX0_init 1 = .ok (.invokespecial 3, 3) := by decide +kernel
theorem dX0_init_4 : decode cX0_init 4 = .ok (.aload_n 0, 1) := by decide +kernel
theorem dX0_init_5 : decode cX0_init 5 = .ok (.bipush 20, 2) := by decide +kernel
theorem dX0_init_7 : decode cX0_init 7 = .ok (.newarray .int, 2) := by decide +kernel
theorem dX0_init_9 : decode cX0_init 9 = .ok (.putfield 9, 3) := by decide +kernel
theorem dX0_init_12 : decode cX0_init 12 = .ok (.aload_n 0, 1) := by decide +kernel
theorem dX0_init_13 : decode cX0_init 13 = .ok (.bipush 20, 2) := by decide +kernel
theorem dX0_init_15 : decode cX0_init 15 = .ok (.newarray .int, 2) := by decide +kernel
theorem dX0_init_17 : decode cX0_init 17 = .ok (.putfield 15, 3) := by decide +kernel
theorem dX0_init_20 : decode cX0_init 20 = .ok (.aload_n 0, 1) := by decide +kernel
theorem dX0_init_21 : decode cX0_init 21 = .ok (.bipush 20, 2) := by decide +kernel
theorem dX0_init_23 : decode cX0_init 23 = .ok (.newarray .int, 2) := by decide +kernel
theorem dX0_init_25 : decode cX0_init 25 = .ok (.putfield 18, 3) := by decide +kernel
theorem dX0_init_28 : decode cX0_init 28 = .ok (.return_, 1) := by decide +kernel
theorem dX0_size_0 : decode cX0_size 0 = .ok (.aload_n 0, 1) := by decide +kernel
theorem dX0_size_1 : decode cX0_size 1 = .ok (.getfield 21, 3) := by decide +kernel
theorem dX0_size_4 : decode cX0_size 4 = .ok (.ireturn, 1) := by decide +kernel
theorem dX0_clear_0 : decode cX0_clear 0 = .ok (.aload_n 0, 1) := by decide +kernel
theorem dX0_clear_1 : decode cX0_clear 1 = .ok (.iconst 0, 1) := by decide +kernel
theorem dX0_clear_2 : decode cX0_clear 2 = .ok (.putfield 21, 3) := by decide +kernel
theorem dX0_clear_5 : decode cX0_clear 5 = .ok (.return_, 1) := by decide +kernel
theorem dX0_add_0 : decode cX0_add 0 = .ok (.aload_n 0, 1) := by decide +kernel
theorem dX0_add_1 : decode cX0_add 1 = .ok (.getfield 21, 3) := by decide +kernel
theorem dX0_add_4 : decode cX0_add 4 = .ok (.ifCond .lt 12, 3) := by decide +kernel
theorem dX0_add_7 : decode cX0_add 7 = .ok (.aload_n 0, 1) := by decide +kernel
theorem dX0_add_8 : decode cX0_add 8 = .ok (.getfield 21, 3) := by decide +kernel
theorem dX0_add_11 : decode cX0_add 11 = .ok (.bipush 20, 2) := by decide +kernel
theorem dX0_add_13 : decode cX0_add 13 = .ok (.if_icmp .lt 5, 3) := by decide +kernel
theorem dX0_add_16 : decode cX0_add 16 = .ok (.iconst 0, 1) := by decide +kernel
theorem dX0_add_17 : decode cX0_add 17 = .ok (.ireturn, 1) := by decide +kernel
theorem dX0_add_18 : decode cX0_add 18 = .ok (.aload_n 0, 1) := by decide +kernel
theorem dX0_add_19 : decode cX0_add 19 = .ok (.getfield 9, 3) := by decide +kernel
theorem dX0_add_22 : decode cX0_add 22 = .ok (.aload_n 0, 1) := by decide +kernel
theorem dX0_add_23 : decode cX0_add 23 = .ok (.getfield 21, 3) := by decide +kernel
theorem dX0_add_26 : decode cX0_add 26 = .ok (.iload_n 1, 1) := by decide +kernel
theorem dX0_add_27 : decode cX0_add 27 = .ok (.iastore, 1) := by decide +kernel
theorem dX0_add_28 : decode cX0_add 28 = .ok (.aload_n 0, 1) := by decide +kernel
theorem dX0_add_29 : decode cX0_add 29 = .ok (.getfield 15, 3) := by decide +kernel
theorem dX0_add_32 : decode cX0_add 32 = .ok (.aload_n 0, 1) := by decide +kernel
theorem dX0_add_33 : decode cX0_add 33 = .ok (.getfield 21, 3) := by decide +kernel
theorem dX0_add_36 : decode cX0_add 36 = .ok (.iload_n 2, 1) := by decide +kernel
theorem dX0_add_37 : decode cX0_add 37 = .ok (.iastore, 1) := by decide +kernel
theorem dX0_add_38 : decode cX0_add 38 = .ok (.aload_n 0, 1) := by decide +kernel
theorem dX0_add_39 : decode cX0_add 39 = .ok (.getfield 18, 3) := by decide +kernel
theorem dX0_add_42 : decode cX0_add 42 = .ok (.aload_n 0, 1) := by decide +kernel
theorem dX0_add_43 : decode cX0_add 43 = .ok (.getfield 21, 3) := by decide +kernel
theorem dX0_add_46 : decode cX0_add 46 = .ok (.iload_n 3, 1) := by decide +kernel
theorem dX0_add_47 : decode cX0_add 47 = .ok (.iastore, 1) := by decide +kernel
theorem dX0_add_48 : decode cX0_add 48 = .ok (.aload_n 0, 1) := by decide +kernel
theorem dX0_add_49 : decode cX0_add 49 = .ok (.dup, 1) := by decide +kernel
theorem dX0_add_50 : decode cX0_add 50 = .ok (.getfield 21, 3) := by decide +kernel
theorem dX0_add_53 : decode cX0_add 53 = .ok (.iconst 1, 1) := by decide +kernel
theorem dX0_add_54 : decode cX0_add 54 = .ok (.iadd, 1) := by decide +kernel
theorem dX0_add_55 : decode cX0_add 55 = .ok (.putfield 21, 3) := by decide +kernel
theorem dX0_add_58 : decode cX0_add 58 = .ok (.iconst 1, 1) := by decide +kernel
theorem dX0_add_59 : decode cX0_add 59 = .ok (.ireturn, 1) := by decide +kernel
theorem dX0_firstWrong_0 : decode cX0_firstWrong 0 = .ok (.iconst 0, 1) := by decide +kernel
theorem dX0_firstWrong_1 : decode cX0_firstWrong 1 = .ok (.istore_n 2, 1) := by decide +kernel
theorem dX0_firstWrong_2 : decode cX0_firstWrong 2 = .ok (.iload_n 2, 1) := by decide +kernel
theorem dX0_firstWrong_3 : decode cX0_firstWrong 3 = .ok (.aload_n 0, 1) := by decide +kernel
theorem dX0_firstWrong_4 : decode cX0_firstWrong 4 = .ok (.getfield 21, 3) := by decide +kernel
theorem dX0_firstWrong_7 : decode cX0_firstWrong 7 = .ok (.if_icmp .ge 50, 3) := by decide +kernel
theorem dX0_firstWrong_10 : decode cX0_firstWrong 10 = .ok (.iload_n 2, 1) := by decide +kernel
theorem dX0_firstWrong_11 : decode cX0_firstWrong 11 = .ok (.bipush 20, 2) := by decide +kernel
theorem dX0_firstWrong_13 : decode cX0_firstWrong 13 = .ok (.if_icmp .ge 44, 3) := by decide +kernel
theorem dX0_firstWrong_16 : decode cX0_firstWrong 16 = .ok (.aload_n 0, 1) := by decide +kernel
theorem dX0_firstWrong_17 : decode cX0_firstWrong 17 = .ok (.getfield 9, 3) := by decide +kernel
theorem dX0_firstWrong_20 : decode cX0_firstWrong 20 = .ok (.iload_n 2, 1) := by decide +kernel
theorem dX0_firstWrong_21 : decode cX0_firstWrong 21 = .ok (.iaload, 1) := by decide +kernel
theorem dX0_firstWrong_22 : decode cX0_firstWrong 22 = .ok (.aload_n 1, 1) := by decide +kernel
theorem dX0_firstWrong_23 : decode cX0_firstWrong 23 = .ok (.aload_n 0, 1) := by decide +kernel
theorem dX0_firstWrong_24 : decode cX0_firstWrong 24 = .ok (.getfield 9, 3) := by decide +kernel
theorem dX0_firstWrong_27 : decode cX0_firstWrong 27 = .ok (.iload_n 2, 1) := by decide +kernel
theorem dX0_firstWrong_28 : decode cX0_firstWrong 28 = .ok (.iaload, 1) := by decide +kernel
theorem dX0_firstWrong_29 : decode cX0_firstWrong 29 = .ok (.aload_n 0, 1) := by decide +kernel
theorem dX0_firstWrong_30 : decode cX0_firstWrong 30 = .ok (.getfield 15, 3) := by decide +kernel
theorem dX0_firstWrong_33 : decode cX0_firstWrong 33 = .ok (.iload_n 2, 1) := by decide +kernel
theorem dX0_firstWrong_34 : decode cX0_firstWrong 34 = .ok (.iaload, 1) := by decide +kernel
theorem dX0_firstWrong_35 : decode cX0_firstWrong 35 = .ok (.iconst 0, 1) := by decide +kernel
theorem dX0_firstWrong_36 : decode cX0_firstWrong 36 = .ok (.invokevirtual 25, 3) := by decide +kernel
theorem dX0_firstWrong_39 : decode cX0_firstWrong 39 = .ok (.iadd, 1) := by decide +kernel
theorem dX0_firstWrong_40 : decode cX0_firstWrong 40 = .ok (.aload_n 0, 1) := by decide +kernel
theorem dX0_firstWrong_41 : decode cX0_firstWrong 41 = .ok (.getfield 18, 3) := by decide +kernel
theorem dX0_firstWrong_44 : decode cX0_firstWrong 44 = .ok (.iload_n 2, 1) := by decide +kernel
theorem dX0_firstWrong_45 : decode cX0_firstWrong 45 = .ok (.iaload, 1) := by decide +kernel
theorem dX0_firstWrong_46 : decode cX0_firstWrong 46 = .ok (.if_icmp .eq 5, 3) := by decide +kernel
theorem dX0_firstWrong_49 : decode cX0_firstWrong 49 = .ok (.iload_n 2, 1) := by decide +kernel
theorem dX0_firstWrong_50 : decode cX0_firstWrong 50 = .ok (.ireturn, 1) := by decide +kernel
theorem dX0_firstWrong_51 : decode cX0_firstWrong 51 = .ok (.iinc 2 1, 3) := by decide +kernel
theorem dX0_firstWrong_54 : decode cX0_firstWrong 54 = .ok (.goto (-52), 3) := by decide +kernel
theorem dX0_firstWrong_57 : decode cX0_firstWrong 57 = .ok (.iconst (-1), 1) := by decide +kernel
theorem dX0_firstWrong_58 : decode cX0_firstWrong 58 = .ok (.ireturn, 1) := by decide +kernel
theorem dX1_gap_0 : decode cX1_gap 0 = .ok (.aload_n 0, 1) := by decide +kernel
theorem dX1_gap_1 : decode cX1_gap 1 = .ok (.iload_n 3, 1) := by decide +kernel
theorem dX1_gap_2 : decode cX1_gap 2 = .ok (.iload 4, 2) := by decide +kernel
theorem dX1_gap_4 : decode cX1_gap 4 = .ok (.invokevirtual 9, 3) := by decide +kernel
theorem dX1_gap_7 : decode cX1_gap 7 = .ok (.ifCond .ne 5, 3) := by decide +kernel
theorem dX1_gap_10 : decode cX1_gap 10 = .ok (.iconst 0, 1) := by decide +kernel
theorem dX1_gap_11 : decode cX1_gap 11 = .ok (.ireturn, 1) := by decide +kernel
theorem dX1_gap_12 : decode cX1_gap 12 = .ok (.aload_n 0, 1) := by decide +kernel
theorem dX1_gap_13 : decode cX1_gap 13 = .ok (.iload_n 3, 1) := by decide +kernel
theorem dX1_gap_14 : decode cX1_gap 14 = .ok (.invokevirtual 15, 3) := by decide +kernel
theorem dX1_gap_17 : decode cX1_gap 17 = .ok (.istore 5, 2) := by decide +kernel
theorem dX1_gap_19 : decode cX1_gap 19 = .ok (.aload_n 0, 1) := by decide +kernel
theorem dX1_gap_20 : decode cX1_gap 20 = .ok (.iload 4, 2) := by decide +kernel
theorem dX1_gap_22 : decode cX1_gap 22 = .ok (.invokevirtual 19, 3) := by decide +kernel
theorem dX1_gap_25 : decode cX1_gap 25 = .ok (.istore 6, 2) := by decide +kernel
theorem dX1_gap_27 : decode cX1_gap 27 = .ok (.aload_n 0, 1) := by decide +kernel
theorem dX1_gap_28 : decode cX1_gap 28 = .ok (.iload_n 3, 1) := by decide +kernel
theorem dX1_gap_29 : decode cX1_gap 29 = .ok (.iload 4, 2) := by decide +kernel
theorem dX1_gap_31 : decode cX1_gap 31 = .ok (.iconst 0, 1) := by decide +kernel
theorem dX1_gap_32 : decode cX1_gap 32 = .ok (.invokevirtual 22, 3) := by decide +kernel
theorem dX1_gap_35 : decode cX1_gap 35 = .ok (.aload_n 1, 1) := by decide +kernel
theorem dX1_gap_36 : decode cX1_gap 36 = .ok (.iload_n 2, 1) := by decide +kernel
theorem dX1_gap_37 : decode cX1_gap 37 = .ok (.iload 5, 2) := by decide +kernel
theorem dX1_gap_39 : decode cX1_gap 39 = .ok (.iload 6, 2) := by decide +kernel
theorem dX1_gap_41 : decode cX1_gap 41 = .ok (.iconst 0, 1) := by decide +kernel
theorem dX1_gap_42 : decode cX1_gap 42 = .ok (.invokevirtual 26, 3) := by decide +kernel
theorem dX1_gap_45 : decode cX1_gap 45 = .ok (.isub, 1) := by decide +kernel
theorem dX1_gap_46 : decode cX1_gap 46 = .ok (.invokestatic 30, 3) := by decide +kernel
theorem dX1_gap_49 : decode cX1_gap 49 = .ok (.istore 7, 2) := by decide +kernel
theorem dX1_gap_51 : decode cX1_gap 51 = .ok (.aload_n 0, 1) := by decide +kernel
theorem dX1_gap_52 : decode cX1_gap 52 = .ok (.iload_n 3, 1) := by decide +kernel
theorem dX1_gap_53 : decode cX1_gap 53 = .ok (.iload 4, 2) := by decide +kernel
theorem dX1_gap_55 : decode cX1_gap 55 = .ok (.iconst 1, 1) := by decide +kernel
theorem dX1_gap_56 : decode cX1_gap 56 = .ok (.invokevirtual 22, 3) := by decide +kernel
theorem dX1_gap_59 : decode cX1_gap 59 = .ok (.aload_n 1, 1) := by decide +kernel
theorem dX1_gap_60 : decode cX1_gap 60 = .ok (.iload_n 2, 1) := by decide +kernel
theorem dX1_gap_61 : decode cX1_gap 61 = .ok (.iload 5, 2) := by decide +kernel
theorem dX1_gap_63 : decode cX1_gap 63 = .ok (.iload 6, 2) := by decide +kernel
theorem dX1_gap_65 : decode cX1_gap 65 = .ok (.iconst 1, 1) := by decide +kernel
theorem dX1_gap_66 : decode cX1_gap 66 = .ok (.invokevirtual 26, 3) := by decide +kernel
theorem dX1_gap_69 : decode cX1_gap 69 = .ok (.isub, 1) := by decide +kernel
theorem dX1_gap_70 : decode cX1_gap 70 = .ok (.invokestatic 30, 3) := by decide +kernel
theorem dX1_gap_73 : decode cX1_gap 73 = .ok (.istore 8, 2) := by decide +kernel
theorem dX1_gap_75 : decode cX1_gap 75 = .ok (.iload 7, 2) := by decide +kernel
theorem dX1_gap_77 : decode cX1_gap 77 = .ok (.iload 8, 2) := by decide +kernel
theorem dX1_gap_79 : decode cX1_gap 79 = .ok (.invokestatic 35, 3) := by decide +kernel
theorem dX1_gap_82 : decode cX1_gap 82 = .ok (.ireturn, 1) := by decide +kernel
theorem dX1_gaps_0 : decode cX1_gaps 0 = .ok (.aload_n 1, 1) := by decide +kernel
theorem dX1_gaps_1 : decode cX1_gaps 1 = .ok (.ifnonnull 7, 3) := by decide +kernel
theorem dX1_gaps_4 : decode cX1_gaps 4 = .ok (.aconst_null, 1) := by decide +kernel
theorem dX1_gaps_5 : decode cX1_gaps 5 = .ok (.goto 11, 3) := by decide +kernel
theorem dX1_gaps_8 : decode cX1_gaps 8 = .ok (.aload_n 0, 1) := by decide +kernel
theorem dX1_gaps_9 : decode cX1_gaps 9 = .ok (.aload_n 1, 1) := by decide +kernel
theorem dX1_gaps_10 : decode cX1_gaps 10 = .ok (.getfield 39, 3) := by decide +kernel
theorem dX1_gaps_13 : decode cX1_gaps 13 = .ok (.invokevirtual 43, 3) := by decide +kernel
theorem dX1_gaps_16 : decode cX1_gaps 16 = .ok (.astore_n 2, 1) := by decide +kernel
theorem dX1_gaps_17 : decode cX1_gaps 17 = .ok (.aload_n 1, 1) := by decide +kernel
theorem dX1_gaps_18 : decode cX1_gaps 18 = .ok (.ifnull 7, 3) := by decide +kernel
theorem dX1_gaps_21 : decode cX1_gaps 21 = .ok (.aload_n 2, 1) := by decide +kernel
theorem dX1_gaps_22 : decode cX1_gaps 22 = .ok (.ifnonnull 5, 3) := by decide +kernel
theorem dX1_gaps_25 : decode cX1_gaps 25 = .ok (.iconst 0, 1) := by decide +kernel
theorem dX1_gaps_26 : decode cX1_gaps 26 = .ok (.ireturn, 1) := by decide +kernel
theorem dX1_gaps_27 : decode cX1_gaps 27 = .ok (.iconst 0, 1) := by decide +kernel
theorem dX1_gaps_28 : decode cX1_gaps 28 = .ok (.istore_n 3, 1) := by decide +kernel
theorem dX1_gaps_29 : decode cX1_gaps 29 = .ok (.iconst 0, 1) := by decide +kernel
theorem dX1_gaps_30 : decode cX1_gaps 30 = .ok (.istore 4, 2) := by decide +kernel
theorem dX1_gaps_32 : decode cX1_gaps 32 = .ok (.iload 4, 2) := by decide +kernel
theorem dX1_gaps_34 : decode cX1_gaps 34 = .ok (.aload_n 1, 1) := by decide +kernel
theorem dX1_gaps_35 : decode cX1_gaps 35 = .ok (.getfield 49, 3) := by decide +kernel
theorem dX1_gaps_38 : decode cX1_gaps 38 = .ok (.if_icmp .ge 51, 3) := by decide +kernel
theorem dX1_gaps_41 : decode cX1_gaps 41 = .ok (.iconst 0, 1) := by decide +kernel
theorem dX1_gaps_42 : decode cX1_gaps 42 = .ok (.istore 5, 2) := by decide +kernel
theorem dX1_gaps_44 : decode cX1_gaps 44 = .ok (.iload 5, 2) := by decide +kernel
theorem dX1_gaps_46 : decode cX1_gaps 46 = .ok (.aload_n 1, 1) := by decide +kernel
theorem dX1_gaps_47 : decode cX1_gaps 47 = .ok (.getfield 52, 3) := by decide +kernel
theorem dX1_gaps_50 : decode cX1_gaps 50 = .ok (.if_icmp .ge 33, 3) := by decide +kernel
theorem dX1_gaps_53 : decode cX1_gaps 53 = .ok (.iload_n 3, 1) := by decide +kernel
theorem dX1_gaps_54 : decode cX1_gaps 54 = .ok (.aload_n 1, 1) := by decide +kernel
theorem dX1_gaps_55 : decode cX1_gaps 55 = .ok (.aload_n 2, 1) := by decide +kernel
theorem dX1_gaps_56 : decode cX1_gaps 56 = .ok (.aload_n 0, 1) := by decide +kernel
theorem dX1_gaps_57 : decode cX1_gaps 57 = .ok (.invokevirtual 55, 3) := by decide +kernel
theorem dX1_gaps_60 : decode cX1_gaps 60 = .ok (.iload 5, 2) := by decide +kernel
theorem dX1_gaps_62 : decode cX1_gaps 62 = .ok (.iload 4, 2) := by decide +kernel
theorem dX1_gaps_64 : decode cX1_gaps 64 = .ok (.invokestatic 59, 3) := by decide +kernel
theorem dX1_gaps_67 : decode cX1_gaps 67 = .ok (.ifCond .le 7, 3) := by decide +kernel
theorem dX1_gaps_70 : decode cX1_gaps 70 = .ok (.iconst 1, 1) := by decide +kernel
theorem dX1_gaps_71 : decode cX1_gaps 71 = .ok (.goto 4, 3) := by decide +kernel
theorem dX1_gaps_74 : decode cX1_gaps 74 = .ok (.iconst 0, 1) := by decide +kernel
theorem dX1_gaps_75 : decode cX1_gaps 75 = .ok (.iadd, 1) := by decide +kernel
theorem dX1_gaps_76 : decode cX1_gaps 76 = .ok (.istore_n 3, 1) := by decide +kernel
theorem dX1_gaps_77 : decode cX1_gaps 77 = .ok (.iinc 5 1, 3) := by decide +kernel
theorem dX1_gaps_80 : decode cX1_gaps 80 = .ok (.goto (-36), 3) := by decide +kernel
theorem dX1_gaps_83 : decode cX1_gaps 83 = .ok (.iinc 4 1, 3) := by decide +kernel
theorem dX1_gaps_86 : decode cX1_gaps 86 = .ok (.goto (-54), 3) := by decide +kernel
theorem dX1_gaps_89 : decode cX1_gaps 89 = .ok (.iload_n 3, 1) := by decide +kernel
theorem dX1_gaps_90 : decode cX1_gaps 90 = .ok (.ireturn, 1) := by decide +kernel
theorem dX1_greatestGap_0 : decode cX1_greatestGap 0 = .ok (.aload_n 1, 1) := by decide +kernel
theorem dX1_greatestGap_1 : decode cX1_greatestGap 1 = .ok (.ifnonnull 7, 3) := by decide +kernel
theorem dX1_greatestGap_4 : decode cX1_greatestGap 4 = .ok (.aconst_null, 1) := by decide +kernel
theorem dX1_greatestGap_5 : decode cX1_greatestGap 5 = .ok (.goto 11, 3) := by decide +kernel
theorem dX1_greatestGap_8 : decode cX1_greatestGap 8 = .ok (.aload_n 0, 1) := by decide +kernel
theorem dX1_greatestGap_9 : decode cX1_greatestGap 9 = .ok (.aload_n 1, 1) := by decide +kernel
theorem dX1_greatestGap_10 : decode cX1_greatestGap 10 = .ok (.getfield 39, 3) := by decide +kernel
theorem dX1_greatestGap_13 : decode cX1_greatestGap 13 = .ok (.invokevirtual 43, 3) := by decide +kernel
theorem dX1_greatestGap_16 : decode cX1_greatestGap 16 = .ok (.astore_n 2, 1) := by decide +kernel
theorem dX1_greatestGap_17 : decode cX1_greatestGap 17 = .ok (.aload_n 1, 1) := by decide +kernel
theorem dX1_greatestGap_18 : decode cX1_greatestGap 18 = .ok (.ifnull 7, 3) := by decide +kernel
theorem dX1_greatestGap_21 : decode cX1_greatestGap 21 = .ok (.aload_n 2, 1) := by decide +kernel
theorem dX1_greatestGap_22 : decode cX1_greatestGap 22 = .ok (.ifnonnull 5, 3) := by decide +kernel
theorem dX1_greatestGap_25 : decode cX1_greatestGap 25 = .ok (.iconst 0, 1) := by decide +kernel
theorem dX1_greatestGap_26 : decode cX1_greatestGap 26 = .ok (.ireturn, 1) := by decide +kernel
theorem dX1_greatestGap_27 : decode cX1_greatestGap 27 = .ok (.iconst 0, 1) := by decide +kernel
theorem dX1_greatestGap_28 : decode cX1_greatestGap 28 = .ok (.istore_n 3, 1) := by decide +kernel
theorem dX1_greatestGap_29 : decode cX1_greatestGap 29 = .ok (.iconst 0, 1) := by decide +kernel
theorem dX1_greatestGap_30 : decode cX1_greatestGap 30 = .ok (.istore 4, 2) := by decide +kernel
theorem dX1_greatestGap_32 : decode cX1_greatestGap 32 = .ok (.iload 4, 2) := by decide +kernel
theorem dX1_greatestGap_34 : decode cX1_greatestGap 34 = .ok (.aload_n 1, 1) := by decide +kernel
theorem dX1_greatestGap_35 : decode cX1_greatestGap 35 = .ok (.getfield 49, 3) := by decide +kernel
theorem dX1_greatestGap_38 : decode cX1_greatestGap 38 = .ok (.if_icmp .ge 45, 3) := by decide +kernel
theorem dX1_greatestGap_41 : decode cX1_greatestGap 41 = .ok (.iconst 0, 1) := by decide +kernel
theorem dX1_greatestGap_42 : decode cX1_greatestGap 42 = .ok (.istore 5, 2) := by decide +kernel
theorem dX1_greatestGap_44 : decode cX1_greatestGap 44 = .ok (.iload 5, 2) := by decide +kernel
theorem dX1_greatestGap_46 : decode cX1_greatestGap 46 = .ok (.aload_n 1, 1) := by decide +kernel
theorem dX1_greatestGap_47 : decode cX1_greatestGap 47 = .ok (.getfield 52, 3) := by decide +kernel
theorem dX1_greatestGap_50 : decode cX1_greatestGap 50 = .ok (.if_icmp .ge 27, 3) := by decide +kernel
theorem dX1_greatestGap_53 : decode cX1_greatestGap 53 = .ok (.iload_n 3, 1) := by decide +kernel
theorem dX1_greatestGap_54 : decode cX1_greatestGap 54 = .ok (.aload_n 1, 1) := by decide +kernel
theorem dX1_greatestGap_55 : decode cX1_greatestGap 55 = .ok (.aload_n 2, 1) := by decide +kernel
theorem dX1_greatestGap_56 : decode cX1_greatestGap 56 = .ok (.aload_n 0, 1) := by decide +kernel
theorem dX1_greatestGap_57 : decode cX1_greatestGap 57 = .ok (.invokevirtual 55, 3) := by decide +kernel
theorem dX1_greatestGap_60 : decode cX1_greatestGap 60 = .ok (.iload 5, 2) := by decide +kernel
theorem dX1_greatestGap_62 : decode cX1_greatestGap 62 = .ok (.iload 4, 2) := by decide +kernel
theorem dX1_greatestGap_64 : decode cX1_greatestGap 64 = .ok (.invokestatic 59, 3) := by decide +kernel
theorem dX1_greatestGap_67 : decode cX1_greatestGap 67 = .ok (.invokestatic 35, 3) := by decide +kernel
theorem dX1_greatestGap_70 : decode cX1_greatestGap 70 = .ok (.istore_n 3, 1) := by decide +kernel
theorem dX1_greatestGap_71 : decode cX1_greatestGap 71 = .ok (.iinc 5 1, 3) := by decide +kernel
theorem dX1_greatestGap_74 : decode cX1_greatestGap 74 = .ok (.goto (-30), 3) := by decide +kernel
theorem dX1_greatestGap_77 : decode cX1_greatestGap 77 = .ok (.iinc 4 1, 3) := by decide +kernel
theorem dX1_greatestGap_80 : decode cX1_greatestGap 80 = .ok (.goto (-48), 3) := by decide +kernel
theorem dX1_greatestGap_83 : decode cX1_greatestGap 83 = .ok (.iload_n 3, 1) := by decide +kernel
theorem dX1_greatestGap_84 : decode cX1_greatestGap 84 = .ok (.ireturn, 1) := by decide +kernel
theorem dX1_meet_0 : decode cX1_meet 0 = .ok (.aload_n 1, 1) := by decide +kernel
theorem dX1_meet_1 : decode cX1_meet 1 = .ok (.ifnonnull 7, 3) := by decide +kernel
theorem dX1_meet_4 : decode cX1_meet 4 = .ok (.aconst_null, 1) := by decide +kernel
theorem dX1_meet_5 : decode cX1_meet 5 = .ok (.goto 11, 3) := by decide +kernel
theorem dX1_meet_8 : decode cX1_meet 8 = .ok (.aload_n 0, 1) := by decide +kernel
theorem dX1_meet_9 : decode cX1_meet 9 = .ok (.aload_n 1, 1) := by decide +kernel
theorem dX1_meet_10 : decode cX1_meet 10 = .ok (.getfield 39, 3) := by decide +kernel
theorem dX1_meet_13 : decode cX1_meet 13 = .ok (.invokevirtual 43, 3) := by decide +kernel
theorem dX1_meet_16 : decode cX1_meet 16 = .ok (.astore_n 2, 1) := by decide +kernel
theorem dX1_meet_17 : decode cX1_meet 17 = .ok (.aload_n 1, 1) := by decide +kernel
theorem dX1_meet_18 : decode cX1_meet 18 = .ok (.ifnull 7, 3) := by decide +kernel
theorem dX1_meet_21 : decode cX1_meet 21 = .ok (.aload_n 2, 1) := by decide +kernel
theorem dX1_meet_22 : decode cX1_meet 22 = .ok (.ifnonnull 4, 3) := by decide +kernel
theorem dX1_meet_25 : decode cX1_meet 25 = .ok (.return_, 1) := by decide +kernel
theorem dX1_meet_26 : decode cX1_meet 26 = .ok (.iconst 0, 1) := by decide +kernel
theorem dX1_meet_27 : decode cX1_meet 27 = .ok (.istore_n 3, 1) := by decide +kernel
theorem dX1_meet_28 : decode cX1_meet 28 = .ok (.iload_n 3, 1) := by decide +kernel
theorem dX1_meet_29 : decode cX1_meet 29 = .ok (.aload_n 1, 1) := by decide +kernel
theorem dX1_meet_30 : decode cX1_meet 30 = .ok (.getfield 49, 3) := by decide +kernel
theorem dX1_meet_33 : decode cX1_meet 33 = .ok (.if_icmp .ge 86, 3) := by decide +kernel
theorem dX1_meet_36 : decode cX1_meet 36 = .ok (.iconst 0, 1) := by decide +kernel
theorem dX1_meet_37 : decode cX1_meet 37 = .ok (.istore 4, 2) := by decide +kernel
theorem dX1_meet_39 : decode cX1_meet 39 = .ok (.iload 4, 2) := by decide +kernel
theorem dX1_meet_41 : decode cX1_meet 41 = .ok (.aload_n 1, 1) := by decide +kernel
theorem dX1_meet_42 : decode cX1_meet 42 = .ok (.getfield 52, 3) := by decide +kernel
theorem dX1_meet_45 : decode cX1_meet 45 = .ok (.if_icmp .ge 68, 3) := by decide +kernel
theorem dX1_meet_48 : decode cX1_meet 48 = .ok (.aload_n 1, 1) := by decide +kernel
theorem dX1_meet_49 : decode cX1_meet 49 = .ok (.iload 4, 2) := by decide +kernel
theorem dX1_meet_51 : decode cX1_meet 51 = .ok (.iload_n 3, 1) := by decide +kernel
theorem dX1_meet_52 : decode cX1_meet 52 = .ok (.invokevirtual 9, 3) := by decide +kernel
theorem dX1_meet_55 : decode cX1_meet 55 = .ok (.ifCond .eq 52, 3) := by decide +kernel
theorem dX1_meet_58 : decode cX1_meet 58 = .ok (.aload_n 1, 1) := by decide +kernel
theorem dX1_meet_59 : decode cX1_meet 59 = .ok (.iload 4, 2) := by decide +kernel
theorem dX1_meet_61 : decode cX1_meet 61 = .ok (.invokevirtual 15, 3) := by decide +kernel
theorem dX1_meet_64 : decode cX1_meet 64 = .ok (.istore 5, 2) := by decide +kernel
theorem dX1_meet_66 : decode cX1_meet 66 = .ok (.aload_n 1, 1) := by decide +kernel
theorem dX1_meet_67 : decode cX1_meet 67 = .ok (.iload_n 3, 1) := by decide +kernel
theorem dX1_meet_68 : decode cX1_meet 68 = .ok (.invokevirtual 19, 3) := by decide +kernel
theorem dX1_meet_71 : decode cX1_meet 71 = .ok (.istore 6, 2) := by decide +kernel
theorem dX1_meet_73 : decode cX1_meet 73 = .ok (.aload_n 1, 1) := by decide +kernel
theorem dX1_meet_74 : decode cX1_meet 74 = .ok (.iload 4, 2) := by decide +kernel
theorem dX1_meet_76 : decode cX1_meet 76 = .ok (.iload_n 3, 1) := by decide +kernel
theorem dX1_meet_77 : decode cX1_meet 77 = .ok (.aload_n 2, 1) := by decide +kernel
theorem dX1_meet_78 : decode cX1_meet 78 = .ok (.aload_n 0, 1) := by decide +kernel
theorem dX1_meet_79 : decode cX1_meet 79 = .ok (.invokevirtual 55, 3) := by decide +kernel
theorem dX1_meet_82 : decode cX1_meet 82 = .ok (.iload 5, 2) := by decide +kernel
theorem dX1_meet_84 : decode cX1_meet 84 = .ok (.iload 6, 2) := by decide +kernel
theorem dX1_meet_86 : decode cX1_meet 86 = .ok (.iconst 0, 1) := by decide +kernel
theorem dX1_meet_87 : decode cX1_meet 87 = .ok (.invokevirtual 26, 3) := by decide +kernel
theorem dX1_meet_90 : decode cX1_meet 90 = .ok (.aload_n 2, 1) := by decide +kernel
theorem dX1_meet_91 : decode cX1_meet 91 = .ok (.aload_n 0, 1) := by decide +kernel
theorem dX1_meet_92 : decode cX1_meet 92 = .ok (.invokevirtual 55, 3) := by decide +kernel
theorem dX1_meet_95 : decode cX1_meet 95 = .ok (.iload 5, 2) := by decide +kernel
theorem dX1_meet_97 : decode cX1_meet 97 = .ok (.iload 6, 2) := by decide +kernel
theorem dX1_meet_99 : decode cX1_meet 99 = .ok (.iconst 1, 1) := by decide +kernel
theorem dX1_meet_100 : decode cX1_meet 100 = .ok (.invokevirtual 26, 3) := by decide +kernel
theorem dX1_meet_103 : decode cX1_meet 103 = .ok (.invokevirtual 65, 3) := by decide +kernel
theorem dX1_meet_106 : decode cX1_meet 106 = .ok (.pop, 1) := by decide +kernel
theorem dX1_meet_107 : decode cX1_meet 107 = .ok (.iinc 4 1, 3) := by decide +kernel
theorem dX1_meet_110 : decode cX1_meet 110 = .ok (.goto (-71), 3) := by decide +kernel
theorem dX1_meet_113 : decode cX1_meet 113 = .ok (.iinc 3 1, 3) := by decide +kernel
theorem dX1_meet_116 : decode cX1_meet 116 = .ok (.goto (-88), 3) := by decide +kernel
theorem dX1_meet_119 : decode cX1_meet 119 = .ok (.return_, 1) := by decide +kernel
theorem dX2_init_0 : decode cX2_init 0 = .ok (.aload_n 0, 1) := by decide +kernel
theorem dX2_init_1 : decode cX2_init 1 = .ok (.invokespecial 3, 3) := by decide +kernel
theorem dX2_init_4 : decode cX2_init 4 = .ok (.aload_n 0, 1) := by decide +kernel
theorem dX2_init_5 : decode cX2_init 5 = .ok (.iconst 4, 1) := by decide +kernel
theorem dX2_init_6 : decode cX2_init 6 = .ok (.newarray .int, 2) := by decide +kernel
theorem dX2_init_8 : decode cX2_init 8 = .ok (.putfield 11, 3) := by decide +kernel
theorem dX2_init_11 : decode cX2_init 11 = .ok (.aload_n 0, 1) := by decide +kernel
theorem dX2_init_12 : decode cX2_init 12 = .ok (.iconst 4, 1) := by decide +kernel
theorem dX2_init_13 : decode cX2_init 13 = .ok (.newarray .int, 2) := by decide +kernel
theorem dX2_init_15 : decode cX2_init 15 = .ok (.putfield 15, 3) := by decide +kernel
theorem dX2_init_18 : decode cX2_init 18 = .ok (.aload_n 0, 1) := by decide +kernel
theorem dX2_init_19 : decode cX2_init 19 = .ok (.iconst 4, 1) := by decide +kernel
theorem dX2_init_20 : decode cX2_init 20 = .ok (.newarray .long, 2) := by decide +kernel
theorem dX2_init_22 : decode cX2_init 22 = .ok (.putfield 18, 3) := by decide +kernel
theorem dX2_init_25 : decode cX2_init 25 = .ok (.aload_n 0, 1) := by decide +kernel
theorem dX2_init_26 : decode cX2_init 26 = .ok (.iconst 4, 1) := by decide +kernel
theorem dX2_init_27 : decode cX2_init 27 = .ok (.newarray .long, 2) := by decide +kernel
theorem dX2_init_29 : decode cX2_init 29 = .ok (.putfield 22, 3) := by decide +kernel
theorem dX2_init_32 : decode cX2_init 32 = .ok (.return_, 1) := by decide +kernel
theorem dX2_look_0 : decode cX2_look 0 = .ok (.aload_n 1, 1) := by decide +kernel
theorem dX2_look_1 : decode cX2_look 1 = .ok (.ifnonnull 4, 3) := by decide +kernel
theorem dX2_look_4 : decode cX2_look 4 = .ok (.return_, 1) := by decide +kernel
theorem dX2_look_5 : decode cX2_look 5 = .ok (.aload_n 0, 1) := by decide +kernel
theorem dX2_look_6 : decode cX2_look 6 = .ok (.aload_n 1, 1) := by decide +kernel
theorem dX2_look_7 : decode cX2_look 7 = .ok (.invokevirtual 25, 3) := by decide +kernel
theorem dX2_look_10 : decode cX2_look 10 = .ok (.putfield 31, 3) := by decide +kernel
theorem dX2_look_13 : decode cX2_look 13 = .ok (.iconst 0, 1) := by decide +kernel
theorem dX2_look_14 : decode cX2_look 14 = .ok (.istore 4, 2) := by decide +kernel
theorem dX2_look_16 : decode cX2_look 16 = .ok (.iload 4, 2) := by decide +kernel
theorem dX2_look_18 : decode cX2_look 18 = .ok (.iconst 4, 1) := by decide +kernel
theorem dX2_look_19 : decode cX2_look 19 = .ok (.if_icmp .ge 121, 3) := by decide +kernel
theorem dX2_look_22 : decode cX2_look 22 = .ok (.iload 4, 2) := by decide +kernel
theorem dX2_look_24 : decode cX2_look 24 = .ok (.iconst 1, 1) := by decide +kernel
theorem dX2_look_25 : decode cX2_look 25 = .ok (.if_icmp .eq 9, 3) := by decide +kernel
theorem dX2_look_28 : decode cX2_look 28 = .ok (.iload 4, 2) := by decide +kernel
theorem dX2_look_30 : decode cX2_look 30 = .ok (.iconst 2, 1) := by decide +kernel
theorem dX2_look_31 : decode cX2_look 31 = .ok (.if_icmp .ne 9, 3) := by decide +kernel
theorem dX2_look_34 : decode cX2_look 34 = .ok (.iload_n 2, 1) := by decide +kernel
theorem dX2_look_35 : decode cX2_look 35 = .ok (.iconst 1, 1) := by decide +kernel
theorem dX2_look_36 : decode cX2_look 36 = .ok (.iadd, 1) := by decide +kernel
theorem dX2_look_37 : decode cX2_look 37 = .ok (.goto 4, 3) := by decide +kernel
theorem dX2_look_40 : decode cX2_look 40 = .ok (.iload_n 2, 1) := by decide +kernel
theorem dX2_look_41 : decode cX2_look 41 = .ok (.istore 5, 2) := by decide +kernel
theorem dX2_look_43 : decode cX2_look 43 = .ok (.iload 4, 2) := by decide +kernel
theorem dX2_look_45 : decode cX2_look 45 = .ok (.iconst 2, 1) := by decide +kernel
theorem dX2_look_46 : decode cX2_look 46 = .ok (.if_icmp .lt 9, 3) := by decide +kernel
theorem dX2_look_49 : decode cX2_look 49 = .ok (.iload_n 3, 1) := by decide +kernel
theorem dX2_look_50 : decode cX2_look 50 = .ok (.iconst 1, 1) := by decide +kernel
theorem dX2_look_51 : decode cX2_look 51 = .ok (.iadd, 1) := by decide +kernel
theorem dX2_look_52 : decode cX2_look 52 = .ok (.goto 4, 3) := by decide +kernel
theorem dX2_look_55 : decode cX2_look 55 = .ok (.iload_n 3, 1) := by decide +kernel
theorem dX2_look_56 : decode cX2_look 56 = .ok (.istore 6, 2) := by decide +kernel
theorem dX2_look_58 : decode cX2_look 58 = .ok (.aload_n 0, 1) := by decide +kernel
theorem dX2_look_59 : decode cX2_look 59 = .ok (.getfield 11, 3) := by decide +kernel
theorem dX2_look_62 : decode cX2_look 62 = .ok (.iload 4, 2) := by decide +kernel
theorem dX2_look_64 : decode cX2_look 64 = .ok (.aload_n 1, 1) := by decide +kernel
theorem dX2_look_65 : decode cX2_look 65 = .ok (.iload 5, 2) := by decide +kernel
theorem dX2_look_67 : decode cX2_look 67 = .ok (.iload 6, 2) := by decide +kernel
theorem dX2_look_69 : decode cX2_look 69 = .ok (.iconst 0, 1) := by decide +kernel
theorem dX2_look_70 : decode cX2_look 70 = .ok (.invokevirtual 34, 3) := by decide +kernel
theorem dX2_look_73 : decode cX2_look 73 = .ok (.iastore, 1) := by decide +kernel
theorem dX2_look_74 : decode cX2_look 74 = .ok (.aload_n 0, 1) := by decide +kernel
theorem dX2_look_75 : decode cX2_look 75 = .ok (.getfield 15, 3) := by decide +kernel
theorem dX2_look_78 : decode cX2_look 78 = .ok (.iload 4, 2) := by decide +kernel
theorem dX2_look_80 : decode cX2_look 80 = .ok (.aload_n 1, 1) := by decide +kernel
theorem dX2_look_81 : decode cX2_look 81 = .ok (.iload 5, 2) := by decide +kernel
theorem dX2_look_83 : decode cX2_look 83 = .ok (.iload 6, 2) := by decide +kernel
theorem dX2_look_85 : decode cX2_look 85 = .ok (.iconst 1, 1) := by decide +kernel
theorem dX2_look_86 : decode cX2_look 86 = .ok (.invokevirtual 34, 3) := by decide +kernel
theorem dX2_look_89 : decode cX2_look 89 = .ok (.iastore, 1) := by decide +kernel
theorem dX2_look_90 : decode cX2_look 90 = .ok (.aload_n 0, 1) := by decide +kernel
theorem dX2_look_91 : decode cX2_look 91 = .ok (.getfield 18, 3) := by decide +kernel
theorem dX2_look_94 : decode cX2_look 94 = .ok (.iload 4, 2) := by decide +kernel
theorem dX2_look_96 : decode cX2_look 96 = .ok (.aload_n 1, 1) := by decide +kernel
theorem dX2_look_97 : decode cX2_look 97 = .ok (.iload 5, 2) := by decide +kernel
theorem dX2_look_99 : decode cX2_look 99 = .ok (.invokevirtual 38, 3) := by decide +kernel
theorem dX2_look_102 : decode cX2_look 102 = .ok (.aload_n 0, 1) := by decide +kernel
theorem dX2_look_103 : decode cX2_look 103 = .ok (.getfield 11, 3) := by decide +kernel
theorem dX2_look_106 : decode cX2_look 106 = .ok (.iload 4, 2) := by decide +kernel
theorem dX2_look_108 : decode cX2_look 108 = .ok (.iaload, 1) := by decide +kernel
theorem dX2_look_109 : decode cX2_look 109 = .ok (.iadd, 1) := by decide +kernel
theorem dX2_look_110 : decode cX2_look 110 = .ok (.i2l, 1) := by decide +kernel
theorem dX2_look_111 : decode cX2_look 111 = .ok (.lastore, 1) := by decide +kernel
theorem dX2_look_112 : decode cX2_look 112 = .ok (.aload_n 0, 1) := by decide +kernel
theorem dX2_look_113 : decode cX2_look 113 = .ok (.getfield 22, 3) := by decide +kernel
theorem dX2_look_116 : decode cX2_look 116 = .ok (.iload 4, 2) := by decide +kernel
theorem dX2_look_118 : decode cX2_look 118 = .ok (.aload_n 1, 1) := by decide +kernel
theorem dX2_look_119 : decode cX2_look 119 = .ok (.iload 6, 2) := by decide +kernel
theorem dX2_look_121 : decode cX2_look 121 = .ok (.invokevirtual 42, 3) := by decide +kernel
theorem dX2_look_124 : decode cX2_look 124 = .ok (.aload_n 0, 1) := by decide +kernel
theorem dX2_look_125 : decode cX2_look 125 = .ok (.getfield 15, 3) := by decide +kernel
theorem dX2_look_128 : decode cX2_look 128 = .ok (.iload 4, 2) := by decide +kernel
theorem dX2_look_130 : decode cX2_look 130 = .ok (.iaload, 1) := by decide +kernel
theorem dX2_look_131 : decode cX2_look 131 = .ok (.iadd, 1) := by decide +kernel
theorem dX2_look_132 : decode cX2_look 132 = .ok (.i2l, 1) := by decide +kernel
theorem dX2_look_133 : decode cX2_look 133 = .ok (.lastore, 1) := by decide +kernel
theorem dX2_look_134 : decode cX2_look 134 = .ok (.iinc 4 1, 3) := by decide +kernel
theorem dX2_look_137 : decode cX2_look 137 = .ok (.goto (-121), 3) := by decide +kernel
theorem dX2_look_140 : decode cX2_look 140 = .ok (.return_, 1) := by decide +kernel
theorem dX2_steepnessOf_0 : decode cX2_steepnessOf 0 = .ok (.aload_n 0, 1) := by decide +kernel
theorem dX2_steepnessOf_1 : decode cX2_steepnessOf 1 = .ok (.ifnull 9, 3) := by decide +kernel
theorem dX2_steepnessOf_4 : decode cX2_steepnessOf 4 = .ok (.aload_n 0, 1) := by decide +kernel
theorem dX2_steepnessOf_5 : decode cX2_steepnessOf 5 = .ok (.arraylength, 1) := by decide +kernel
theorem dX2_steepnessOf_6 : decode cX2_steepnessOf 6 = .ok (.iconst 4, 1) := by decide +kernel
theorem dX2_steepnessOf_7 : decode cX2_steepnessOf 7 = .ok (.if_icmp .eq 5, 3) := by decide +kernel
theorem dX2_steepnessOf_10 : decode cX2_steepnessOf 10 = .ok (.iconst 0, 1) := by decide +kernel
theorem dX2_steepnessOf_11 : decode cX2_steepnessOf 11 = .ok (.ireturn, 1) := by decide +kernel
theorem dX2_steepnessOf_12 : decode cX2_steepnessOf 12 = .ok (.aload_n 0, 1) := by decide +kernel
theorem dX2_steepnessOf_13 : decode cX2_steepnessOf 13 = .ok (.iconst 1, 1) := by decide +kernel
theorem dX2_steepnessOf_14 : decode cX2_steepnessOf 14 = .ok (.iaload, 1) := by decide +kernel
theorem dX2_steepnessOf_15 : decode cX2_steepnessOf 15 = .ok (.aload_n 0, 1) := by decide +kernel
theorem dX2_steepnessOf_16 : decode cX2_steepnessOf 16 = .ok (.iconst 0, 1) := by decide +kernel
theorem dX2_steepnessOf_17 : decode cX2_steepnessOf 17 = .ok (.iaload, 1) := by decide +kernel
theorem dX2_steepnessOf_18 : decode cX2_steepnessOf 18 = .ok (.isub, 1) := by decide +kernel
theorem dX2_steepnessOf_19 : decode cX2_steepnessOf 19 = .ok (.invokestatic 45, 3) := by decide +kernel
theorem dX2_steepnessOf_22 : decode cX2_steepnessOf 22 = .ok (.aload_n 0, 1) := by decide +kernel
theorem dX2_steepnessOf_23 : decode cX2_steepnessOf 23 = .ok (.iconst 2, 1) := by decide +kernel
theorem dX2_steepnessOf_24 : decode cX2_steepnessOf 24 = .ok (.iaload, 1) := by decide +kernel
theorem dX2_steepnessOf_25 : decode cX2_steepnessOf 25 = .ok (.aload_n 0, 1) := by decide +kernel
theorem dX2_steepnessOf_26 : decode cX2_steepnessOf 26 = .ok (.iconst 3, 1) := by decide +kernel
theorem dX2_steepnessOf_27 : decode cX2_steepnessOf 27 = .ok (.iaload, 1) := by decide +kernel
theorem dX2_steepnessOf_28 : decode cX2_steepnessOf 28 = .ok (.isub, 1) := by decide +kernel
theorem dX2_steepnessOf_29 : decode cX2_steepnessOf 29 = .ok (.invokestatic 45, 3) := by decide +kernel
theorem dX2_steepnessOf_32 : decode cX2_steepnessOf 32 = .ok (.invokestatic 50, 3) := by decide +kernel
theorem dX2_steepnessOf_35 : decode cX2_steepnessOf 35 = .ok (.istore_n 1, 1) := by decide +kernel
theorem dX2_steepnessOf_36 : decode cX2_steepnessOf 36 = .ok (.aload_n 0, 1) := by decide +kernel
theorem dX2_steepnessOf_37 : decode cX2_steepnessOf 37 = .ok (.iconst 3, 1) := by decide +kernel
theorem dX2_steepnessOf_38 : decode cX2_steepnessOf 38 = .ok (.iaload, 1) := by decide +kernel
theorem dX2_steepnessOf_39 : decode cX2_steepnessOf 39 = .ok (.aload_n 0, 1) := by decide +kernel
theorem dX2_steepnessOf_40 : decode cX2_steepnessOf 40 = .ok (.iconst 0, 1) := by decide +kernel
theorem dX2_steepnessOf_41 : decode cX2_steepnessOf 41 = .ok (.iaload, 1) := by decide +kernel
theorem dX2_steepnessOf_42 : decode cX2_steepnessOf 42 = .ok (.isub, 1) := by decide +kernel
theorem dX2_steepnessOf_43 : decode cX2_steepnessOf 43 = .ok (.invokestatic 45, 3) := by decide +kernel
theorem dX2_steepnessOf_46 : decode cX2_steepnessOf 46 = .ok (.aload_n 0, 1) := by decide +kernel
theorem dX2_steepnessOf_47 : decode cX2_steepnessOf 47 = .ok (.iconst 2, 1) := by decide +kernel
theorem dX2_steepnessOf_48 : decode cX2_steepnessOf 48 = .ok (.iaload, 1) := by decide +kernel
theorem dX2_steepnessOf_49 : decode cX2_steepnessOf 49 = .ok (.aload_n 0, 1) := by decide +kernel
theorem dX2_steepnessOf_50 : decode cX2_steepnessOf 50 = .ok (.iconst 1, 1) := by decide +kernel
theorem dX2_steepnessOf_51 : decode cX2_steepnessOf 51 = .ok (.iaload, 1) := by decide +kernel
theorem dX2_steepnessOf_52 : decode cX2_steepnessOf 52 = .ok (.isub, 1) := by decide +kernel
theorem dX2_steepnessOf_53 : decode cX2_steepnessOf 53 = .ok (.invokestatic 45, 3) := by decide +kernel
theorem dX2_steepnessOf_56 : decode cX2_steepnessOf 56 = .ok (.invokestatic 50, 3) := by decide +kernel
theorem dX2_steepnessOf_59 : decode cX2_steepnessOf 59 = .ok (.istore_n 2, 1) := by decide +kernel
theorem dX2_steepnessOf_60 : decode cX2_steepnessOf 60 = .ok (.iload_n 1, 1) := by decide +kernel
theorem dX2_steepnessOf_61 : decode cX2_steepnessOf 61 = .ok (.iload_n 2, 1) := by decide +kernel
theorem dX2_steepnessOf_62 : decode cX2_steepnessOf 62 = .ok (.iadd, 1) := by decide +kernel
theorem dX2_steepnessOf_63 : decode cX2_steepnessOf 63 = .ok (.ireturn, 1) := by decide +kernel
theorem dX2_steepness_0 : decode cX2_steepness 0 = .ok (.aload_n 0, 1) := by decide +kernel
theorem dX2_steepness_1 : decode cX2_steepness 1 = .ok (.getfield 11, 3) := by decide +kernel
theorem dX2_steepness_4 : decode cX2_steepness 4 = .ok (.invokestatic 54, 3) := by decide +kernel
theorem dX2_steepness_7 : decode cX2_steepness 7 = .ok (.aload_n 0, 1) := by decide +kernel
theorem dX2_steepness_8 : decode cX2_steepness 8 = .ok (.getfield 15, 3) := by decide +kernel
theorem dX2_steepness_11 : decode cX2_steepness 11 = .ok (.invokestatic 54, 3) := by decide +kernel
theorem dX2_steepness_14 : decode cX2_steepness 14 = .ok (.invokestatic 50, 3) := by decide +kernel
theorem dX2_steepness_17 : decode cX2_steepness 17 = .ok (.ireturn, 1) := by decide +kernel
theorem dX2_isSure_0 : decode cX2_isSure 0 = .ok (.iconst 2, 1) := by decide +kernel
theorem dX2_isSure_1 : decode cX2_isSure 1 = .ok (.aload_n 0, 1) := by decide +kernel
theorem dX2_isSure_2 : decode cX2_isSure 2 = .ok (.invokevirtual 58, 3) := by decide +kernel
theorem dX2_isSure_5 : decode cX2_isSure 5 = .ok (.imul, 1) := by decide +kernel
theorem dX2_isSure_6 : decode cX2_isSure 6 = .ok (.aload_n 0, 1) := by decide +kernel
theorem dX2_isSure_7 : decode cX2_isSure 7 = .ok (.getfield 31, 3) := by decide +kernel
theorem dX2_isSure_10 : decode cX2_isSure 10 = .ok (.if_icmp .ge 7, 3) := by decide +kernel
theorem dX2_isSure_13 : decode cX2_isSure 13 = .ok (.iconst 1, 1) := by decide +kernel
theorem dX2_isSure_14 : decode cX2_isSure 14 = .ok (.goto 4, 3) := by decide +kernel
theorem dX2_isSure_17 : decode cX2_isSure 17 = .ok (.iconst 0, 1) := by decide +kernel
theorem dX2_isSure_18 : decode cX2_isSure 18 = .ok (.ireturn, 1) := by decide +kernel
theorem dX2_crossed_0 : decode cX2_crossed 0 = .ok (.iload_n 1, 1) := by decide +kernel
theorem dX2_crossed_1 : decode cX2_crossed 1 = .ok (.iconst 4, 1) := by decide +kernel
theorem dX2_crossed_2 : decode cX2_crossed 2 = .ok (.invokestatic 61, 3) := by decide +kernel
theorem dX2_crossed_5 : decode cX2_crossed 5 = .ok (.istore_n 3, 1) := by decide +kernel
theorem dX2_crossed_6 : decode cX2_crossed 6 = .ok (.iload_n 2, 1) := by decide +kernel
theorem dX2_crossed_7 : decode cX2_crossed 7 = .ok (.iconst 4, 1) := by decide +kernel
theorem dX2_crossed_8 : decode cX2_crossed 8 = .ok (.invokestatic 61, 3) := by decide +kernel
theorem dX2_crossed_11 : decode cX2_crossed 11 = .ok (.istore 4, 2) := by decide +kernel
theorem dX2_crossed_13 : decode cX2_crossed 13 = .ok (.aload_n 0, 1) := by decide +kernel
theorem dX2_crossed_14 : decode cX2_crossed 14 = .ok (.getfield 18, 3) := by decide +kernel
theorem dX2_crossed_17 : decode cX2_crossed 17 = .ok (.iload_n 3, 1) := by decide +kernel
theorem dX2_crossed_18 : decode cX2_crossed 18 = .ok (.laload, 1) := by decide +kernel
theorem dX2_crossed_19 : decode cX2_crossed 19 = .ok (.aload_n 0, 1) := by decide +kernel
theorem dX2_crossed_20 : decode cX2_crossed 20 = .ok (.getfield 22, 3) := by decide +kernel
theorem dX2_crossed_23 : decode cX2_crossed 23 = .ok (.iload 4, 2) := by decide +kernel
theorem dX2_crossed_25 : decode cX2_crossed 25 = .ok (.laload, 1) := by decide +kernel
theorem dX2_crossed_26 : decode cX2_crossed 26 = .ok (.lmul, 1) := by decide +kernel
theorem dX2_crossed_27 : decode cX2_crossed 27 = .ok (.aload_n 0, 1) := by decide +kernel
theorem dX2_crossed_28 : decode cX2_crossed 28 = .ok (.getfield 18, 3) := by decide +kernel
theorem dX2_crossed_31 : decode cX2_crossed 31 = .ok (.iload 4, 2) := by decide +kernel
theorem dX2_crossed_33 : decode cX2_crossed 33 = .ok (.laload, 1) := by decide +kernel
theorem dX2_crossed_34 : decode cX2_crossed 34 = .ok (.aload_n 0, 1) := by decide +kernel
theorem dX2_crossed_35 : decode cX2_crossed 35 = .ok (.getfield 22, 3) := by decide +kernel
theorem dX2_crossed_38 : decode cX2_crossed 38 = .ok (.iload_n 3, 1) := by decide +kernel
theorem dX2_crossed_39 : decode cX2_crossed 39 = .ok (.laload, 1) := by decide +kernel
theorem dX2_crossed_40 : decode cX2_crossed 40 = .ok (.lmul, 1) := by decide +kernel
theorem dX2_crossed_41 : decode cX2_crossed 41 = .ok (.lsub, 1) := by decide +kernel
theorem dX2_crossed_42 : decode cX2_crossed 42 = .ok (.lreturn, 1) := by decide +kernel
theorem dX2_area_0 : decode cX2_area 0 = .ok (.lconst 0, 1) := by decide +kernel
theorem dX2_area_1 : decode cX2_area 1 = .ok (.lstore_n 1, 1) := by decide +kernel
theorem dX2_area_2 : decode cX2_area 2 = .ok (.iconst 0, 1) := by decide +kernel
theorem dX2_area_3 : decode cX2_area 3 = .ok (.istore_n 3, 1) := by decide +kernel
theorem dX2_area_4 : decode cX2_area 4 = .ok (.iload_n 3, 1) := by decide +kernel
theorem dX2_area_5 : decode cX2_area 5 = .ok (.iconst 4, 1) := by decide +kernel
theorem dX2_area_6 : decode cX2_area 6 = .ok (.if_icmp .ge 20, 3) := by decide +kernel
theorem dX2_area_9 : decode cX2_area 9 = .ok (.lload_n 1, 1) := by decide +kernel
theorem dX2_area_10 : decode cX2_area 10 = .ok (.aload_n 0, 1) := by decide +kernel
theorem dX2_area_11 : decode cX2_area 11 = .ok (.iload_n 3, 1) := by decide +kernel
theorem dX2_area_12 : decode cX2_area 12 = .ok (.iload_n 3, 1) := by decide +kernel
theorem dX2_area_13 : decode cX2_area 13 = .ok (.iconst 1, 1) := by decide +kernel
theorem dX2_area_14 : decode cX2_area 14 = .ok (.iadd, 1) := by decide +kernel
theorem dX2_area_15 : decode cX2_area 15 = .ok (.invokevirtual 64, 3) := by decide +kernel
theorem dX2_area_18 : decode cX2_area 18 = .ok (.ladd, 1) := by decide +kernel
theorem dX2_area_19 : decode cX2_area 19 = .ok (.lstore_n 1, 1) := by decide +kernel
theorem dX2_area_20 : decode cX2_area 20 = .ok (.iinc 3 1, 3) := by decide +kernel
theorem dX2_area_23 : decode cX2_area 23 = .ok (.goto (-19), 3) := by decide +kernel
theorem dX2_area_26 : decode cX2_area 26 = .ok (.lload_n 1, 1) := by decide +kernel
theorem dX2_area_27 : decode cX2_area 27 = .ok (.lreturn, 1) := by decide +kernel
theorem dX2_isFolded_0 : decode cX2_isFolded 0 = .ok (.iconst 0, 1) := by decide +kernel
theorem dX2_isFolded_1 : decode cX2_isFolded 1 = .ok (.istore_n 1, 1) := by decide +kernel
theorem dX2_isFolded_2 : decode cX2_isFolded 2 = .ok (.iload_n 1, 1) := by decide +kernel
theorem dX2_isFolded_3 : decode cX2_isFolded 3 = .ok (.iconst 4, 1) := by decide +kernel
theorem dX2_isFolded_4 : decode cX2_isFolded 4 = .ok (.if_icmp .ge 44, 3) := by decide +kernel
theorem dX2_isFolded_7 : decode cX2_isFolded 7 = .ok (.aload_n 0, 1) := by decide +kernel
theorem dX2_isFolded_8 : decode cX2_isFolded 8 = .ok (.iload_n 1, 1) := by decide +kernel
theorem dX2_isFolded_9 : decode cX2_isFolded 9 = .ok (.iconst 1, 1) := by decide +kernel
theorem dX2_isFolded_10 : decode cX2_isFolded 10 = .ok (.isub, 1) := by decide +kernel
theorem dX2_isFolded_11 : decode cX2_isFolded 11 = .ok (.iload_n 1, 1) := by decide +kernel
theorem dX2_isFolded_12 : decode cX2_isFolded 12 = .ok (.invokevirtual 64, 3) := by decide +kernel
theorem dX2_isFolded_15 : decode cX2_isFolded 15 = .ok (.aload_n 0, 1) := by decide +kernel
theorem dX2_isFolded_16 : decode cX2_isFolded 16 = .ok (.iload_n 1, 1) := by decide +kernel
theorem dX2_isFolded_17 : decode cX2_isFolded 17 = .ok (.iload_n 1, 1) := by decide +kernel
theorem dX2_isFolded_18 : decode cX2_isFolded 18 = .ok (.iconst 1, 1) := by decide +kernel
theorem dX2_isFolded_19 : decode cX2_isFolded 19 = .ok (.iadd, 1) := by decide +kernel
theorem dX2_isFolded_20 : decode cX2_isFolded 20 = .ok (.invokevirtual 64, 3) := by decide +kernel
theorem dX2_isFolded_23 : decode cX2_isFolded 23 = .ok (.ladd, 1) := by decide +kernel
theorem dX2_isFolded_24 : decode cX2_isFolded 24 = .ok (.aload_n 0, 1) := by decide +kernel
theorem dX2_isFolded_25 : decode cX2_isFolded 25 = .ok (.iload_n 1, 1) := by decide +kernel
theorem dX2_isFolded_26 : decode cX2_isFolded 26 = .ok (.iconst 1, 1) := by decide +kernel
theorem dX2_isFolded_27 : decode cX2_isFolded 27 = .ok (.iadd, 1) := by decide +kernel
theorem dX2_isFolded_28 : decode cX2_isFolded 28 = .ok (.iload_n 1, 1) := by decide +kernel
theorem dX2_isFolded_29 : decode cX2_isFolded 29 = .ok (.iconst 1, 1) := by decide +kernel
theorem dX2_isFolded_30 : decode cX2_isFolded 30 = .ok (.isub, 1) := by decide +kernel
theorem dX2_isFolded_31 : decode cX2_isFolded 31 = .ok (.invokevirtual 64, 3) := by decide +kernel
theorem dX2_isFolded_34 : decode cX2_isFolded 34 = .ok (.ladd, 1) := by decide +kernel
theorem dX2_isFolded_35 : decode cX2_isFolded 35 = .ok (.lconst 0, 1) := by decide +kernel
theorem dX2_isFolded_36 : decode cX2_isFolded 36 = .ok (.lcmp, 1) := by decide +kernel
theorem dX2_isFolded_37 : decode cX2_isFolded 37 = .ok (.ifCond .gt 5, 3) := by decide +kernel
theorem dX2_isFolded_40 : decode cX2_isFolded 40 = .ok (.iconst 1, 1) := by decide +kernel
theorem dX2_isFolded_41 : decode cX2_isFolded 41 = .ok (.ireturn, 1) := by decide +kernel
theorem dX2_isFolded_42 : decode cX2_isFolded 42 = .ok (.iinc 1 1, 3) := by decide +kernel
theorem dX2_isFolded_45 : decode cX2_isFolded 45 = .ok (.goto (-43), 3) := by decide +kernel
theorem dX2_isFolded_48 : decode cX2_isFolded 48 = .ok (.iconst 0, 1) := by decide +kernel
theorem dX2_isFolded_49 : decode cX2_isFolded 49 = .ok (.ireturn, 1) := by decide +kernel
theorem dX3_init_0 : decode cX3_init 0 = .ok (.aload_n 0, 1) := by decide +kernel
theorem dX3_init_1 : decode cX3_init 1 = .ok (.invokespecial 1, 3) := by decide +kernel
theorem dX3_init_4 : decode cX3_init 4 = .ok (.return_, 1) := by decide +kernel
theorem dX3_seedNow_0 : decode cX3_seedNow 0 = .ok (.aload_n 0, 1) := by decide +kernel
theorem dX3_seedNow_1 : decode cX3_seedNow 1 = .ok (.getfield 7, 3) := by decide +kernel
theorem dX3_seedNow_4 : decode cX3_seedNow 4 = .ok (.ireturn, 1) := by decide +kernel
theorem dX3_setSeed_0 : decode cX3_setSeed 0 = .ok (.aload_n 0, 1) := by decide +kernel
theorem dX3_setSeed_1 : decode cX3_setSeed 1 = .ok (.iload_n 1, 1) := by decide +kernel
theorem dX3_setSeed_2 : decode cX3_setSeed 2 = .ok (.putfield 7, 3) := by decide +kernel
theorem dX3_setSeed_5 : decode cX3_setSeed 5 = .ok (.return_, 1) := by decide +kernel
theorem dX3_draw_0 : decode cX3_draw 0 = .ok (.aload_n 0, 1) := by decide +kernel
theorem dX3_draw_1 : decode cX3_draw 1 = .ok (.aload_n 0, 1) := by decide +kernel
theorem dX3_draw_2 : decode cX3_draw 2 = .ok (.getfield 7, 3) := by decide +kernel
theorem dX3_draw_5 : decode cX3_draw 5 = .ok (.i2l, 1) := by decide +kernel
theorem dX3_draw_6 : decode cX3_draw 6 = .ok (.ldc2_w 13, 3) := by decide +kernel
theorem dX3_draw_9 : decode cX3_draw 9 = .ok (.lmul, 1) := by decide +kernel
theorem dX3_draw_10 : decode cX3_draw 10 = .ok (.ldc2_w 15, 3) := by decide +kernel
theorem dX3_draw_13 : decode cX3_draw 13 = .ok (.ladd, 1) := by decide +kernel
theorem dX3_draw_14 : decode cX3_draw 14 = .ok (.ldc2_w 17, 3) := by decide +kernel
theorem dX3_draw_17 : decode cX3_draw 17 = .ok (.land, 1) := by decide +kernel
theorem dX3_draw_18 : decode cX3_draw 18 = .ok (.l2i, 1) := by decide +kernel
theorem dX3_draw_19 : decode cX3_draw 19 = .ok (.putfield 7, 3) := by decide +kernel
theorem dX3_draw_22 : decode cX3_draw 22 = .ok (.iload_n 1, 1) := by decide +kernel
theorem dX3_draw_23 : decode cX3_draw 23 = .ok (.ifCond .le 15, 3) := by decide +kernel
theorem dX3_draw_26 : decode cX3_draw 26 = .ok (.aload_n 0, 1) := by decide +kernel
theorem dX3_draw_27 : decode cX3_draw 27 = .ok (.getfield 7, 3) := by decide +kernel
theorem dX3_draw_30 : decode cX3_draw 30 = .ok (.ldc 19, 2) := by decide +kernel
theorem dX3_draw_32 : decode cX3_draw 32 = .ok (.idiv, 1) := by decide +kernel
theorem dX3_draw_33 : decode cX3_draw 33 = .ok (.iload_n 1, 1) := by decide +kernel
theorem dX3_draw_34 : decode cX3_draw 34 = .ok (.irem, 1) := by decide +kernel
theorem dX3_draw_35 : decode cX3_draw 35 = .ok (.goto 4, 3) := by decide +kernel
theorem dX3_draw_38 : decode cX3_draw 38 = .ok (.iconst 0, 1) := by decide +kernel
theorem dX3_draw_39 : decode cX3_draw 39 = .ok (.ireturn, 1) := by decide +kernel
theorem dX3_shiftNode_0 : decode cX3_shiftNode 0 = .ok (.aload_n 1, 1) := by decide +kernel
theorem dX3_shiftNode_1 : decode cX3_shiftNode 1 = .ok (.aload_n 0, 1) := by decide +kernel
theorem dX3_shiftNode_2 : decode cX3_shiftNode 2 = .ok (.aload_n 1, 1) := by decide +kernel
theorem dX3_shiftNode_3 : decode cX3_shiftNode 3 = .ok (.invokevirtual 20, 3) := by decide +kernel
theorem dX3_shiftNode_6 : decode cX3_shiftNode 6 = .ok (.invokevirtual 26, 3) := by decide +kernel
theorem dX3_shiftNode_9 : decode cX3_shiftNode 9 = .ok (.invokevirtual 30, 3) := by decide +kernel
theorem dX3_shiftNode_12 : decode cX3_shiftNode 12 = .ok (.astore_n 2, 1) := by decide +kernel
theorem dX3_shiftNode_13 : decode cX3_shiftNode 13 = .ok (.aload_n 2, 1) := by decide +kernel
theorem dX3_shiftNode_14 : decode cX3_shiftNode 14 = .ok (.ifnonnull 4, 3) := by decide +kernel
theorem dX3_shiftNode_17 : decode cX3_shiftNode 17 = .ok (.return_, 1) := by decide +kernel
theorem dX3_shiftNode_18 : decode cX3_shiftNode 18 = .ok (.aload_n 0, 1) := by decide +kernel
theorem dX3_shiftNode_19 : decode cX3_shiftNode 19 = .ok (.aload_n 2, 1) := by decide +kernel
theorem dX3_shiftNode_20 : decode cX3_shiftNode 20 = .ok (.getfield 34, 3) := by decide +kernel
theorem dX3_shiftNode_23 : decode cX3_shiftNode 23 = .ok (.invokevirtual 26, 3) := by decide +kernel
theorem dX3_shiftNode_26 : decode cX3_shiftNode 26 = .ok (.istore_n 3, 1) := by decide +kernel
theorem dX3_shiftNode_27 : decode cX3_shiftNode 27 = .ok (.aload_n 0, 1) := by decide +kernel
theorem dX3_shiftNode_28 : decode cX3_shiftNode 28 = .ok (.aload_n 2, 1) := by decide +kernel
theorem dX3_shiftNode_29 : decode cX3_shiftNode 29 = .ok (.getfield 39, 3) := by decide +kernel
theorem dX3_shiftNode_32 : decode cX3_shiftNode 32 = .ok (.invokevirtual 26, 3) := by decide +kernel
theorem dX3_shiftNode_35 : decode cX3_shiftNode 35 = .ok (.istore 4, 2) := by decide +kernel
theorem dX3_shiftNode_37 : decode cX3_shiftNode 37 = .ok (.aload_n 0, 1) := by decide +kernel
theorem dX3_shiftNode_38 : decode cX3_shiftNode 38 = .ok (.sipush 401, 3) := by decide +kernel
theorem dX3_shiftNode_41 : decode cX3_shiftNode 41 = .ok (.invokevirtual 26, 3) := by decide +kernel
theorem dX3_shiftNode_44 : decode cX3_shiftNode 44 = .ok (.sipush 200, 3) := by decide +kernel
theorem dX3_shiftNode_47 : decode cX3_shiftNode 47 = .ok (.isub, 1) := by decide +kernel
theorem dX3_shiftNode_48 : decode cX3_shiftNode 48 = .ok (.istore 5, 2) := by decide +kernel
theorem dX3_shiftNode_50 : decode cX3_shiftNode 50 = .ok (.aload_n 0, 1) := by decide +kernel
theorem dX3_shiftNode_51 : decode cX3_shiftNode 51 = .ok (.sipush 401, 3) := by decide +kernel
theorem dX3_shiftNode_54 : decode cX3_shiftNode 54 = .ok (.invokevirtual 26, 3) := by decide +kernel
theorem dX3_shiftNode_57 : decode cX3_shiftNode 57 = .ok (.sipush 200, 3) := by decide +kernel
theorem dX3_shiftNode_60 : decode cX3_shiftNode 60 = .ok (.isub, 1) := by decide +kernel
theorem dX3_shiftNode_61 : decode cX3_shiftNode 61 = .ok (.istore 6, 2) := by decide +kernel
theorem dX3_shiftNode_63 : decode cX3_shiftNode 63 = .ok (.aload_n 2, 1) := by decide +kernel
theorem dX3_shiftNode_64 : decode cX3_shiftNode 64 = .ok (.iload_n 3, 1) := by decide +kernel
theorem dX3_shiftNode_65 : decode cX3_shiftNode 65 = .ok (.iload 4, 2) := by decide +kernel
theorem dX3_shiftNode_67 : decode cX3_shiftNode 67 = .ok (.iload 5, 2) := by decide +kernel
theorem dX3_shiftNode_69 : decode cX3_shiftNode 69 = .ok (.iload 6, 2) := by decide +kernel
theorem dX3_shiftNode_71 : decode cX3_shiftNode 71 = .ok (.invokevirtual 42, 3) := by decide +kernel
theorem dX3_shiftNode_74 : decode cX3_shiftNode 74 = .ok (.pop, 1) := by decide +kernel
theorem dX3_shiftNode_75 : decode cX3_shiftNode 75 = .ok (.return_, 1) := by decide +kernel
theorem dX4_init_0 : decode cX4_init 0 = .ok (.aload_n 0, 1) := by decide +kernel
theorem dX4_init_1 : decode cX4_init 1 = .ok (.invokespecial 3, 3) := by decide +kernel
theorem dX4_init_4 : decode cX4_init 4 = .ok (.aload_n 0, 1) := by decide +kernel
theorem dX4_init_5 : decode cX4_init 5 = .ok (.bipush 50, 2) := by decide +kernel
theorem dX4_init_7 : decode cX4_init 7 = .ok (.newarray .int, 2) := by decide +kernel
theorem dX4_init_9 : decode cX4_init 9 = .ok (.putfield 9, 3) := by decide +kernel
theorem dX4_init_12 : decode cX4_init 12 = .ok (.return_, 1) := by decide +kernel
theorem dX4_place_0 : decode cX4_place 0 = .ok (.aload_n 0, 1) := by decide +kernel
theorem dX4_place_1 : decode cX4_place 1 = .ok (.iload_n 1, 1) := by decide +kernel
theorem dX4_place_2 : decode cX4_place 2 = .ok (.putfield 15, 3) := by decide +kernel
theorem dX4_place_5 : decode cX4_place 5 = .ok (.aload_n 0, 1) := by decide +kernel
theorem dX4_place_6 : decode cX4_place 6 = .ok (.iload_n 2, 1) := by decide +kernel
theorem dX4_place_7 : decode cX4_place 7 = .ok (.putfield 19, 3) := by decide +kernel
theorem dX4_place_10 : decode cX4_place 10 = .ok (.aload_n 0, 1) := by decide +kernel
theorem dX4_place_11 : decode cX4_place 11 = .ok (.iload_n 3, 1) := by decide +kernel
theorem dX4_place_12 : decode cX4_place 12 = .ok (.putfield 22, 3) := by decide +kernel
theorem dX4_place_15 : decode cX4_place 15 = .ok (.aload_n 0, 1) := by decide +kernel
theorem dX4_place_16 : decode cX4_place 16 = .ok (.iload 4, 2) := by decide +kernel
theorem dX4_place_18 : decode cX4_place 18 = .ok (.putfield 25, 3) := by decide +kernel
theorem dX4_place_21 : decode cX4_place 21 = .ok (.aload_n 0, 1) := by decide +kernel
theorem dX4_place_22 : decode cX4_place 22 = .ok (.iload 5, 2) := by decide +kernel
theorem dX4_place_24 : decode cX4_place 24 = .ok (.putfield 28, 3) := by decide +kernel
theorem dX4_place_27 : decode cX4_place 27 = .ok (.aload_n 0, 1) := by decide +kernel
theorem dX4_place_28 : decode cX4_place 28 = .ok (.iload 6, 2) := by decide +kernel
theorem dX4_place_30 : decode cX4_place 30 = .ok (.putfield 31, 3) := by decide +kernel
theorem dX4_place_33 : decode cX4_place 33 = .ok (.return_, 1) := by decide +kernel
theorem dX4_copyFrom_0 : decode cX4_copyFrom 0 = .ok (.aload_n 1, 1) := by decide +kernel
theorem dX4_copyFrom_1 : decode cX4_copyFrom 1 = .ok (.ifnull 46, 3) := by decide +kernel
theorem dX4_copyFrom_4 : decode cX4_copyFrom 4 = .ok (.aload_n 0, 1) := by decide +kernel
theorem dX4_copyFrom_5 : decode cX4_copyFrom 5 = .ok (.aload_n 1, 1) := by decide +kernel
theorem dX4_copyFrom_6 : decode cX4_copyFrom 6 = .ok (.getfield 15, 3) := by decide +kernel
theorem dX4_copyFrom_9 : decode cX4_copyFrom 9 = .ok (.aload_n 1, 1) := by decide +kernel
theorem dX4_copyFrom_10 : decode cX4_copyFrom 10 = .ok (.getfield 19, 3) := by decide +kernel
theorem dX4_copyFrom_13 : decode cX4_copyFrom 13 = .ok (.aload_n 1, 1) := by decide +kernel
theorem dX4_copyFrom_14 : decode cX4_copyFrom 14 = .ok (.getfield 22, 3) := by decide +kernel
theorem dX4_copyFrom_17 : decode cX4_copyFrom 17 = .ok (.aload_n 1, 1) := by decide +kernel
theorem dX4_copyFrom_18 : decode cX4_copyFrom 18 = .ok (.getfield 25, 3) := by decide +kernel
theorem dX4_copyFrom_21 : decode cX4_copyFrom 21 = .ok (.aload_n 1, 1) := by decide +kernel
theorem dX4_copyFrom_22 : decode cX4_copyFrom 22 = .ok (.getfield 28, 3) := by decide +kernel
theorem dX4_copyFrom_25 : decode cX4_copyFrom 25 = .ok (.aload_n 1, 1) := by decide +kernel
theorem dX4_copyFrom_26 : decode cX4_copyFrom 26 = .ok (.getfield 31, 3) := by decide +kernel
theorem dX4_copyFrom_29 : decode cX4_copyFrom 29 = .ok (.invokevirtual 34, 3) := by decide +kernel
theorem dX4_copyFrom_32 : decode cX4_copyFrom 32 = .ok (.aload_n 1, 1) := by decide +kernel
theorem dX4_copyFrom_33 : decode cX4_copyFrom 33 = .ok (.getfield 9, 3) := by decide +kernel
theorem dX4_copyFrom_36 : decode cX4_copyFrom 36 = .ok (.iconst 0, 1) := by decide +kernel
theorem dX4_copyFrom_37 : decode cX4_copyFrom 37 = .ok (.aload_n 0, 1) := by decide +kernel
theorem dX4_copyFrom_38 : decode cX4_copyFrom 38 = .ok (.getfield 9, 3) := by decide +kernel
theorem dX4_copyFrom_41 : decode cX4_copyFrom 41 = .ok (.iconst 0, 1) := by decide +kernel
theorem dX4_copyFrom_42 : decode cX4_copyFrom 42 = .ok (.bipush 50, 2) := by decide +kernel
theorem dX4_copyFrom_44 : decode cX4_copyFrom 44 = .ok (.invokestatic 38, 3) := by decide +kernel
theorem dX4_copyFrom_47 : decode cX4_copyFrom 47 = .ok (.return_, 1) := by decide +kernel
theorem dX4_hasNode_0 : decode cX4_hasNode 0 = .ok (.iload_n 1, 1) := by decide +kernel
theorem dX4_hasNode_1 : decode cX4_hasNode 1 = .ok (.ifCond .lt 27, 3) := by decide +kernel
theorem dX4_hasNode_4 : decode cX4_hasNode 4 = .ok (.iload_n 1, 1) := by decide +kernel
theorem dX4_hasNode_5 : decode cX4_hasNode 5 = .ok (.aload_n 0, 1) := by decide +kernel
theorem dX4_hasNode_6 : decode cX4_hasNode 6 = .ok (.getfield 28, 3) := by decide +kernel
theorem dX4_hasNode_9 : decode cX4_hasNode 9 = .ok (.if_icmp .ge 19, 3) := by decide +kernel
theorem dX4_hasNode_12 : decode cX4_hasNode 12 = .ok (.iload_n 2, 1) := by decide +kernel
theorem dX4_hasNode_13 : decode cX4_hasNode 13 = .ok (.ifCond .lt 15, 3) := by decide +kernel
theorem dX4_hasNode_16 : decode cX4_hasNode 16 = .ok (.iload_n 2, 1) := by decide +kernel
theorem dX4_hasNode_17 : decode cX4_hasNode 17 = .ok (.aload_n 0, 1) := by decide +kernel
theorem dX4_hasNode_18 : decode cX4_hasNode 18 = .ok (.getfield 31, 3) := by decide +kernel
theorem dX4_hasNode_21 : decode cX4_hasNode 21 = .ok (.if_icmp .ge 7, 3) := by decide +kernel
theorem dX4_hasNode_24 : decode cX4_hasNode 24 = .ok (.iconst 1, 1) := by decide +kernel
theorem dX4_hasNode_25 : decode cX4_hasNode 25 = .ok (.goto 4, 3) := by decide +kernel
theorem dX4_hasNode_28 : decode cX4_hasNode 28 = .ok (.iconst 0, 1) := by decide +kernel
theorem dX4_hasNode_29 : decode cX4_hasNode 29 = .ok (.ireturn, 1) := by decide +kernel
theorem dX4_hasCell_0 : decode cX4_hasCell 0 = .ok (.iload_n 1, 1) := by decide +kernel
theorem dX4_hasCell_1 : decode cX4_hasCell 1 = .ok (.ifCond .lt 31, 3) := by decide +kernel
theorem dX4_hasCell_4 : decode cX4_hasCell 4 = .ok (.iload_n 1, 1) := by decide +kernel
theorem dX4_hasCell_5 : decode cX4_hasCell 5 = .ok (.aload_n 0, 1) := by decide +kernel
theorem dX4_hasCell_6 : decode cX4_hasCell 6 = .ok (.getfield 28, 3) := by decide +kernel
theorem dX4_hasCell_9 : decode cX4_hasCell 9 = .ok (.iconst 1, 1) := by decide +kernel
theorem dX4_hasCell_10 : decode cX4_hasCell 10 = .ok (.isub, 1) := by decide +kernel
theorem dX4_hasCell_11 : decode cX4_hasCell 11 = .ok (.if_icmp .ge 21, 3) := by decide +kernel
theorem dX4_hasCell_14 : decode cX4_hasCell 14 = .ok (.iload_n 2, 1) := by decide +kernel
theorem dX4_hasCell_15 : decode cX4_hasCell 15 = .ok (.ifCond .lt 17, 3) := by decide +kernel
theorem dX4_hasCell_18 : decode cX4_hasCell 18 = .ok (.iload_n 2, 1) := by decide +kernel
theorem dX4_hasCell_19 : decode cX4_hasCell 19 = .ok (.aload_n 0, 1) := by decide +kernel
theorem dX4_hasCell_20 : decode cX4_hasCell 20 = .ok (.getfield 31, 3) := by decide +kernel
theorem dX4_hasCell_23 : decode cX4_hasCell 23 = .ok (.iconst 1, 1) := by decide +kernel
theorem dX4_hasCell_24 : decode cX4_hasCell 24 = .ok (.isub, 1) := by decide +kernel
theorem dX4_hasCell_25 : decode cX4_hasCell 25 = .ok (.if_icmp .ge 7, 3) := by decide +kernel
theorem dX4_hasCell_28 : decode cX4_hasCell 28 = .ok (.iconst 1, 1) := by decide +kernel
theorem dX4_hasCell_29 : decode cX4_hasCell 29 = .ok (.goto 4, 3) := by decide +kernel
theorem dX4_hasCell_32 : decode cX4_hasCell 32 = .ok (.iconst 0, 1) := by decide +kernel
theorem dX4_hasCell_33 : decode cX4_hasCell 33 = .ok (.ireturn, 1) := by decide +kernel
theorem dX4_isOnBorder_0 : decode cX4_isOnBorder 0 = .ok (.iload_n 1, 1) := by decide +kernel
theorem dX4_isOnBorder_1 : decode cX4_isOnBorder 1 = .ok (.ifCond .eq 27, 3) := by decide +kernel
theorem dX4_isOnBorder_4 : decode cX4_isOnBorder 4 = .ok (.iload_n 1, 1) := by decide +kernel
theorem dX4_isOnBorder_5 : decode cX4_isOnBorder 5 = .ok (.aload_n 0, 1) := by decide +kernel
theorem dX4_isOnBorder_6 : decode cX4_isOnBorder 6 = .ok (.getfield 28, 3) := by decide +kernel
theorem dX4_isOnBorder_9 : decode cX4_isOnBorder 9 = .ok (.iconst 1, 1) := by decide +kernel
theorem dX4_isOnBorder_10 : decode cX4_isOnBorder 10 = .ok (.isub, 1) := by decide +kernel
theorem dX4_isOnBorder_11 : decode cX4_isOnBorder 11 = .ok (.if_icmp .eq 17, 3) := by decide +kernel
theorem dX4_isOnBorder_14 : decode cX4_isOnBorder 14 = .ok (.iload_n 2, 1) := by decide +kernel
theorem dX4_isOnBorder_15 : decode cX4_isOnBorder 15 = .ok (.ifCond .eq 13, 3) := by decide +kernel
theorem dX4_isOnBorder_18 : decode cX4_isOnBorder 18 = .ok (.iload_n 2, 1) := by decide +kernel
theorem dX4_isOnBorder_19 : decode cX4_isOnBorder 19 = .ok (.aload_n 0, 1) := by decide +kernel
theorem dX4_isOnBorder_20 : decode cX4_isOnBorder 20 = .ok (.getfield 31, 3) := by decide +kernel
theorem dX4_isOnBorder_23 : decode cX4_isOnBorder 23 = .ok (.iconst 1, 1) := by decide +kernel
theorem dX4_isOnBorder_24 : decode cX4_isOnBorder 24 = .ok (.isub, 1) := by decide +kernel
theorem dX4_isOnBorder_25 : decode cX4_isOnBorder 25 = .ok (.if_icmp .ne 7, 3) := by decide +kernel
theorem dX4_isOnBorder_28 : decode cX4_isOnBorder 28 = .ok (.iconst 1, 1) := by decide +kernel
theorem dX4_isOnBorder_29 : decode cX4_isOnBorder 29 = .ok (.goto 4, 3) := by decide +kernel
theorem dX4_isOnBorder_32 : decode cX4_isOnBorder 32 = .ok (.iconst 0, 1) := by decide +kernel
theorem dX4_isOnBorder_33 : decode cX4_isOnBorder 33 = .ok (.ireturn, 1) := by decide +kernel
theorem dX4_right_0 : decode cX4_right 0 = .ok (.aload_n 0, 1) := by decide +kernel
theorem dX4_right_1 : decode cX4_right 1 = .ok (.getfield 19, 3) := by decide +kernel
theorem dX4_right_4 : decode cX4_right 4 = .ok (.aload_n 0, 1) := by decide +kernel
theorem dX4_right_5 : decode cX4_right 5 = .ok (.getfield 28, 3) := by decide +kernel
theorem dX4_right_8 : decode cX4_right 8 = .ok (.iconst 1, 1) := by decide +kernel
theorem dX4_right_9 : decode cX4_right 9 = .ok (.isub, 1) := by decide +kernel
theorem dX4_right_10 : decode cX4_right 10 = .ok (.aload_n 0, 1) := by decide +kernel
theorem dX4_right_11 : decode cX4_right 11 = .ok (.getfield 25, 3) := by decide +kernel
theorem dX4_right_14 : decode cX4_right 14 = .ok (.imul, 1) := by decide +kernel
theorem dX4_right_15 : decode cX4_right 15 = .ok (.iadd, 1) := by decide +kernel
theorem dX4_right_16 : decode cX4_right 16 = .ok (.ireturn, 1) := by decide +kernel
theorem dX4_bottom_0 : decode cX4_bottom 0 = .ok (.aload_n 0, 1) := by decide +kernel
theorem dX4_bottom_1 : decode cX4_bottom 1 = .ok (.getfield 22, 3) := by decide +kernel
theorem dX4_bottom_4 : decode cX4_bottom 4 = .ok (.aload_n 0, 1) := by decide +kernel
theorem dX4_bottom_5 : decode cX4_bottom 5 = .ok (.getfield 31, 3) := by decide +kernel
theorem dX4_bottom_8 : decode cX4_bottom 8 = .ok (.iconst 1, 1) := by decide +kernel
theorem dX4_bottom_9 : decode cX4_bottom 9 = .ok (.isub, 1) := by decide +kernel
theorem dX4_bottom_10 : decode cX4_bottom 10 = .ok (.aload_n 0, 1) := by decide +kernel
theorem dX4_bottom_11 : decode cX4_bottom 11 = .ok (.getfield 25, 3) := by decide +kernel
theorem dX4_bottom_14 : decode cX4_bottom 14 = .ok (.imul, 1) := by decide +kernel
theorem dX4_bottom_15 : decode cX4_bottom 15 = .ok (.iadd, 1) := by decide +kernel
theorem dX4_bottom_16 : decode cX4_bottom 16 = .ok (.ireturn, 1) := by decide +kernel
theorem dX4_side_0 : decode cX4_side 0 = .ok (.aload_n 0, 1) := by decide +kernel
theorem dX4_side_1 : decode cX4_side 1 = .ok (.getfield 25, 3) := by decide +kernel
theorem dX4_side_4 : decode cX4_side 4 = .ok (.bipush 64, 2) := by decide +kernel
theorem dX4_side_6 : decode cX4_side 6 = .ok (.imul, 1) := by decide +kernel
theorem dX4_side_7 : decode cX4_side 7 = .ok (.ireturn, 1) := by decide +kernel
theorem dX4_columnPlace_0 : decode cX4_columnPlace 0 = .ok (.aload_n 0, 1) := by decide +kernel
theorem dX4_columnPlace_1 : decode cX4_columnPlace 1 = .ok (.getfield 19, 3) := by decide +kernel
theorem dX4_columnPlace_4 : decode cX4_columnPlace 4 = .ok (.iload_n 1, 1) := by decide +kernel
theorem dX4_columnPlace_5 : decode cX4_columnPlace 5 = .ok (.aload_n 0, 1) := by decide +kernel
theorem dX4_columnPlace_6 : decode cX4_columnPlace 6 = .ok (.getfield 25, 3) := by decide +kernel
theorem dX4_columnPlace_9 : decode cX4_columnPlace 9 = .ok (.imul, 1) := by decide +kernel
theorem dX4_columnPlace_10 : decode cX4_columnPlace 10 = .ok (.iadd, 1) := by decide +kernel
theorem dX4_columnPlace_11 : decode cX4_columnPlace 11 = .ok (.bipush 64, 2) := by decide +kernel
theorem dX4_columnPlace_13 : decode cX4_columnPlace 13 = .ok (.imul, 1) := by decide +kernel
theorem dX4_columnPlace_14 : decode cX4_columnPlace 14 = .ok (.ireturn, 1) := by decide +kernel
theorem dX4_rowPlace_0 : decode cX4_rowPlace 0 = .ok (.aload_n 0, 1) := by decide +kernel
theorem dX4_rowPlace_1 : decode cX4_rowPlace 1 = .ok (.getfield 22, 3) := by decide +kernel
theorem dX4_rowPlace_4 : decode cX4_rowPlace 4 = .ok (.iload_n 1, 1) := by decide +kernel
theorem dX4_rowPlace_5 : decode cX4_rowPlace 5 = .ok (.aload_n 0, 1) := by decide +kernel
theorem dX4_rowPlace_6 : decode cX4_rowPlace 6 = .ok (.getfield 25, 3) := by decide +kernel
theorem dX4_rowPlace_9 : decode cX4_rowPlace 9 = .ok (.imul, 1) := by decide +kernel
theorem dX4_rowPlace_10 : decode cX4_rowPlace 10 = .ok (.iadd, 1) := by decide +kernel
theorem dX4_rowPlace_11 : decode cX4_rowPlace 11 = .ok (.bipush 64, 2) := by decide +kernel
theorem dX4_rowPlace_13 : decode cX4_rowPlace 13 = .ok (.imul, 1) := by decide +kernel
theorem dX4_rowPlace_14 : decode cX4_rowPlace 14 = .ok (.ireturn, 1) := by decide +kernel
theorem dX4_isOnGround_0 : decode cX4_isOnGround 0 = .ok (.iload_n 1, 1) := by decide +kernel
theorem dX4_isOnGround_1 : decode cX4_isOnGround 1 = .ok (.aload_n 0, 1) := by decide +kernel
theorem dX4_isOnGround_2 : decode cX4_isOnGround 2 = .ok (.getfield 19, 3) := by decide +kernel
theorem dX4_isOnGround_5 : decode cX4_isOnGround 5 = .ok (.bipush 64, 2) := by decide +kernel
theorem dX4_isOnGround_7 : decode cX4_isOnGround 7 = .ok (.imul, 1) := by decide +kernel
theorem dX4_isOnGround_8 : decode cX4_isOnGround 8 = .ok (.if_icmp .lt 40, 3) := by decide +kernel
theorem dX4_isOnGround_11 : decode cX4_isOnGround 11 = .ok (.iload_n 1, 1) := by decide +kernel
theorem dX4_isOnGround_12 : decode cX4_isOnGround 12 = .ok (.aload_n 0, 1) := by decide +kernel
theorem dX4_isOnGround_13 : decode cX4_isOnGround 13 = .ok (.invokevirtual 44, 3) := by decide +kernel
theorem dX4_isOnGround_16 : decode cX4_isOnGround 16 = .ok (.bipush 64, 2) := by decide +kernel
theorem dX4_isOnGround_18 : decode cX4_isOnGround 18 = .ok (.imul, 1) := by decide +kernel
theorem dX4_isOnGround_19 : decode cX4_isOnGround 19 = .ok (.if_icmp .gt 29, 3) := by decide +kernel
theorem dX4_isOnGround_22 : decode cX4_isOnGround 22 = .ok (.iload_n 2, 1) := by decide +kernel
theorem dX4_isOnGround_23 : decode cX4_isOnGround 23 = .ok (.aload_n 0, 1) := by decide +kernel
theorem dX4_isOnGround_24 : decode cX4_isOnGround 24 = .ok (.getfield 22, 3) := by decide +kernel
theorem dX4_isOnGround_27 : decode cX4_isOnGround 27 = .ok (.bipush 64, 2) := by decide +kernel
theorem dX4_isOnGround_29 : decode cX4_isOnGround 29 = .ok (.imul, 1) := by decide +kernel
theorem dX4_isOnGround_30 : decode cX4_isOnGround 30 = .ok (.if_icmp .lt 18, 3) := by decide +kernel
theorem dX4_isOnGround_33 : decode cX4_isOnGround 33 = .ok (.iload_n 2, 1) := by decide +kernel
theorem dX4_isOnGround_34 : decode cX4_isOnGround 34 = .ok (.aload_n 0, 1) := by decide +kernel
theorem dX4_isOnGround_35 : decode cX4_isOnGround 35 = .ok (.invokevirtual 48, 3) := by decide +kernel
theorem dX4_isOnGround_38 : decode cX4_isOnGround 38 = .ok (.bipush 64, 2) := by decide +kernel
theorem dX4_isOnGround_40 : decode cX4_isOnGround 40 = .ok (.imul, 1) := by decide +kernel
theorem dX4_isOnGround_41 : decode cX4_isOnGround 41 = .ok (.if_icmp .gt 7, 3) := by decide +kernel
theorem dX4_isOnGround_44 : decode cX4_isOnGround 44 = .ok (.iconst 1, 1) := by decide +kernel
theorem dX4_isOnGround_45 : decode cX4_isOnGround 45 = .ok (.goto 4, 3) := by decide +kernel
theorem dX4_isOnGround_48 : decode cX4_isOnGround 48 = .ok (.iconst 0, 1) := by decide +kernel
theorem dX4_isOnGround_49 : decode cX4_isOnGround 49 = .ok (.ireturn, 1) := by decide +kernel
theorem dX4_offset_0 : decode cX4_offset 0 = .ok (.iconst 2, 1) := by decide +kernel
theorem dX4_offset_1 : decode cX4_offset 1 = .ok (.iload_n 2, 1) := by decide +kernel
theorem dX4_offset_2 : decode cX4_offset 2 = .ok (.iconst 5, 1) := by decide +kernel
theorem dX4_offset_3 : decode cX4_offset 3 = .ok (.imul, 1) := by decide +kernel
theorem dX4_offset_4 : decode cX4_offset 4 = .ok (.iload_n 1, 1) := by decide +kernel
theorem dX4_offset_5 : decode cX4_offset 5 = .ok (.iadd, 1) := by decide +kernel
theorem dX4_offset_6 : decode cX4_offset 6 = .ok (.imul, 1) := by decide +kernel
theorem dX4_offset_7 : decode cX4_offset 7 = .ok (.iload_n 3, 1) := by decide +kernel
theorem dX4_offset_8 : decode cX4_offset 8 = .ok (.iadd, 1) := by decide +kernel
theorem dX4_offset_9 : decode cX4_offset 9 = .ok (.istore 4, 2) := by decide +kernel
theorem dX4_offset_11 : decode cX4_offset 11 = .ok (.iload 4, 2) := by decide +kernel
theorem dX4_offset_13 : decode cX4_offset 13 = .ok (.ifCond .lt 23, 3) := by decide +kernel
theorem dX4_offset_16 : decode cX4_offset 16 = .ok (.iload 4, 2) := by decide +kernel
theorem dX4_offset_18 : decode cX4_offset 18 = .ok (.aload_n 0, 1) := by decide +kernel
theorem dX4_offset_19 : decode cX4_offset 19 = .ok (.getfield 9, 3) := by decide +kernel
theorem dX4_offset_22 : decode cX4_offset 22 = .ok (.arraylength, 1) := by decide +kernel
theorem dX4_offset_23 : decode cX4_offset 23 = .ok (.if_icmp .ge 13, 3) := by decide +kernel
theorem dX4_offset_26 : decode cX4_offset 26 = .ok (.aload_n 0, 1) := by decide +kernel
theorem dX4_offset_27 : decode cX4_offset 27 = .ok (.getfield 9, 3) := by decide +kernel
theorem dX4_offset_30 : decode cX4_offset 30 = .ok (.iload 4, 2) := by decide +kernel
theorem dX4_offset_32 : decode cX4_offset 32 = .ok (.iaload, 1) := by decide +kernel
theorem dX4_offset_33 : decode cX4_offset 33 = .ok (.goto 4, 3) := by decide +kernel
theorem dX4_offset_36 : decode cX4_offset 36 = .ok (.iconst 0, 1) := by decide +kernel
theorem dX4_offset_37 : decode cX4_offset 37 = .ok (.ireturn, 1) := by decide +kernel
theorem dX4_setOffset_0 : decode cX4_setOffset 0 = .ok (.iconst 2, 1) := by decide +kernel
theorem dX4_setOffset_1 : decode cX4_setOffset 1 = .ok (.iload_n 2, 1) := by decide +kernel
theorem dX4_setOffset_2 : decode cX4_setOffset 2 = .ok (.iconst 5, 1) := by decide +kernel
theorem dX4_setOffset_3 : decode cX4_setOffset 3 = .ok (.imul, 1) := by decide +kernel
theorem dX4_setOffset_4 : decode cX4_setOffset 4 = .ok (.iload_n 1, 1) := by decide +kernel
theorem dX4_setOffset_5 : decode cX4_setOffset 5 = .ok (.iadd, 1) := by decide +kernel
theorem dX4_setOffset_6 : decode cX4_setOffset 6 = .ok (.imul, 1) := by decide +kernel
theorem dX4_setOffset_7 : decode cX4_setOffset 7 = .ok (.istore 5, 2) := by decide +kernel
theorem dX4_setOffset_9 : decode cX4_setOffset 9 = .ok (.iload 5, 2) := by decide +kernel
theorem dX4_setOffset_11 : decode cX4_setOffset 11 = .ok (.ifCond .lt 15, 3) := by decide +kernel
theorem dX4_setOffset_14 : decode cX4_setOffset 14 = .ok (.iload 5, 2) := by decide +kernel
theorem dX4_setOffset_16 : decode cX4_setOffset 16 = .ok (.iconst 1, 1) := by decide +kernel
theorem dX4_setOffset_17 : decode cX4_setOffset 17 = .ok (.iadd, 1) := by decide +kernel
theorem dX4_setOffset_18 : decode cX4_setOffset 18 = .ok (.aload_n 0, 1) := by decide +kernel
theorem dX4_setOffset_19 : decode cX4_setOffset 19 = .ok (.getfield 9, 3) := by decide +kernel
theorem dX4_setOffset_22 : decode cX4_setOffset 22 = .ok (.arraylength, 1) := by decide +kernel
theorem dX4_setOffset_23 : decode cX4_setOffset 23 = .ok (.if_icmp .lt 5, 3) := by decide +kernel
theorem dX4_setOffset_26 : decode cX4_setOffset 26 = .ok (.iconst 0, 1) := by decide +kernel
theorem dX4_setOffset_27 : decode cX4_setOffset 27 = .ok (.ireturn, 1) := by decide +kernel
theorem dX4_setOffset_28 : decode cX4_setOffset 28 = .ok (.aload_n 0, 1) := by decide +kernel
theorem dX4_setOffset_29 : decode cX4_setOffset 29 = .ok (.getfield 9, 3) := by decide +kernel
theorem dX4_setOffset_32 : decode cX4_setOffset 32 = .ok (.iload 5, 2) := by decide +kernel
theorem dX4_setOffset_34 : decode cX4_setOffset 34 = .ok (.iaload, 1) := by decide +kernel
theorem dX4_setOffset_35 : decode cX4_setOffset 35 = .ok (.iload_n 3, 1) := by decide +kernel
theorem dX4_setOffset_36 : decode cX4_setOffset 36 = .ok (.if_icmp .ne 17, 3) := by decide +kernel
theorem dX4_setOffset_39 : decode cX4_setOffset 39 = .ok (.aload_n 0, 1) := by decide +kernel
theorem dX4_setOffset_40 : decode cX4_setOffset 40 = .ok (.getfield 9, 3) := by decide +kernel
theorem dX4_setOffset_43 : decode cX4_setOffset 43 = .ok (.iload 5, 2) := by decide +kernel
theorem dX4_setOffset_45 : decode cX4_setOffset 45 = .ok (.iconst 1, 1) := by decide +kernel
theorem dX4_setOffset_46 : decode cX4_setOffset 46 = .ok (.iadd, 1) := by decide +kernel
theorem dX4_setOffset_47 : decode cX4_setOffset 47 = .ok (.iaload, 1) := by decide +kernel
theorem dX4_setOffset_48 : decode cX4_setOffset 48 = .ok (.iload 4, 2) := by decide +kernel
theorem dX4_setOffset_50 : decode cX4_setOffset 50 = .ok (.if_icmp .eq 7, 3) := by decide +kernel
theorem dX4_setOffset_53 : decode cX4_setOffset 53 = .ok (.iconst 1, 1) := by decide +kernel
theorem dX4_setOffset_54 : decode cX4_setOffset 54 = .ok (.goto 4, 3) := by decide +kernel
theorem dX4_setOffset_57 : decode cX4_setOffset 57 = .ok (.iconst 0, 1) := by decide +kernel
theorem dX4_setOffset_58 : decode cX4_setOffset 58 = .ok (.istore 6, 2) := by decide +kernel
theorem dX4_setOffset_60 : decode cX4_setOffset 60 = .ok (.aload_n 0, 1) := by decide +kernel
theorem dX4_setOffset_61 : decode cX4_setOffset 61 = .ok (.getfield 9, 3) := by decide +kernel
theorem dX4_setOffset_64 : decode cX4_setOffset 64 = .ok (.iload 5, 2) := by decide +kernel
theorem dX4_setOffset_66 : decode cX4_setOffset 66 = .ok (.iload_n 3, 1) := by decide +kernel
theorem dX4_setOffset_67 : decode cX4_setOffset 67 = .ok (.iastore, 1) := by decide +kernel
theorem dX4_setOffset_68 : decode cX4_setOffset 68 = .ok (.aload_n 0, 1) := by decide +kernel
theorem dX4_setOffset_69 : decode cX4_setOffset 69 = .ok (.getfield 9, 3) := by decide +kernel
theorem dX4_setOffset_72 : decode cX4_setOffset 72 = .ok (.iload 5, 2) := by decide +kernel
theorem dX4_setOffset_74 : decode cX4_setOffset 74 = .ok (.iconst 1, 1) := by decide +kernel
theorem dX4_setOffset_75 : decode cX4_setOffset 75 = .ok (.iadd, 1) := by decide +kernel
theorem dX4_setOffset_76 : decode cX4_setOffset 76 = .ok (.iload 4, 2) := by decide +kernel
theorem dX4_setOffset_78 : decode cX4_setOffset 78 = .ok (.iastore, 1) := by decide +kernel
theorem dX4_setOffset_79 : decode cX4_setOffset 79 = .ok (.iload 6, 2) := by decide +kernel
theorem dX4_setOffset_81 : decode cX4_setOffset 81 = .ok (.ireturn, 1) := by decide +kernel
theorem dX4_setOffsets_0 : decode cX4_setOffsets 0 = .ok (.iconst 0, 1) := by decide +kernel
theorem dX4_setOffsets_1 : decode cX4_setOffsets 1 = .ok (.istore_n 3, 1) := by decide +kernel
theorem dX4_setOffsets_2 : decode cX4_setOffsets 2 = .ok (.iconst 0, 1) := by decide +kernel
theorem dX4_setOffsets_3 : decode cX4_setOffsets 3 = .ok (.istore 4, 2) := by decide +kernel
theorem dX4_setOffsets_5 : decode cX4_setOffsets 5 = .ok (.iload 4, 2) := by decide +kernel
theorem dX4_setOffsets_7 : decode cX4_setOffsets 7 = .ok (.aload_n 0, 1) := by decide +kernel
theorem dX4_setOffsets_8 : decode cX4_setOffsets 8 = .ok (.getfield 31, 3) := by decide +kernel
theorem dX4_setOffsets_11 : decode cX4_setOffsets 11 = .ok (.if_icmp .ge 48, 3) := by decide +kernel
theorem dX4_setOffsets_14 : decode cX4_setOffsets 14 = .ok (.iconst 0, 1) := by decide +kernel
theorem dX4_setOffsets_15 : decode cX4_setOffsets 15 = .ok (.istore 5, 2) := by decide +kernel
theorem dX4_setOffsets_17 : decode cX4_setOffsets 17 = .ok (.iload 5, 2) := by decide +kernel
theorem dX4_setOffsets_19 : decode cX4_setOffsets 19 = .ok (.aload_n 0, 1) := by decide +kernel
theorem dX4_setOffsets_20 : decode cX4_setOffsets 20 = .ok (.getfield 28, 3) := by decide +kernel
theorem dX4_setOffsets_23 : decode cX4_setOffsets 23 = .ok (.if_icmp .ge 30, 3) := by decide +kernel
theorem dX4_setOffsets_26 : decode cX4_setOffsets 26 = .ok (.iload_n 3, 1) := by decide +kernel
theorem dX4_setOffsets_27 : decode cX4_setOffsets 27 = .ok (.aload_n 0, 1) := by decide +kernel
theorem dX4_setOffsets_28 : decode cX4_setOffsets 28 = .ok (.iload 5, 2) := by decide +kernel
theorem dX4_setOffsets_30 : decode cX4_setOffsets 30 = .ok (.iload 4, 2) := by decide +kernel
theorem dX4_setOffsets_32 : decode cX4_setOffsets 32 = .ok (.iload_n 1, 1) := by decide +kernel
theorem dX4_setOffsets_33 : decode cX4_setOffsets 33 = .ok (.iload_n 2, 1) := by decide +kernel
theorem dX4_setOffsets_34 : decode cX4_setOffsets 34 = .ok (.invokevirtual 51, 3) := by decide +kernel
theorem dX4_setOffsets_37 : decode cX4_setOffsets 37 = .ok (.ifCond .eq 7, 3) := by decide +kernel
theorem dX4_setOffsets_40 : decode cX4_setOffsets 40 = .ok (.iconst 1, 1) := by decide +kernel
theorem dX4_setOffsets_41 : decode cX4_setOffsets 41 = .ok (.goto 4, 3) := by decide +kernel
theorem dX4_setOffsets_44 : decode cX4_setOffsets 44 = .ok (.iconst 0, 1) := by decide +kernel
theorem dX4_setOffsets_45 : decode cX4_setOffsets 45 = .ok (.iadd, 1) := by decide +kernel
theorem dX4_setOffsets_46 : decode cX4_setOffsets 46 = .ok (.istore_n 3, 1) := by decide +kernel
theorem dX4_setOffsets_47 : decode cX4_setOffsets 47 = .ok (.iinc 5 1, 3) := by decide +kernel
theorem dX4_setOffsets_50 : decode cX4_setOffsets 50 = .ok (.goto (-33), 3) := by decide +kernel
theorem dX4_setOffsets_53 : decode cX4_setOffsets 53 = .ok (.iinc 4 1, 3) := by decide +kernel
theorem dX4_setOffsets_56 : decode cX4_setOffsets 56 = .ok (.goto (-51), 3) := by decide +kernel
theorem dX4_setOffsets_59 : decode cX4_setOffsets 59 = .ok (.iload_n 3, 1) := by decide +kernel
theorem dX4_setOffsets_60 : decode cX4_setOffsets 60 = .ok (.ireturn, 1) := by decide +kernel
theorem dX4_shiftedNodes_0 : decode cX4_shiftedNodes 0 = .ok (.iconst 0, 1) := by decide +kernel
theorem dX4_shiftedNodes_1 : decode cX4_shiftedNodes 1 = .ok (.istore_n 1, 1) := by decide +kernel
theorem dX4_shiftedNodes_2 : decode cX4_shiftedNodes 2 = .ok (.iconst 0, 1) := by decide +kernel
theorem dX4_shiftedNodes_3 : decode cX4_shiftedNodes 3 = .ok (.istore_n 2, 1) := by decide +kernel
theorem dX4_shiftedNodes_4 : decode cX4_shiftedNodes 4 = .ok (.iload_n 2, 1) := by decide +kernel
theorem dX4_shiftedNodes_5 : decode cX4_shiftedNodes 5 = .ok (.aload_n 0, 1) := by decide +kernel
theorem dX4_shiftedNodes_6 : decode cX4_shiftedNodes 6 = .ok (.getfield 31, 3) := by decide +kernel
theorem dX4_shiftedNodes_9 : decode cX4_shiftedNodes 9 = .ok (.if_icmp .ge 53, 3) := by decide +kernel
theorem dX4_shiftedNodes_12 : decode cX4_shiftedNodes 12 = .ok (.iconst 0, 1) := by decide +kernel
theorem dX4_shiftedNodes_13 : decode cX4_shiftedNodes 13 = .ok (.istore_n 3, 1) := by decide +kernel
theorem dX4_shiftedNodes_14 : decode cX4_shiftedNodes 14 = .ok (.iload_n 3, 1) := by decide +kernel
theorem dX4_shiftedNodes_15 : decode cX4_shiftedNodes 15 = .ok (.aload_n 0, 1) := by decide +kernel
theorem dX4_shiftedNodes_16 : decode cX4_shiftedNodes 16 = .ok (.getfield 28, 3) := by decide +kernel
theorem dX4_shiftedNodes_19 : decode cX4_shiftedNodes 19 = .ok (.if_icmp .ge 37, 3) := by decide +kernel
theorem dX4_shiftedNodes_22 : decode cX4_shiftedNodes 22 = .ok (.iload_n 1, 1) := by decide +kernel
theorem dX4_shiftedNodes_23 : decode cX4_shiftedNodes 23 = .ok (.aload_n 0, 1) := by decide +kernel
theorem dX4_shiftedNodes_24 : decode cX4_shiftedNodes 24 = .ok (.iload_n 3, 1) := by decide +kernel
theorem dX4_shiftedNodes_25 : decode cX4_shiftedNodes 25 = .ok (.iload_n 2, 1) := by decide +kernel
theorem dX4_shiftedNodes_26 : decode cX4_shiftedNodes 26 = .ok (.iconst 0, 1) := by decide +kernel
theorem dX4_shiftedNodes_27 : decode cX4_shiftedNodes 27 = .ok (.invokevirtual 55, 3) := by decide +kernel
theorem dX4_shiftedNodes_30 : decode cX4_shiftedNodes 30 = .ok (.ifCond .ne 13, 3) := by decide +kernel
theorem dX4_shiftedNodes_33 : decode cX4_shiftedNodes 33 = .ok (.aload_n 0, 1) := by decide +kernel
theorem dX4_shiftedNodes_34 : decode cX4_shiftedNodes 34 = .ok (.iload_n 3, 1) := by decide +kernel
theorem dX4_shiftedNodes_35 : decode cX4_shiftedNodes 35 = .ok (.iload_n 2, 1) := by decide +kernel
theorem dX4_shiftedNodes_36 : decode cX4_shiftedNodes 36 = .ok (.iconst 1, 1) := by decide +kernel
theorem dX4_shiftedNodes_37 : decode cX4_shiftedNodes 37 = .ok (.invokevirtual 55, 3) := by decide +kernel
theorem dX4_shiftedNodes_40 : decode cX4_shiftedNodes 40 = .ok (.ifCond .eq 7, 3) := by decide +kernel
theorem dX4_shiftedNodes_43 : decode cX4_shiftedNodes 43 = .ok (.iconst 1, 1) := by decide +kernel
theorem dX4_shiftedNodes_44 : decode cX4_shiftedNodes 44 = .ok (.goto 4, 3) := by decide +kernel
theorem dX4_shiftedNodes_47 : decode cX4_shiftedNodes 47 = .ok (.iconst 0, 1) := by decide +kernel
theorem dX4_shiftedNodes_48 : decode cX4_shiftedNodes 48 = .ok (.iadd, 1) := by decide +kernel
theorem dX4_shiftedNodes_49 : decode cX4_shiftedNodes 49 = .ok (.istore_n 1, 1) := by decide +kernel
theorem dX4_shiftedNodes_50 : decode cX4_shiftedNodes 50 = .ok (.iinc 3 1, 3) := by decide +kernel
theorem dX4_shiftedNodes_53 : decode cX4_shiftedNodes 53 = .ok (.goto (-39), 3) := by decide +kernel
theorem dX4_shiftedNodes_56 : decode cX4_shiftedNodes 56 = .ok (.iinc 2 1, 3) := by decide +kernel
theorem dX4_shiftedNodes_59 : decode cX4_shiftedNodes 59 = .ok (.goto (-55), 3) := by decide +kernel
theorem dX4_shiftedNodes_62 : decode cX4_shiftedNodes 62 = .ok (.iload_n 1, 1) := by decide +kernel
theorem dX4_shiftedNodes_63 : decode cX4_shiftedNodes 63 = .ok (.ireturn, 1) := by decide +kernel
theorem dX4_cellAhead_0 : decode cX4_cellAhead 0 = .ok (.iload_n 1, 1) := by decide +kernel
theorem dX4_cellAhead_1 : decode cX4_cellAhead 1 = .ok (.ifCond .le 15, 3) := by decide +kernel
theorem dX4_cellAhead_4 : decode cX4_cellAhead 4 = .ok (.iload_n 0, 1) := by decide +kernel
theorem dX4_cellAhead_5 : decode cX4_cellAhead 5 = .ok (.iload_n 1, 1) := by decide +kernel
theorem dX4_cellAhead_6 : decode cX4_cellAhead 6 = .ok (.idiv, 1) := by decide +kernel
theorem dX4_cellAhead_7 : decode cX4_cellAhead 7 = .ok (.iload_n 2, 1) := by decide +kernel
theorem dX4_cellAhead_8 : decode cX4_cellAhead 8 = .ok (.iconst 2, 1) := by decide +kernel
theorem dX4_cellAhead_9 : decode cX4_cellAhead 9 = .ok (.isub, 1) := by decide +kernel
theorem dX4_cellAhead_10 : decode cX4_cellAhead 10 = .ok (.invokestatic 59, 3) := by decide +kernel
theorem dX4_cellAhead_13 : decode cX4_cellAhead 13 = .ok (.goto 4, 3) := by decide +kernel
theorem dX4_cellAhead_16 : decode cX4_cellAhead 16 = .ok (.iconst 0, 1) := by decide +kernel
theorem dX4_cellAhead_17 : decode cX4_cellAhead 17 = .ok (.ireturn, 1) := by decide +kernel
theorem dX4_offsetBy_0 : decode cX4_offsetBy 0 = .ok (.iload_n 2, 1) := by decide +kernel
theorem dX4_offsetBy_1 : decode cX4_offsetBy 1 = .ok (.aload_n 0, 1) := by decide +kernel
theorem dX4_offsetBy_2 : decode cX4_offsetBy 2 = .ok (.iconst 0, 1) := by decide +kernel
theorem dX4_offsetBy_3 : decode cX4_offsetBy 3 = .ok (.invokevirtual 65, 3) := by decide +kernel
theorem dX4_offsetBy_6 : decode cX4_offsetBy 6 = .ok (.isub, 1) := by decide +kernel
theorem dX4_offsetBy_7 : decode cX4_offsetBy 7 = .ok (.aload_n 0, 1) := by decide +kernel
theorem dX4_offsetBy_8 : decode cX4_offsetBy 8 = .ok (.invokevirtual 69, 3) := by decide +kernel
theorem dX4_offsetBy_11 : decode cX4_offsetBy 11 = .ok (.aload_n 0, 1) := by decide +kernel
theorem dX4_offsetBy_12 : decode cX4_offsetBy 12 = .ok (.getfield 28, 3) := by decide +kernel
theorem dX4_offsetBy_15 : decode cX4_offsetBy 15 = .ok (.invokestatic 72, 3) := by decide +kernel
theorem dX4_offsetBy_18 : decode cX4_offsetBy 18 = .ok (.istore 5, 2) := by decide +kernel
theorem dX4_offsetBy_20 : decode cX4_offsetBy 20 = .ok (.iload_n 3, 1) := by decide +kernel
theorem dX4_offsetBy_21 : decode cX4_offsetBy 21 = .ok (.aload_n 0, 1) := by decide +kernel
theorem dX4_offsetBy_22 : decode cX4_offsetBy 22 = .ok (.iconst 0, 1) := by decide +kernel
theorem dX4_offsetBy_23 : decode cX4_offsetBy 23 = .ok (.invokevirtual 75, 3) := by decide +kernel
theorem dX4_offsetBy_26 : decode cX4_offsetBy 26 = .ok (.isub, 1) := by decide +kernel
theorem dX4_offsetBy_27 : decode cX4_offsetBy 27 = .ok (.aload_n 0, 1) := by decide +kernel
theorem dX4_offsetBy_28 : decode cX4_offsetBy 28 = .ok (.invokevirtual 69, 3) := by decide +kernel
theorem dX4_offsetBy_31 : decode cX4_offsetBy 31 = .ok (.aload_n 0, 1) := by decide +kernel
theorem dX4_offsetBy_32 : decode cX4_offsetBy 32 = .ok (.getfield 31, 3) := by decide +kernel
theorem dX4_offsetBy_35 : decode cX4_offsetBy 35 = .ok (.invokestatic 72, 3) := by decide +kernel
theorem dX4_offsetBy_38 : decode cX4_offsetBy 38 = .ok (.istore 6, 2) := by decide +kernel
theorem dX4_offsetBy_40 : decode cX4_offsetBy 40 = .ok (.iload_n 2, 1) := by decide +kernel
theorem dX4_offsetBy_41 : decode cX4_offsetBy 41 = .ok (.aload_n 0, 1) := by decide +kernel
theorem dX4_offsetBy_42 : decode cX4_offsetBy 42 = .ok (.iload 5, 2) := by decide +kernel
theorem dX4_offsetBy_44 : decode cX4_offsetBy 44 = .ok (.invokevirtual 65, 3) := by decide +kernel
theorem dX4_offsetBy_47 : decode cX4_offsetBy 47 = .ok (.isub, 1) := by decide +kernel
theorem dX4_offsetBy_48 : decode cX4_offsetBy 48 = .ok (.istore 7, 2) := by decide +kernel
theorem dX4_offsetBy_50 : decode cX4_offsetBy 50 = .ok (.iload_n 3, 1) := by decide +kernel
theorem dX4_offsetBy_51 : decode cX4_offsetBy 51 = .ok (.aload_n 0, 1) := by decide +kernel
theorem dX4_offsetBy_52 : decode cX4_offsetBy 52 = .ok (.iload 6, 2) := by decide +kernel
theorem dX4_offsetBy_54 : decode cX4_offsetBy 54 = .ok (.invokevirtual 75, 3) := by decide +kernel
theorem dX4_offsetBy_57 : decode cX4_offsetBy 57 = .ok (.isub, 1) := by decide +kernel
theorem dX4_offsetBy_58 : decode cX4_offsetBy 58 = .ok (.istore 8, 2) := by decide +kernel
theorem dX4_offsetBy_60 : decode cX4_offsetBy 60 = .ok (.iload_n 1, 1) := by decide +kernel
theorem dX4_offsetBy_61 : decode cX4_offsetBy 61 = .ok (.iconst 1, 1) := by decide +kernel
theorem dX4_offsetBy_62 : decode cX4_offsetBy 62 = .ok (.if_icmp .ne 50, 3) := by decide +kernel
theorem dX4_offsetBy_65 : decode cX4_offsetBy 65 = .ok (.aload_n 0, 1) := by decide +kernel
theorem dX4_offsetBy_66 : decode cX4_offsetBy 66 = .ok (.iconst 2, 1) := by decide +kernel
theorem dX4_offsetBy_67 : decode cX4_offsetBy 67 = .ok (.iload 7, 2) := by decide +kernel
theorem dX4_offsetBy_69 : decode cX4_offsetBy 69 = .ok (.imul, 1) := by decide +kernel
theorem dX4_offsetBy_70 : decode cX4_offsetBy 70 = .ok (.aload_n 0, 1) := by decide +kernel
theorem dX4_offsetBy_71 : decode cX4_offsetBy 71 = .ok (.invokevirtual 69, 3) := by decide +kernel
theorem dX4_offsetBy_74 : decode cX4_offsetBy 74 = .ok (.if_icmp .ge 8, 3) := by decide +kernel
theorem dX4_offsetBy_77 : decode cX4_offsetBy 77 = .ok (.iload 5, 2) := by decide +kernel
theorem dX4_offsetBy_79 : decode cX4_offsetBy 79 = .ok (.goto 7, 3) := by decide +kernel
theorem dX4_offsetBy_82 : decode cX4_offsetBy 82 = .ok (.iload 5, 2) := by decide +kernel
theorem dX4_offsetBy_84 : decode cX4_offsetBy 84 = .ok (.iconst 1, 1) := by decide +kernel
theorem dX4_offsetBy_85 : decode cX4_offsetBy 85 = .ok (.iadd, 1) := by decide +kernel
theorem dX4_offsetBy_86 : decode cX4_offsetBy 86 = .ok (.iconst 2, 1) := by decide +kernel
theorem dX4_offsetBy_87 : decode cX4_offsetBy 87 = .ok (.iload 8, 2) := by decide +kernel
theorem dX4_offsetBy_89 : decode cX4_offsetBy 89 = .ok (.imul, 1) := by decide +kernel
theorem dX4_offsetBy_90 : decode cX4_offsetBy 90 = .ok (.aload_n 0, 1) := by decide +kernel
theorem dX4_offsetBy_91 : decode cX4_offsetBy 91 = .ok (.invokevirtual 69, 3) := by decide +kernel
theorem dX4_offsetBy_94 : decode cX4_offsetBy 94 = .ok (.if_icmp .ge 8, 3) := by decide +kernel
theorem dX4_offsetBy_97 : decode cX4_offsetBy 97 = .ok (.iload 6, 2) := by decide +kernel
theorem dX4_offsetBy_99 : decode cX4_offsetBy 99 = .ok (.goto 7, 3) := by decide +kernel
theorem dX4_offsetBy_102 : decode cX4_offsetBy 102 = .ok (.iload 6, 2) := by decide +kernel
theorem dX4_offsetBy_104 : decode cX4_offsetBy 104 = .ok (.iconst 1, 1) := by decide +kernel
theorem dX4_offsetBy_105 : decode cX4_offsetBy 105 = .ok (.iadd, 1) := by decide +kernel
theorem dX4_offsetBy_106 : decode cX4_offsetBy 106 = .ok (.iload 4, 2) := by decide +kernel
theorem dX4_offsetBy_108 : decode cX4_offsetBy 108 = .ok (.invokevirtual 55, 3) := by decide +kernel
theorem dX4_offsetBy_111 : decode cX4_offsetBy 111 = .ok (.ireturn, 1) := by decide +kernel
theorem dX4_offsetBy_112 : decode cX4_offsetBy 112 = .ok (.aload_n 0, 1) := by decide +kernel
theorem dX4_offsetBy_113 : decode cX4_offsetBy 113 = .ok (.invokevirtual 69, 3) := by decide +kernel
theorem dX4_offsetBy_116 : decode cX4_offsetBy 116 = .ok (.i2l, 1) := by decide +kernel
theorem dX4_offsetBy_117 : decode cX4_offsetBy 117 = .ok (.lstore 9, 2) := by decide +kernel
theorem dX4_offsetBy_119 : decode cX4_offsetBy 119 = .ok (.aload_n 0, 1) := by decide +kernel
theorem dX4_offsetBy_120 : decode cX4_offsetBy 120 = .ok (.iload 5, 2) := by decide +kernel
theorem dX4_offsetBy_122 : decode cX4_offsetBy 122 = .ok (.iload 6, 2) := by decide +kernel
theorem dX4_offsetBy_124 : decode cX4_offsetBy 124 = .ok (.iload 4, 2) := by decide +kernel
theorem dX4_offsetBy_126 : decode cX4_offsetBy 126 = .ok (.invokevirtual 55, 3) := by decide +kernel
theorem dX4_offsetBy_129 : decode cX4_offsetBy 129 = .ok (.i2l, 1) := by decide +kernel
theorem dX4_offsetBy_130 : decode cX4_offsetBy 130 = .ok (.lstore 11, 2) := by decide +kernel
theorem dX4_offsetBy_132 : decode cX4_offsetBy 132 = .ok (.aload_n 0, 1) := by decide +kernel
theorem dX4_offsetBy_133 : decode cX4_offsetBy 133 = .ok (.iload 5, 2) := by decide +kernel
theorem dX4_offsetBy_135 : decode cX4_offsetBy 135 = .ok (.iconst 1, 1) := by decide +kernel
theorem dX4_offsetBy_136 : decode cX4_offsetBy 136 = .ok (.iadd, 1) := by decide +kernel
theorem dX4_offsetBy_137 : decode cX4_offsetBy 137 = .ok (.iload 6, 2) := by decide +kernel
theorem dX4_offsetBy_139 : decode cX4_offsetBy 139 = .ok (.iload 4, 2) := by decide +kernel
theorem dX4_offsetBy_141 : decode cX4_offsetBy 141 = .ok (.invokevirtual 55, 3) := by decide +kernel
theorem dX4_offsetBy_144 : decode cX4_offsetBy 144 = .ok (.i2l, 1) := by decide +kernel
theorem dX4_offsetBy_145 : decode cX4_offsetBy 145 = .ok (.lstore 13, 2) := by decide +kernel
theorem dX4_offsetBy_147 : decode cX4_offsetBy 147 = .ok (.aload_n 0, 1) := by decide +kernel
theorem dX4_offsetBy_148 : decode cX4_offsetBy 148 = .ok (.iload 5, 2) := by decide +kernel
theorem dX4_offsetBy_150 : decode cX4_offsetBy 150 = .ok (.iload 6, 2) := by decide +kernel
theorem dX4_offsetBy_152 : decode cX4_offsetBy 152 = .ok (.iconst 1, 1) := by decide +kernel
theorem dX4_offsetBy_153 : decode cX4_offsetBy 153 = .ok (.iadd, 1) := by decide +kernel
theorem dX4_offsetBy_154 : decode cX4_offsetBy 154 = .ok (.iload 4, 2) := by decide +kernel
theorem dX4_offsetBy_156 : decode cX4_offsetBy 156 = .ok (.invokevirtual 55, 3) := by decide +kernel
theorem dX4_offsetBy_159 : decode cX4_offsetBy 159 = .ok (.i2l, 1) := by decide +kernel
theorem dX4_offsetBy_160 : decode cX4_offsetBy 160 = .ok (.lstore 15, 2) := by decide +kernel
theorem dX4_offsetBy_162 : decode cX4_offsetBy 162 = .ok (.aload_n 0, 1) := by decide +kernel
theorem dX4_offsetBy_163 : decode cX4_offsetBy 163 = .ok (.iload 5, 2) := by decide +kernel
theorem dX4_offsetBy_165 : decode cX4_offsetBy 165 = .ok (.iconst 1, 1) := by decide +kernel
theorem dX4_offsetBy_166 : decode cX4_offsetBy 166 = .ok (.iadd, 1) := by decide +kernel
theorem dX4_offsetBy_167 : decode cX4_offsetBy 167 = .ok (.iload 6, 2) := by decide +kernel
theorem dX4_offsetBy_169 : decode cX4_offsetBy 169 = .ok (.iconst 1, 1) := by decide +kernel
theorem dX4_offsetBy_170 : decode cX4_offsetBy 170 = .ok (.iadd, 1) := by decide +kernel
theorem dX4_offsetBy_171 : decode cX4_offsetBy 171 = .ok (.iload 4, 2) := by decide +kernel
theorem dX4_offsetBy_173 : decode cX4_offsetBy 173 = .ok (.invokevirtual 55, 3) := by decide +kernel
theorem dX4_offsetBy_176 : decode cX4_offsetBy 176 = .ok (.i2l, 1) := by decide +kernel
theorem dX4_offsetBy_177 : decode cX4_offsetBy 177 = .ok (.lstore 17, 2) := by decide +kernel
theorem dX4_offsetBy_179 : decode cX4_offsetBy 179 = .ok (.iload_n 1, 1) := by decide +kernel
theorem dX4_offsetBy_180 : decode cX4_offsetBy 180 = .ok (.ifCond .ne 67, 3) := by decide +kernel
theorem dX4_offsetBy_183 : decode cX4_offsetBy 183 = .ok (.lload 11, 2) := by decide +kernel
theorem dX4_offsetBy_185 : decode cX4_offsetBy 185 = .ok (.lload 9, 2) := by decide +kernel
theorem dX4_offsetBy_187 : decode cX4_offsetBy 187 = .ok (.iload 7, 2) := by decide +kernel
theorem dX4_offsetBy_189 : decode cX4_offsetBy 189 = .ok (.i2l, 1) := by decide +kernel
theorem dX4_offsetBy_190 : decode cX4_offsetBy 190 = .ok (.lsub, 1) := by decide +kernel
theorem dX4_offsetBy_191 : decode cX4_offsetBy 191 = .ok (.lmul, 1) := by decide +kernel
theorem dX4_offsetBy_192 : decode cX4_offsetBy 192 = .ok (.lload 9, 2) := by decide +kernel
theorem dX4_offsetBy_194 : decode cX4_offsetBy 194 = .ok (.iload 8, 2) := by decide +kernel
theorem dX4_offsetBy_196 : decode cX4_offsetBy 196 = .ok (.i2l, 1) := by decide +kernel
theorem dX4_offsetBy_197 : decode cX4_offsetBy 197 = .ok (.lsub, 1) := by decide +kernel
theorem dX4_offsetBy_198 : decode cX4_offsetBy 198 = .ok (.lmul, 1) := by decide +kernel
theorem dX4_offsetBy_199 : decode cX4_offsetBy 199 = .ok (.lload 13, 2) := by decide +kernel
theorem dX4_offsetBy_201 : decode cX4_offsetBy 201 = .ok (.iload 7, 2) := by decide +kernel
theorem dX4_offsetBy_203 : decode cX4_offsetBy 203 = .ok (.i2l, 1) := by decide +kernel
theorem dX4_offsetBy_204 : decode cX4_offsetBy 204 = .ok (.lmul, 1) := by decide +kernel
theorem dX4_offsetBy_205 : decode cX4_offsetBy 205 = .ok (.lload 9, 2) := by decide +kernel
theorem dX4_offsetBy_207 : decode cX4_offsetBy 207 = .ok (.iload 8, 2) := by decide +kernel
theorem dX4_offsetBy_209 : decode cX4_offsetBy 209 = .ok (.i2l, 1) := by decide +kernel
theorem dX4_offsetBy_210 : decode cX4_offsetBy 210 = .ok (.lsub, 1) := by decide +kernel
theorem dX4_offsetBy_211 : decode cX4_offsetBy 211 = .ok (.lmul, 1) := by decide +kernel
theorem dX4_offsetBy_212 : decode cX4_offsetBy 212 = .ok (.ladd, 1) := by decide +kernel
theorem dX4_offsetBy_213 : decode cX4_offsetBy 213 = .ok (.lload 15, 2) := by decide +kernel
theorem dX4_offsetBy_215 : decode cX4_offsetBy 215 = .ok (.lload 9, 2) := by decide +kernel
theorem dX4_offsetBy_217 : decode cX4_offsetBy 217 = .ok (.iload 7, 2) := by decide +kernel
theorem dX4_offsetBy_219 : decode cX4_offsetBy 219 = .ok (.i2l, 1) := by decide +kernel
theorem dX4_offsetBy_220 : decode cX4_offsetBy 220 = .ok (.lsub, 1) := by decide +kernel
theorem dX4_offsetBy_221 : decode cX4_offsetBy 221 = .ok (.lmul, 1) := by decide +kernel
theorem dX4_offsetBy_222 : decode cX4_offsetBy 222 = .ok (.iload 8, 2) := by decide +kernel
theorem dX4_offsetBy_224 : decode cX4_offsetBy 224 = .ok (.i2l, 1) := by decide +kernel
theorem dX4_offsetBy_225 : decode cX4_offsetBy 225 = .ok (.lmul, 1) := by decide +kernel
theorem dX4_offsetBy_226 : decode cX4_offsetBy 226 = .ok (.ladd, 1) := by decide +kernel
theorem dX4_offsetBy_227 : decode cX4_offsetBy 227 = .ok (.lload 17, 2) := by decide +kernel
theorem dX4_offsetBy_229 : decode cX4_offsetBy 229 = .ok (.iload 7, 2) := by decide +kernel
theorem dX4_offsetBy_231 : decode cX4_offsetBy 231 = .ok (.i2l, 1) := by decide +kernel
theorem dX4_offsetBy_232 : decode cX4_offsetBy 232 = .ok (.lmul, 1) := by decide +kernel
theorem dX4_offsetBy_233 : decode cX4_offsetBy 233 = .ok (.iload 8, 2) := by decide +kernel
theorem dX4_offsetBy_235 : decode cX4_offsetBy 235 = .ok (.i2l, 1) := by decide +kernel
theorem dX4_offsetBy_236 : decode cX4_offsetBy 236 = .ok (.lmul, 1) := by decide +kernel
theorem dX4_offsetBy_237 : decode cX4_offsetBy 237 = .ok (.ladd, 1) := by decide +kernel
theorem dX4_offsetBy_238 : decode cX4_offsetBy 238 = .ok (.lload 9, 2) := by decide +kernel
theorem dX4_offsetBy_240 : decode cX4_offsetBy 240 = .ok (.lload 9, 2) := by decide +kernel
theorem dX4_offsetBy_242 : decode cX4_offsetBy 242 = .ok (.lmul, 1) := by decide +kernel
theorem dX4_offsetBy_243 : decode cX4_offsetBy 243 = .ok (.invokestatic 78, 3) := by decide +kernel
theorem dX4_offsetBy_246 : decode cX4_offsetBy 246 = .ok (.ireturn, 1) := by decide +kernel
theorem dX4_offsetBy_247 : decode cX4_offsetBy 247 = .ok (.iload 7, 2) := by decide +kernel
theorem dX4_offsetBy_249 : decode cX4_offsetBy 249 = .ok (.iload 8, 2) := by decide +kernel
theorem dX4_offsetBy_251 : decode cX4_offsetBy 251 = .ok (.if_icmp .lt 34, 3) := by decide +kernel
theorem dX4_offsetBy_254 : decode cX4_offsetBy 254 = .ok (.lload 11, 2) := by decide +kernel
theorem dX4_offsetBy_256 : decode cX4_offsetBy 256 = .ok (.lload 9, 2) := by decide +kernel
theorem dX4_offsetBy_258 : decode cX4_offsetBy 258 = .ok (.lmul, 1) := by decide +kernel
theorem dX4_offsetBy_259 : decode cX4_offsetBy 259 = .ok (.lload 13, 2) := by decide +kernel
theorem dX4_offsetBy_261 : decode cX4_offsetBy 261 = .ok (.lload 11, 2) := by decide +kernel
theorem dX4_offsetBy_263 : decode cX4_offsetBy 263 = .ok (.lsub, 1) := by decide +kernel
theorem dX4_offsetBy_264 : decode cX4_offsetBy 264 = .ok (.iload 7, 2) := by decide +kernel
theorem dX4_offsetBy_266 : decode cX4_offsetBy 266 = .ok (.i2l, 1) := by decide +kernel
theorem dX4_offsetBy_267 : decode cX4_offsetBy 267 = .ok (.lmul, 1) := by decide +kernel
theorem dX4_offsetBy_268 : decode cX4_offsetBy 268 = .ok (.ladd, 1) := by decide +kernel
theorem dX4_offsetBy_269 : decode cX4_offsetBy 269 = .ok (.lload 17, 2) := by decide +kernel
theorem dX4_offsetBy_271 : decode cX4_offsetBy 271 = .ok (.lload 13, 2) := by decide +kernel
theorem dX4_offsetBy_273 : decode cX4_offsetBy 273 = .ok (.lsub, 1) := by decide +kernel
theorem dX4_offsetBy_274 : decode cX4_offsetBy 274 = .ok (.iload 8, 2) := by decide +kernel
theorem dX4_offsetBy_276 : decode cX4_offsetBy 276 = .ok (.i2l, 1) := by decide +kernel
theorem dX4_offsetBy_277 : decode cX4_offsetBy 277 = .ok (.lmul, 1) := by decide +kernel
theorem dX4_offsetBy_278 : decode cX4_offsetBy 278 = .ok (.ladd, 1) := by decide +kernel
theorem dX4_offsetBy_279 : decode cX4_offsetBy 279 = .ok (.lload 9, 2) := by decide +kernel
theorem dX4_offsetBy_281 : decode cX4_offsetBy 281 = .ok (.invokestatic 78, 3) := by decide +kernel
theorem dX4_offsetBy_284 : decode cX4_offsetBy 284 = .ok (.ireturn, 1) := by decide +kernel
theorem dX4_offsetBy_285 : decode cX4_offsetBy 285 = .ok (.lload 11, 2) := by decide +kernel
theorem dX4_offsetBy_287 : decode cX4_offsetBy 287 = .ok (.lload 9, 2) := by decide +kernel
theorem dX4_offsetBy_289 : decode cX4_offsetBy 289 = .ok (.lmul, 1) := by decide +kernel
theorem dX4_offsetBy_290 : decode cX4_offsetBy 290 = .ok (.lload 17, 2) := by decide +kernel
theorem dX4_offsetBy_292 : decode cX4_offsetBy 292 = .ok (.lload 15, 2) := by decide +kernel
theorem dX4_offsetBy_294 : decode cX4_offsetBy 294 = .ok (.lsub, 1) := by decide +kernel
theorem dX4_offsetBy_295 : decode cX4_offsetBy 295 = .ok (.iload 7, 2) := by decide +kernel
theorem dX4_offsetBy_297 : decode cX4_offsetBy 297 = .ok (.i2l, 1) := by decide +kernel
theorem dX4_offsetBy_298 : decode cX4_offsetBy 298 = .ok (.lmul, 1) := by decide +kernel
theorem dX4_offsetBy_299 : decode cX4_offsetBy 299 = .ok (.ladd, 1) := by decide +kernel
theorem dX4_offsetBy_300 : decode cX4_offsetBy 300 = .ok (.lload 15, 2) := by decide +kernel
theorem dX4_offsetBy_302 : decode cX4_offsetBy 302 = .ok (.lload 11, 2) := by decide +kernel
theorem dX4_offsetBy_304 : decode cX4_offsetBy 304 = .ok (.lsub, 1) := by decide +kernel
theorem dX4_offsetBy_305 : decode cX4_offsetBy 305 = .ok (.iload 8, 2) := by decide +kernel
theorem dX4_offsetBy_307 : decode cX4_offsetBy 307 = .ok (.i2l, 1) := by decide +kernel
theorem dX4_offsetBy_308 : decode cX4_offsetBy 308 = .ok (.lmul, 1) := by decide +kernel
theorem dX4_offsetBy_309 : decode cX4_offsetBy 309 = .ok (.ladd, 1) := by decide +kernel
theorem dX4_offsetBy_310 : decode cX4_offsetBy 310 = .ok (.lload 9, 2) := by decide +kernel
theorem dX4_offsetBy_312 : decode cX4_offsetBy 312 = .ok (.invokestatic 78, 3) := by decide +kernel
theorem dX4_offsetBy_315 : decode cX4_offsetBy 315 = .ok (.ireturn, 1) := by decide +kernel
theorem dX4_rounded_0 : decode cX4_rounded 0 = .ok (.lload_n 2, 1) := by decide +kernel
theorem dX4_rounded_1 : decode cX4_rounded 1 = .ok (.lconst 0, 1) := by decide +kernel
theorem dX4_rounded_2 : decode cX4_rounded 2 = .ok (.lcmp, 1) := by decide +kernel
theorem dX4_rounded_3 : decode cX4_rounded 3 = .ok (.ifCond .le 22, 3) := by decide +kernel
theorem dX4_rounded_6 : decode cX4_rounded 6 = .ok (.ldc2_w 82, 3) := by decide +kernel
theorem dX4_rounded_9 : decode cX4_rounded 9 = .ok (.lload_n 0, 1) := by decide +kernel
theorem dX4_rounded_10 : decode cX4_rounded 10 = .ok (.lmul, 1) := by decide +kernel
theorem dX4_rounded_11 : decode cX4_rounded 11 = .ok (.lload_n 2, 1) := by decide +kernel
theorem dX4_rounded_12 : decode cX4_rounded 12 = .ok (.ladd, 1) := by decide +kernel
theorem dX4_rounded_13 : decode cX4_rounded 13 = .ok (.ldc2_w 82, 3) := by decide +kernel
theorem dX4_rounded_16 : decode cX4_rounded 16 = .ok (.lload_n 2, 1) := by decide +kernel
theorem dX4_rounded_17 : decode cX4_rounded 17 = .ok (.lmul, 1) := by decide +kernel
theorem dX4_rounded_18 : decode cX4_rounded 18 = .ok (.invokestatic 84, 3) := by decide +kernel
theorem dX4_rounded_21 : decode cX4_rounded 21 = .ok (.l2i, 1) := by decide +kernel
theorem dX4_rounded_22 : decode cX4_rounded 22 = .ok (.goto 4, 3) := by decide +kernel
theorem dX4_rounded_25 : decode cX4_rounded 25 = .ok (.iconst 0, 1) := by decide +kernel
theorem dX4_rounded_26 : decode cX4_rounded 26 = .ok (.ireturn, 1) := by decide +kernel
theorem dX5_init_0 : decode cX5_init 0 = .ok (.aload_n 0, 1) := by decide +kernel
theorem dX5_init_1 : decode cX5_init 1 = .ok (.invokespecial 3, 3) := by decide +kernel
theorem dX5_init_4 : decode cX5_init 4 = .ok (.aload_n 0, 1) := by decide +kernel
theorem dX5_init_5 : decode cX5_init 5 = .ok (.bipush 16, 2) := by decide +kernel
theorem dX5_init_7 : decode cX5_init 7 = .ok (.anewarray 9, 3) := by decide +kernel
theorem dX5_init_10 : decode cX5_init 10 = .ok (.putfield 11, 3) := by decide +kernel
theorem dX5_init_13 : decode cX5_init 13 = .ok (.iconst 0, 1) := by decide +kernel
theorem dX5_init_14 : decode cX5_init 14 = .ok (.istore_n 1, 1) := by decide +kernel
theorem dX5_init_15 : decode cX5_init 15 = .ok (.iload_n 1, 1) := by decide +kernel
theorem dX5_init_16 : decode cX5_init 16 = .ok (.bipush 16, 2) := by decide +kernel
theorem dX5_init_18 : decode cX5_init 18 = .ok (.if_icmp .ge 22, 3) := by decide +kernel
theorem dX5_init_21 : decode cX5_init 21 = .ok (.aload_n 0, 1) := by decide +kernel
theorem dX5_init_22 : decode cX5_init 22 = .ok (.getfield 11, 3) := by decide +kernel
theorem dX5_init_25 : decode cX5_init 25 = .ok (.iload_n 1, 1) := by decide +kernel
theorem dX5_init_26 : decode cX5_init 26 = .ok (.new 9, 3) := by decide +kernel
theorem dX5_init_29 : decode cX5_init 29 = .ok (.dup, 1) := by decide +kernel
theorem dX5_init_30 : decode cX5_init 30 = .ok (.invokespecial 17, 3) := by decide +kernel
theorem dX5_init_33 : decode cX5_init 33 = .ok (.aastore, 1) := by decide +kernel
theorem dX5_init_34 : decode cX5_init 34 = .ok (.iinc 1 1, 3) := by decide +kernel
theorem dX5_init_37 : decode cX5_init 37 = .ok (.goto (-22), 3) := by decide +kernel
theorem dX5_init_40 : decode cX5_init 40 = .ok (.return_, 1) := by decide +kernel
theorem dX5_size_0 : decode cX5_size 0 = .ok (.aload_n 0, 1) := by decide +kernel
theorem dX5_size_1 : decode cX5_size 1 = .ok (.getfield 18, 3) := by decide +kernel
theorem dX5_size_4 : decode cX5_size 4 = .ok (.ireturn, 1) := by decide +kernel
theorem dX5_clear_0 : decode cX5_clear 0 = .ok (.aload_n 0, 1) := by decide +kernel
theorem dX5_clear_1 : decode cX5_clear 1 = .ok (.iconst 0, 1) := by decide +kernel
theorem dX5_clear_2 : decode cX5_clear 2 = .ok (.putfield 18, 3) := by decide +kernel
theorem dX5_clear_5 : decode cX5_clear 5 = .ok (.return_, 1) := by decide +kernel
theorem dX5_push_0 : decode cX5_push 0 = .ok (.aload_n 0, 1) := by decide +kernel
theorem dX5_push_1 : decode cX5_push 1 = .ok (.getfield 11, 3) := by decide +kernel
theorem dX5_push_4 : decode cX5_push 4 = .ok (.aload_n 0, 1) := by decide +kernel
theorem dX5_push_5 : decode cX5_push 5 = .ok (.getfield 22, 3) := by decide +kernel
theorem dX5_push_8 : decode cX5_push 8 = .ok (.bipush 16, 2) := by decide +kernel
theorem dX5_push_10 : decode cX5_push 10 = .ok (.invokestatic 25, 3) := by decide +kernel
theorem dX5_push_13 : decode cX5_push 13 = .ok (.aaload, 1) := by decide +kernel
theorem dX5_push_14 : decode cX5_push 14 = .ok (.aload_n 1, 1) := by decide +kernel
theorem dX5_push_15 : decode cX5_push 15 = .ok (.invokevirtual 31, 3) := by decide +kernel
theorem dX5_push_18 : decode cX5_push 18 = .ok (.aload_n 0, 1) := by decide +kernel
theorem dX5_push_19 : decode cX5_push 19 = .ok (.aload_n 0, 1) := by decide +kernel
theorem dX5_push_20 : decode cX5_push 20 = .ok (.getfield 22, 3) := by decide +kernel
theorem dX5_push_23 : decode cX5_push 23 = .ok (.iconst 1, 1) := by decide +kernel
theorem dX5_push_24 : decode cX5_push 24 = .ok (.iadd, 1) := by decide +kernel
theorem dX5_push_25 : decode cX5_push 25 = .ok (.bipush 16, 2) := by decide +kernel
theorem dX5_push_27 : decode cX5_push 27 = .ok (.invokestatic 25, 3) := by decide +kernel
theorem dX5_push_30 : decode cX5_push 30 = .ok (.putfield 22, 3) := by decide +kernel
theorem dX5_push_33 : decode cX5_push 33 = .ok (.aload_n 0, 1) := by decide +kernel
theorem dX5_push_34 : decode cX5_push 34 = .ok (.aload_n 0, 1) := by decide +kernel
theorem dX5_push_35 : decode cX5_push 35 = .ok (.getfield 18, 3) := by decide +kernel
theorem dX5_push_38 : decode cX5_push 38 = .ok (.iconst 1, 1) := by decide +kernel
theorem dX5_push_39 : decode cX5_push 39 = .ok (.iadd, 1) := by decide +kernel
theorem dX5_push_40 : decode cX5_push 40 = .ok (.bipush 16, 2) := by decide +kernel
theorem dX5_push_42 : decode cX5_push 42 = .ok (.invokestatic 35, 3) := by decide +kernel
theorem dX5_push_45 : decode cX5_push 45 = .ok (.putfield 18, 3) := by decide +kernel
theorem dX5_push_48 : decode cX5_push 48 = .ok (.return_, 1) := by decide +kernel
theorem dX5_takeBack_0 : decode cX5_takeBack 0 = .ok (.aload_n 0, 1) := by decide +kernel
theorem dX5_takeBack_1 : decode cX5_takeBack 1 = .ok (.aload_n 0, 1) := by decide +kernel
theorem dX5_takeBack_2 : decode cX5_takeBack 2 = .ok (.getfield 22, 3) := by decide +kernel
theorem dX5_takeBack_5 : decode cX5_takeBack 5 = .ok (.iload_n 2, 1) := by decide +kernel
theorem dX5_takeBack_6 : decode cX5_takeBack 6 = .ok (.isub, 1) := by decide +kernel
theorem dX5_takeBack_7 : decode cX5_takeBack 7 = .ok (.bipush 16, 2) := by decide +kernel
theorem dX5_takeBack_9 : decode cX5_takeBack 9 = .ok (.invokestatic 25, 3) := by decide +kernel
theorem dX5_takeBack_12 : decode cX5_takeBack 12 = .ok (.putfield 22, 3) := by decide +kernel
theorem dX5_takeBack_15 : decode cX5_takeBack 15 = .ok (.aload_n 0, 1) := by decide +kernel
theorem dX5_takeBack_16 : decode cX5_takeBack 16 = .ok (.aload_n 0, 1) := by decide +kernel
theorem dX5_takeBack_17 : decode cX5_takeBack 17 = .ok (.getfield 18, 3) := by decide +kernel
theorem dX5_takeBack_20 : decode cX5_takeBack 20 = .ok (.iload_n 2, 1) := by decide +kernel
theorem dX5_takeBack_21 : decode cX5_takeBack 21 = .ok (.isub, 1) := by decide +kernel
theorem dX5_takeBack_22 : decode cX5_takeBack 22 = .ok (.iconst 0, 1) := by decide +kernel
theorem dX5_takeBack_23 : decode cX5_takeBack 23 = .ok (.invokestatic 38, 3) := by decide +kernel
theorem dX5_takeBack_26 : decode cX5_takeBack 26 = .ok (.putfield 18, 3) := by decide +kernel
theorem dX5_takeBack_29 : decode cX5_takeBack 29 = .ok (.aload_n 1, 1) := by decide +kernel
theorem dX5_takeBack_30 : decode cX5_takeBack 30 = .ok (.aload_n 0, 1) := by decide +kernel
theorem dX5_takeBack_31 : decode cX5_takeBack 31 = .ok (.getfield 11, 3) := by decide +kernel
theorem dX5_takeBack_34 : decode cX5_takeBack 34 = .ok (.aload_n 0, 1) := by decide +kernel
theorem dX5_takeBack_35 : decode cX5_takeBack 35 = .ok (.getfield 22, 3) := by decide +kernel
theorem dX5_takeBack_38 : decode cX5_takeBack 38 = .ok (.aaload, 1) := by decide +kernel
theorem dX5_takeBack_39 : decode cX5_takeBack 39 = .ok (.invokevirtual 31, 3) := by decide +kernel
theorem dX5_takeBack_42 : decode cX5_takeBack 42 = .ok (.return_, 1) := by decide +kernel
theorem dX6_init_0 : decode cX6_init 0 = .ok (.aload_n 0, 1) := by decide +kernel
theorem dX6_init_1 : decode cX6_init 1 = .ok (.invokespecial 1, 3) := by decide +kernel
theorem dX6_init_4 : decode cX6_init 4 = .ok (.aload_n 0, 1) := by decide +kernel
theorem dX6_init_5 : decode cX6_init 5 = .ok (.new 7, 3) := by decide +kernel
theorem dX6_init_8 : decode cX6_init 8 = .ok (.dup, 1) := by decide +kernel
theorem dX6_init_9 : decode cX6_init 9 = .ok (.invokespecial 9, 3) := by decide +kernel
theorem dX6_init_12 : decode cX6_init 12 = .ok (.putfield 10, 3) := by decide +kernel
theorem dX6_init_15 : decode cX6_init 15 = .ok (.return_, 1) := by decide +kernel
theorem dX6_wasTaken_0 : decode cX6_wasTaken 0 = .ok (.aload_n 0, 1) := by decide +kernel
theorem dX6_wasTaken_1 : decode cX6_wasTaken 1 = .ok (.getfield 16, 3) := by decide +kernel
theorem dX6_wasTaken_4 : decode cX6_wasTaken 4 = .ok (.ireturn, 1) := by decide +kernel
theorem dX6_take_0 : decode cX6_take 0 = .ok (.aload_n 0, 1) := by decide +kernel
theorem dX6_take_1 : decode cX6_take 1 = .ok (.getfield 10, 3) := by decide +kernel
theorem dX6_take_4 : decode cX6_take 4 = .ok (.aload_n 1, 1) := by decide +kernel
theorem dX6_take_5 : decode cX6_take 5 = .ok (.invokevirtual 20, 3) := by decide +kernel
theorem dX6_take_8 : decode cX6_take 8 = .ok (.aload_n 0, 1) := by decide +kernel
theorem dX6_take_9 : decode cX6_take 9 = .ok (.aload_n 2, 1) := by decide +kernel
theorem dX6_take_10 : decode cX6_take 10 = .ok (.invokevirtual 24, 3) := by decide +kernel
theorem dX6_take_13 : decode cX6_take 13 = .ok (.putfield 30, 3) := by decide +kernel
theorem dX6_take_16 : decode cX6_take 16 = .ok (.aload_n 0, 1) := by decide +kernel
theorem dX6_take_17 : decode cX6_take 17 = .ok (.iconst 1, 1) := by decide +kernel
theorem dX6_take_18 : decode cX6_take 18 = .ok (.putfield 16, 3) := by decide +kernel
theorem dX6_take_21 : decode cX6_take 21 = .ok (.return_, 1) := by decide +kernel
theorem dX6_give_0 : decode cX6_give 0 = .ok (.aload_n 1, 1) := by decide +kernel
theorem dX6_give_1 : decode cX6_give 1 = .ok (.aload_n 0, 1) := by decide +kernel
theorem dX6_give_2 : decode cX6_give 2 = .ok (.getfield 10, 3) := by decide +kernel
theorem dX6_give_5 : decode cX6_give 5 = .ok (.invokevirtual 20, 3) := by decide +kernel
theorem dX6_give_8 : decode cX6_give 8 = .ok (.aload_n 2, 1) := by decide +kernel
theorem dX6_give_9 : decode cX6_give 9 = .ok (.aload_n 0, 1) := by decide +kernel
theorem dX6_give_10 : decode cX6_give 10 = .ok (.getfield 30, 3) := by decide +kernel
theorem dX6_give_13 : decode cX6_give 13 = .ok (.invokevirtual 34, 3) := by decide +kernel
theorem dX6_give_16 : decode cX6_give 16 = .ok (.return_, 1) := by decide +kernel
theorem dX7_init_0 : decode cX7_init 0 = .ok (.aload_n 0, 1) := by decide +kernel
theorem dX7_init_1 : decode cX7_init 1 = .ok (.invokespecial 3, 3) := by decide +kernel
theorem dX7_init_4 : decode cX7_init 4 = .ok (.aload_n 0, 1) := by decide +kernel
theorem dX7_init_5 : decode cX7_init 5 = .ok (.bipush 61, 2) := by decide +kernel
theorem dX7_init_7 : decode cX7_init 7 = .ok (.newarray .int, 2) := by decide +kernel
theorem dX7_init_9 : decode cX7_init 9 = .ok (.putfield 9, 3) := by decide +kernel
theorem dX7_init_12 : decode cX7_init 12 = .ok (.aload_n 0, 1) := by decide +kernel
theorem dX7_init_13 : decode cX7_init 13 = .ok (.bipush 61, 2) := by decide +kernel
theorem dX7_init_15 : decode cX7_init 15 = .ok (.newarray .int, 2) := by decide +kernel
theorem dX7_init_17 : decode cX7_init 17 = .ok (.putfield 15, 3) := by decide +kernel
theorem dX7_init_20 : decode cX7_init 20 = .ok (.return_, 1) := by decide +kernel
theorem dX7_run_0 : decode cX7_run 0 = .ok (.aload_n 0, 1) := by decide +kernel
theorem dX7_run_1 : decode cX7_run 1 = .ok (.getfield 9, 3) := by decide +kernel
theorem dX7_run_4 : decode cX7_run 4 = .ok (.iconst 0, 1) := by decide +kernel
theorem dX7_run_5 : decode cX7_run 5 = .ok (.iload_n 2, 1) := by decide +kernel
theorem dX7_run_6 : decode cX7_run 6 = .ok (.iastore, 1) := by decide +kernel
theorem dX7_run_7 : decode cX7_run 7 = .ok (.aload_n 0, 1) := by decide +kernel
theorem dX7_run_8 : decode cX7_run 8 = .ok (.getfield 15, 3) := by decide +kernel
theorem dX7_run_11 : decode cX7_run 11 = .ok (.iconst 0, 1) := by decide +kernel
theorem dX7_run_12 : decode cX7_run 12 = .ok (.iload_n 3, 1) := by decide +kernel
theorem dX7_run_13 : decode cX7_run 13 = .ok (.iastore, 1) := by decide +kernel
theorem dX7_run_14 : decode cX7_run 14 = .ok (.aload_n 0, 1) := by decide +kernel
theorem dX7_run_15 : decode cX7_run 15 = .ok (.iconst 0, 1) := by decide +kernel
theorem dX7_run_16 : decode cX7_run 16 = .ok (.putfield 18, 3) := by decide +kernel
theorem dX7_run_19 : decode cX7_run 19 = .ok (.aload_n 0, 1) := by decide +kernel
theorem dX7_run_20 : decode cX7_run 20 = .ok (.iload_n 2, 1) := by decide +kernel
theorem dX7_run_21 : decode cX7_run 21 = .ok (.iload_n 3, 1) := by decide +kernel
theorem dX7_run_22 : decode cX7_run 22 = .ok (.invokestatic 22, 3) := by decide +kernel
theorem dX7_run_25 : decode cX7_run 25 = .ok (.ifCond .eq 7, 3) := by decide +kernel
theorem dX7_run_28 : decode cX7_run 28 = .ok (.iconst 3, 1) := by decide +kernel
theorem dX7_run_29 : decode cX7_run 29 = .ok (.goto 4, 3) := by decide +kernel
theorem dX7_run_32 : decode cX7_run 32 = .ok (.iconst 2, 1) := by decide +kernel
theorem dX7_run_33 : decode cX7_run 33 = .ok (.putfield 26, 3) := by decide +kernel
theorem dX7_run_36 : decode cX7_run 36 = .ok (.iconst 1, 1) := by decide +kernel
theorem dX7_run_37 : decode cX7_run 37 = .ok (.istore 4, 2) := by decide +kernel
theorem dX7_run_39 : decode cX7_run 39 = .ok (.iload 4, 2) := by decide +kernel
theorem dX7_run_41 : decode cX7_run 41 = .ok (.bipush 60, 2) := by decide +kernel
theorem dX7_run_43 : decode cX7_run 43 = .ok (.if_icmp .gt 91, 3) := by decide +kernel
theorem dX7_run_46 : decode cX7_run 46 = .ok (.aload_n 0, 1) := by decide +kernel
theorem dX7_run_47 : decode cX7_run 47 = .ok (.getfield 26, 3) := by decide +kernel
theorem dX7_run_50 : decode cX7_run 50 = .ok (.iconst 3, 1) := by decide +kernel
theorem dX7_run_51 : decode cX7_run 51 = .ok (.if_icmp .ne 83, 3) := by decide +kernel
theorem dX7_run_54 : decode cX7_run 54 = .ok (.aload_n 0, 1) := by decide +kernel
theorem dX7_run_55 : decode cX7_run 55 = .ok (.getfield 9, 3) := by decide +kernel
theorem dX7_run_58 : decode cX7_run 58 = .ok (.iload 4, 2) := by decide +kernel
theorem dX7_run_60 : decode cX7_run 60 = .ok (.iconst 1, 1) := by decide +kernel
theorem dX7_run_61 : decode cX7_run 61 = .ok (.isub, 1) := by decide +kernel
theorem dX7_run_62 : decode cX7_run 62 = .ok (.iaload, 1) := by decide +kernel
theorem dX7_run_63 : decode cX7_run 63 = .ok (.istore 5, 2) := by decide +kernel
theorem dX7_run_65 : decode cX7_run 65 = .ok (.aload_n 0, 1) := by decide +kernel
theorem dX7_run_66 : decode cX7_run 66 = .ok (.getfield 15, 3) := by decide +kernel
theorem dX7_run_69 : decode cX7_run 69 = .ok (.iload 4, 2) := by decide +kernel
theorem dX7_run_71 : decode cX7_run 71 = .ok (.iconst 1, 1) := by decide +kernel
theorem dX7_run_72 : decode cX7_run 72 = .ok (.isub, 1) := by decide +kernel
theorem dX7_run_73 : decode cX7_run 73 = .ok (.iaload, 1) := by decide +kernel
theorem dX7_run_74 : decode cX7_run 74 = .ok (.istore 6, 2) := by decide +kernel
theorem dX7_run_76 : decode cX7_run 76 = .ok (.aload_n 0, 1) := by decide +kernel
theorem dX7_run_77 : decode cX7_run 77 = .ok (.getfield 9, 3) := by decide +kernel
theorem dX7_run_80 : decode cX7_run 80 = .ok (.iload 4, 2) := by decide +kernel
theorem dX7_run_82 : decode cX7_run 82 = .ok (.iload_n 2, 1) := by decide +kernel
theorem dX7_run_83 : decode cX7_run 83 = .ok (.aload_n 1, 1) := by decide +kernel
theorem dX7_run_84 : decode cX7_run 84 = .ok (.iload 5, 2) := by decide +kernel
theorem dX7_run_86 : decode cX7_run 86 = .ok (.iload 6, 2) := by decide +kernel
theorem dX7_run_88 : decode cX7_run 88 = .ok (.iconst 0, 1) := by decide +kernel
theorem dX7_run_89 : decode cX7_run 89 = .ok (.invokevirtual 29, 3) := by decide +kernel
theorem dX7_run_92 : decode cX7_run 92 = .ok (.isub, 1) := by decide +kernel
theorem dX7_run_93 : decode cX7_run 93 = .ok (.iastore, 1) := by decide +kernel
theorem dX7_run_94 : decode cX7_run 94 = .ok (.aload_n 0, 1) := by decide +kernel
theorem dX7_run_95 : decode cX7_run 95 = .ok (.getfield 15, 3) := by decide +kernel
theorem dX7_run_98 : decode cX7_run 98 = .ok (.iload 4, 2) := by decide +kernel
theorem dX7_run_100 : decode cX7_run 100 = .ok (.iload_n 3, 1) := by decide +kernel
theorem dX7_run_101 : decode cX7_run 101 = .ok (.aload_n 1, 1) := by decide +kernel
theorem dX7_run_102 : decode cX7_run 102 = .ok (.iload 5, 2) := by decide +kernel
theorem dX7_run_104 : decode cX7_run 104 = .ok (.iload 6, 2) := by decide +kernel
theorem dX7_run_106 : decode cX7_run 106 = .ok (.iconst 1, 1) := by decide +kernel
theorem dX7_run_107 : decode cX7_run 107 = .ok (.invokevirtual 29, 3) := by decide +kernel
theorem dX7_run_110 : decode cX7_run 110 = .ok (.isub, 1) := by decide +kernel
theorem dX7_run_111 : decode cX7_run 111 = .ok (.iastore, 1) := by decide +kernel
theorem dX7_run_112 : decode cX7_run 112 = .ok (.aload_n 0, 1) := by decide +kernel
theorem dX7_run_113 : decode cX7_run 113 = .ok (.iload 4, 2) := by decide +kernel
theorem dX7_run_115 : decode cX7_run 115 = .ok (.putfield 18, 3) := by decide +kernel
theorem dX7_run_118 : decode cX7_run 118 = .ok (.aload_n 0, 1) := by decide +kernel
theorem dX7_run_119 : decode cX7_run 119 = .ok (.aload_n 0, 1) := by decide +kernel
theorem dX7_run_120 : decode cX7_run 120 = .ok (.iload 4, 2) := by decide +kernel
theorem dX7_run_122 : decode cX7_run 122 = .ok (.invokevirtual 35, 3) := by decide +kernel
theorem dX7_run_125 : decode cX7_run 125 = .ok (.putfield 26, 3) := by decide +kernel
theorem dX7_run_128 : decode cX7_run 128 = .ok (.iinc 4 1, 3) := by decide +kernel
theorem dX7_run_131 : decode cX7_run 131 = .ok (.goto (-92), 3) := by decide +kernel
theorem dX7_run_134 : decode cX7_run 134 = .ok (.return_, 1) := by decide +kernel
theorem dX7_kindOf_0 : decode cX7_kindOf 0 = .ok (.iload_n 1, 1) := by decide +kernel
theorem dX7_kindOf_1 : decode cX7_kindOf 1 = .ok (.iconst 1, 1) := by decide +kernel
theorem dX7_kindOf_2 : decode cX7_kindOf 2 = .ok (.if_icmp .lt 9, 3) := by decide +kernel
theorem dX7_kindOf_5 : decode cX7_kindOf 5 = .ok (.iload_n 1, 1) := by decide +kernel
theorem dX7_kindOf_6 : decode cX7_kindOf 6 = .ok (.bipush 60, 2) := by decide +kernel
theorem dX7_kindOf_8 : decode cX7_kindOf 8 = .ok (.if_icmp .le 5, 3) := by decide +kernel
theorem dX7_kindOf_11 : decode cX7_kindOf 11 = .ok (.iconst 3, 1) := by decide +kernel
theorem dX7_kindOf_12 : decode cX7_kindOf 12 = .ok (.ireturn, 1) := by decide +kernel
theorem dX7_kindOf_13 : decode cX7_kindOf 13 = .ok (.aload_n 0, 1) := by decide +kernel
theorem dX7_kindOf_14 : decode cX7_kindOf 14 = .ok (.getfield 9, 3) := by decide +kernel
theorem dX7_kindOf_17 : decode cX7_kindOf 17 = .ok (.iload_n 1, 1) := by decide +kernel
theorem dX7_kindOf_18 : decode cX7_kindOf 18 = .ok (.iaload, 1) := by decide +kernel
theorem dX7_kindOf_19 : decode cX7_kindOf 19 = .ok (.istore_n 2, 1) := by decide +kernel
theorem dX7_kindOf_20 : decode cX7_kindOf 20 = .ok (.aload_n 0, 1) := by decide +kernel
theorem dX7_kindOf_21 : decode cX7_kindOf 21 = .ok (.getfield 15, 3) := by decide +kernel
theorem dX7_kindOf_24 : decode cX7_kindOf 24 = .ok (.iload_n 1, 1) := by decide +kernel
theorem dX7_kindOf_25 : decode cX7_kindOf 25 = .ok (.iaload, 1) := by decide +kernel
theorem dX7_kindOf_26 : decode cX7_kindOf 26 = .ok (.istore_n 3, 1) := by decide +kernel
theorem dX7_kindOf_27 : decode cX7_kindOf 27 = .ok (.iload_n 2, 1) := by decide +kernel
theorem dX7_kindOf_28 : decode cX7_kindOf 28 = .ok (.iload_n 3, 1) := by decide +kernel
theorem dX7_kindOf_29 : decode cX7_kindOf 29 = .ok (.invokestatic 22, 3) := by decide +kernel
theorem dX7_kindOf_32 : decode cX7_kindOf 32 = .ok (.ifCond .ne 5, 3) := by decide +kernel
theorem dX7_kindOf_35 : decode cX7_kindOf 35 = .ok (.iconst 2, 1) := by decide +kernel
theorem dX7_kindOf_36 : decode cX7_kindOf 36 = .ok (.ireturn, 1) := by decide +kernel
theorem dX7_kindOf_37 : decode cX7_kindOf 37 = .ok (.aload_n 0, 1) := by decide +kernel
theorem dX7_kindOf_38 : decode cX7_kindOf 38 = .ok (.getfield 9, 3) := by decide +kernel
theorem dX7_kindOf_41 : decode cX7_kindOf 41 = .ok (.iload_n 1, 1) := by decide +kernel
theorem dX7_kindOf_42 : decode cX7_kindOf 42 = .ok (.iconst 1, 1) := by decide +kernel
theorem dX7_kindOf_43 : decode cX7_kindOf 43 = .ok (.isub, 1) := by decide +kernel
theorem dX7_kindOf_44 : decode cX7_kindOf 44 = .ok (.iaload, 1) := by decide +kernel
theorem dX7_kindOf_45 : decode cX7_kindOf 45 = .ok (.iload_n 2, 1) := by decide +kernel
theorem dX7_kindOf_46 : decode cX7_kindOf 46 = .ok (.if_icmp .ne 17, 3) := by decide +kernel
theorem dX7_kindOf_49 : decode cX7_kindOf 49 = .ok (.aload_n 0, 1) := by decide +kernel
theorem dX7_kindOf_50 : decode cX7_kindOf 50 = .ok (.getfield 15, 3) := by decide +kernel
theorem dX7_kindOf_53 : decode cX7_kindOf 53 = .ok (.iload_n 1, 1) := by decide +kernel
theorem dX7_kindOf_54 : decode cX7_kindOf 54 = .ok (.iconst 1, 1) := by decide +kernel
theorem dX7_kindOf_55 : decode cX7_kindOf 55 = .ok (.isub, 1) := by decide +kernel
theorem dX7_kindOf_56 : decode cX7_kindOf 56 = .ok (.iaload, 1) := by decide +kernel
theorem dX7_kindOf_57 : decode cX7_kindOf 57 = .ok (.iload_n 3, 1) := by decide +kernel
theorem dX7_kindOf_58 : decode cX7_kindOf 58 = .ok (.if_icmp .ne 5, 3) := by decide +kernel
theorem dX7_kindOf_61 : decode cX7_kindOf 61 = .ok (.iconst 0, 1) := by decide +kernel
theorem dX7_kindOf_62 : decode cX7_kindOf 62 = .ok (.ireturn, 1) := by decide +kernel
theorem dX7_kindOf_63 : decode cX7_kindOf 63 = .ok (.iconst 0, 1) := by decide +kernel
theorem dX7_kindOf_64 : decode cX7_kindOf 64 = .ok (.istore 4, 2) := by decide +kernel
theorem dX7_kindOf_66 : decode cX7_kindOf 66 = .ok (.iload 4, 2) := by decide +kernel
theorem dX7_kindOf_68 : decode cX7_kindOf 68 = .ok (.iload_n 1, 1) := by decide +kernel
theorem dX7_kindOf_69 : decode cX7_kindOf 69 = .ok (.if_icmp .ge 33, 3) := by decide +kernel
theorem dX7_kindOf_72 : decode cX7_kindOf 72 = .ok (.aload_n 0, 1) := by decide +kernel
theorem dX7_kindOf_73 : decode cX7_kindOf 73 = .ok (.getfield 9, 3) := by decide +kernel
theorem dX7_kindOf_76 : decode cX7_kindOf 76 = .ok (.iload 4, 2) := by decide +kernel
theorem dX7_kindOf_78 : decode cX7_kindOf 78 = .ok (.iaload, 1) := by decide +kernel
theorem dX7_kindOf_79 : decode cX7_kindOf 79 = .ok (.iload_n 2, 1) := by decide +kernel
theorem dX7_kindOf_80 : decode cX7_kindOf 80 = .ok (.if_icmp .ne 16, 3) := by decide +kernel
theorem dX7_kindOf_83 : decode cX7_kindOf 83 = .ok (.aload_n 0, 1) := by decide +kernel
theorem dX7_kindOf_84 : decode cX7_kindOf 84 = .ok (.getfield 15, 3) := by decide +kernel
theorem dX7_kindOf_87 : decode cX7_kindOf 87 = .ok (.iload 4, 2) := by decide +kernel
theorem dX7_kindOf_89 : decode cX7_kindOf 89 = .ok (.iaload, 1) := by decide +kernel
theorem dX7_kindOf_90 : decode cX7_kindOf 90 = .ok (.iload_n 3, 1) := by decide +kernel
theorem dX7_kindOf_91 : decode cX7_kindOf 91 = .ok (.if_icmp .ne 5, 3) := by decide +kernel
theorem dX7_kindOf_94 : decode cX7_kindOf 94 = .ok (.iconst 1, 1) := by decide +kernel
theorem dX7_kindOf_95 : decode cX7_kindOf 95 = .ok (.ireturn, 1) := by decide +kernel
theorem dX7_kindOf_96 : decode cX7_kindOf 96 = .ok (.iinc 4 1, 3) := by decide +kernel
theorem dX7_kindOf_99 : decode cX7_kindOf 99 = .ok (.goto (-33), 3) := by decide +kernel
theorem dX7_kindOf_102 : decode cX7_kindOf 102 = .ok (.iconst 3, 1) := by decide +kernel
theorem dX7_kindOf_103 : decode cX7_kindOf 103 = .ok (.ireturn, 1) := by decide +kernel
theorem dX7_kindNow_0 : decode cX7_kindNow 0 = .ok (.aload_n 0, 1) := by decide +kernel
theorem dX7_kindNow_1 : decode cX7_kindNow 1 = .ok (.getfield 26, 3) := by decide +kernel
theorem dX7_kindNow_4 : decode cX7_kindNow 4 = .ok (.ireturn, 1) := by decide +kernel
theorem dX7_rounds_0 : decode cX7_rounds 0 = .ok (.aload_n 0, 1) := by decide +kernel
theorem dX7_rounds_1 : decode cX7_rounds 1 = .ok (.getfield 18, 3) := by decide +kernel
theorem dX7_rounds_4 : decode cX7_rounds 4 = .ok (.ireturn, 1) := by decide +kernel
theorem dX7_lastX_0 : decode cX7_lastX 0 = .ok (.aload_n 0, 1) := by decide +kernel
theorem dX7_lastX_1 : decode cX7_lastX 1 = .ok (.getfield 18, 3) := by decide +kernel
theorem dX7_lastX_4 : decode cX7_lastX 4 = .ok (.ifCond .lt 24, 3) := by decide +kernel
theorem dX7_lastX_7 : decode cX7_lastX 7 = .ok (.aload_n 0, 1) := by decide +kernel
theorem dX7_lastX_8 : decode cX7_lastX 8 = .ok (.getfield 18, 3) := by decide +kernel
theorem dX7_lastX_11 : decode cX7_lastX 11 = .ok (.bipush 60, 2) := by decide +kernel
theorem dX7_lastX_13 : decode cX7_lastX 13 = .ok (.if_icmp .gt 15, 3) := by decide +kernel
theorem dX7_lastX_16 : decode cX7_lastX 16 = .ok (.aload_n 0, 1) := by decide +kernel
theorem dX7_lastX_17 : decode cX7_lastX 17 = .ok (.getfield 9, 3) := by decide +kernel
theorem dX7_lastX_20 : decode cX7_lastX 20 = .ok (.aload_n 0, 1) := by decide +kernel
theorem dX7_lastX_21 : decode cX7_lastX 21 = .ok (.getfield 18, 3) := by decide +kernel
theorem dX7_lastX_24 : decode cX7_lastX 24 = .ok (.iaload, 1) := by decide +kernel
theorem dX7_lastX_25 : decode cX7_lastX 25 = .ok (.goto 4, 3) := by decide +kernel
theorem dX7_lastX_28 : decode cX7_lastX 28 = .ok (.iconst 0, 1) := by decide +kernel
theorem dX7_lastX_29 : decode cX7_lastX 29 = .ok (.ireturn, 1) := by decide +kernel
theorem dX7_lastY_0 : decode cX7_lastY 0 = .ok (.aload_n 0, 1) := by decide +kernel
theorem dX7_lastY_1 : decode cX7_lastY 1 = .ok (.getfield 18, 3) := by decide +kernel
theorem dX7_lastY_4 : decode cX7_lastY 4 = .ok (.ifCond .lt 24, 3) := by decide +kernel
theorem dX7_lastY_7 : decode cX7_lastY 7 = .ok (.aload_n 0, 1) := by decide +kernel
theorem dX7_lastY_8 : decode cX7_lastY 8 = .ok (.getfield 18, 3) := by decide +kernel
theorem dX7_lastY_11 : decode cX7_lastY 11 = .ok (.bipush 60, 2) := by decide +kernel
theorem dX7_lastY_13 : decode cX7_lastY 13 = .ok (.if_icmp .gt 15, 3) := by decide +kernel
theorem dX7_lastY_16 : decode cX7_lastY 16 = .ok (.aload_n 0, 1) := by decide +kernel
theorem dX7_lastY_17 : decode cX7_lastY 17 = .ok (.getfield 15, 3) := by decide +kernel
theorem dX7_lastY_20 : decode cX7_lastY 20 = .ok (.aload_n 0, 1) := by decide +kernel
theorem dX7_lastY_21 : decode cX7_lastY 21 = .ok (.getfield 18, 3) := by decide +kernel
theorem dX7_lastY_24 : decode cX7_lastY 24 = .ok (.iaload, 1) := by decide +kernel
theorem dX7_lastY_25 : decode cX7_lastY 25 = .ok (.goto 4, 3) := by decide +kernel
theorem dX7_lastY_28 : decode cX7_lastY 28 = .ok (.iconst 0, 1) := by decide +kernel
theorem dX7_lastY_29 : decode cX7_lastY 29 = .ok (.ireturn, 1) := by decide +kernel
theorem dX8_init_0 : decode cX8_init 0 = .ok (.aload_n 0, 1) := by decide +kernel
theorem dX8_init_1 : decode cX8_init 1 = .ok (.invokespecial 3, 3) := by decide +kernel
theorem dX8_init_4 : decode cX8_init 4 = .ok (.aload_n 0, 1) := by decide +kernel
theorem dX8_init_5 : decode cX8_init 5 = .ok (.bipush 6, 2) := by decide +kernel
theorem dX8_init_7 : decode cX8_init 7 = .ok (.anewarray 9, 3) := by decide +kernel
theorem dX8_init_10 : decode cX8_init 10 = .ok (.putfield 11, 3) := by decide +kernel
theorem dX8_init_13 : decode cX8_init 13 = .ok (.iconst 0, 1) := by decide +kernel
theorem dX8_init_14 : decode cX8_init 14 = .ok (.istore_n 1, 1) := by decide +kernel
theorem dX8_init_15 : decode cX8_init 15 = .ok (.iload_n 1, 1) := by decide +kernel
theorem dX8_init_16 : decode cX8_init 16 = .ok (.bipush 6, 2) := by decide +kernel
theorem dX8_init_18 : decode cX8_init 18 = .ok (.if_icmp .ge 22, 3) := by decide +kernel
theorem dX8_init_21 : decode cX8_init 21 = .ok (.aload_n 0, 1) := by decide +kernel
theorem dX8_init_22 : decode cX8_init 22 = .ok (.getfield 11, 3) := by decide +kernel
theorem dX8_init_25 : decode cX8_init 25 = .ok (.iload_n 1, 1) := by decide +kernel
theorem dX8_init_26 : decode cX8_init 26 = .ok (.new 9, 3) := by decide +kernel
theorem dX8_init_29 : decode cX8_init 29 = .ok (.dup, 1) := by decide +kernel
theorem dX8_init_30 : decode cX8_init 30 = .ok (.invokespecial 17, 3) := by decide +kernel
theorem dX8_init_33 : decode cX8_init 33 = .ok (.aastore, 1) := by decide +kernel
theorem dX8_init_34 : decode cX8_init 34 = .ok (.iinc 1 1, 3) := by decide +kernel
theorem dX8_init_37 : decode cX8_init 37 = .ok (.goto (-22), 3) := by decide +kernel
theorem dX8_init_40 : decode cX8_init 40 = .ok (.return_, 1) := by decide +kernel
theorem dX8_copyFrom_0 : decode cX8_copyFrom 0 = .ok (.aload_n 1, 1) := by decide +kernel
theorem dX8_copyFrom_1 : decode cX8_copyFrom 1 = .ok (.ifnonnull 4, 3) := by decide +kernel
theorem dX8_copyFrom_4 : decode cX8_copyFrom 4 = .ok (.return_, 1) := by decide +kernel
theorem dX8_copyFrom_5 : decode cX8_copyFrom 5 = .ok (.aload_n 0, 1) := by decide +kernel
theorem dX8_copyFrom_6 : decode cX8_copyFrom 6 = .ok (.aload_n 1, 1) := by decide +kernel
theorem dX8_copyFrom_7 : decode cX8_copyFrom 7 = .ok (.getfield 18, 3) := by decide +kernel
theorem dX8_copyFrom_10 : decode cX8_copyFrom 10 = .ok (.putfield 18, 3) := by decide +kernel
theorem dX8_copyFrom_13 : decode cX8_copyFrom 13 = .ok (.aload_n 0, 1) := by decide +kernel
theorem dX8_copyFrom_14 : decode cX8_copyFrom 14 = .ok (.aload_n 1, 1) := by decide +kernel
theorem dX8_copyFrom_15 : decode cX8_copyFrom 15 = .ok (.getfield 22, 3) := by decide +kernel
theorem dX8_copyFrom_18 : decode cX8_copyFrom 18 = .ok (.putfield 22, 3) := by decide +kernel
theorem dX8_copyFrom_21 : decode cX8_copyFrom 21 = .ok (.iconst 0, 1) := by decide +kernel
theorem dX8_copyFrom_22 : decode cX8_copyFrom 22 = .ok (.istore_n 2, 1) := by decide +kernel
theorem dX8_copyFrom_23 : decode cX8_copyFrom 23 = .ok (.iload_n 2, 1) := by decide +kernel
theorem dX8_copyFrom_24 : decode cX8_copyFrom 24 = .ok (.aload_n 0, 1) := by decide +kernel
theorem dX8_copyFrom_25 : decode cX8_copyFrom 25 = .ok (.getfield 18, 3) := by decide +kernel
theorem dX8_copyFrom_28 : decode cX8_copyFrom 28 = .ok (.if_icmp .ge 28, 3) := by decide +kernel
theorem dX8_copyFrom_31 : decode cX8_copyFrom 31 = .ok (.aload_n 0, 1) := by decide +kernel
theorem dX8_copyFrom_32 : decode cX8_copyFrom 32 = .ok (.iload_n 2, 1) := by decide +kernel
theorem dX8_copyFrom_33 : decode cX8_copyFrom 33 = .ok (.invokevirtual 25, 3) := by decide +kernel
theorem dX8_copyFrom_36 : decode cX8_copyFrom 36 = .ok (.astore_n 3, 1) := by decide +kernel
theorem dX8_copyFrom_37 : decode cX8_copyFrom 37 = .ok (.aload_n 3, 1) := by decide +kernel
theorem dX8_copyFrom_38 : decode cX8_copyFrom 38 = .ok (.ifnull 12, 3) := by decide +kernel
theorem dX8_copyFrom_41 : decode cX8_copyFrom 41 = .ok (.aload_n 3, 1) := by decide +kernel
theorem dX8_copyFrom_42 : decode cX8_copyFrom 42 = .ok (.aload_n 1, 1) := by decide +kernel
theorem dX8_copyFrom_43 : decode cX8_copyFrom 43 = .ok (.iload_n 2, 1) := by decide +kernel
theorem dX8_copyFrom_44 : decode cX8_copyFrom 44 = .ok (.invokevirtual 25, 3) := by decide +kernel
theorem dX8_copyFrom_47 : decode cX8_copyFrom 47 = .ok (.invokevirtual 29, 3) := by decide +kernel
theorem dX8_copyFrom_50 : decode cX8_copyFrom 50 = .ok (.iinc 2 1, 3) := by decide +kernel
theorem dX8_copyFrom_53 : decode cX8_copyFrom 53 = .ok (.goto (-30), 3) := by decide +kernel
theorem dX8_copyFrom_56 : decode cX8_copyFrom 56 = .ok (.return_, 1) := by decide +kernel
theorem dX8_size_0 : decode cX8_size 0 = .ok (.aload_n 0, 1) := by decide +kernel
theorem dX8_size_1 : decode cX8_size 1 = .ok (.getfield 18, 3) := by decide +kernel
theorem dX8_size_4 : decode cX8_size 4 = .ok (.ireturn, 1) := by decide +kernel
theorem dX8_ruleNow_0 : decode cX8_ruleNow 0 = .ok (.aload_n 0, 1) := by decide +kernel
theorem dX8_ruleNow_1 : decode cX8_ruleNow 1 = .ok (.getfield 22, 3) := by decide +kernel
theorem dX8_ruleNow_4 : decode cX8_ruleNow 4 = .ok (.ireturn, 1) := by decide +kernel
theorem dX8_setRule_0 : decode cX8_setRule 0 = .ok (.aload_n 0, 1) := by decide +kernel
theorem dX8_setRule_1 : decode cX8_setRule 1 = .ok (.iload_n 1, 1) := by decide +kernel
theorem dX8_setRule_2 : decode cX8_setRule 2 = .ok (.putfield 22, 3) := by decide +kernel
theorem dX8_setRule_5 : decode cX8_setRule 5 = .ok (.return_, 1) := by decide +kernel
theorem dX8_at_0 : decode cX8_at 0 = .ok (.iload_n 1, 1) := by decide +kernel
theorem dX8_at_1 : decode cX8_at 1 = .ok (.ifCond .lt 29, 3) := by decide +kernel
theorem dX8_at_4 : decode cX8_at 4 = .ok (.iload_n 1, 1) := by decide +kernel
theorem dX8_at_5 : decode cX8_at 5 = .ok (.aload_n 0, 1) := by decide +kernel
theorem dX8_at_6 : decode cX8_at 6 = .ok (.getfield 18, 3) := by decide +kernel
theorem dX8_at_9 : decode cX8_at 9 = .ok (.if_icmp .ge 21, 3) := by decide +kernel
theorem dX8_at_12 : decode cX8_at 12 = .ok (.iload_n 1, 1) := by decide +kernel
theorem dX8_at_13 : decode cX8_at 13 = .ok (.aload_n 0, 1) := by decide +kernel
theorem dX8_at_14 : decode cX8_at 14 = .ok (.getfield 11, 3) := by decide +kernel
theorem dX8_at_17 : decode cX8_at 17 = .ok (.arraylength, 1) := by decide +kernel
theorem dX8_at_18 : decode cX8_at 18 = .ok (.if_icmp .ge 12, 3) := by decide +kernel
theorem dX8_at_21 : decode cX8_at 21 = .ok (.aload_n 0, 1) := by decide +kernel
theorem dX8_at_22 : decode cX8_at 22 = .ok (.getfield 11, 3) := by decide +kernel
theorem dX8_at_25 : decode cX8_at 25 = .ok (.iload_n 1, 1) := by decide +kernel
theorem dX8_at_26 : decode cX8_at 26 = .ok (.aaload, 1) := by decide +kernel
theorem dX8_at_27 : decode cX8_at 27 = .ok (.goto 4, 3) := by decide +kernel
theorem dX8_at_30 : decode cX8_at 30 = .ok (.aconst_null, 1) := by decide +kernel
theorem dX8_at_31 : decode cX8_at 31 = .ok (.areturn, 1) := by decide +kernel
theorem dX8_fitsParent_0 : decode cX8_fitsParent 0 = .ok (.aload_n 0, 1) := by decide +kernel
theorem dX8_fitsParent_1 : decode cX8_fitsParent 1 = .ok (.iload_n 1, 1) := by decide +kernel
theorem dX8_fitsParent_2 : decode cX8_fitsParent 2 = .ok (.invokevirtual 25, 3) := by decide +kernel
theorem dX8_fitsParent_5 : decode cX8_fitsParent 5 = .ok (.astore 7, 2) := by decide +kernel
theorem dX8_fitsParent_7 : decode cX8_fitsParent 7 = .ok (.aload 7, 2) := by decide +kernel
theorem dX8_fitsParent_9 : decode cX8_fitsParent 9 = .ok (.ifnull 51, 3) := by decide +kernel
theorem dX8_fitsParent_12 : decode cX8_fitsParent 12 = .ok (.iload_n 2, 1) := by decide +kernel
theorem dX8_fitsParent_13 : decode cX8_fitsParent 13 = .ok (.aload 7, 2) := by decide +kernel
theorem dX8_fitsParent_15 : decode cX8_fitsParent 15 = .ok (.getfield 33, 3) := by decide +kernel
theorem dX8_fitsParent_18 : decode cX8_fitsParent 18 = .ok (.if_icmp .ge 46, 3) := by decide +kernel
theorem dX8_fitsParent_21 : decode cX8_fitsParent 21 = .ok (.iload_n 3, 1) := by decide +kernel
theorem dX8_fitsParent_22 : decode cX8_fitsParent 22 = .ok (.aload 7, 2) := by decide +kernel
theorem dX8_fitsParent_24 : decode cX8_fitsParent 24 = .ok (.getfield 36, 3) := by decide +kernel
theorem dX8_fitsParent_27 : decode cX8_fitsParent 27 = .ok (.if_icmp .lt 37, 3) := by decide +kernel
theorem dX8_fitsParent_30 : decode cX8_fitsParent 30 = .ok (.iload 5, 2) := by decide +kernel
theorem dX8_fitsParent_32 : decode cX8_fitsParent 32 = .ok (.aload 7, 2) := by decide +kernel
theorem dX8_fitsParent_34 : decode cX8_fitsParent 34 = .ok (.invokevirtual 39, 3) := by decide +kernel
theorem dX8_fitsParent_37 : decode cX8_fitsParent 37 = .ok (.if_icmp .gt 27, 3) := by decide +kernel
theorem dX8_fitsParent_40 : decode cX8_fitsParent 40 = .ok (.iload 4, 2) := by decide +kernel
theorem dX8_fitsParent_42 : decode cX8_fitsParent 42 = .ok (.aload 7, 2) := by decide +kernel
theorem dX8_fitsParent_44 : decode cX8_fitsParent 44 = .ok (.getfield 43, 3) := by decide +kernel
theorem dX8_fitsParent_47 : decode cX8_fitsParent 47 = .ok (.if_icmp .lt 17, 3) := by decide +kernel
theorem dX8_fitsParent_50 : decode cX8_fitsParent 50 = .ok (.iload 6, 2) := by decide +kernel
theorem dX8_fitsParent_52 : decode cX8_fitsParent 52 = .ok (.aload 7, 2) := by decide +kernel
theorem dX8_fitsParent_54 : decode cX8_fitsParent 54 = .ok (.invokevirtual 46, 3) := by decide +kernel
theorem dX8_fitsParent_57 : decode cX8_fitsParent 57 = .ok (.if_icmp .gt 7, 3) := by decide +kernel
theorem dX8_fitsParent_60 : decode cX8_fitsParent 60 = .ok (.iconst 1, 1) := by decide +kernel
theorem dX8_fitsParent_61 : decode cX8_fitsParent 61 = .ok (.goto 4, 3) := by decide +kernel
theorem dX8_fitsParent_64 : decode cX8_fitsParent 64 = .ok (.iconst 0, 1) := by decide +kernel
theorem dX8_fitsParent_65 : decode cX8_fitsParent 65 = .ok (.ireturn, 1) := by decide +kernel
theorem dX8_isApart_0 : decode cX8_isApart 0 = .ok (.iconst 0, 1) := by decide +kernel
theorem dX8_isApart_1 : decode cX8_isApart 1 = .ok (.istore 6, 2) := by decide +kernel
theorem dX8_isApart_3 : decode cX8_isApart 3 = .ok (.iload 6, 2) := by decide +kernel
theorem dX8_isApart_5 : decode cX8_isApart 5 = .ok (.aload_n 0, 1) := by decide +kernel
theorem dX8_isApart_6 : decode cX8_isApart 6 = .ok (.getfield 18, 3) := by decide +kernel
theorem dX8_isApart_9 : decode cX8_isApart 9 = .ok (.if_icmp .ge 71, 3) := by decide +kernel
theorem dX8_isApart_12 : decode cX8_isApart 12 = .ok (.aload_n 0, 1) := by decide +kernel
theorem dX8_isApart_13 : decode cX8_isApart 13 = .ok (.iload 6, 2) := by decide +kernel
theorem dX8_isApart_15 : decode cX8_isApart 15 = .ok (.invokevirtual 25, 3) := by decide +kernel
theorem dX8_isApart_18 : decode cX8_isApart 18 = .ok (.astore 7, 2) := by decide +kernel
theorem dX8_isApart_20 : decode cX8_isApart 20 = .ok (.aload 7, 2) := by decide +kernel
theorem dX8_isApart_22 : decode cX8_isApart 22 = .ok (.ifnull 52, 3) := by decide +kernel
theorem dX8_isApart_25 : decode cX8_isApart 25 = .ok (.aload 7, 2) := by decide +kernel
theorem dX8_isApart_27 : decode cX8_isApart 27 = .ok (.getfield 49, 3) := by decide +kernel
theorem dX8_isApart_30 : decode cX8_isApart 30 = .ok (.iload_n 1, 1) := by decide +kernel
theorem dX8_isApart_31 : decode cX8_isApart 31 = .ok (.if_icmp .ne 43, 3) := by decide +kernel
theorem dX8_isApart_34 : decode cX8_isApart 34 = .ok (.iload_n 2, 1) := by decide +kernel
theorem dX8_isApart_35 : decode cX8_isApart 35 = .ok (.aload 7, 2) := by decide +kernel
theorem dX8_isApart_37 : decode cX8_isApart 37 = .ok (.invokevirtual 39, 3) := by decide +kernel
theorem dX8_isApart_40 : decode cX8_isApart 40 = .ok (.if_icmp .ge 34, 3) := by decide +kernel
theorem dX8_isApart_43 : decode cX8_isApart 43 = .ok (.iload 4, 2) := by decide +kernel
theorem dX8_isApart_45 : decode cX8_isApart 45 = .ok (.aload 7, 2) := by decide +kernel
theorem dX8_isApart_47 : decode cX8_isApart 47 = .ok (.getfield 36, 3) := by decide +kernel
theorem dX8_isApart_50 : decode cX8_isApart 50 = .ok (.if_icmp .le 24, 3) := by decide +kernel
theorem dX8_isApart_53 : decode cX8_isApart 53 = .ok (.iload_n 3, 1) := by decide +kernel
theorem dX8_isApart_54 : decode cX8_isApart 54 = .ok (.aload 7, 2) := by decide +kernel
theorem dX8_isApart_56 : decode cX8_isApart 56 = .ok (.invokevirtual 46, 3) := by decide +kernel
theorem dX8_isApart_59 : decode cX8_isApart 59 = .ok (.if_icmp .ge 15, 3) := by decide +kernel
theorem dX8_isApart_62 : decode cX8_isApart 62 = .ok (.iload 5, 2) := by decide +kernel
theorem dX8_isApart_64 : decode cX8_isApart 64 = .ok (.aload 7, 2) := by decide +kernel
theorem dX8_isApart_66 : decode cX8_isApart 66 = .ok (.getfield 43, 3) := by decide +kernel
theorem dX8_isApart_69 : decode cX8_isApart 69 = .ok (.if_icmp .le 5, 3) := by decide +kernel
theorem dX8_isApart_72 : decode cX8_isApart 72 = .ok (.iconst 0, 1) := by decide +kernel
theorem dX8_isApart_73 : decode cX8_isApart 73 = .ok (.ireturn, 1) := by decide +kernel
theorem dX8_isApart_74 : decode cX8_isApart 74 = .ok (.iinc 6 1, 3) := by decide +kernel
theorem dX8_isApart_77 : decode cX8_isApart 77 = .ok (.goto (-74), 3) := by decide +kernel
theorem dX8_isApart_80 : decode cX8_isApart 80 = .ok (.iconst 1, 1) := by decide +kernel
theorem dX8_isApart_81 : decode cX8_isApart 81 = .ok (.ireturn, 1) := by decide +kernel
theorem dX8_add_0 : decode cX8_add 0 = .ok (.aload_n 0, 1) := by decide +kernel
theorem dX8_add_1 : decode cX8_add 1 = .ok (.getfield 18, 3) := by decide +kernel
theorem dX8_add_4 : decode cX8_add 4 = .ok (.istore 7, 2) := by decide +kernel
theorem dX8_add_6 : decode cX8_add 6 = .ok (.iload 7, 2) := by decide +kernel
theorem dX8_add_8 : decode cX8_add 8 = .ok (.ifCond .lt 13, 3) := by decide +kernel
theorem dX8_add_11 : decode cX8_add 11 = .ok (.iload 7, 2) := by decide +kernel
theorem dX8_add_13 : decode cX8_add 13 = .ok (.aload_n 0, 1) := by decide +kernel
theorem dX8_add_14 : decode cX8_add 14 = .ok (.getfield 11, 3) := by decide +kernel
theorem dX8_add_17 : decode cX8_add 17 = .ok (.arraylength, 1) := by decide +kernel
theorem dX8_add_18 : decode cX8_add 18 = .ok (.if_icmp .lt 6, 3) := by decide +kernel
theorem dX8_add_21 : decode cX8_add 21 = .ok (.ldc 52, 2) := by decide +kernel
theorem dX8_add_23 : decode cX8_add 23 = .ok (.ireturn, 1) := by decide +kernel
theorem dX8_add_24 : decode cX8_add 24 = .ok (.aload_n 0, 1) := by decide +kernel
theorem dX8_add_25 : decode cX8_add 25 = .ok (.dup, 1) := by decide +kernel
theorem dX8_add_26 : decode cX8_add 26 = .ok (.getfield 18, 3) := by decide +kernel
theorem dX8_add_29 : decode cX8_add 29 = .ok (.iconst 1, 1) := by decide +kernel
theorem dX8_add_30 : decode cX8_add 30 = .ok (.iadd, 1) := by decide +kernel
theorem dX8_add_31 : decode cX8_add 31 = .ok (.putfield 18, 3) := by decide +kernel
theorem dX8_add_34 : decode cX8_add 34 = .ok (.aload_n 0, 1) := by decide +kernel
theorem dX8_add_35 : decode cX8_add 35 = .ok (.getfield 11, 3) := by decide +kernel
theorem dX8_add_38 : decode cX8_add 38 = .ok (.iload 7, 2) := by decide +kernel
theorem dX8_add_40 : decode cX8_add 40 = .ok (.aaload, 1) := by decide +kernel
theorem dX8_add_41 : decode cX8_add 41 = .ok (.iload_n 1, 1) := by decide +kernel
theorem dX8_add_42 : decode cX8_add 42 = .ok (.iload_n 2, 1) := by decide +kernel
theorem dX8_add_43 : decode cX8_add 43 = .ok (.iload_n 3, 1) := by decide +kernel
theorem dX8_add_44 : decode cX8_add 44 = .ok (.iload 4, 2) := by decide +kernel
theorem dX8_add_46 : decode cX8_add 46 = .ok (.iload 5, 2) := by decide +kernel
theorem dX8_add_48 : decode cX8_add 48 = .ok (.iload 6, 2) := by decide +kernel
theorem dX8_add_50 : decode cX8_add 50 = .ok (.invokevirtual 53, 3) := by decide +kernel
theorem dX8_add_53 : decode cX8_add 53 = .ok (.aload_n 0, 1) := by decide +kernel
theorem dX8_add_54 : decode cX8_add 54 = .ok (.getfield 11, 3) := by decide +kernel
theorem dX8_add_57 : decode cX8_add 57 = .ok (.iload 7, 2) := by decide +kernel
theorem dX8_add_59 : decode cX8_add 59 = .ok (.aaload, 1) := by decide +kernel
theorem dX8_add_60 : decode cX8_add 60 = .ok (.iconst 0, 1) := by decide +kernel
theorem dX8_add_61 : decode cX8_add 61 = .ok (.iconst 0, 1) := by decide +kernel
theorem dX8_add_62 : decode cX8_add 62 = .ok (.invokevirtual 57, 3) := by decide +kernel
theorem dX8_add_65 : decode cX8_add 65 = .ok (.pop, 1) := by decide +kernel
theorem dX8_add_66 : decode cX8_add 66 = .ok (.iload 7, 2) := by decide +kernel
theorem dX8_add_68 : decode cX8_add 68 = .ok (.ireturn, 1) := by decide +kernel
theorem dX8_remove_0 : decode cX8_remove 0 = .ok (.aload_n 0, 1) := by decide +kernel
theorem dX8_remove_1 : decode cX8_remove 1 = .ok (.iload_n 1, 1) := by decide +kernel
theorem dX8_remove_2 : decode cX8_remove 2 = .ok (.invokevirtual 25, 3) := by decide +kernel
theorem dX8_remove_5 : decode cX8_remove 5 = .ok (.astore_n 2, 1) := by decide +kernel
theorem dX8_remove_6 : decode cX8_remove 6 = .ok (.aload_n 0, 1) := by decide +kernel
theorem dX8_remove_7 : decode cX8_remove 7 = .ok (.getfield 18, 3) := by decide +kernel
theorem dX8_remove_10 : decode cX8_remove 10 = .ok (.iconst 1, 1) := by decide +kernel
theorem dX8_remove_11 : decode cX8_remove 11 = .ok (.isub, 1) := by decide +kernel
theorem dX8_remove_12 : decode cX8_remove 12 = .ok (.istore_n 3, 1) := by decide +kernel
theorem dX8_remove_13 : decode cX8_remove 13 = .ok (.aload_n 2, 1) := by decide +kernel
theorem dX8_remove_14 : decode cX8_remove 14 = .ok (.ifnull 16, 3) := by decide +kernel
theorem dX8_remove_17 : decode cX8_remove 17 = .ok (.iload_n 3, 1) := by decide +kernel
theorem dX8_remove_18 : decode cX8_remove 18 = .ok (.ifCond .lt 12, 3) := by decide +kernel
theorem dX8_remove_21 : decode cX8_remove 21 = .ok (.iload_n 3, 1) := by decide +kernel
theorem dX8_remove_22 : decode cX8_remove 22 = .ok (.aload_n 0, 1) := by decide +kernel
theorem dX8_remove_23 : decode cX8_remove 23 = .ok (.getfield 11, 3) := by decide +kernel
theorem dX8_remove_26 : decode cX8_remove 26 = .ok (.arraylength, 1) := by decide +kernel
theorem dX8_remove_27 : decode cX8_remove 27 = .ok (.if_icmp .lt 4, 3) := by decide +kernel
theorem dX8_remove_30 : decode cX8_remove 30 = .ok (.return_, 1) := by decide +kernel
theorem dX8_remove_31 : decode cX8_remove 31 = .ok (.iload_n 1, 1) := by decide +kernel
theorem dX8_remove_32 : decode cX8_remove 32 = .ok (.istore 4, 2) := by decide +kernel
theorem dX8_remove_34 : decode cX8_remove 34 = .ok (.iload 4, 2) := by decide +kernel
theorem dX8_remove_36 : decode cX8_remove 36 = .ok (.iload_n 3, 1) := by decide +kernel
theorem dX8_remove_37 : decode cX8_remove 37 = .ok (.if_icmp .ge 25, 3) := by decide +kernel
theorem dX8_remove_40 : decode cX8_remove 40 = .ok (.aload_n 0, 1) := by decide +kernel
theorem dX8_remove_41 : decode cX8_remove 41 = .ok (.getfield 11, 3) := by decide +kernel
theorem dX8_remove_44 : decode cX8_remove 44 = .ok (.iload 4, 2) := by decide +kernel
theorem dX8_remove_46 : decode cX8_remove 46 = .ok (.aload_n 0, 1) := by decide +kernel
theorem dX8_remove_47 : decode cX8_remove 47 = .ok (.getfield 11, 3) := by decide +kernel
theorem dX8_remove_50 : decode cX8_remove 50 = .ok (.iload 4, 2) := by decide +kernel
theorem dX8_remove_52 : decode cX8_remove 52 = .ok (.iconst 1, 1) := by decide +kernel
theorem dX8_remove_53 : decode cX8_remove 53 = .ok (.iadd, 1) := by decide +kernel
theorem dX8_remove_54 : decode cX8_remove 54 = .ok (.aaload, 1) := by decide +kernel
theorem dX8_remove_55 : decode cX8_remove 55 = .ok (.aastore, 1) := by decide +kernel
theorem dX8_remove_56 : decode cX8_remove 56 = .ok (.iinc 4 1, 3) := by decide +kernel
theorem dX8_remove_59 : decode cX8_remove 59 = .ok (.goto (-25), 3) := by decide +kernel
theorem dX8_remove_62 : decode cX8_remove 62 = .ok (.aload_n 0, 1) := by decide +kernel
theorem dX8_remove_63 : decode cX8_remove 63 = .ok (.getfield 11, 3) := by decide +kernel
theorem dX8_remove_66 : decode cX8_remove 66 = .ok (.iload_n 3, 1) := by decide +kernel
theorem dX8_remove_67 : decode cX8_remove 67 = .ok (.aload_n 2, 1) := by decide +kernel
theorem dX8_remove_68 : decode cX8_remove 68 = .ok (.aastore, 1) := by decide +kernel
theorem dX8_remove_69 : decode cX8_remove 69 = .ok (.aload_n 0, 1) := by decide +kernel
theorem dX8_remove_70 : decode cX8_remove 70 = .ok (.iload_n 3, 1) := by decide +kernel
theorem dX8_remove_71 : decode cX8_remove 71 = .ok (.putfield 18, 3) := by decide +kernel
theorem dX8_remove_74 : decode cX8_remove 74 = .ok (.aload_n 0, 1) := by decide +kernel
theorem dX8_remove_75 : decode cX8_remove 75 = .ok (.iload_n 1, 1) := by decide +kernel
theorem dX8_remove_76 : decode cX8_remove 76 = .ok (.invokevirtual 61, 3) := by decide +kernel
theorem dX8_remove_79 : decode cX8_remove 79 = .ok (.return_, 1) := by decide +kernel
theorem dX8_lowerParentsBehind_0 : decode cX8_lowerParentsBehind 0 = .ok (.iconst 0, 1) := by decide +kernel
theorem dX8_lowerParentsBehind_1 : decode cX8_lowerParentsBehind 1 = .ok (.istore_n 2, 1) := by decide +kernel
theorem dX8_lowerParentsBehind_2 : decode cX8_lowerParentsBehind 2 = .ok (.iload_n 2, 1) := by decide +kernel
theorem dX8_lowerParentsBehind_3 : decode cX8_lowerParentsBehind 3 = .ok (.aload_n 0, 1) := by decide +kernel
theorem dX8_lowerParentsBehind_4 : decode cX8_lowerParentsBehind 4 = .ok (.getfield 18, 3) := by decide +kernel
theorem dX8_lowerParentsBehind_7 : decode cX8_lowerParentsBehind 7 = .ok (.if_icmp .ge 37, 3) := by decide +kernel
theorem dX8_lowerParentsBehind_10 : decode cX8_lowerParentsBehind 10 = .ok (.aload_n 0, 1) := by decide +kernel
theorem dX8_lowerParentsBehind_11 : decode cX8_lowerParentsBehind 11 = .ok (.iload_n 2, 1) := by decide +kernel
theorem dX8_lowerParentsBehind_12 : decode cX8_lowerParentsBehind 12 = .ok (.invokevirtual 25, 3) := by decide +kernel
theorem dX8_lowerParentsBehind_15 : decode cX8_lowerParentsBehind 15 = .ok (.astore_n 3, 1) := by decide +kernel
theorem dX8_lowerParentsBehind_16 : decode cX8_lowerParentsBehind 16 = .ok (.aload_n 3, 1) := by decide +kernel
theorem dX8_lowerParentsBehind_17 : decode cX8_lowerParentsBehind 17 = .ok (.ifnull 21, 3) := by decide +kernel
theorem dX8_lowerParentsBehind_20 : decode cX8_lowerParentsBehind 20 = .ok (.aload_n 3, 1) := by decide +kernel
theorem dX8_lowerParentsBehind_21 : decode cX8_lowerParentsBehind 21 = .ok (.getfield 49, 3) := by decide +kernel
theorem dX8_lowerParentsBehind_24 : decode cX8_lowerParentsBehind 24 = .ok (.iload_n 1, 1) := by decide +kernel
theorem dX8_lowerParentsBehind_25 : decode cX8_lowerParentsBehind 25 = .ok (.if_icmp .le 13, 3) := by decide +kernel
theorem dX8_lowerParentsBehind_28 : decode cX8_lowerParentsBehind 28 = .ok (.aload_n 3, 1) := by decide +kernel
theorem dX8_lowerParentsBehind_29 : decode cX8_lowerParentsBehind 29 = .ok (.dup, 1) := by decide +kernel
theorem dX8_lowerParentsBehind_30 : decode cX8_lowerParentsBehind 30 = .ok (.getfield 49, 3) := by decide +kernel
theorem dX8_lowerParentsBehind_33 : decode cX8_lowerParentsBehind 33 = .ok (.iconst 1, 1) := by decide +kernel
theorem dX8_lowerParentsBehind_34 : decode cX8_lowerParentsBehind 34 = .ok (.isub, 1) := by decide +kernel
theorem dX8_lowerParentsBehind_35 : decode cX8_lowerParentsBehind 35 = .ok (.putfield 49, 3) := by decide +kernel
theorem dX8_lowerParentsBehind_38 : decode cX8_lowerParentsBehind 38 = .ok (.iinc 2 1, 3) := by decide +kernel
theorem dX8_lowerParentsBehind_41 : decode cX8_lowerParentsBehind 41 = .ok (.goto (-39), 3) := by decide +kernel
theorem dX8_lowerParentsBehind_44 : decode cX8_lowerParentsBehind 44 = .ok (.return_, 1) := by decide +kernel
theorem dX8_shiftedNodes_0 : decode cX8_shiftedNodes 0 = .ok (.iconst 0, 1) := by decide +kernel
theorem dX8_shiftedNodes_1 : decode cX8_shiftedNodes 1 = .ok (.istore_n 1, 1) := by decide +kernel
theorem dX8_shiftedNodes_2 : decode cX8_shiftedNodes 2 = .ok (.iconst 0, 1) := by decide +kernel
theorem dX8_shiftedNodes_3 : decode cX8_shiftedNodes 3 = .ok (.istore_n 2, 1) := by decide +kernel
theorem dX8_shiftedNodes_4 : decode cX8_shiftedNodes 4 = .ok (.iload_n 2, 1) := by decide +kernel
theorem dX8_shiftedNodes_5 : decode cX8_shiftedNodes 5 = .ok (.aload_n 0, 1) := by decide +kernel
theorem dX8_shiftedNodes_6 : decode cX8_shiftedNodes 6 = .ok (.getfield 18, 3) := by decide +kernel
theorem dX8_shiftedNodes_9 : decode cX8_shiftedNodes 9 = .ok (.if_icmp .ge 30, 3) := by decide +kernel
theorem dX8_shiftedNodes_12 : decode cX8_shiftedNodes 12 = .ok (.aload_n 0, 1) := by decide +kernel
theorem dX8_shiftedNodes_13 : decode cX8_shiftedNodes 13 = .ok (.iload_n 2, 1) := by decide +kernel
theorem dX8_shiftedNodes_14 : decode cX8_shiftedNodes 14 = .ok (.invokevirtual 25, 3) := by decide +kernel
theorem dX8_shiftedNodes_17 : decode cX8_shiftedNodes 17 = .ok (.astore_n 3, 1) := by decide +kernel
theorem dX8_shiftedNodes_18 : decode cX8_shiftedNodes 18 = .ok (.iload_n 1, 1) := by decide +kernel
theorem dX8_shiftedNodes_19 : decode cX8_shiftedNodes 19 = .ok (.aload_n 3, 1) := by decide +kernel
theorem dX8_shiftedNodes_20 : decode cX8_shiftedNodes 20 = .ok (.ifnonnull 7, 3) := by decide +kernel
theorem dX8_shiftedNodes_23 : decode cX8_shiftedNodes 23 = .ok (.iconst 0, 1) := by decide +kernel
theorem dX8_shiftedNodes_24 : decode cX8_shiftedNodes 24 = .ok (.goto 7, 3) := by decide +kernel
theorem dX8_shiftedNodes_27 : decode cX8_shiftedNodes 27 = .ok (.aload_n 3, 1) := by decide +kernel
theorem dX8_shiftedNodes_28 : decode cX8_shiftedNodes 28 = .ok (.invokevirtual 65, 3) := by decide +kernel
theorem dX8_shiftedNodes_31 : decode cX8_shiftedNodes 31 = .ok (.iadd, 1) := by decide +kernel
theorem dX8_shiftedNodes_32 : decode cX8_shiftedNodes 32 = .ok (.istore_n 1, 1) := by decide +kernel
theorem dX8_shiftedNodes_33 : decode cX8_shiftedNodes 33 = .ok (.iinc 2 1, 3) := by decide +kernel
theorem dX8_shiftedNodes_36 : decode cX8_shiftedNodes 36 = .ok (.goto (-32), 3) := by decide +kernel
theorem dX8_shiftedNodes_39 : decode cX8_shiftedNodes 39 = .ok (.iload_n 1, 1) := by decide +kernel
theorem dX8_shiftedNodes_40 : decode cX8_shiftedNodes 40 = .ok (.ireturn, 1) := by decide +kernel
theorem dX8_children_0 : decode cX8_children 0 = .ok (.iconst 0, 1) := by decide +kernel
theorem dX8_children_1 : decode cX8_children 1 = .ok (.istore_n 2, 1) := by decide +kernel
theorem dX8_children_2 : decode cX8_children 2 = .ok (.iconst 0, 1) := by decide +kernel
theorem dX8_children_3 : decode cX8_children 3 = .ok (.istore_n 3, 1) := by decide +kernel
theorem dX8_children_4 : decode cX8_children 4 = .ok (.iload_n 3, 1) := by decide +kernel
theorem dX8_children_5 : decode cX8_children 5 = .ok (.aload_n 0, 1) := by decide +kernel
theorem dX8_children_6 : decode cX8_children 6 = .ok (.getfield 18, 3) := by decide +kernel
theorem dX8_children_9 : decode cX8_children 9 = .ok (.if_icmp .ge 38, 3) := by decide +kernel
theorem dX8_children_12 : decode cX8_children 12 = .ok (.aload_n 0, 1) := by decide +kernel
theorem dX8_children_13 : decode cX8_children 13 = .ok (.iload_n 3, 1) := by decide +kernel
theorem dX8_children_14 : decode cX8_children 14 = .ok (.invokevirtual 25, 3) := by decide +kernel
theorem dX8_children_17 : decode cX8_children 17 = .ok (.astore 4, 2) := by decide +kernel
theorem dX8_children_19 : decode cX8_children 19 = .ok (.iload_n 2, 1) := by decide +kernel
theorem dX8_children_20 : decode cX8_children 20 = .ok (.aload 4, 2) := by decide +kernel
theorem dX8_children_22 : decode cX8_children 22 = .ok (.ifnull 16, 3) := by decide +kernel
theorem dX8_children_25 : decode cX8_children 25 = .ok (.aload 4, 2) := by decide +kernel
theorem dX8_children_27 : decode cX8_children 27 = .ok (.getfield 49, 3) := by decide +kernel
theorem dX8_children_30 : decode cX8_children 30 = .ok (.iload_n 1, 1) := by decide +kernel
theorem dX8_children_31 : decode cX8_children 31 = .ok (.if_icmp .ne 7, 3) := by decide +kernel
theorem dX8_children_34 : decode cX8_children 34 = .ok (.iconst 1, 1) := by decide +kernel
theorem dX8_children_35 : decode cX8_children 35 = .ok (.goto 4, 3) := by decide +kernel
theorem dX8_children_38 : decode cX8_children 38 = .ok (.iconst 0, 1) := by decide +kernel
theorem dX8_children_39 : decode cX8_children 39 = .ok (.iadd, 1) := by decide +kernel
theorem dX8_children_40 : decode cX8_children 40 = .ok (.istore_n 2, 1) := by decide +kernel
theorem dX8_children_41 : decode cX8_children 41 = .ok (.iinc 3 1, 3) := by decide +kernel
theorem dX8_children_44 : decode cX8_children 44 = .ok (.goto (-40), 3) := by decide +kernel
theorem dX8_children_47 : decode cX8_children 47 = .ok (.iload_n 2, 1) := by decide +kernel
theorem dX8_children_48 : decode cX8_children 48 = .ok (.ireturn, 1) := by decide +kernel
theorem dX8_parentsAbove_0 : decode cX8_parentsAbove 0 = .ok (.iconst 0, 1) := by decide +kernel
theorem dX8_parentsAbove_1 : decode cX8_parentsAbove 1 = .ok (.istore_n 2, 1) := by decide +kernel
theorem dX8_parentsAbove_2 : decode cX8_parentsAbove 2 = .ok (.iload_n 1, 1) := by decide +kernel
theorem dX8_parentsAbove_3 : decode cX8_parentsAbove 3 = .ok (.istore_n 3, 1) := by decide +kernel
theorem dX8_parentsAbove_4 : decode cX8_parentsAbove 4 = .ok (.aload_n 0, 1) := by decide +kernel
theorem dX8_parentsAbove_5 : decode cX8_parentsAbove 5 = .ok (.getfield 18, 3) := by decide +kernel
theorem dX8_parentsAbove_8 : decode cX8_parentsAbove 8 = .ok (.iconst 1, 1) := by decide +kernel
theorem dX8_parentsAbove_9 : decode cX8_parentsAbove 9 = .ok (.isub, 1) := by decide +kernel
theorem dX8_parentsAbove_10 : decode cX8_parentsAbove 10 = .ok (.istore 4, 2) := by decide +kernel
theorem dX8_parentsAbove_12 : decode cX8_parentsAbove 12 = .ok (.iload 4, 2) := by decide +kernel
theorem dX8_parentsAbove_14 : decode cX8_parentsAbove 14 = .ok (.ifCond .lt 46, 3) := by decide +kernel
theorem dX8_parentsAbove_17 : decode cX8_parentsAbove 17 = .ok (.aload_n 0, 1) := by decide +kernel
theorem dX8_parentsAbove_18 : decode cX8_parentsAbove 18 = .ok (.iload 4, 2) := by decide +kernel
theorem dX8_parentsAbove_20 : decode cX8_parentsAbove 20 = .ok (.invokevirtual 25, 3) := by decide +kernel
theorem dX8_parentsAbove_23 : decode cX8_parentsAbove 23 = .ok (.astore 5, 2) := by decide +kernel
theorem dX8_parentsAbove_25 : decode cX8_parentsAbove 25 = .ok (.iload 4, 2) := by decide +kernel
theorem dX8_parentsAbove_27 : decode cX8_parentsAbove 27 = .ok (.iload_n 3, 1) := by decide +kernel
theorem dX8_parentsAbove_28 : decode cX8_parentsAbove 28 = .ok (.if_icmp .ne 26, 3) := by decide +kernel
theorem dX8_parentsAbove_31 : decode cX8_parentsAbove 31 = .ok (.aload 5, 2) := by decide +kernel
theorem dX8_parentsAbove_33 : decode cX8_parentsAbove 33 = .ok (.ifnull 21, 3) := by decide +kernel
theorem dX8_parentsAbove_36 : decode cX8_parentsAbove 36 = .ok (.aload 5, 2) := by decide +kernel
theorem dX8_parentsAbove_38 : decode cX8_parentsAbove 38 = .ok (.getfield 49, 3) := by decide +kernel
theorem dX8_parentsAbove_41 : decode cX8_parentsAbove 41 = .ok (.iconst (-1), 1) := by decide +kernel
theorem dX8_parentsAbove_42 : decode cX8_parentsAbove 42 = .ok (.if_icmp .eq 12, 3) := by decide +kernel
theorem dX8_parentsAbove_45 : decode cX8_parentsAbove 45 = .ok (.aload 5, 2) := by decide +kernel
theorem dX8_parentsAbove_47 : decode cX8_parentsAbove 47 = .ok (.getfield 49, 3) := by decide +kernel
theorem dX8_parentsAbove_50 : decode cX8_parentsAbove 50 = .ok (.istore_n 3, 1) := by decide +kernel
theorem dX8_parentsAbove_51 : decode cX8_parentsAbove 51 = .ok (.iinc 2 1, 3) := by decide +kernel
theorem dX8_parentsAbove_54 : decode cX8_parentsAbove 54 = .ok (.iinc 4 (-1), 3) := by decide +kernel
theorem dX8_parentsAbove_57 : decode cX8_parentsAbove 57 = .ok (.goto (-45), 3) := by decide +kernel
theorem dX8_parentsAbove_60 : decode cX8_parentsAbove 60 = .ok (.iload_n 2, 1) := by decide +kernel
theorem dX8_parentsAbove_61 : decode cX8_parentsAbove 61 = .ok (.ireturn, 1) := by decide +kernel
theorem dX8_owner_0 : decode cX8_owner 0 = .ok (.iconst (-1), 1) := by decide +kernel
theorem dX8_owner_1 : decode cX8_owner 1 = .ok (.istore_n 3, 1) := by decide +kernel
theorem dX8_owner_2 : decode cX8_owner 2 = .ok (.iconst 0, 1) := by decide +kernel
theorem dX8_owner_3 : decode cX8_owner 3 = .ok (.istore 4, 2) := by decide +kernel
theorem dX8_owner_5 : decode cX8_owner 5 = .ok (.iload 4, 2) := by decide +kernel
theorem dX8_owner_7 : decode cX8_owner 7 = .ok (.aload_n 0, 1) := by decide +kernel
theorem dX8_owner_8 : decode cX8_owner 8 = .ok (.getfield 18, 3) := by decide +kernel
theorem dX8_owner_11 : decode cX8_owner 11 = .ok (.if_icmp .ge 44, 3) := by decide +kernel
theorem dX8_owner_14 : decode cX8_owner 14 = .ok (.aload_n 0, 1) := by decide +kernel
theorem dX8_owner_15 : decode cX8_owner 15 = .ok (.iload 4, 2) := by decide +kernel
theorem dX8_owner_17 : decode cX8_owner 17 = .ok (.invokevirtual 25, 3) := by decide +kernel
theorem dX8_owner_20 : decode cX8_owner 20 = .ok (.astore 5, 2) := by decide +kernel
theorem dX8_owner_22 : decode cX8_owner 22 = .ok (.aload 5, 2) := by decide +kernel
theorem dX8_owner_24 : decode cX8_owner 24 = .ok (.ifnull 25, 3) := by decide +kernel
theorem dX8_owner_27 : decode cX8_owner 27 = .ok (.aload 5, 2) := by decide +kernel
theorem dX8_owner_29 : decode cX8_owner 29 = .ok (.getfield 49, 3) := by decide +kernel
theorem dX8_owner_32 : decode cX8_owner 32 = .ok (.iload_n 3, 1) := by decide +kernel
theorem dX8_owner_33 : decode cX8_owner 33 = .ok (.if_icmp .ne 16, 3) := by decide +kernel
theorem dX8_owner_36 : decode cX8_owner 36 = .ok (.aload 5, 2) := by decide +kernel
theorem dX8_owner_38 : decode cX8_owner 38 = .ok (.iload_n 1, 1) := by decide +kernel
theorem dX8_owner_39 : decode cX8_owner 39 = .ok (.iload_n 2, 1) := by decide +kernel
theorem dX8_owner_40 : decode cX8_owner 40 = .ok (.invokevirtual 68, 3) := by decide +kernel
theorem dX8_owner_43 : decode cX8_owner 43 = .ok (.ifCond .eq 6, 3) := by decide +kernel
theorem dX8_owner_46 : decode cX8_owner 46 = .ok (.iload 4, 2) := by decide +kernel
theorem dX8_owner_48 : decode cX8_owner 48 = .ok (.istore_n 3, 1) := by decide +kernel
theorem dX8_owner_49 : decode cX8_owner 49 = .ok (.iinc 4 1, 3) := by decide +kernel
theorem dX8_owner_52 : decode cX8_owner 52 = .ok (.goto (-47), 3) := by decide +kernel
theorem dX8_owner_55 : decode cX8_owner 55 = .ok (.iload_n 3, 1) := by decide +kernel
theorem dX8_owner_56 : decode cX8_owner 56 = .ok (.ireturn, 1) := by decide +kernel
theorem dX8_placeOffset_0 : decode cX8_placeOffset 0 = .ok (.aload_n 0, 1) := by decide +kernel
theorem dX8_placeOffset_1 : decode cX8_placeOffset 1 = .ok (.aload_n 0, 1) := by decide +kernel
theorem dX8_placeOffset_2 : decode cX8_placeOffset 2 = .ok (.iload_n 1, 1) := by decide +kernel
theorem dX8_placeOffset_3 : decode cX8_placeOffset 3 = .ok (.iload_n 2, 1) := by decide +kernel
theorem dX8_placeOffset_4 : decode cX8_placeOffset 4 = .ok (.invokevirtual 72, 3) := by decide +kernel
theorem dX8_placeOffset_7 : decode cX8_placeOffset 7 = .ok (.invokevirtual 25, 3) := by decide +kernel
theorem dX8_placeOffset_10 : decode cX8_placeOffset 10 = .ok (.astore 4, 2) := by decide +kernel
theorem dX8_placeOffset_12 : decode cX8_placeOffset 12 = .ok (.aload 4, 2) := by decide +kernel
theorem dX8_placeOffset_14 : decode cX8_placeOffset 14 = .ok (.ifnonnull 7, 3) := by decide +kernel
theorem dX8_placeOffset_17 : decode cX8_placeOffset 17 = .ok (.iconst 0, 1) := by decide +kernel
theorem dX8_placeOffset_18 : decode cX8_placeOffset 18 = .ok (.goto 15, 3) := by decide +kernel
theorem dX8_placeOffset_21 : decode cX8_placeOffset 21 = .ok (.aload 4, 2) := by decide +kernel
theorem dX8_placeOffset_23 : decode cX8_placeOffset 23 = .ok (.aload_n 0, 1) := by decide +kernel
theorem dX8_placeOffset_24 : decode cX8_placeOffset 24 = .ok (.getfield 22, 3) := by decide +kernel
theorem dX8_placeOffset_27 : decode cX8_placeOffset 27 = .ok (.iload_n 1, 1) := by decide +kernel
theorem dX8_placeOffset_28 : decode cX8_placeOffset 28 = .ok (.iload_n 2, 1) := by decide +kernel
theorem dX8_placeOffset_29 : decode cX8_placeOffset 29 = .ok (.iload_n 3, 1) := by decide +kernel
theorem dX8_placeOffset_30 : decode cX8_placeOffset 30 = .ok (.invokevirtual 75, 3) := by decide +kernel
theorem dX8_placeOffset_33 : decode cX8_placeOffset 33 = .ok (.ireturn, 1) := by decide +kernel
theorem dX9_init_0 : decode cX9_init 0 = .ok (.aload_n 0, 1) := by decide +kernel
theorem dX9_init_1 : decode cX9_init 1 = .ok (.invokespecial 3, 3) := by decide +kernel
theorem dX9_init_4 : decode cX9_init 4 = .ok (.aload_n 0, 1) := by decide +kernel
theorem dX9_init_5 : decode cX9_init 5 = .ok (.new 9, 3) := by decide +kernel
theorem dX9_init_8 : decode cX9_init 8 = .ok (.dup, 1) := by decide +kernel
theorem dX9_init_9 : decode cX9_init 9 = .ok (.invokespecial 11, 3) := by decide +kernel
theorem dX9_init_12 : decode cX9_init 12 = .ok (.putfield 12, 3) := by decide +kernel
theorem dX9_init_15 : decode cX9_init 15 = .ok (.aload_n 0, 1) := by decide +kernel
theorem dX9_init_16 : decode cX9_init 16 = .ok (.new 16, 3) := by decide +kernel
theorem dX9_init_19 : decode cX9_init 19 = .ok (.dup, 1) := by decide +kernel
theorem dX9_init_20 : decode cX9_init 20 = .ok (.invokespecial 18, 3) := by decide +kernel
theorem dX9_init_23 : decode cX9_init 23 = .ok (.putfield 19, 3) := by decide +kernel
theorem dX9_init_26 : decode cX9_init 26 = .ok (.aload_n 0, 1) := by decide +kernel
theorem dX9_init_27 : decode cX9_init 27 = .ok (.new 23, 3) := by decide +kernel
theorem dX9_init_30 : decode cX9_init 30 = .ok (.dup, 1) := by decide +kernel
theorem dX9_init_31 : decode cX9_init 31 = .ok (.invokespecial 25, 3) := by decide +kernel
theorem dX9_init_34 : decode cX9_init 34 = .ok (.putfield 26, 3) := by decide +kernel
theorem dX9_init_37 : decode cX9_init 37 = .ok (.aload_n 0, 1) := by decide +kernel
theorem dX9_init_38 : decode cX9_init 38 = .ok (.new 23, 3) := by decide +kernel
theorem dX9_init_41 : decode cX9_init 41 = .ok (.dup, 1) := by decide +kernel
theorem dX9_init_42 : decode cX9_init 42 = .ok (.invokespecial 25, 3) := by decide +kernel
theorem dX9_init_45 : decode cX9_init 45 = .ok (.putfield 30, 3) := by decide +kernel
theorem dX9_init_48 : decode cX9_init 48 = .ok (.aload_n 0, 1) := by decide +kernel
theorem dX9_init_49 : decode cX9_init 49 = .ok (.new 33, 3) := by decide +kernel
theorem dX9_init_52 : decode cX9_init 52 = .ok (.dup, 1) := by decide +kernel
theorem dX9_init_53 : decode cX9_init 53 = .ok (.invokespecial 35, 3) := by decide +kernel
theorem dX9_init_56 : decode cX9_init 56 = .ok (.putfield 36, 3) := by decide +kernel
theorem dX9_init_59 : decode cX9_init 59 = .ok (.aload_n 0, 1) := by decide +kernel
theorem dX9_init_60 : decode cX9_init 60 = .ok (.new 40, 3) := by decide +kernel
theorem dX9_init_63 : decode cX9_init 63 = .ok (.dup, 1) := by decide +kernel
theorem dX9_init_64 : decode cX9_init 64 = .ok (.invokespecial 42, 3) := by decide +kernel
theorem dX9_init_67 : decode cX9_init 67 = .ok (.putfield 43, 3) := by decide +kernel
theorem dX9_init_70 : decode cX9_init 70 = .ok (.aload_n 0, 1) := by decide +kernel
theorem dX9_init_71 : decode cX9_init 71 = .ok (.new 47, 3) := by decide +kernel
theorem dX9_init_74 : decode cX9_init 74 = .ok (.dup, 1) := by decide +kernel
theorem dX9_init_75 : decode cX9_init 75 = .ok (.invokespecial 49, 3) := by decide +kernel
theorem dX9_init_78 : decode cX9_init 78 = .ok (.putfield 50, 3) := by decide +kernel
theorem dX9_init_81 : decode cX9_init 81 = .ok (.aload_n 0, 1) := by decide +kernel
theorem dX9_init_82 : decode cX9_init 82 = .ok (.new 54, 3) := by decide +kernel
theorem dX9_init_85 : decode cX9_init 85 = .ok (.dup, 1) := by decide +kernel
theorem dX9_init_86 : decode cX9_init 86 = .ok (.invokespecial 56, 3) := by decide +kernel
theorem dX9_init_89 : decode cX9_init 89 = .ok (.putfield 57, 3) := by decide +kernel
theorem dX9_init_92 : decode cX9_init 92 = .ok (.return_, 1) := by decide +kernel
theorem dX9_told_0 : decode cX9_told 0 = .ok (.iload_n 1, 1) := by decide +kernel
theorem dX9_told_1 : decode cX9_told 1 = .ok (.tableswitch 162 0 11 #[63, 71, 79, 87, 92, 97, 102, 121, 126, 134, 146, 154], 63) := by decide +kernel
theorem dX9_told_64 : decode cX9_told 64 = .ok (.aload_n 0, 1) := by decide +kernel
theorem dX9_told_65 : decode cX9_told 65 = .ok (.getfield 12, 3) := by decide +kernel
theorem dX9_told_68 : decode cX9_told 68 = .ok (.invokevirtual 61, 3) := by decide +kernel
theorem dX9_told_71 : decode cX9_told 71 = .ok (.ireturn, 1) := by decide +kernel
theorem dX9_told_72 : decode cX9_told 72 = .ok (.aload_n 0, 1) := by decide +kernel
theorem dX9_told_73 : decode cX9_told 73 = .ok (.getfield 12, 3) := by decide +kernel
theorem dX9_told_76 : decode cX9_told 76 = .ok (.invokevirtual 65, 3) := by decide +kernel
theorem dX9_told_79 : decode cX9_told 79 = .ok (.ireturn, 1) := by decide +kernel
theorem dX9_told_80 : decode cX9_told 80 = .ok (.aload_n 0, 1) := by decide +kernel
theorem dX9_told_81 : decode cX9_told 81 = .ok (.getfield 12, 3) := by decide +kernel
theorem dX9_told_84 : decode cX9_told 84 = .ok (.invokevirtual 68, 3) := by decide +kernel
theorem dX9_told_87 : decode cX9_told 87 = .ok (.ireturn, 1) := by decide +kernel
theorem dX9_told_88 : decode cX9_told 88 = .ok (.aload_n 0, 1) := by decide +kernel
theorem dX9_told_89 : decode cX9_told 89 = .ok (.invokevirtual 71, 3) := by decide +kernel
theorem dX9_told_92 : decode cX9_told 92 = .ok (.ireturn, 1) := by decide +kernel
theorem dX9_told_93 : decode cX9_told 93 = .ok (.aload_n 0, 1) := by decide +kernel
theorem dX9_told_94 : decode cX9_told 94 = .ok (.invokevirtual 74, 3) := by decide +kernel
theorem dX9_told_97 : decode cX9_told 97 = .ok (.ireturn, 1) := by decide +kernel
theorem dX9_told_98 : decode cX9_told 98 = .ok (.aload_n 0, 1) := by decide +kernel
theorem dX9_told_99 : decode cX9_told 99 = .ok (.invokevirtual 77, 3) := by decide +kernel
theorem dX9_told_102 : decode cX9_told 102 = .ok (.ireturn, 1) := by decide +kernel
theorem dX9_told_103 : decode cX9_told 103 = .ok (.aload_n 0, 1) := by decide +kernel
theorem dX9_told_104 : decode cX9_told 104 = .ok (.getfield 12, 3) := by decide +kernel
theorem dX9_told_107 : decode cX9_told 107 = .ok (.aload_n 0, 1) := by decide +kernel
theorem dX9_told_108 : decode cX9_told 108 = .ok (.getfield 12, 3) := by decide +kernel
theorem dX9_told_111 : decode cX9_told 111 = .ok (.aload_n 0, 1) := by decide +kernel
theorem dX9_told_112 : decode cX9_told 112 = .ok (.invokevirtual 80, 3) := by decide +kernel
theorem dX9_told_115 : decode cX9_told 115 = .ok (.invokevirtual 83, 3) := by decide +kernel
theorem dX9_told_118 : decode cX9_told 118 = .ok (.invokestatic 87, 3) := by decide +kernel
theorem dX9_told_121 : decode cX9_told 121 = .ok (.ireturn, 1) := by decide +kernel
theorem dX9_told_122 : decode cX9_told 122 = .ok (.aload_n 0, 1) := by decide +kernel
theorem dX9_told_123 : decode cX9_told 123 = .ok (.invokevirtual 80, 3) := by decide +kernel
theorem dX9_told_126 : decode cX9_told 126 = .ok (.ireturn, 1) := by decide +kernel
theorem dX9_told_127 : decode cX9_told 127 = .ok (.aload_n 0, 1) := by decide +kernel
theorem dX9_told_128 : decode cX9_told 128 = .ok (.getfield 36, 3) := by decide +kernel
theorem dX9_told_131 : decode cX9_told 131 = .ok (.invokevirtual 93, 3) := by decide +kernel
theorem dX9_told_134 : decode cX9_told 134 = .ok (.ireturn, 1) := by decide +kernel
theorem dX9_told_135 : decode cX9_told 135 = .ok (.aload_n 0, 1) := by decide +kernel
theorem dX9_told_136 : decode cX9_told 136 = .ok (.getfield 36, 3) := by decide +kernel
theorem dX9_told_139 : decode cX9_told 139 = .ok (.aload_n 0, 1) := by decide +kernel
theorem dX9_told_140 : decode cX9_told 140 = .ok (.getfield 12, 3) := by decide +kernel
theorem dX9_told_143 : decode cX9_told 143 = .ok (.invokevirtual 94, 3) := by decide +kernel
theorem dX9_told_146 : decode cX9_told 146 = .ok (.ireturn, 1) := by decide +kernel
theorem dX9_told_147 : decode cX9_told 147 = .ok (.aload_n 0, 1) := by decide +kernel
theorem dX9_told_148 : decode cX9_told 148 = .ok (.getfield 19, 3) := by decide +kernel
theorem dX9_told_151 : decode cX9_told 151 = .ok (.invokevirtual 98, 3) := by decide +kernel
theorem dX9_told_154 : decode cX9_told 154 = .ok (.ireturn, 1) := by decide +kernel
theorem dX9_told_155 : decode cX9_told 155 = .ok (.aload_n 0, 1) := by decide +kernel
theorem dX9_told_156 : decode cX9_told 156 = .ok (.getfield 43, 3) := by decide +kernel
theorem dX9_told_159 : decode cX9_told 159 = .ok (.invokevirtual 99, 3) := by decide +kernel
theorem dX9_told_162 : decode cX9_told 162 = .ok (.ireturn, 1) := by decide +kernel
theorem dX9_told_163 : decode cX9_told 163 = .ok (.ldc 102, 2) := by decide +kernel
theorem dX9_told_165 : decode cX9_told 165 = .ok (.ireturn, 1) := by decide +kernel
theorem dX9_gridAt_0 : decode cX9_gridAt 0 = .ok (.aload_n 0, 1) := by decide +kernel
theorem dX9_gridAt_1 : decode cX9_gridAt 1 = .ok (.getfield 12, 3) := by decide +kernel
theorem dX9_gridAt_4 : decode cX9_gridAt 4 = .ok (.iload_n 1, 1) := by decide +kernel
theorem dX9_gridAt_5 : decode cX9_gridAt 5 = .ok (.invokevirtual 83, 3) := by decide +kernel
theorem dX9_gridAt_8 : decode cX9_gridAt 8 = .ok (.astore_n 3, 1) := by decide +kernel
theorem dX9_gridAt_9 : decode cX9_gridAt 9 = .ok (.aload_n 3, 1) := by decide +kernel
theorem dX9_gridAt_10 : decode cX9_gridAt 10 = .ok (.ifnonnull 6, 3) := by decide +kernel
theorem dX9_gridAt_13 : decode cX9_gridAt 13 = .ok (.ldc 103, 2) := by decide +kernel
theorem dX9_gridAt_15 : decode cX9_gridAt 15 = .ok (.ireturn, 1) := by decide +kernel
theorem dX9_gridAt_16 : decode cX9_gridAt 16 = .ok (.iload_n 2, 1) := by decide +kernel
theorem dX9_gridAt_17 : decode cX9_gridAt 17 = .ok (.tableswitch 131 0 10 #[59, 64, 69, 74, 79, 84, 89, 98, 107, 116, 125], 59) := by decide +kernel
theorem dX9_gridAt_76 : decode cX9_gridAt 76 = .ok (.aload_n 3, 1) := by decide +kernel
theorem dX9_gridAt_77 : decode cX9_gridAt 77 = .ok (.getfield 104, 3) := by decide +kernel
theorem dX9_gridAt_80 : decode cX9_gridAt 80 = .ok (.ireturn, 1) := by decide +kernel
theorem dX9_gridAt_81 : decode cX9_gridAt 81 = .ok (.aload_n 3, 1) := by decide +kernel
theorem dX9_gridAt_82 : decode cX9_gridAt 82 = .ok (.getfield 110, 3) := by decide +kernel
theorem dX9_gridAt_85 : decode cX9_gridAt 85 = .ok (.ireturn, 1) := by decide +kernel
theorem dX9_gridAt_86 : decode cX9_gridAt 86 = .ok (.aload_n 3, 1) := by decide +kernel
theorem dX9_gridAt_87 : decode cX9_gridAt 87 = .ok (.getfield 113, 3) := by decide +kernel
theorem dX9_gridAt_90 : decode cX9_gridAt 90 = .ok (.ireturn, 1) := by decide +kernel
theorem dX9_gridAt_91 : decode cX9_gridAt 91 = .ok (.aload_n 3, 1) := by decide +kernel
theorem dX9_gridAt_92 : decode cX9_gridAt 92 = .ok (.getfield 116, 3) := by decide +kernel
theorem dX9_gridAt_95 : decode cX9_gridAt 95 = .ok (.ireturn, 1) := by decide +kernel
theorem dX9_gridAt_96 : decode cX9_gridAt 96 = .ok (.aload_n 3, 1) := by decide +kernel
theorem dX9_gridAt_97 : decode cX9_gridAt 97 = .ok (.getfield 119, 3) := by decide +kernel
theorem dX9_gridAt_100 : decode cX9_gridAt 100 = .ok (.ireturn, 1) := by decide +kernel
theorem dX9_gridAt_101 : decode cX9_gridAt 101 = .ok (.aload_n 3, 1) := by decide +kernel
theorem dX9_gridAt_102 : decode cX9_gridAt 102 = .ok (.getfield 122, 3) := by decide +kernel
theorem dX9_gridAt_105 : decode cX9_gridAt 105 = .ok (.ireturn, 1) := by decide +kernel
theorem dX9_gridAt_106 : decode cX9_gridAt 106 = .ok (.aload_n 0, 1) := by decide +kernel
theorem dX9_gridAt_107 : decode cX9_gridAt 107 = .ok (.getfield 12, 3) := by decide +kernel
theorem dX9_gridAt_110 : decode cX9_gridAt 110 = .ok (.iload_n 1, 1) := by decide +kernel
theorem dX9_gridAt_111 : decode cX9_gridAt 111 = .ok (.invokevirtual 125, 3) := by decide +kernel
theorem dX9_gridAt_114 : decode cX9_gridAt 114 = .ok (.ireturn, 1) := by decide +kernel
theorem dX9_gridAt_115 : decode cX9_gridAt 115 = .ok (.aload_n 0, 1) := by decide +kernel
theorem dX9_gridAt_116 : decode cX9_gridAt 116 = .ok (.getfield 12, 3) := by decide +kernel
theorem dX9_gridAt_119 : decode cX9_gridAt 119 = .ok (.iload_n 1, 1) := by decide +kernel
theorem dX9_gridAt_120 : decode cX9_gridAt 120 = .ok (.invokevirtual 129, 3) := by decide +kernel
theorem dX9_gridAt_123 : decode cX9_gridAt 123 = .ok (.ireturn, 1) := by decide +kernel
theorem dX9_gridAt_124 : decode cX9_gridAt 124 = .ok (.aload_n 0, 1) := by decide +kernel
theorem dX9_gridAt_125 : decode cX9_gridAt 125 = .ok (.getfield 12, 3) := by decide +kernel
theorem dX9_gridAt_128 : decode cX9_gridAt 128 = .ok (.aload_n 3, 1) := by decide +kernel
theorem dX9_gridAt_129 : decode cX9_gridAt 129 = .ok (.invokestatic 132, 3) := by decide +kernel
theorem dX9_gridAt_132 : decode cX9_gridAt 132 = .ok (.ireturn, 1) := by decide +kernel
theorem dX9_gridAt_133 : decode cX9_gridAt 133 = .ok (.aload_n 0, 1) := by decide +kernel
theorem dX9_gridAt_134 : decode cX9_gridAt 134 = .ok (.getfield 12, 3) := by decide +kernel
theorem dX9_gridAt_137 : decode cX9_gridAt 137 = .ok (.aload_n 3, 1) := by decide +kernel
theorem dX9_gridAt_138 : decode cX9_gridAt 138 = .ok (.invokestatic 87, 3) := by decide +kernel
theorem dX9_gridAt_141 : decode cX9_gridAt 141 = .ok (.ireturn, 1) := by decide +kernel
theorem dX9_gridAt_142 : decode cX9_gridAt 142 = .ok (.aload_n 0, 1) := by decide +kernel
theorem dX9_gridAt_143 : decode cX9_gridAt 143 = .ok (.aload_n 3, 1) := by decide +kernel
theorem dX9_gridAt_144 : decode cX9_gridAt 144 = .ok (.invokevirtual 135, 3) := by decide +kernel
theorem dX9_gridAt_147 : decode cX9_gridAt 147 = .ok (.ireturn, 1) := by decide +kernel
theorem dX9_gridAt_148 : decode cX9_gridAt 148 = .ok (.ldc 102, 2) := by decide +kernel
theorem dX9_gridAt_150 : decode cX9_gridAt 150 = .ok (.ireturn, 1) := by decide +kernel
theorem dX9_nodeAt_0 : decode cX9_nodeAt 0 = .ok (.aload_n 0, 1) := by decide +kernel
theorem dX9_nodeAt_1 : decode cX9_nodeAt 1 = .ok (.getfield 12, 3) := by decide +kernel
theorem dX9_nodeAt_4 : decode cX9_nodeAt 4 = .ok (.iload_n 1, 1) := by decide +kernel
theorem dX9_nodeAt_5 : decode cX9_nodeAt 5 = .ok (.invokevirtual 83, 3) := by decide +kernel
theorem dX9_nodeAt_8 : decode cX9_nodeAt 8 = .ok (.astore 5, 2) := by decide +kernel
theorem dX9_nodeAt_10 : decode cX9_nodeAt 10 = .ok (.aload 5, 2) := by decide +kernel
theorem dX9_nodeAt_12 : decode cX9_nodeAt 12 = .ok (.ifnull 13, 3) := by decide +kernel
theorem dX9_nodeAt_15 : decode cX9_nodeAt 15 = .ok (.aload 5, 2) := by decide +kernel
theorem dX9_nodeAt_17 : decode cX9_nodeAt 17 = .ok (.iload_n 2, 1) := by decide +kernel
theorem dX9_nodeAt_18 : decode cX9_nodeAt 18 = .ok (.iload_n 3, 1) := by decide +kernel
theorem dX9_nodeAt_19 : decode cX9_nodeAt 19 = .ok (.invokevirtual 139, 3) := by decide +kernel
theorem dX9_nodeAt_22 : decode cX9_nodeAt 22 = .ok (.ifCond .ne 6, 3) := by decide +kernel
theorem dX9_nodeAt_25 : decode cX9_nodeAt 25 = .ok (.ldc 103, 2) := by decide +kernel
theorem dX9_nodeAt_27 : decode cX9_nodeAt 27 = .ok (.ireturn, 1) := by decide +kernel
theorem dX9_nodeAt_28 : decode cX9_nodeAt 28 = .ok (.iload 4, 2) := by decide +kernel
theorem dX9_nodeAt_30 : decode cX9_nodeAt 30 = .ok (.iconst 0, 1) := by decide +kernel
theorem dX9_nodeAt_31 : decode cX9_nodeAt 31 = .ok (.iconst 3, 1) := by decide +kernel
theorem dX9_nodeAt_32 : decode cX9_nodeAt 32 = .ok (.invokestatic 143, 3) := by decide +kernel
theorem dX9_nodeAt_35 : decode cX9_nodeAt 35 = .ok (.ifCond .ne 6, 3) := by decide +kernel
theorem dX9_nodeAt_38 : decode cX9_nodeAt 38 = .ok (.ldc 102, 2) := by decide +kernel
theorem dX9_nodeAt_40 : decode cX9_nodeAt 40 = .ok (.ireturn, 1) := by decide +kernel
theorem dX9_nodeAt_41 : decode cX9_nodeAt 41 = .ok (.iload 4, 2) := by decide +kernel
theorem dX9_nodeAt_43 : decode cX9_nodeAt 43 = .ok (.iconst 1, 1) := by decide +kernel
theorem dX9_nodeAt_44 : decode cX9_nodeAt 44 = .ok (.if_icmp .gt 24, 3) := by decide +kernel
theorem dX9_nodeAt_47 : decode cX9_nodeAt 47 = .ok (.aload 5, 2) := by decide +kernel
theorem dX9_nodeAt_49 : decode cX9_nodeAt 49 = .ok (.iload_n 2, 1) := by decide +kernel
theorem dX9_nodeAt_50 : decode cX9_nodeAt 50 = .ok (.iload_n 3, 1) := by decide +kernel
theorem dX9_nodeAt_51 : decode cX9_nodeAt 51 = .ok (.iload 4, 2) := by decide +kernel
theorem dX9_nodeAt_53 : decode cX9_nodeAt 53 = .ok (.ifCond .ne 7, 3) := by decide +kernel
theorem dX9_nodeAt_56 : decode cX9_nodeAt 56 = .ok (.iconst 0, 1) := by decide +kernel
theorem dX9_nodeAt_57 : decode cX9_nodeAt 57 = .ok (.goto 4, 3) := by decide +kernel
theorem dX9_nodeAt_60 : decode cX9_nodeAt 60 = .ok (.iconst 1, 1) := by decide +kernel
theorem dX9_nodeAt_61 : decode cX9_nodeAt 61 = .ok (.invokevirtual 147, 3) := by decide +kernel
theorem dX9_nodeAt_64 : decode cX9_nodeAt 64 = .ok (.ldc 151, 2) := by decide +kernel
theorem dX9_nodeAt_66 : decode cX9_nodeAt 66 = .ok (.iadd, 1) := by decide +kernel
theorem dX9_nodeAt_67 : decode cX9_nodeAt 67 = .ok (.ireturn, 1) := by decide +kernel
theorem dX9_nodeAt_68 : decode cX9_nodeAt 68 = .ok (.aload_n 0, 1) := by decide +kernel
theorem dX9_nodeAt_69 : decode cX9_nodeAt 69 = .ok (.getfield 12, 3) := by decide +kernel
theorem dX9_nodeAt_72 : decode cX9_nodeAt 72 = .ok (.aload 5, 2) := by decide +kernel
theorem dX9_nodeAt_74 : decode cX9_nodeAt 74 = .ok (.getfield 104, 3) := by decide +kernel
theorem dX9_nodeAt_77 : decode cX9_nodeAt 77 = .ok (.invokevirtual 83, 3) := by decide +kernel
theorem dX9_nodeAt_80 : decode cX9_nodeAt 80 = .ok (.astore 6, 2) := by decide +kernel
theorem dX9_nodeAt_82 : decode cX9_nodeAt 82 = .ok (.aload 6, 2) := by decide +kernel
theorem dX9_nodeAt_84 : decode cX9_nodeAt 84 = .ok (.ifnonnull 5, 3) := by decide +kernel
theorem dX9_nodeAt_87 : decode cX9_nodeAt 87 = .ok (.iconst (-1), 1) := by decide +kernel
theorem dX9_nodeAt_88 : decode cX9_nodeAt 88 = .ok (.ireturn, 1) := by decide +kernel
theorem dX9_nodeAt_89 : decode cX9_nodeAt 89 = .ok (.aload 6, 2) := by decide +kernel
theorem dX9_nodeAt_91 : decode cX9_nodeAt 91 = .ok (.aload_n 0, 1) := by decide +kernel
theorem dX9_nodeAt_92 : decode cX9_nodeAt 92 = .ok (.getfield 12, 3) := by decide +kernel
theorem dX9_nodeAt_95 : decode cX9_nodeAt 95 = .ok (.invokevirtual 65, 3) := by decide +kernel
theorem dX9_nodeAt_98 : decode cX9_nodeAt 98 = .ok (.aload 5, 2) := by decide +kernel
theorem dX9_nodeAt_100 : decode cX9_nodeAt 100 = .ok (.iload_n 2, 1) := by decide +kernel
theorem dX9_nodeAt_101 : decode cX9_nodeAt 101 = .ok (.invokevirtual 152, 3) := by decide +kernel
theorem dX9_nodeAt_104 : decode cX9_nodeAt 104 = .ok (.aload 5, 2) := by decide +kernel
theorem dX9_nodeAt_106 : decode cX9_nodeAt 106 = .ok (.iload_n 3, 1) := by decide +kernel
theorem dX9_nodeAt_107 : decode cX9_nodeAt 107 = .ok (.invokevirtual 155, 3) := by decide +kernel
theorem dX9_nodeAt_110 : decode cX9_nodeAt 110 = .ok (.iload 4, 2) := by decide +kernel
theorem dX9_nodeAt_112 : decode cX9_nodeAt 112 = .ok (.iconst 2, 1) := by decide +kernel
theorem dX9_nodeAt_113 : decode cX9_nodeAt 113 = .ok (.if_icmp .ne 7, 3) := by decide +kernel
theorem dX9_nodeAt_116 : decode cX9_nodeAt 116 = .ok (.iconst 0, 1) := by decide +kernel
theorem dX9_nodeAt_117 : decode cX9_nodeAt 117 = .ok (.goto 4, 3) := by decide +kernel
theorem dX9_nodeAt_120 : decode cX9_nodeAt 120 = .ok (.iconst 1, 1) := by decide +kernel
theorem dX9_nodeAt_121 : decode cX9_nodeAt 121 = .ok (.invokevirtual 158, 3) := by decide +kernel
theorem dX9_nodeAt_124 : decode cX9_nodeAt 124 = .ok (.ldc 151, 2) := by decide +kernel
theorem dX9_nodeAt_126 : decode cX9_nodeAt 126 = .ok (.iadd, 1) := by decide +kernel
theorem dX9_nodeAt_127 : decode cX9_nodeAt 127 = .ok (.ireturn, 1) := by decide +kernel
theorem dX9_cellAt_0 : decode cX9_cellAt 0 = .ok (.aload_n 0, 1) := by decide +kernel
theorem dX9_cellAt_1 : decode cX9_cellAt 1 = .ok (.getfield 12, 3) := by decide +kernel
theorem dX9_cellAt_4 : decode cX9_cellAt 4 = .ok (.iload_n 1, 1) := by decide +kernel
theorem dX9_cellAt_5 : decode cX9_cellAt 5 = .ok (.invokevirtual 83, 3) := by decide +kernel
theorem dX9_cellAt_8 : decode cX9_cellAt 8 = .ok (.astore 5, 2) := by decide +kernel
theorem dX9_cellAt_10 : decode cX9_cellAt 10 = .ok (.aload 5, 2) := by decide +kernel
theorem dX9_cellAt_12 : decode cX9_cellAt 12 = .ok (.ifnull 13, 3) := by decide +kernel
theorem dX9_cellAt_15 : decode cX9_cellAt 15 = .ok (.aload 5, 2) := by decide +kernel
theorem dX9_cellAt_17 : decode cX9_cellAt 17 = .ok (.iload_n 2, 1) := by decide +kernel
theorem dX9_cellAt_18 : decode cX9_cellAt 18 = .ok (.iload_n 3, 1) := by decide +kernel
theorem dX9_cellAt_19 : decode cX9_cellAt 19 = .ok (.invokevirtual 162, 3) := by decide +kernel
theorem dX9_cellAt_22 : decode cX9_cellAt 22 = .ok (.ifCond .ne 7, 3) := by decide +kernel
theorem dX9_cellAt_25 : decode cX9_cellAt 25 = .ok (.ldc2_w 165, 3) := by decide +kernel
theorem dX9_cellAt_28 : decode cX9_cellAt 28 = .ok (.lreturn, 1) := by decide +kernel
theorem dX9_cellAt_29 : decode cX9_cellAt 29 = .ok (.aload_n 0, 1) := by decide +kernel
theorem dX9_cellAt_30 : decode cX9_cellAt 30 = .ok (.getfield 57, 3) := by decide +kernel
theorem dX9_cellAt_33 : decode cX9_cellAt 33 = .ok (.aload 5, 2) := by decide +kernel
theorem dX9_cellAt_35 : decode cX9_cellAt 35 = .ok (.iload_n 2, 1) := by decide +kernel
theorem dX9_cellAt_36 : decode cX9_cellAt 36 = .ok (.iload_n 3, 1) := by decide +kernel
end
section
theorem dX9_cellAt_37 : decode cX9_cellAt 37 = .ok (.invokevirtual 167, 3) := by decide +kernel
theorem dX9_cellAt_40 : decode cX9_cellAt 40 = .ok (.iload 4, 2) := by decide +kernel
theorem dX9_cellAt_42 : decode cX9_cellAt 42 = .ok (.tableswitch 79 0 3 #[30, 39, 55, 71], 30) := by decide +kernel
theorem dX9_cellAt_72 : decode cX9_cellAt 72 = .ok (.aload_n 0, 1) := by decide +kernel
theorem dX9_cellAt_73 : decode cX9_cellAt 73 = .ok (.getfield 57, 3) := by decide +kernel
theorem dX9_cellAt_76 : decode cX9_cellAt 76 = .ok (.invokevirtual 171, 3) := by decide +kernel
theorem dX9_cellAt_79 : decode cX9_cellAt 79 = .ok (.i2l, 1) := by decide +kernel
theorem dX9_cellAt_80 : decode cX9_cellAt 80 = .ok (.lreturn, 1) := by decide +kernel
theorem dX9_cellAt_81 : decode cX9_cellAt 81 = .ok (.aload_n 0, 1) := by decide +kernel
theorem dX9_cellAt_82 : decode cX9_cellAt 82 = .ok (.getfield 57, 3) := by decide +kernel
theorem dX9_cellAt_85 : decode cX9_cellAt 85 = .ok (.invokevirtual 174, 3) := by decide +kernel
theorem dX9_cellAt_88 : decode cX9_cellAt 88 = .ok (.ifCond .eq 7, 3) := by decide +kernel
theorem dX9_cellAt_91 : decode cX9_cellAt 91 = .ok (.lconst 1, 1) := by decide +kernel
theorem dX9_cellAt_92 : decode cX9_cellAt 92 = .ok (.goto 4, 3) := by decide +kernel
theorem dX9_cellAt_95 : decode cX9_cellAt 95 = .ok (.lconst 0, 1) := by decide +kernel
theorem dX9_cellAt_96 : decode cX9_cellAt 96 = .ok (.lreturn, 1) := by decide +kernel
theorem dX9_cellAt_97 : decode cX9_cellAt 97 = .ok (.aload_n 0, 1) := by decide +kernel
theorem dX9_cellAt_98 : decode cX9_cellAt 98 = .ok (.getfield 57, 3) := by decide +kernel
theorem dX9_cellAt_101 : decode cX9_cellAt 101 = .ok (.invokevirtual 178, 3) := by decide +kernel
theorem dX9_cellAt_104 : decode cX9_cellAt 104 = .ok (.ifCond .eq 7, 3) := by decide +kernel
theorem dX9_cellAt_107 : decode cX9_cellAt 107 = .ok (.lconst 1, 1) := by decide +kernel
theorem dX9_cellAt_108 : decode cX9_cellAt 108 = .ok (.goto 4, 3) := by decide +kernel
theorem dX9_cellAt_111 : decode cX9_cellAt 111 = .ok (.lconst 0, 1) := by decide +kernel
theorem dX9_cellAt_112 : decode cX9_cellAt 112 = .ok (.lreturn, 1) := by decide +kernel
theorem dX9_cellAt_113 : decode cX9_cellAt 113 = .ok (.aload_n 0, 1) := by decide +kernel
theorem dX9_cellAt_114 : decode cX9_cellAt 114 = .ok (.getfield 57, 3) := by decide +kernel
theorem dX9_cellAt_117 : decode cX9_cellAt 117 = .ok (.invokevirtual 181, 3) := by decide +kernel
theorem dX9_cellAt_120 : decode cX9_cellAt 120 = .ok (.lreturn, 1) := by decide +kernel
theorem dX9_cellAt_121 : decode cX9_cellAt 121 = .ok (.ldc2_w 185, 3) := by decide +kernel
theorem dX9_cellAt_124 : decode cX9_cellAt 124 = .ok (.lreturn, 1) := by decide +kernel
theorem dX9_which_0 : decode cX9_which 0 = .ok (.iload_n 1, 1) := by decide +kernel
theorem dX9_which_1 : decode cX9_which 1 = .ok (.iload_n 2, 1) := by decide +kernel
theorem dX9_which_2 : decode cX9_which 2 = .ok (.invokestatic 187, 3) := by decide +kernel
theorem dX9_which_5 : decode cX9_which 5 = .ok (.ifCond .eq 15, 3) := by decide +kernel
theorem dX9_which_8 : decode cX9_which 8 = .ok (.aload_n 0, 1) := by decide +kernel
theorem dX9_which_9 : decode cX9_which 9 = .ok (.getfield 12, 3) := by decide +kernel
theorem dX9_which_12 : decode cX9_which 12 = .ok (.iload_n 1, 1) := by decide +kernel
theorem dX9_which_13 : decode cX9_which 13 = .ok (.iload_n 2, 1) := by decide +kernel
theorem dX9_which_14 : decode cX9_which 14 = .ok (.invokevirtual 190, 3) := by decide +kernel
theorem dX9_which_17 : decode cX9_which 17 = .ok (.goto 5, 3) := by decide +kernel
theorem dX9_which_20 : decode cX9_which 20 = .ok (.ldc 102, 2) := by decide +kernel
theorem dX9_which_22 : decode cX9_which 22 = .ok (.ireturn, 1) := by decide +kernel
theorem dX9_moved_0 : decode cX9_moved 0 = .ok (.iload_n 1, 1) := by decide +kernel
theorem dX9_moved_1 : decode cX9_moved 1 = .ok (.iload_n 2, 1) := by decide +kernel
theorem dX9_moved_2 : decode cX9_moved 2 = .ok (.invokestatic 187, 3) := by decide +kernel
theorem dX9_moved_5 : decode cX9_moved 5 = .ok (.ifCond .eq 12, 3) := by decide +kernel
theorem dX9_moved_8 : decode cX9_moved 8 = .ok (.iload_n 3, 1) := by decide +kernel
theorem dX9_moved_9 : decode cX9_moved 9 = .ok (.iconst 0, 1) := by decide +kernel
theorem dX9_moved_10 : decode cX9_moved 10 = .ok (.iconst 1, 1) := by decide +kernel
theorem dX9_moved_11 : decode cX9_moved 11 = .ok (.invokestatic 143, 3) := by decide +kernel
theorem dX9_moved_14 : decode cX9_moved 14 = .ok (.ifCond .ne 6, 3) := by decide +kernel
theorem dX9_moved_17 : decode cX9_moved 17 = .ok (.ldc 102, 2) := by decide +kernel
theorem dX9_moved_19 : decode cX9_moved 19 = .ok (.ireturn, 1) := by decide +kernel
theorem dX9_moved_20 : decode cX9_moved 20 = .ok (.iload_n 3, 1) := by decide +kernel
theorem dX9_moved_21 : decode cX9_moved 21 = .ok (.ifCond .ne 19, 3) := by decide +kernel
theorem dX9_moved_24 : decode cX9_moved 24 = .ok (.iload_n 1, 1) := by decide +kernel
theorem dX9_moved_25 : decode cX9_moved 25 = .ok (.aload_n 0, 1) := by decide +kernel
theorem dX9_moved_26 : decode cX9_moved 26 = .ok (.getfield 12, 3) := by decide +kernel
theorem dX9_moved_29 : decode cX9_moved 29 = .ok (.iload_n 1, 1) := by decide +kernel
theorem dX9_moved_30 : decode cX9_moved 30 = .ok (.iload_n 2, 1) := by decide +kernel
theorem dX9_moved_31 : decode cX9_moved 31 = .ok (.iconst 0, 1) := by decide +kernel
theorem dX9_moved_32 : decode cX9_moved 32 = .ok (.invokevirtual 194, 3) := by decide +kernel
theorem dX9_moved_35 : decode cX9_moved 35 = .ok (.iadd, 1) := by decide +kernel
theorem dX9_moved_36 : decode cX9_moved 36 = .ok (.ldc 151, 2) := by decide +kernel
theorem dX9_moved_38 : decode cX9_moved 38 = .ok (.iadd, 1) := by decide +kernel
theorem dX9_moved_39 : decode cX9_moved 39 = .ok (.ireturn, 1) := by decide +kernel
theorem dX9_moved_40 : decode cX9_moved 40 = .ok (.iload_n 2, 1) := by decide +kernel
theorem dX9_moved_41 : decode cX9_moved 41 = .ok (.aload_n 0, 1) := by decide +kernel
theorem dX9_moved_42 : decode cX9_moved 42 = .ok (.getfield 12, 3) := by decide +kernel
theorem dX9_moved_45 : decode cX9_moved 45 = .ok (.iload_n 1, 1) := by decide +kernel
theorem dX9_moved_46 : decode cX9_moved 46 = .ok (.iload_n 2, 1) := by decide +kernel
theorem dX9_moved_47 : decode cX9_moved 47 = .ok (.iconst 1, 1) := by decide +kernel
theorem dX9_moved_48 : decode cX9_moved 48 = .ok (.invokevirtual 194, 3) := by decide +kernel
theorem dX9_moved_51 : decode cX9_moved 51 = .ok (.iadd, 1) := by decide +kernel
theorem dX9_moved_52 : decode cX9_moved 52 = .ok (.ldc 151, 2) := by decide +kernel
theorem dX9_moved_54 : decode cX9_moved 54 = .ok (.iadd, 1) := by decide +kernel
theorem dX9_moved_55 : decode cX9_moved 55 = .ok (.ireturn, 1) := by decide +kernel
theorem dX9_back_0 : decode cX9_back 0 = .ok (.iload_n 1, 1) := by decide +kernel
theorem dX9_back_1 : decode cX9_back 1 = .ok (.iload_n 2, 1) := by decide +kernel
theorem dX9_back_2 : decode cX9_back 2 = .ok (.invokestatic 197, 3) := by decide +kernel
theorem dX9_back_5 : decode cX9_back 5 = .ok (.ifCond .eq 12, 3) := by decide +kernel
theorem dX9_back_8 : decode cX9_back 8 = .ok (.iload_n 3, 1) := by decide +kernel
theorem dX9_back_9 : decode cX9_back 9 = .ok (.iconst 0, 1) := by decide +kernel
theorem dX9_back_10 : decode cX9_back 10 = .ok (.iconst 3, 1) := by decide +kernel
theorem dX9_back_11 : decode cX9_back 11 = .ok (.invokestatic 143, 3) := by decide +kernel
theorem dX9_back_14 : decode cX9_back 14 = .ok (.ifCond .ne 6, 3) := by decide +kernel
theorem dX9_back_17 : decode cX9_back 17 = .ok (.ldc 102, 2) := by decide +kernel
theorem dX9_back_19 : decode cX9_back 19 = .ok (.ireturn, 1) := by decide +kernel
theorem dX9_back_20 : decode cX9_back 20 = .ok (.aload_n 0, 1) := by decide +kernel
theorem dX9_back_21 : decode cX9_back 21 = .ok (.getfield 50, 3) := by decide +kernel
theorem dX9_back_24 : decode cX9_back 24 = .ok (.aload_n 0, 1) := by decide +kernel
theorem dX9_back_25 : decode cX9_back 25 = .ok (.getfield 12, 3) := by decide +kernel
theorem dX9_back_28 : decode cX9_back 28 = .ok (.iload_n 1, 1) := by decide +kernel
theorem dX9_back_29 : decode cX9_back 29 = .ok (.iload_n 2, 1) := by decide +kernel
theorem dX9_back_30 : decode cX9_back 30 = .ok (.invokevirtual 200, 3) := by decide +kernel
theorem dX9_back_33 : decode cX9_back 33 = .ok (.iload_n 3, 1) := by decide +kernel
theorem dX9_back_34 : decode cX9_back 34 = .ok (.tableswitch 53 0 2 #[26, 34, 42], 26) := by decide +kernel
theorem dX9_back_60 : decode cX9_back 60 = .ok (.aload_n 0, 1) := by decide +kernel
theorem dX9_back_61 : decode cX9_back 61 = .ok (.getfield 50, 3) := by decide +kernel
theorem dX9_back_64 : decode cX9_back 64 = .ok (.invokevirtual 204, 3) := by decide +kernel
theorem dX9_back_67 : decode cX9_back 67 = .ok (.ireturn, 1) := by decide +kernel
theorem dX9_back_68 : decode cX9_back 68 = .ok (.aload_n 0, 1) := by decide +kernel
theorem dX9_back_69 : decode cX9_back 69 = .ok (.getfield 50, 3) := by decide +kernel
theorem dX9_back_72 : decode cX9_back 72 = .ok (.invokevirtual 207, 3) := by decide +kernel
theorem dX9_back_75 : decode cX9_back 75 = .ok (.ireturn, 1) := by decide +kernel
theorem dX9_back_76 : decode cX9_back 76 = .ok (.aload_n 0, 1) := by decide +kernel
theorem dX9_back_77 : decode cX9_back 77 = .ok (.getfield 50, 3) := by decide +kernel
theorem dX9_back_80 : decode cX9_back 80 = .ok (.invokevirtual 210, 3) := by decide +kernel
theorem dX9_back_83 : decode cX9_back 83 = .ok (.ldc 151, 2) := by decide +kernel
theorem dX9_back_85 : decode cX9_back 85 = .ok (.iadd, 1) := by decide +kernel
theorem dX9_back_86 : decode cX9_back 86 = .ok (.ireturn, 1) := by decide +kernel
theorem dX9_back_87 : decode cX9_back 87 = .ok (.aload_n 0, 1) := by decide +kernel
theorem dX9_back_88 : decode cX9_back 88 = .ok (.getfield 50, 3) := by decide +kernel
theorem dX9_back_91 : decode cX9_back 91 = .ok (.invokevirtual 213, 3) := by decide +kernel
theorem dX9_back_94 : decode cX9_back 94 = .ok (.ldc 151, 2) := by decide +kernel
theorem dX9_back_96 : decode cX9_back 96 = .ok (.iadd, 1) := by decide +kernel
theorem dX9_back_97 : decode cX9_back 97 = .ok (.ireturn, 1) := by decide +kernel
theorem dX9_grid_0 : decode cX9_grid 0 = .ok (.iload_n 1, 1) := by decide +kernel
theorem dX9_grid_1 : decode cX9_grid 1 = .ok (.iconst (-1), 1) := by decide +kernel
theorem dX9_grid_2 : decode cX9_grid 2 = .ok (.if_icmp .eq 17, 3) := by decide +kernel
theorem dX9_grid_5 : decode cX9_grid 5 = .ok (.aload_n 0, 1) := by decide +kernel
theorem dX9_grid_6 : decode cX9_grid 6 = .ok (.getfield 12, 3) := by decide +kernel
theorem dX9_grid_9 : decode cX9_grid 9 = .ok (.iload_n 1, 1) := by decide +kernel
theorem dX9_grid_10 : decode cX9_grid 10 = .ok (.invokevirtual 83, 3) := by decide +kernel
theorem dX9_grid_13 : decode cX9_grid 13 = .ok (.ifnonnull 6, 3) := by decide +kernel
theorem dX9_grid_16 : decode cX9_grid 16 = .ok (.ldc 103, 2) := by decide +kernel
theorem dX9_grid_18 : decode cX9_grid 18 = .ok (.ireturn, 1) := by decide +kernel
theorem dX9_grid_19 : decode cX9_grid 19 = .ok (.iload_n 2, 1) := by decide +kernel
theorem dX9_grid_20 : decode cX9_grid 20 = .ok (.iload_n 3, 1) := by decide +kernel
theorem dX9_grid_21 : decode cX9_grid 21 = .ok (.iload 4, 2) := by decide +kernel
theorem dX9_grid_23 : decode cX9_grid 23 = .ok (.iload 5, 2) := by decide +kernel
theorem dX9_grid_25 : decode cX9_grid 25 = .ok (.iload 6, 2) := by decide +kernel
theorem dX9_grid_27 : decode cX9_grid 27 = .ok (.invokestatic 216, 3) := by decide +kernel
theorem dX9_grid_30 : decode cX9_grid 30 = .ok (.ifCond .ne 6, 3) := by decide +kernel
theorem dX9_grid_33 : decode cX9_grid 33 = .ok (.ldc 102, 2) := by decide +kernel
theorem dX9_grid_35 : decode cX9_grid 35 = .ok (.ireturn, 1) := by decide +kernel
theorem dX9_grid_36 : decode cX9_grid 36 = .ok (.iload_n 2, 1) := by decide +kernel
theorem dX9_grid_37 : decode cX9_grid 37 = .ok (.iload 5, 2) := by decide +kernel
theorem dX9_grid_39 : decode cX9_grid 39 = .ok (.iconst 1, 1) := by decide +kernel
theorem dX9_grid_40 : decode cX9_grid 40 = .ok (.isub, 1) := by decide +kernel
theorem dX9_grid_41 : decode cX9_grid 41 = .ok (.iload 4, 2) := by decide +kernel
theorem dX9_grid_43 : decode cX9_grid 43 = .ok (.imul, 1) := by decide +kernel
theorem dX9_grid_44 : decode cX9_grid 44 = .ok (.iadd, 1) := by decide +kernel
theorem dX9_grid_45 : decode cX9_grid 45 = .ok (.istore 7, 2) := by decide +kernel
theorem dX9_grid_47 : decode cX9_grid 47 = .ok (.iload_n 3, 1) := by decide +kernel
theorem dX9_grid_48 : decode cX9_grid 48 = .ok (.iload 6, 2) := by decide +kernel
theorem dX9_grid_50 : decode cX9_grid 50 = .ok (.iconst 1, 1) := by decide +kernel
theorem dX9_grid_51 : decode cX9_grid 51 = .ok (.isub, 1) := by decide +kernel
theorem dX9_grid_52 : decode cX9_grid 52 = .ok (.iload 4, 2) := by decide +kernel
theorem dX9_grid_54 : decode cX9_grid 54 = .ok (.imul, 1) := by decide +kernel
theorem dX9_grid_55 : decode cX9_grid 55 = .ok (.iadd, 1) := by decide +kernel
theorem dX9_grid_56 : decode cX9_grid 56 = .ok (.istore 8, 2) := by decide +kernel
theorem dX9_grid_58 : decode cX9_grid 58 = .ok (.aload_n 0, 1) := by decide +kernel
theorem dX9_grid_59 : decode cX9_grid 59 = .ok (.getfield 12, 3) := by decide +kernel
theorem dX9_grid_62 : decode cX9_grid 62 = .ok (.iload_n 1, 1) := by decide +kernel
theorem dX9_grid_63 : decode cX9_grid 63 = .ok (.iload 4, 2) := by decide +kernel
theorem dX9_grid_65 : decode cX9_grid 65 = .ok (.iload_n 2, 1) := by decide +kernel
theorem dX9_grid_66 : decode cX9_grid 66 = .ok (.iload_n 3, 1) := by decide +kernel
theorem dX9_grid_67 : decode cX9_grid 67 = .ok (.iload 7, 2) := by decide +kernel
theorem dX9_grid_69 : decode cX9_grid 69 = .ok (.iload 8, 2) := by decide +kernel
theorem dX9_grid_71 : decode cX9_grid 71 = .ok (.invokevirtual 220, 3) := by decide +kernel
theorem dX9_grid_74 : decode cX9_grid 74 = .ok (.ifCond .eq 20, 3) := by decide +kernel
theorem dX9_grid_77 : decode cX9_grid 77 = .ok (.aload_n 0, 1) := by decide +kernel
theorem dX9_grid_78 : decode cX9_grid 78 = .ok (.getfield 12, 3) := by decide +kernel
theorem dX9_grid_81 : decode cX9_grid 81 = .ok (.iload_n 1, 1) := by decide +kernel
theorem dX9_grid_82 : decode cX9_grid 82 = .ok (.iload_n 2, 1) := by decide +kernel
theorem dX9_grid_83 : decode cX9_grid 83 = .ok (.iload_n 3, 1) := by decide +kernel
theorem dX9_grid_84 : decode cX9_grid 84 = .ok (.iload 7, 2) := by decide +kernel
theorem dX9_grid_86 : decode cX9_grid 86 = .ok (.iload 8, 2) := by decide +kernel
theorem dX9_grid_88 : decode cX9_grid 88 = .ok (.invokevirtual 224, 3) := by decide +kernel
theorem dX9_grid_91 : decode cX9_grid 91 = .ok (.ifCond .ne 6, 3) := by decide +kernel
theorem dX9_grid_94 : decode cX9_grid 94 = .ok (.ldc 227, 2) := by decide +kernel
theorem dX9_grid_96 : decode cX9_grid 96 = .ok (.ireturn, 1) := by decide +kernel
theorem dX9_grid_97 : decode cX9_grid 97 = .ok (.aload_n 0, 1) := by decide +kernel
theorem dX9_grid_98 : decode cX9_grid 98 = .ok (.getfield 12, 3) := by decide +kernel
theorem dX9_grid_101 : decode cX9_grid 101 = .ok (.invokevirtual 61, 3) := by decide +kernel
theorem dX9_grid_104 : decode cX9_grid 104 = .ok (.bipush 6, 2) := by decide +kernel
theorem dX9_grid_106 : decode cX9_grid 106 = .ok (.if_icmp .lt 6, 3) := by decide +kernel
theorem dX9_grid_109 : decode cX9_grid 109 = .ok (.ldc 228, 2) := by decide +kernel
theorem dX9_grid_111 : decode cX9_grid 111 = .ok (.ireturn, 1) := by decide +kernel
theorem dX9_grid_112 : decode cX9_grid 112 = .ok (.aload_n 0, 1) := by decide +kernel
theorem dX9_grid_113 : decode cX9_grid 113 = .ok (.getfield 19, 3) := by decide +kernel
theorem dX9_grid_116 : decode cX9_grid 116 = .ok (.aload_n 0, 1) := by decide +kernel
theorem dX9_grid_117 : decode cX9_grid 117 = .ok (.getfield 12, 3) := by decide +kernel
theorem dX9_grid_120 : decode cX9_grid 120 = .ok (.invokevirtual 229, 3) := by decide +kernel
theorem dX9_grid_123 : decode cX9_grid 123 = .ok (.aload_n 0, 1) := by decide +kernel
theorem dX9_grid_124 : decode cX9_grid 124 = .ok (.getfield 12, 3) := by decide +kernel
theorem dX9_grid_127 : decode cX9_grid 127 = .ok (.iload_n 1, 1) := by decide +kernel
theorem dX9_grid_128 : decode cX9_grid 128 = .ok (.iload_n 2, 1) := by decide +kernel
theorem dX9_grid_129 : decode cX9_grid 129 = .ok (.iload_n 3, 1) := by decide +kernel
theorem dX9_grid_130 : decode cX9_grid 130 = .ok (.iload 4, 2) := by decide +kernel
theorem dX9_grid_132 : decode cX9_grid 132 = .ok (.iload 5, 2) := by decide +kernel
theorem dX9_grid_134 : decode cX9_grid 134 = .ok (.iload 6, 2) := by decide +kernel
theorem dX9_grid_136 : decode cX9_grid 136 = .ok (.invokevirtual 233, 3) := by decide +kernel
theorem dX9_grid_139 : decode cX9_grid 139 = .ok (.ireturn, 1) := by decide +kernel
theorem dX9_node_0 : decode cX9_node 0 = .ok (.aload_n 0, 1) := by decide +kernel
theorem dX9_node_1 : decode cX9_node 1 = .ok (.getfield 12, 3) := by decide +kernel
theorem dX9_node_4 : decode cX9_node 4 = .ok (.iload_n 1, 1) := by decide +kernel
theorem dX9_node_5 : decode cX9_node 5 = .ok (.invokevirtual 83, 3) := by decide +kernel
theorem dX9_node_8 : decode cX9_node 8 = .ok (.astore 6, 2) := by decide +kernel
theorem dX9_node_10 : decode cX9_node 10 = .ok (.aload 6, 2) := by decide +kernel
theorem dX9_node_12 : decode cX9_node 12 = .ok (.ifnull 13, 3) := by decide +kernel
theorem dX9_node_15 : decode cX9_node 15 = .ok (.aload 6, 2) := by decide +kernel
theorem dX9_node_17 : decode cX9_node 17 = .ok (.iload_n 2, 1) := by decide +kernel
theorem dX9_node_18 : decode cX9_node 18 = .ok (.iload_n 3, 1) := by decide +kernel
theorem dX9_node_19 : decode cX9_node 19 = .ok (.invokevirtual 139, 3) := by decide +kernel
theorem dX9_node_22 : decode cX9_node 22 = .ok (.ifCond .ne 6, 3) := by decide +kernel
theorem dX9_node_25 : decode cX9_node 25 = .ok (.ldc 103, 2) := by decide +kernel
theorem dX9_node_27 : decode cX9_node 27 = .ok (.ireturn, 1) := by decide +kernel
theorem dX9_node_28 : decode cX9_node 28 = .ok (.iload 4, 2) := by decide +kernel
theorem dX9_node_30 : decode cX9_node 30 = .ok (.iload 5, 2) := by decide +kernel
theorem dX9_node_32 : decode cX9_node 32 = .ok (.invokestatic 237, 3) := by decide +kernel
theorem dX9_node_35 : decode cX9_node 35 = .ok (.ifCond .ne 6, 3) := by decide +kernel
theorem dX9_node_38 : decode cX9_node 38 = .ok (.ldc 102, 2) := by decide +kernel
theorem dX9_node_40 : decode cX9_node 40 = .ok (.ireturn, 1) := by decide +kernel
theorem dX9_node_41 : decode cX9_node 41 = .ok (.aload_n 0, 1) := by decide +kernel
theorem dX9_node_42 : decode cX9_node 42 = .ok (.getfield 19, 3) := by decide +kernel
theorem dX9_node_45 : decode cX9_node 45 = .ok (.aload_n 0, 1) := by decide +kernel
theorem dX9_node_46 : decode cX9_node 46 = .ok (.getfield 12, 3) := by decide +kernel
theorem dX9_node_49 : decode cX9_node 49 = .ok (.invokevirtual 229, 3) := by decide +kernel
theorem dX9_node_52 : decode cX9_node 52 = .ok (.aload 6, 2) := by decide +kernel
theorem dX9_node_54 : decode cX9_node 54 = .ok (.iload_n 2, 1) := by decide +kernel
theorem dX9_node_55 : decode cX9_node 55 = .ok (.iload_n 3, 1) := by decide +kernel
theorem dX9_node_56 : decode cX9_node 56 = .ok (.iload 4, 2) := by decide +kernel
theorem dX9_node_58 : decode cX9_node 58 = .ok (.iload 5, 2) := by decide +kernel
theorem dX9_node_60 : decode cX9_node 60 = .ok (.invokevirtual 240, 3) := by decide +kernel
theorem dX9_node_63 : decode cX9_node 63 = .ok (.ifCond .eq 7, 3) := by decide +kernel
theorem dX9_node_66 : decode cX9_node 66 = .ok (.iconst 1, 1) := by decide +kernel
theorem dX9_node_67 : decode cX9_node 67 = .ok (.goto 4, 3) := by decide +kernel
theorem dX9_node_70 : decode cX9_node 70 = .ok (.iconst 0, 1) := by decide +kernel
theorem dX9_node_71 : decode cX9_node 71 = .ok (.ireturn, 1) := by decide +kernel
theorem dX9_fill_0 : decode cX9_fill 0 = .ok (.aload_n 0, 1) := by decide +kernel
theorem dX9_fill_1 : decode cX9_fill 1 = .ok (.getfield 12, 3) := by decide +kernel
theorem dX9_fill_4 : decode cX9_fill 4 = .ok (.iload_n 1, 1) := by decide +kernel
theorem dX9_fill_5 : decode cX9_fill 5 = .ok (.invokevirtual 83, 3) := by decide +kernel
theorem dX9_fill_8 : decode cX9_fill 8 = .ok (.astore 4, 2) := by decide +kernel
theorem dX9_fill_10 : decode cX9_fill 10 = .ok (.aload 4, 2) := by decide +kernel
theorem dX9_fill_12 : decode cX9_fill 12 = .ok (.ifnonnull 6, 3) := by decide +kernel
theorem dX9_fill_15 : decode cX9_fill 15 = .ok (.ldc 103, 2) := by decide +kernel
theorem dX9_fill_17 : decode cX9_fill 17 = .ok (.ireturn, 1) := by decide +kernel
theorem dX9_fill_18 : decode cX9_fill 18 = .ok (.iload_n 2, 1) := by decide +kernel
theorem dX9_fill_19 : decode cX9_fill 19 = .ok (.iload_n 3, 1) := by decide +kernel
theorem dX9_fill_20 : decode cX9_fill 20 = .ok (.invokestatic 237, 3) := by decide +kernel
theorem dX9_fill_23 : decode cX9_fill 23 = .ok (.ifCond .ne 6, 3) := by decide +kernel
theorem dX9_fill_26 : decode cX9_fill 26 = .ok (.ldc 102, 2) := by decide +kernel
theorem dX9_fill_28 : decode cX9_fill 28 = .ok (.ireturn, 1) := by decide +kernel
theorem dX9_fill_29 : decode cX9_fill 29 = .ok (.aload_n 0, 1) := by decide +kernel
theorem dX9_fill_30 : decode cX9_fill 30 = .ok (.getfield 19, 3) := by decide +kernel
theorem dX9_fill_33 : decode cX9_fill 33 = .ok (.aload_n 0, 1) := by decide +kernel
theorem dX9_fill_34 : decode cX9_fill 34 = .ok (.getfield 12, 3) := by decide +kernel
theorem dX9_fill_37 : decode cX9_fill 37 = .ok (.invokevirtual 229, 3) := by decide +kernel
theorem dX9_fill_40 : decode cX9_fill 40 = .ok (.aload 4, 2) := by decide +kernel
theorem dX9_fill_42 : decode cX9_fill 42 = .ok (.iload_n 2, 1) := by decide +kernel
theorem dX9_fill_43 : decode cX9_fill 43 = .ok (.iload_n 3, 1) := by decide +kernel
theorem dX9_fill_44 : decode cX9_fill 44 = .ok (.invokevirtual 244, 3) := by decide +kernel
theorem dX9_fill_47 : decode cX9_fill 47 = .ok (.ireturn, 1) := by decide +kernel
theorem dX9_fit_0 : decode cX9_fit 0 = .ok (.aload_n 0, 1) := by decide +kernel
theorem dX9_fit_1 : decode cX9_fit 1 = .ok (.getfield 12, 3) := by decide +kernel
theorem dX9_fit_4 : decode cX9_fit 4 = .ok (.iload_n 1, 1) := by decide +kernel
theorem dX9_fit_5 : decode cX9_fit 5 = .ok (.invokevirtual 83, 3) := by decide +kernel
theorem dX9_fit_8 : decode cX9_fit 8 = .ok (.astore_n 2, 1) := by decide +kernel
theorem dX9_fit_9 : decode cX9_fit 9 = .ok (.aload_n 2, 1) := by decide +kernel
theorem dX9_fit_10 : decode cX9_fit 10 = .ok (.ifnonnull 6, 3) := by decide +kernel
theorem dX9_fit_13 : decode cX9_fit 13 = .ok (.ldc 103, 2) := by decide +kernel
theorem dX9_fit_15 : decode cX9_fit 15 = .ok (.ireturn, 1) := by decide +kernel
theorem dX9_fit_16 : decode cX9_fit 16 = .ok (.aload_n 2, 1) := by decide +kernel
theorem dX9_fit_17 : decode cX9_fit 17 = .ok (.getfield 104, 3) := by decide +kernel
theorem dX9_fit_20 : decode cX9_fit 20 = .ok (.iconst (-1), 1) := by decide +kernel
theorem dX9_fit_21 : decode cX9_fit 21 = .ok (.if_icmp .ne 6, 3) := by decide +kernel
theorem dX9_fit_24 : decode cX9_fit 24 = .ok (.ldc 227, 2) := by decide +kernel
theorem dX9_fit_26 : decode cX9_fit 26 = .ok (.ireturn, 1) := by decide +kernel
theorem dX9_fit_27 : decode cX9_fit 27 = .ok (.aload_n 0, 1) := by decide +kernel
theorem dX9_fit_28 : decode cX9_fit 28 = .ok (.getfield 19, 3) := by decide +kernel
theorem dX9_fit_31 : decode cX9_fit 31 = .ok (.aload_n 0, 1) := by decide +kernel
theorem dX9_fit_32 : decode cX9_fit 32 = .ok (.getfield 12, 3) := by decide +kernel
theorem dX9_fit_35 : decode cX9_fit 35 = .ok (.invokevirtual 229, 3) := by decide +kernel
theorem dX9_fit_38 : decode cX9_fit 38 = .ok (.aload_n 0, 1) := by decide +kernel
theorem dX9_fit_39 : decode cX9_fit 39 = .ok (.getfield 12, 3) := by decide +kernel
theorem dX9_fit_42 : decode cX9_fit 42 = .ok (.aload_n 2, 1) := by decide +kernel
theorem dX9_fit_43 : decode cX9_fit 43 = .ok (.invokestatic 132, 3) := by decide +kernel
theorem dX9_fit_46 : decode cX9_fit 46 = .ok (.istore_n 3, 1) := by decide +kernel
theorem dX9_fit_47 : decode cX9_fit 47 = .ok (.aload_n 0, 1) := by decide +kernel
theorem dX9_fit_48 : decode cX9_fit 48 = .ok (.getfield 12, 3) := by decide +kernel
theorem dX9_fit_51 : decode cX9_fit 51 = .ok (.aload_n 2, 1) := by decide +kernel
theorem dX9_fit_52 : decode cX9_fit 52 = .ok (.invokestatic 247, 3) := by decide +kernel
theorem dX9_fit_55 : decode cX9_fit 55 = .ok (.iload_n 3, 1) := by decide +kernel
theorem dX9_fit_56 : decode cX9_fit 56 = .ok (.ireturn, 1) := by decide +kernel
theorem dX9_drop_0 : decode cX9_drop 0 = .ok (.aload_n 0, 1) := by decide +kernel
theorem dX9_drop_1 : decode cX9_drop 1 = .ok (.getfield 12, 3) := by decide +kernel
theorem dX9_drop_4 : decode cX9_drop 4 = .ok (.iload_n 1, 1) := by decide +kernel
theorem dX9_drop_5 : decode cX9_drop 5 = .ok (.invokevirtual 83, 3) := by decide +kernel
theorem dX9_drop_8 : decode cX9_drop 8 = .ok (.ifnonnull 6, 3) := by decide +kernel
theorem dX9_drop_11 : decode cX9_drop 11 = .ok (.ldc 103, 2) := by decide +kernel
theorem dX9_drop_13 : decode cX9_drop 13 = .ok (.ireturn, 1) := by decide +kernel
theorem dX9_drop_14 : decode cX9_drop 14 = .ok (.aload_n 0, 1) := by decide +kernel
theorem dX9_drop_15 : decode cX9_drop 15 = .ok (.getfield 12, 3) := by decide +kernel
theorem dX9_drop_18 : decode cX9_drop 18 = .ok (.iload_n 1, 1) := by decide +kernel
theorem dX9_drop_19 : decode cX9_drop 19 = .ok (.invokevirtual 125, 3) := by decide +kernel
theorem dX9_drop_22 : decode cX9_drop 22 = .ok (.ifCond .le 6, 3) := by decide +kernel
theorem dX9_drop_25 : decode cX9_drop 25 = .ok (.ldc 227, 2) := by decide +kernel
theorem dX9_drop_27 : decode cX9_drop 27 = .ok (.ireturn, 1) := by decide +kernel
theorem dX9_drop_28 : decode cX9_drop 28 = .ok (.aload_n 0, 1) := by decide +kernel
theorem dX9_drop_29 : decode cX9_drop 29 = .ok (.getfield 19, 3) := by decide +kernel
theorem dX9_drop_32 : decode cX9_drop 32 = .ok (.aload_n 0, 1) := by decide +kernel
theorem dX9_drop_33 : decode cX9_drop 33 = .ok (.getfield 12, 3) := by decide +kernel
theorem dX9_drop_36 : decode cX9_drop 36 = .ok (.invokevirtual 229, 3) := by decide +kernel
theorem dX9_drop_39 : decode cX9_drop 39 = .ok (.aload_n 0, 1) := by decide +kernel
theorem dX9_drop_40 : decode cX9_drop 40 = .ok (.getfield 12, 3) := by decide +kernel
theorem dX9_drop_43 : decode cX9_drop 43 = .ok (.iload_n 1, 1) := by decide +kernel
theorem dX9_drop_44 : decode cX9_drop 44 = .ok (.invokevirtual 251, 3) := by decide +kernel
theorem dX9_drop_47 : decode cX9_drop 47 = .ok (.aload_n 0, 1) := by decide +kernel
theorem dX9_drop_48 : decode cX9_drop 48 = .ok (.getfield 12, 3) := by decide +kernel
theorem dX9_drop_51 : decode cX9_drop 51 = .ok (.invokevirtual 61, 3) := by decide +kernel
theorem dX9_drop_54 : decode cX9_drop 54 = .ok (.ireturn, 1) := by decide +kernel
theorem dX9_rule_0 : decode cX9_rule 0 = .ok (.iload_n 1, 1) := by decide +kernel
theorem dX9_rule_1 : decode cX9_rule 1 = .ok (.iconst 0, 1) := by decide +kernel
theorem dX9_rule_2 : decode cX9_rule 2 = .ok (.iconst 2, 1) := by decide +kernel
theorem dX9_rule_3 : decode cX9_rule 3 = .ok (.invokestatic 143, 3) := by decide +kernel
theorem dX9_rule_6 : decode cX9_rule 6 = .ok (.ifCond .ne 6, 3) := by decide +kernel
theorem dX9_rule_9 : decode cX9_rule 9 = .ok (.ldc 102, 2) := by decide +kernel
theorem dX9_rule_11 : decode cX9_rule 11 = .ok (.ireturn, 1) := by decide +kernel
theorem dX9_rule_12 : decode cX9_rule 12 = .ok (.aload_n 0, 1) := by decide +kernel
theorem dX9_rule_13 : decode cX9_rule 13 = .ok (.getfield 19, 3) := by decide +kernel
theorem dX9_rule_16 : decode cX9_rule 16 = .ok (.aload_n 0, 1) := by decide +kernel
theorem dX9_rule_17 : decode cX9_rule 17 = .ok (.getfield 12, 3) := by decide +kernel
theorem dX9_rule_20 : decode cX9_rule 20 = .ok (.invokevirtual 229, 3) := by decide +kernel
theorem dX9_rule_23 : decode cX9_rule 23 = .ok (.aload_n 0, 1) := by decide +kernel
theorem dX9_rule_24 : decode cX9_rule 24 = .ok (.getfield 12, 3) := by decide +kernel
theorem dX9_rule_27 : decode cX9_rule 27 = .ok (.invokevirtual 65, 3) := by decide +kernel
theorem dX9_rule_30 : decode cX9_rule 30 = .ok (.istore_n 2, 1) := by decide +kernel
theorem dX9_rule_31 : decode cX9_rule 31 = .ok (.aload_n 0, 1) := by decide +kernel
theorem dX9_rule_32 : decode cX9_rule 32 = .ok (.getfield 12, 3) := by decide +kernel
theorem dX9_rule_35 : decode cX9_rule 35 = .ok (.iload_n 1, 1) := by decide +kernel
theorem dX9_rule_36 : decode cX9_rule 36 = .ok (.invokevirtual 255, 3) := by decide +kernel
theorem dX9_rule_39 : decode cX9_rule 39 = .ok (.iload_n 2, 1) := by decide +kernel
theorem dX9_rule_40 : decode cX9_rule 40 = .ok (.ireturn, 1) := by decide +kernel
theorem dX9_drift_0 : decode cX9_drift 0 = .ok (.iload_n 1, 1) := by decide +kernel
theorem dX9_drift_1 : decode cX9_drift 1 = .ok (.iconst 1, 1) := by decide +kernel
theorem dX9_drift_2 : decode cX9_drift 2 = .ok (.bipush 12, 2) := by decide +kernel
theorem dX9_drift_4 : decode cX9_drift 4 = .ok (.invokestatic 143, 3) := by decide +kernel
theorem dX9_drift_7 : decode cX9_drift 7 = .ok (.ifCond .ne 6, 3) := by decide +kernel
theorem dX9_drift_10 : decode cX9_drift 10 = .ok (.ldc 102, 2) := by decide +kernel
theorem dX9_drift_12 : decode cX9_drift 12 = .ok (.ireturn, 1) := by decide +kernel
theorem dX9_drift_13 : decode cX9_drift 13 = .ok (.aload_n 0, 1) := by decide +kernel
theorem dX9_drift_14 : decode cX9_drift 14 = .ok (.getfield 12, 3) := by decide +kernel
theorem dX9_drift_17 : decode cX9_drift 17 = .ok (.invokevirtual 61, 3) := by decide +kernel
theorem dX9_drift_20 : decode cX9_drift 20 = .ok (.ifCond .ne 6, 3) := by decide +kernel
theorem dX9_drift_23 : decode cX9_drift 23 = .ok (.ldc 227, 2) := by decide +kernel
theorem dX9_drift_25 : decode cX9_drift 25 = .ok (.ireturn, 1) := by decide +kernel
theorem dX9_drift_26 : decode cX9_drift 26 = .ok (.iconst 0, 1) := by decide +kernel
theorem dX9_drift_27 : decode cX9_drift 27 = .ok (.istore_n 2, 1) := by decide +kernel
theorem dX9_drift_28 : decode cX9_drift 28 = .ok (.iload_n 2, 1) := by decide +kernel
theorem dX9_drift_29 : decode cX9_drift 29 = .ok (.iload_n 1, 1) := by decide +kernel
theorem dX9_drift_30 : decode cX9_drift 30 = .ok (.if_icmp .ge 31, 3) := by decide +kernel
theorem dX9_drift_33 : decode cX9_drift 33 = .ok (.aload_n 0, 1) := by decide +kernel
theorem dX9_drift_34 : decode cX9_drift 34 = .ok (.getfield 19, 3) := by decide +kernel
theorem dX9_drift_37 : decode cX9_drift 37 = .ok (.aload_n 0, 1) := by decide +kernel
theorem dX9_drift_38 : decode cX9_drift 38 = .ok (.getfield 12, 3) := by decide +kernel
theorem dX9_drift_41 : decode cX9_drift 41 = .ok (.invokevirtual 229, 3) := by decide +kernel
theorem dX9_drift_44 : decode cX9_drift 44 = .ok (.aload_n 0, 1) := by decide +kernel
theorem dX9_drift_45 : decode cX9_drift 45 = .ok (.getfield 43, 3) := by decide +kernel
theorem dX9_drift_48 : decode cX9_drift 48 = .ok (.aload_n 0, 1) := by decide +kernel
theorem dX9_drift_49 : decode cX9_drift 49 = .ok (.getfield 12, 3) := by decide +kernel
theorem dX9_drift_52 : decode cX9_drift 52 = .ok (.invokevirtual 258, 3) := by decide +kernel
theorem dX9_drift_55 : decode cX9_drift 55 = .ok (.iinc 2 1, 3) := by decide +kernel
theorem dX9_drift_58 : decode cX9_drift 58 = .ok (.goto (-30), 3) := by decide +kernel
theorem dX9_drift_61 : decode cX9_drift 61 = .ok (.aload_n 0, 1) := by decide +kernel
theorem dX9_drift_62 : decode cX9_drift 62 = .ok (.getfield 12, 3) := by decide +kernel
theorem dX9_drift_65 : decode cX9_drift 65 = .ok (.invokevirtual 68, 3) := by decide +kernel
theorem dX9_drift_68 : decode cX9_drift 68 = .ok (.ireturn, 1) := by decide +kernel
theorem dX9_undo_0 : decode cX9_undo 0 = .ok (.iload_n 1, 1) := by decide +kernel
theorem dX9_undo_1 : decode cX9_undo 1 = .ok (.iconst 1, 1) := by decide +kernel
theorem dX9_undo_2 : decode cX9_undo 2 = .ok (.bipush 16, 2) := by decide +kernel
theorem dX9_undo_4 : decode cX9_undo 4 = .ok (.invokestatic 143, 3) := by decide +kernel
theorem dX9_undo_7 : decode cX9_undo 7 = .ok (.ifCond .ne 6, 3) := by decide +kernel
theorem dX9_undo_10 : decode cX9_undo 10 = .ok (.ldc 102, 2) := by decide +kernel
theorem dX9_undo_12 : decode cX9_undo 12 = .ok (.ireturn, 1) := by decide +kernel
theorem dX9_undo_13 : decode cX9_undo 13 = .ok (.iload_n 1, 1) := by decide +kernel
theorem dX9_undo_14 : decode cX9_undo 14 = .ok (.aload_n 0, 1) := by decide +kernel
theorem dX9_undo_15 : decode cX9_undo 15 = .ok (.getfield 19, 3) := by decide +kernel
theorem dX9_undo_18 : decode cX9_undo 18 = .ok (.invokevirtual 98, 3) := by decide +kernel
theorem dX9_undo_21 : decode cX9_undo 21 = .ok (.if_icmp .le 6, 3) := by decide +kernel
theorem dX9_undo_24 : decode cX9_undo 24 = .ok (.ldc 227, 2) := by decide +kernel
theorem dX9_undo_26 : decode cX9_undo 26 = .ok (.ireturn, 1) := by decide +kernel
theorem dX9_undo_27 : decode cX9_undo 27 = .ok (.aload_n 0, 1) := by decide +kernel
theorem dX9_undo_28 : decode cX9_undo 28 = .ok (.getfield 19, 3) := by decide +kernel
theorem dX9_undo_31 : decode cX9_undo 31 = .ok (.aload_n 0, 1) := by decide +kernel
theorem dX9_undo_32 : decode cX9_undo 32 = .ok (.getfield 12, 3) := by decide +kernel
theorem dX9_undo_35 : decode cX9_undo 35 = .ok (.iload_n 1, 1) := by decide +kernel
theorem dX9_undo_36 : decode cX9_undo 36 = .ok (.invokevirtual 261, 3) := by decide +kernel
theorem dX9_undo_39 : decode cX9_undo 39 = .ok (.aload_n 0, 1) := by decide +kernel
theorem dX9_undo_40 : decode cX9_undo 40 = .ok (.getfield 19, 3) := by decide +kernel
theorem dX9_undo_43 : decode cX9_undo 43 = .ok (.invokevirtual 98, 3) := by decide +kernel
theorem dX9_undo_46 : decode cX9_undo 46 = .ok (.ireturn, 1) := by decide +kernel
theorem dX9_write_0 : decode cX9_write 0 = .ok (.iload_n 1, 1) := by decide +kernel
theorem dX9_write_1 : decode cX9_write 1 = .ok (.iload_n 2, 1) := by decide +kernel
theorem dX9_write_2 : decode cX9_write 2 = .ok (.invokestatic 187, 3) := by decide +kernel
theorem dX9_write_5 : decode cX9_write 5 = .ok (.ifCond .ne 6, 3) := by decide +kernel
theorem dX9_write_8 : decode cX9_write 8 = .ok (.ldc 102, 2) := by decide +kernel
theorem dX9_write_10 : decode cX9_write 10 = .ok (.ireturn, 1) := by decide +kernel
theorem dX9_write_11 : decode cX9_write 11 = .ok (.aload_n 0, 1) := by decide +kernel
theorem dX9_write_12 : decode cX9_write 12 = .ok (.getfield 36, 3) := by decide +kernel
theorem dX9_write_15 : decode cX9_write 15 = .ok (.iload_n 1, 1) := by decide +kernel
theorem dX9_write_16 : decode cX9_write 16 = .ok (.iload_n 2, 1) := by decide +kernel
theorem dX9_write_17 : decode cX9_write 17 = .ok (.iload_n 3, 1) := by decide +kernel
theorem dX9_write_18 : decode cX9_write 18 = .ok (.invokevirtual 265, 3) := by decide +kernel
theorem dX9_write_21 : decode cX9_write 21 = .ok (.ifCond .eq 13, 3) := by decide +kernel
theorem dX9_write_24 : decode cX9_write 24 = .ok (.aload_n 0, 1) := by decide +kernel
theorem dX9_write_25 : decode cX9_write 25 = .ok (.getfield 36, 3) := by decide +kernel
theorem dX9_write_28 : decode cX9_write 28 = .ok (.invokevirtual 93, 3) := by decide +kernel
theorem dX9_write_31 : decode cX9_write 31 = .ok (.goto 5, 3) := by decide +kernel
theorem dX9_write_34 : decode cX9_write 34 = .ok (.ldc 228, 2) := by decide +kernel
theorem dX9_write_36 : decode cX9_write 36 = .ok (.ireturn, 1) := by decide +kernel
theorem dX9_tear_0 : decode cX9_tear 0 = .ok (.aload_n 0, 1) := by decide +kernel
theorem dX9_tear_1 : decode cX9_tear 1 = .ok (.getfield 36, 3) := by decide +kernel
theorem dX9_tear_4 : decode cX9_tear 4 = .ok (.invokevirtual 93, 3) := by decide +kernel
theorem dX9_tear_7 : decode cX9_tear 7 = .ok (.istore_n 1, 1) := by decide +kernel
theorem dX9_tear_8 : decode cX9_tear 8 = .ok (.aload_n 0, 1) := by decide +kernel
theorem dX9_tear_9 : decode cX9_tear 9 = .ok (.getfield 36, 3) := by decide +kernel
theorem dX9_tear_12 : decode cX9_tear 12 = .ok (.invokevirtual 267, 3) := by decide +kernel
theorem dX9_tear_15 : decode cX9_tear 15 = .ok (.iload_n 1, 1) := by decide +kernel
theorem dX9_tear_16 : decode cX9_tear 16 = .ok (.ireturn, 1) := by decide +kernel
theorem dX9_seed_0 : decode cX9_seed 0 = .ok (.iload_n 1, 1) := by decide +kernel
theorem dX9_seed_1 : decode cX9_seed 1 = .ok (.ifCond .ge 6, 3) := by decide +kernel
theorem dX9_seed_4 : decode cX9_seed 4 = .ok (.ldc 102, 2) := by decide +kernel
theorem dX9_seed_6 : decode cX9_seed 6 = .ok (.ireturn, 1) := by decide +kernel
theorem dX9_seed_7 : decode cX9_seed 7 = .ok (.aload_n 0, 1) := by decide +kernel
theorem dX9_seed_8 : decode cX9_seed 8 = .ok (.getfield 43, 3) := by decide +kernel
theorem dX9_seed_11 : decode cX9_seed 11 = .ok (.invokevirtual 99, 3) := by decide +kernel
theorem dX9_seed_14 : decode cX9_seed 14 = .ok (.istore_n 2, 1) := by decide +kernel
theorem dX9_seed_15 : decode cX9_seed 15 = .ok (.aload_n 0, 1) := by decide +kernel
theorem dX9_seed_16 : decode cX9_seed 16 = .ok (.getfield 43, 3) := by decide +kernel
theorem dX9_seed_19 : decode cX9_seed 19 = .ok (.iload_n 1, 1) := by decide +kernel
theorem dX9_seed_20 : decode cX9_seed 20 = .ok (.invokevirtual 270, 3) := by decide +kernel
theorem dX9_seed_23 : decode cX9_seed 23 = .ok (.iload_n 2, 1) := by decide +kernel
theorem dX9_seed_24 : decode cX9_seed 24 = .ok (.ireturn, 1) := by decide +kernel
theorem dX9_keep_0 : decode cX9_keep 0 = .ok (.aload_n 0, 1) := by decide +kernel
theorem dX9_keep_1 : decode cX9_keep 1 = .ok (.iload_n 1, 1) := by decide +kernel
theorem dX9_keep_2 : decode cX9_keep 2 = .ok (.invokevirtual 273, 3) := by decide +kernel
theorem dX9_keep_5 : decode cX9_keep 5 = .ok (.astore_n 2, 1) := by decide +kernel
theorem dX9_keep_6 : decode cX9_keep 6 = .ok (.aload_n 2, 1) := by decide +kernel
theorem dX9_keep_7 : decode cX9_keep 7 = .ok (.ifnonnull 6, 3) := by decide +kernel
theorem dX9_keep_10 : decode cX9_keep 10 = .ok (.ldc 103, 2) := by decide +kernel
theorem dX9_keep_12 : decode cX9_keep 12 = .ok (.ireturn, 1) := by decide +kernel
theorem dX9_keep_13 : decode cX9_keep 13 = .ok (.aload_n 2, 1) := by decide +kernel
theorem dX9_keep_14 : decode cX9_keep 14 = .ok (.aload_n 0, 1) := by decide +kernel
theorem dX9_keep_15 : decode cX9_keep 15 = .ok (.getfield 12, 3) := by decide +kernel
theorem dX9_keep_18 : decode cX9_keep 18 = .ok (.aload_n 0, 1) := by decide +kernel
theorem dX9_keep_19 : decode cX9_keep 19 = .ok (.getfield 43, 3) := by decide +kernel
theorem dX9_keep_22 : decode cX9_keep 22 = .ok (.invokevirtual 277, 3) := by decide +kernel
theorem dX9_keep_25 : decode cX9_keep 25 = .ok (.aload_n 0, 1) := by decide +kernel
theorem dX9_keep_26 : decode cX9_keep 26 = .ok (.getfield 19, 3) := by decide +kernel
theorem dX9_keep_29 : decode cX9_keep 29 = .ok (.invokevirtual 281, 3) := by decide +kernel
theorem dX9_keep_32 : decode cX9_keep 32 = .ok (.iconst 1, 1) := by decide +kernel
theorem dX9_keep_33 : decode cX9_keep 33 = .ok (.ireturn, 1) := by decide +kernel
theorem dX9_goBack_0 : decode cX9_goBack 0 = .ok (.aload_n 0, 1) := by decide +kernel
theorem dX9_goBack_1 : decode cX9_goBack 1 = .ok (.iload_n 1, 1) := by decide +kernel
theorem dX9_goBack_2 : decode cX9_goBack 2 = .ok (.invokevirtual 273, 3) := by decide +kernel
theorem dX9_goBack_5 : decode cX9_goBack 5 = .ok (.astore_n 2, 1) := by decide +kernel
theorem dX9_goBack_6 : decode cX9_goBack 6 = .ok (.aload_n 2, 1) := by decide +kernel
theorem dX9_goBack_7 : decode cX9_goBack 7 = .ok (.ifnonnull 6, 3) := by decide +kernel
theorem dX9_goBack_10 : decode cX9_goBack 10 = .ok (.ldc 103, 2) := by decide +kernel
theorem dX9_goBack_12 : decode cX9_goBack 12 = .ok (.ireturn, 1) := by decide +kernel
theorem dX9_goBack_13 : decode cX9_goBack 13 = .ok (.aload_n 2, 1) := by decide +kernel
theorem dX9_goBack_14 : decode cX9_goBack 14 = .ok (.invokevirtual 282, 3) := by decide +kernel
theorem dX9_goBack_17 : decode cX9_goBack 17 = .ok (.ifCond .ne 6, 3) := by decide +kernel
theorem dX9_goBack_20 : decode cX9_goBack 20 = .ok (.ldc 227, 2) := by decide +kernel
theorem dX9_goBack_22 : decode cX9_goBack 22 = .ok (.ireturn, 1) := by decide +kernel
theorem dX9_goBack_23 : decode cX9_goBack 23 = .ok (.aload_n 2, 1) := by decide +kernel
theorem dX9_goBack_24 : decode cX9_goBack 24 = .ok (.aload_n 0, 1) := by decide +kernel
theorem dX9_goBack_25 : decode cX9_goBack 25 = .ok (.getfield 12, 3) := by decide +kernel
theorem dX9_goBack_28 : decode cX9_goBack 28 = .ok (.aload_n 0, 1) := by decide +kernel
theorem dX9_goBack_29 : decode cX9_goBack 29 = .ok (.getfield 43, 3) := by decide +kernel
theorem dX9_goBack_32 : decode cX9_goBack 32 = .ok (.invokevirtual 285, 3) := by decide +kernel
theorem dX9_goBack_35 : decode cX9_goBack 35 = .ok (.aload_n 0, 1) := by decide +kernel
theorem dX9_goBack_36 : decode cX9_goBack 36 = .ok (.getfield 19, 3) := by decide +kernel
theorem dX9_goBack_39 : decode cX9_goBack 39 = .ok (.invokevirtual 281, 3) := by decide +kernel
theorem dX9_goBack_42 : decode cX9_goBack 42 = .ok (.iconst 1, 1) := by decide +kernel
theorem dX9_goBack_43 : decode cX9_goBack 43 = .ok (.ireturn, 1) := by decide +kernel
theorem dX9_imageOf_0 : decode cX9_imageOf 0 = .ok (.iload_n 1, 1) := by decide +kernel
theorem dX9_imageOf_1 : decode cX9_imageOf 1 = .ok (.ifCond .ne 8, 3) := by decide +kernel
theorem dX9_imageOf_4 : decode cX9_imageOf 4 = .ok (.aload_n 0, 1) := by decide +kernel
theorem dX9_imageOf_5 : decode cX9_imageOf 5 = .ok (.getfield 26, 3) := by decide +kernel
theorem dX9_imageOf_8 : decode cX9_imageOf 8 = .ok (.areturn, 1) := by decide +kernel
theorem dX9_imageOf_9 : decode cX9_imageOf 9 = .ok (.iload_n 1, 1) := by decide +kernel
theorem dX9_imageOf_10 : decode cX9_imageOf 10 = .ok (.iconst 1, 1) := by decide +kernel
theorem dX9_imageOf_11 : decode cX9_imageOf 11 = .ok (.if_icmp .ne 10, 3) := by decide +kernel
theorem dX9_imageOf_14 : decode cX9_imageOf 14 = .ok (.aload_n 0, 1) := by decide +kernel
theorem dX9_imageOf_15 : decode cX9_imageOf 15 = .ok (.getfield 30, 3) := by decide +kernel
theorem dX9_imageOf_18 : decode cX9_imageOf 18 = .ok (.goto 4, 3) := by decide +kernel
theorem dX9_imageOf_21 : decode cX9_imageOf 21 = .ok (.aconst_null, 1) := by decide +kernel
theorem dX9_imageOf_22 : decode cX9_imageOf 22 = .ok (.areturn, 1) := by decide +kernel
theorem dX9_isWithin_0 : decode cX9_isWithin 0 = .ok (.iload_n 0, 1) := by decide +kernel
theorem dX9_isWithin_1 : decode cX9_isWithin 1 = .ok (.iload_n 1, 1) := by decide +kernel
theorem dX9_isWithin_2 : decode cX9_isWithin 2 = .ok (.if_icmp .lt 12, 3) := by decide +kernel
theorem dX9_isWithin_5 : decode cX9_isWithin 5 = .ok (.iload_n 0, 1) := by decide +kernel
theorem dX9_isWithin_6 : decode cX9_isWithin 6 = .ok (.iload_n 2, 1) := by decide +kernel
theorem dX9_isWithin_7 : decode cX9_isWithin 7 = .ok (.if_icmp .gt 7, 3) := by decide +kernel
theorem dX9_isWithin_10 : decode cX9_isWithin 10 = .ok (.iconst 1, 1) := by decide +kernel
theorem dX9_isWithin_11 : decode cX9_isWithin 11 = .ok (.goto 4, 3) := by decide +kernel
theorem dX9_isWithin_14 : decode cX9_isWithin 14 = .ok (.iconst 0, 1) := by decide +kernel
theorem dX9_isWithin_15 : decode cX9_isWithin 15 = .ok (.ireturn, 1) := by decide +kernel
theorem dX9_isPlace_0 : decode cX9_isPlace 0 = .ok (.iload_n 0, 1) := by decide +kernel
theorem dX9_isPlace_1 : decode cX9_isPlace 1 = .ok (.iconst 0, 1) := by decide +kernel
theorem dX9_isPlace_2 : decode cX9_isPlace 2 = .ok (.ldc_w 288, 3) := by decide +kernel
theorem dX9_isPlace_5 : decode cX9_isPlace 5 = .ok (.invokestatic 143, 3) := by decide +kernel
theorem dX9_isPlace_8 : decode cX9_isPlace 8 = .ok (.ifCond .eq 18, 3) := by decide +kernel
theorem dX9_isPlace_11 : decode cX9_isPlace 11 = .ok (.iload_n 1, 1) := by decide +kernel
theorem dX9_isPlace_12 : decode cX9_isPlace 12 = .ok (.iconst 0, 1) := by decide +kernel
theorem dX9_isPlace_13 : decode cX9_isPlace 13 = .ok (.ldc_w 288, 3) := by decide +kernel
theorem dX9_isPlace_16 : decode cX9_isPlace 16 = .ok (.invokestatic 143, 3) := by decide +kernel
theorem dX9_isPlace_19 : decode cX9_isPlace 19 = .ok (.ifCond .eq 7, 3) := by decide +kernel
theorem dX9_isPlace_22 : decode cX9_isPlace 22 = .ok (.iconst 1, 1) := by decide +kernel
theorem dX9_isPlace_23 : decode cX9_isPlace 23 = .ok (.goto 4, 3) := by decide +kernel
theorem dX9_isPlace_26 : decode cX9_isPlace 26 = .ok (.iconst 0, 1) := by decide +kernel
theorem dX9_isPlace_27 : decode cX9_isPlace 27 = .ok (.ireturn, 1) := by decide +kernel
theorem dX9_isNewPlace_0 : decode cX9_isNewPlace 0 = .ok (.iload_n 0, 1) := by decide +kernel
theorem dX9_isNewPlace_1 : decode cX9_isNewPlace 1 = .ok (.sipush (-10000), 3) := by decide +kernel
theorem dX9_isNewPlace_4 : decode cX9_isNewPlace 4 = .ok (.ldc_w 289, 3) := by decide +kernel
theorem dX9_isNewPlace_7 : decode cX9_isNewPlace 7 = .ok (.invokestatic 143, 3) := by decide +kernel
theorem dX9_isNewPlace_10 : decode cX9_isNewPlace 10 = .ok (.ifCond .eq 20, 3) := by decide +kernel
theorem dX9_isNewPlace_13 : decode cX9_isNewPlace 13 = .ok (.iload_n 1, 1) := by decide +kernel
theorem dX9_isNewPlace_14 : decode cX9_isNewPlace 14 = .ok (.sipush (-10000), 3) := by decide +kernel
theorem dX9_isNewPlace_17 : decode cX9_isNewPlace 17 = .ok (.ldc_w 289, 3) := by decide +kernel
theorem dX9_isNewPlace_20 : decode cX9_isNewPlace 20 = .ok (.invokestatic 143, 3) := by decide +kernel
theorem dX9_isNewPlace_23 : decode cX9_isNewPlace 23 = .ok (.ifCond .eq 7, 3) := by decide +kernel
theorem dX9_isNewPlace_26 : decode cX9_isNewPlace 26 = .ok (.iconst 1, 1) := by decide +kernel
theorem dX9_isNewPlace_27 : decode cX9_isNewPlace 27 = .ok (.goto 4, 3) := by decide +kernel
theorem dX9_isNewPlace_30 : decode cX9_isNewPlace 30 = .ok (.iconst 0, 1) := by decide +kernel
theorem dX9_isNewPlace_31 : decode cX9_isNewPlace 31 = .ok (.ireturn, 1) := by decide +kernel
theorem dX9_isOffset_0 : decode cX9_isOffset 0 = .ok (.iload_n 0, 1) := by decide +kernel
theorem dX9_isOffset_1 : decode cX9_isOffset 1 = .ok (.sipush (-999), 3) := by decide +kernel
theorem dX9_isOffset_4 : decode cX9_isOffset 4 = .ok (.sipush 999, 3) := by decide +kernel
theorem dX9_isOffset_7 : decode cX9_isOffset 7 = .ok (.invokestatic 143, 3) := by decide +kernel
theorem dX9_isOffset_10 : decode cX9_isOffset 10 = .ok (.ifCond .eq 20, 3) := by decide +kernel
theorem dX9_isOffset_13 : decode cX9_isOffset 13 = .ok (.iload_n 1, 1) := by decide +kernel
theorem dX9_isOffset_14 : decode cX9_isOffset 14 = .ok (.sipush (-999), 3) := by decide +kernel
theorem dX9_isOffset_17 : decode cX9_isOffset 17 = .ok (.sipush 999, 3) := by decide +kernel
theorem dX9_isOffset_20 : decode cX9_isOffset 20 = .ok (.invokestatic 143, 3) := by decide +kernel
theorem dX9_isOffset_23 : decode cX9_isOffset 23 = .ok (.ifCond .eq 7, 3) := by decide +kernel
theorem dX9_isOffset_26 : decode cX9_isOffset 26 = .ok (.iconst 1, 1) := by decide +kernel
theorem dX9_isOffset_27 : decode cX9_isOffset 27 = .ok (.goto 4, 3) := by decide +kernel
theorem dX9_isOffset_30 : decode cX9_isOffset 30 = .ok (.iconst 0, 1) := by decide +kernel
theorem dX9_isOffset_31 : decode cX9_isOffset 31 = .ok (.ireturn, 1) := by decide +kernel
theorem dX9_isGridWithin_0 : decode cX9_isGridWithin 0 = .ok (.iload_n 0, 1) := by decide +kernel
theorem dX9_isGridWithin_1 : decode cX9_isGridWithin 1 = .ok (.iconst 0, 1) := by decide +kernel
theorem dX9_isGridWithin_2 : decode cX9_isGridWithin 2 = .ok (.sipush 1000, 3) := by decide +kernel
theorem dX9_isGridWithin_5 : decode cX9_isGridWithin 5 = .ok (.invokestatic 143, 3) := by decide +kernel
theorem dX9_isGridWithin_8 : decode cX9_isGridWithin 8 = .ok (.ifCond .eq 74, 3) := by decide +kernel
theorem dX9_isGridWithin_11 : decode cX9_isGridWithin 11 = .ok (.iload_n 1, 1) := by decide +kernel
theorem dX9_isGridWithin_12 : decode cX9_isGridWithin 12 = .ok (.iconst 0, 1) := by decide +kernel
theorem dX9_isGridWithin_13 : decode cX9_isGridWithin 13 = .ok (.sipush 1000, 3) := by decide +kernel
theorem dX9_isGridWithin_16 : decode cX9_isGridWithin 16 = .ok (.invokestatic 143, 3) := by decide +kernel
theorem dX9_isGridWithin_19 : decode cX9_isGridWithin 19 = .ok (.ifCond .eq 63, 3) := by decide +kernel
theorem dX9_isGridWithin_22 : decode cX9_isGridWithin 22 = .ok (.iload_n 2, 1) := by decide +kernel
theorem dX9_isGridWithin_23 : decode cX9_isGridWithin 23 = .ok (.iconst 1, 1) := by decide +kernel
theorem dX9_isGridWithin_24 : decode cX9_isGridWithin 24 = .ok (.bipush 64, 2) := by decide +kernel
theorem dX9_isGridWithin_26 : decode cX9_isGridWithin 26 = .ok (.invokestatic 143, 3) := by decide +kernel
theorem dX9_isGridWithin_29 : decode cX9_isGridWithin 29 = .ok (.ifCond .eq 53, 3) := by decide +kernel
theorem dX9_isGridWithin_32 : decode cX9_isGridWithin 32 = .ok (.iload_n 3, 1) := by decide +kernel
theorem dX9_isGridWithin_33 : decode cX9_isGridWithin 33 = .ok (.iconst 2, 1) := by decide +kernel
theorem dX9_isGridWithin_34 : decode cX9_isGridWithin 34 = .ok (.iconst 5, 1) := by decide +kernel
theorem dX9_isGridWithin_35 : decode cX9_isGridWithin 35 = .ok (.invokestatic 143, 3) := by decide +kernel
theorem dX9_isGridWithin_38 : decode cX9_isGridWithin 38 = .ok (.ifCond .eq 44, 3) := by decide +kernel
theorem dX9_isGridWithin_41 : decode cX9_isGridWithin 41 = .ok (.iload 4, 2) := by decide +kernel
theorem dX9_isGridWithin_43 : decode cX9_isGridWithin 43 = .ok (.iconst 2, 1) := by decide +kernel
theorem dX9_isGridWithin_44 : decode cX9_isGridWithin 44 = .ok (.iconst 5, 1) := by decide +kernel
theorem dX9_isGridWithin_45 : decode cX9_isGridWithin 45 = .ok (.invokestatic 143, 3) := by decide +kernel
theorem dX9_isGridWithin_48 : decode cX9_isGridWithin 48 = .ok (.ifCond .eq 34, 3) := by decide +kernel
theorem dX9_isGridWithin_51 : decode cX9_isGridWithin 51 = .ok (.iload_n 0, 1) := by decide +kernel
theorem dX9_isGridWithin_52 : decode cX9_isGridWithin 52 = .ok (.iload_n 3, 1) := by decide +kernel
theorem dX9_isGridWithin_53 : decode cX9_isGridWithin 53 = .ok (.iconst 1, 1) := by decide +kernel
theorem dX9_isGridWithin_54 : decode cX9_isGridWithin 54 = .ok (.isub, 1) := by decide +kernel
theorem dX9_isGridWithin_55 : decode cX9_isGridWithin 55 = .ok (.iload_n 2, 1) := by decide +kernel
theorem dX9_isGridWithin_56 : decode cX9_isGridWithin 56 = .ok (.imul, 1) := by decide +kernel
theorem dX9_isGridWithin_57 : decode cX9_isGridWithin 57 = .ok (.iadd, 1) := by decide +kernel
theorem dX9_isGridWithin_58 : decode cX9_isGridWithin 58 = .ok (.sipush 1000, 3) := by decide +kernel
theorem dX9_isGridWithin_61 : decode cX9_isGridWithin 61 = .ok (.if_icmp .gt 21, 3) := by decide +kernel
theorem dX9_isGridWithin_64 : decode cX9_isGridWithin 64 = .ok (.iload_n 1, 1) := by decide +kernel
theorem dX9_isGridWithin_65 : decode cX9_isGridWithin 65 = .ok (.iload 4, 2) := by decide +kernel
theorem dX9_isGridWithin_67 : decode cX9_isGridWithin 67 = .ok (.iconst 1, 1) := by decide +kernel
theorem dX9_isGridWithin_68 : decode cX9_isGridWithin 68 = .ok (.isub, 1) := by decide +kernel
theorem dX9_isGridWithin_69 : decode cX9_isGridWithin 69 = .ok (.iload_n 2, 1) := by decide +kernel
theorem dX9_isGridWithin_70 : decode cX9_isGridWithin 70 = .ok (.imul, 1) := by decide +kernel
theorem dX9_isGridWithin_71 : decode cX9_isGridWithin 71 = .ok (.iadd, 1) := by decide +kernel
theorem dX9_isGridWithin_72 : decode cX9_isGridWithin 72 = .ok (.sipush 1000, 3) := by decide +kernel
theorem dX9_isGridWithin_75 : decode cX9_isGridWithin 75 = .ok (.if_icmp .gt 7, 3) := by decide +kernel
theorem dX9_isGridWithin_78 : decode cX9_isGridWithin 78 = .ok (.iconst 1, 1) := by decide +kernel
theorem dX9_isGridWithin_79 : decode cX9_isGridWithin 79 = .ok (.goto 4, 3) := by decide +kernel
theorem dX9_isGridWithin_82 : decode cX9_isGridWithin 82 = .ok (.iconst 0, 1) := by decide +kernel
theorem dX9_isGridWithin_83 : decode cX9_isGridWithin 83 = .ok (.ireturn, 1) := by decide +kernel
theorem dX9_foldedCells_0 : decode cX9_foldedCells 0 = .ok (.aload_n 1, 1) := by decide +kernel
theorem dX9_foldedCells_1 : decode cX9_foldedCells 1 = .ok (.ifnonnull 5, 3) := by decide +kernel
theorem dX9_foldedCells_4 : decode cX9_foldedCells 4 = .ok (.iconst 0, 1) := by decide +kernel
theorem dX9_foldedCells_5 : decode cX9_foldedCells 5 = .ok (.ireturn, 1) := by decide +kernel
theorem dX9_foldedCells_6 : decode cX9_foldedCells 6 = .ok (.iconst 0, 1) := by decide +kernel
theorem dX9_foldedCells_7 : decode cX9_foldedCells 7 = .ok (.istore_n 2, 1) := by decide +kernel
theorem dX9_foldedCells_8 : decode cX9_foldedCells 8 = .ok (.iconst 0, 1) := by decide +kernel
theorem dX9_foldedCells_9 : decode cX9_foldedCells 9 = .ok (.istore_n 3, 1) := by decide +kernel
theorem dX9_foldedCells_10 : decode cX9_foldedCells 10 = .ok (.iload_n 3, 1) := by decide +kernel
theorem dX9_foldedCells_11 : decode cX9_foldedCells 11 = .ok (.aload_n 1, 1) := by decide +kernel
theorem dX9_foldedCells_12 : decode cX9_foldedCells 12 = .ok (.getfield 122, 3) := by decide +kernel
theorem dX9_foldedCells_15 : decode cX9_foldedCells 15 = .ok (.iconst 1, 1) := by decide +kernel
theorem dX9_foldedCells_16 : decode cX9_foldedCells 16 = .ok (.isub, 1) := by decide +kernel
theorem dX9_foldedCells_17 : decode cX9_foldedCells 17 = .ok (.if_icmp .ge 58, 3) := by decide +kernel
theorem dX9_foldedCells_20 : decode cX9_foldedCells 20 = .ok (.iconst 0, 1) := by decide +kernel
theorem dX9_foldedCells_21 : decode cX9_foldedCells 21 = .ok (.istore 4, 2) := by decide +kernel
theorem dX9_foldedCells_23 : decode cX9_foldedCells 23 = .ok (.iload 4, 2) := by decide +kernel
theorem dX9_foldedCells_25 : decode cX9_foldedCells 25 = .ok (.aload_n 1, 1) := by decide +kernel
theorem dX9_foldedCells_26 : decode cX9_foldedCells 26 = .ok (.getfield 119, 3) := by decide +kernel
theorem dX9_foldedCells_29 : decode cX9_foldedCells 29 = .ok (.iconst 1, 1) := by decide +kernel
theorem dX9_foldedCells_30 : decode cX9_foldedCells 30 = .ok (.isub, 1) := by decide +kernel
theorem dX9_foldedCells_31 : decode cX9_foldedCells 31 = .ok (.if_icmp .ge 38, 3) := by decide +kernel
theorem dX9_foldedCells_34 : decode cX9_foldedCells 34 = .ok (.aload_n 0, 1) := by decide +kernel
theorem dX9_foldedCells_35 : decode cX9_foldedCells 35 = .ok (.getfield 57, 3) := by decide +kernel
theorem dX9_foldedCells_38 : decode cX9_foldedCells 38 = .ok (.aload_n 1, 1) := by decide +kernel
theorem dX9_foldedCells_39 : decode cX9_foldedCells 39 = .ok (.iload 4, 2) := by decide +kernel
theorem dX9_foldedCells_41 : decode cX9_foldedCells 41 = .ok (.iload_n 3, 1) := by decide +kernel
theorem dX9_foldedCells_42 : decode cX9_foldedCells 42 = .ok (.invokevirtual 167, 3) := by decide +kernel
theorem dX9_foldedCells_45 : decode cX9_foldedCells 45 = .ok (.iload_n 2, 1) := by decide +kernel
theorem dX9_foldedCells_46 : decode cX9_foldedCells 46 = .ok (.aload_n 0, 1) := by decide +kernel
theorem dX9_foldedCells_47 : decode cX9_foldedCells 47 = .ok (.getfield 57, 3) := by decide +kernel
theorem dX9_foldedCells_50 : decode cX9_foldedCells 50 = .ok (.invokevirtual 178, 3) := by decide +kernel
theorem dX9_foldedCells_53 : decode cX9_foldedCells 53 = .ok (.ifCond .eq 7, 3) := by decide +kernel
theorem dX9_foldedCells_56 : decode cX9_foldedCells 56 = .ok (.iconst 1, 1) := by decide +kernel
theorem dX9_foldedCells_57 : decode cX9_foldedCells 57 = .ok (.goto 4, 3) := by decide +kernel
theorem dX9_foldedCells_60 : decode cX9_foldedCells 60 = .ok (.iconst 0, 1) := by decide +kernel
theorem dX9_foldedCells_61 : decode cX9_foldedCells 61 = .ok (.iadd, 1) := by decide +kernel
theorem dX9_foldedCells_62 : decode cX9_foldedCells 62 = .ok (.istore_n 2, 1) := by decide +kernel
theorem dX9_foldedCells_63 : decode cX9_foldedCells 63 = .ok (.iinc 4 1, 3) := by decide +kernel
theorem dX9_foldedCells_66 : decode cX9_foldedCells 66 = .ok (.goto (-43), 3) := by decide +kernel
theorem dX9_foldedCells_69 : decode cX9_foldedCells 69 = .ok (.iinc 3 1, 3) := by decide +kernel
theorem dX9_foldedCells_72 : decode cX9_foldedCells 72 = .ok (.goto (-62), 3) := by decide +kernel
theorem dX9_foldedCells_75 : decode cX9_foldedCells 75 = .ok (.iload_n 2, 1) := by decide +kernel
theorem dX9_foldedCells_76 : decode cX9_foldedCells 76 = .ok (.ireturn, 1) := by decide +kernel
theorem dX9_unsureCells_0 : decode cX9_unsureCells 0 = .ok (.aload_n 1, 1) := by decide +kernel
theorem dX9_unsureCells_1 : decode cX9_unsureCells 1 = .ok (.ifnonnull 5, 3) := by decide +kernel
theorem dX9_unsureCells_4 : decode cX9_unsureCells 4 = .ok (.iconst 0, 1) := by decide +kernel
theorem dX9_unsureCells_5 : decode cX9_unsureCells 5 = .ok (.ireturn, 1) := by decide +kernel
theorem dX9_unsureCells_6 : decode cX9_unsureCells 6 = .ok (.iconst 0, 1) := by decide +kernel
theorem dX9_unsureCells_7 : decode cX9_unsureCells 7 = .ok (.istore_n 2, 1) := by decide +kernel
theorem dX9_unsureCells_8 : decode cX9_unsureCells 8 = .ok (.iconst 0, 1) := by decide +kernel
theorem dX9_unsureCells_9 : decode cX9_unsureCells 9 = .ok (.istore_n 3, 1) := by decide +kernel
theorem dX9_unsureCells_10 : decode cX9_unsureCells 10 = .ok (.iload_n 3, 1) := by decide +kernel
theorem dX9_unsureCells_11 : decode cX9_unsureCells 11 = .ok (.aload_n 1, 1) := by decide +kernel
theorem dX9_unsureCells_12 : decode cX9_unsureCells 12 = .ok (.getfield 122, 3) := by decide +kernel
theorem dX9_unsureCells_15 : decode cX9_unsureCells 15 = .ok (.iconst 1, 1) := by decide +kernel
theorem dX9_unsureCells_16 : decode cX9_unsureCells 16 = .ok (.isub, 1) := by decide +kernel
theorem dX9_unsureCells_17 : decode cX9_unsureCells 17 = .ok (.if_icmp .ge 58, 3) := by decide +kernel
theorem dX9_unsureCells_20 : decode cX9_unsureCells 20 = .ok (.iconst 0, 1) := by decide +kernel
theorem dX9_unsureCells_21 : decode cX9_unsureCells 21 = .ok (.istore 4, 2) := by decide +kernel
theorem dX9_unsureCells_23 : decode cX9_unsureCells 23 = .ok (.iload 4, 2) := by decide +kernel
theorem dX9_unsureCells_25 : decode cX9_unsureCells 25 = .ok (.aload_n 1, 1) := by decide +kernel
theorem dX9_unsureCells_26 : decode cX9_unsureCells 26 = .ok (.getfield 119, 3) := by decide +kernel
theorem dX9_unsureCells_29 : decode cX9_unsureCells 29 = .ok (.iconst 1, 1) := by decide +kernel
theorem dX9_unsureCells_30 : decode cX9_unsureCells 30 = .ok (.isub, 1) := by decide +kernel
theorem dX9_unsureCells_31 : decode cX9_unsureCells 31 = .ok (.if_icmp .ge 38, 3) := by decide +kernel
theorem dX9_unsureCells_34 : decode cX9_unsureCells 34 = .ok (.aload_n 0, 1) := by decide +kernel
theorem dX9_unsureCells_35 : decode cX9_unsureCells 35 = .ok (.getfield 57, 3) := by decide +kernel
theorem dX9_unsureCells_38 : decode cX9_unsureCells 38 = .ok (.aload_n 1, 1) := by decide +kernel
theorem dX9_unsureCells_39 : decode cX9_unsureCells 39 = .ok (.iload 4, 2) := by decide +kernel
theorem dX9_unsureCells_41 : decode cX9_unsureCells 41 = .ok (.iload_n 3, 1) := by decide +kernel
theorem dX9_unsureCells_42 : decode cX9_unsureCells 42 = .ok (.invokevirtual 167, 3) := by decide +kernel
theorem dX9_unsureCells_45 : decode cX9_unsureCells 45 = .ok (.iload_n 2, 1) := by decide +kernel
theorem dX9_unsureCells_46 : decode cX9_unsureCells 46 = .ok (.aload_n 0, 1) := by decide +kernel
theorem dX9_unsureCells_47 : decode cX9_unsureCells 47 = .ok (.getfield 57, 3) := by decide +kernel
theorem dX9_unsureCells_50 : decode cX9_unsureCells 50 = .ok (.invokevirtual 174, 3) := by decide +kernel
theorem dX9_unsureCells_53 : decode cX9_unsureCells 53 = .ok (.ifCond .eq 7, 3) := by decide +kernel
theorem dX9_unsureCells_56 : decode cX9_unsureCells 56 = .ok (.iconst 0, 1) := by decide +kernel
theorem dX9_unsureCells_57 : decode cX9_unsureCells 57 = .ok (.goto 4, 3) := by decide +kernel
theorem dX9_unsureCells_60 : decode cX9_unsureCells 60 = .ok (.iconst 1, 1) := by decide +kernel
theorem dX9_unsureCells_61 : decode cX9_unsureCells 61 = .ok (.iadd, 1) := by decide +kernel
theorem dX9_unsureCells_62 : decode cX9_unsureCells 62 = .ok (.istore_n 2, 1) := by decide +kernel
theorem dX9_unsureCells_63 : decode cX9_unsureCells 63 = .ok (.iinc 4 1, 3) := by decide +kernel
theorem dX9_unsureCells_66 : decode cX9_unsureCells 66 = .ok (.goto (-43), 3) := by decide +kernel
theorem dX9_unsureCells_69 : decode cX9_unsureCells 69 = .ok (.iinc 3 1, 3) := by decide +kernel
theorem dX9_unsureCells_72 : decode cX9_unsureCells 72 = .ok (.goto (-62), 3) := by decide +kernel
theorem dX9_unsureCells_75 : decode cX9_unsureCells 75 = .ok (.iload_n 2, 1) := by decide +kernel
theorem dX9_unsureCells_76 : decode cX9_unsureCells 76 = .ok (.ireturn, 1) := by decide +kernel
theorem dX9_foldedCellsOfAll_0 : decode cX9_foldedCellsOfAll 0 = .ok (.iconst 0, 1) := by decide +kernel
theorem dX9_foldedCellsOfAll_1 : decode cX9_foldedCellsOfAll 1 = .ok (.istore_n 1, 1) := by decide +kernel
theorem dX9_foldedCellsOfAll_2 : decode cX9_foldedCellsOfAll 2 = .ok (.iconst 0, 1) := by decide +kernel
theorem dX9_foldedCellsOfAll_3 : decode cX9_foldedCellsOfAll 3 = .ok (.istore_n 2, 1) := by decide +kernel
theorem dX9_foldedCellsOfAll_4 : decode cX9_foldedCellsOfAll 4 = .ok (.iload_n 2, 1) := by decide +kernel
theorem dX9_foldedCellsOfAll_5 : decode cX9_foldedCellsOfAll 5 = .ok (.aload_n 0, 1) := by decide +kernel
theorem dX9_foldedCellsOfAll_6 : decode cX9_foldedCellsOfAll 6 = .ok (.getfield 12, 3) := by decide +kernel
theorem dX9_foldedCellsOfAll_9 : decode cX9_foldedCellsOfAll 9 = .ok (.invokevirtual 61, 3) := by decide +kernel
theorem dX9_foldedCellsOfAll_12 : decode cX9_foldedCellsOfAll 12 = .ok (.if_icmp .ge 24, 3) := by decide +kernel
theorem dX9_foldedCellsOfAll_15 : decode cX9_foldedCellsOfAll 15 = .ok (.iload_n 1, 1) := by decide +kernel
theorem dX9_foldedCellsOfAll_16 : decode cX9_foldedCellsOfAll 16 = .ok (.aload_n 0, 1) := by decide +kernel
theorem dX9_foldedCellsOfAll_17 : decode cX9_foldedCellsOfAll 17 = .ok (.aload_n 0, 1) := by decide +kernel
theorem dX9_foldedCellsOfAll_18 : decode cX9_foldedCellsOfAll 18 = .ok (.getfield 12, 3) := by decide +kernel
theorem dX9_foldedCellsOfAll_21 : decode cX9_foldedCellsOfAll 21 = .ok (.iload_n 2, 1) := by decide +kernel
theorem dX9_foldedCellsOfAll_22 : decode cX9_foldedCellsOfAll 22 = .ok (.invokevirtual 83, 3) := by decide +kernel
theorem dX9_foldedCellsOfAll_25 : decode cX9_foldedCellsOfAll 25 = .ok (.invokevirtual 135, 3) := by decide +kernel
theorem dX9_foldedCellsOfAll_28 : decode cX9_foldedCellsOfAll 28 = .ok (.iadd, 1) := by decide +kernel
theorem dX9_foldedCellsOfAll_29 : decode cX9_foldedCellsOfAll 29 = .ok (.istore_n 1, 1) := by decide +kernel
theorem dX9_foldedCellsOfAll_30 : decode cX9_foldedCellsOfAll 30 = .ok (.iinc 2 1, 3) := by decide +kernel
theorem dX9_foldedCellsOfAll_33 : decode cX9_foldedCellsOfAll 33 = .ok (.goto (-29), 3) := by decide +kernel
theorem dX9_foldedCellsOfAll_36 : decode cX9_foldedCellsOfAll 36 = .ok (.iload_n 1, 1) := by decide +kernel
theorem dX9_foldedCellsOfAll_37 : decode cX9_foldedCellsOfAll 37 = .ok (.ireturn, 1) := by decide +kernel
theorem dX9_unsureCellsOfAll_0 : decode cX9_unsureCellsOfAll 0 = .ok (.iconst 0, 1) := by decide +kernel
theorem dX9_unsureCellsOfAll_1 : decode cX9_unsureCellsOfAll 1 = .ok (.istore_n 1, 1) := by decide +kernel
theorem dX9_unsureCellsOfAll_2 : decode cX9_unsureCellsOfAll 2 = .ok (.iconst 0, 1) := by decide +kernel
theorem dX9_unsureCellsOfAll_3 : decode cX9_unsureCellsOfAll 3 = .ok (.istore_n 2, 1) := by decide +kernel
theorem dX9_unsureCellsOfAll_4 : decode cX9_unsureCellsOfAll 4 = .ok (.iload_n 2, 1) := by decide +kernel
theorem dX9_unsureCellsOfAll_5 : decode cX9_unsureCellsOfAll 5 = .ok (.aload_n 0, 1) := by decide +kernel
theorem dX9_unsureCellsOfAll_6 : decode cX9_unsureCellsOfAll 6 = .ok (.getfield 12, 3) := by decide +kernel
theorem dX9_unsureCellsOfAll_9 : decode cX9_unsureCellsOfAll 9 = .ok (.invokevirtual 61, 3) := by decide +kernel
theorem dX9_unsureCellsOfAll_12 : decode cX9_unsureCellsOfAll 12 = .ok (.if_icmp .ge 24, 3) := by decide +kernel
theorem dX9_unsureCellsOfAll_15 : decode cX9_unsureCellsOfAll 15 = .ok (.iload_n 1, 1) := by decide +kernel
theorem dX9_unsureCellsOfAll_16 : decode cX9_unsureCellsOfAll 16 = .ok (.aload_n 0, 1) := by decide +kernel
theorem dX9_unsureCellsOfAll_17 : decode cX9_unsureCellsOfAll 17 = .ok (.aload_n 0, 1) := by decide +kernel
theorem dX9_unsureCellsOfAll_18 : decode cX9_unsureCellsOfAll 18 = .ok (.getfield 12, 3) := by decide +kernel
theorem dX9_unsureCellsOfAll_21 : decode cX9_unsureCellsOfAll 21 = .ok (.iload_n 2, 1) := by decide +kernel
theorem dX9_unsureCellsOfAll_22 : decode cX9_unsureCellsOfAll 22 = .ok (.invokevirtual 83, 3) := by decide +kernel
theorem dX9_unsureCellsOfAll_25 : decode cX9_unsureCellsOfAll 25 = .ok (.invokevirtual 290, 3) := by decide +kernel
theorem dX9_unsureCellsOfAll_28 : decode cX9_unsureCellsOfAll 28 = .ok (.iadd, 1) := by decide +kernel
theorem dX9_unsureCellsOfAll_29 : decode cX9_unsureCellsOfAll 29 = .ok (.istore_n 1, 1) := by decide +kernel
theorem dX9_unsureCellsOfAll_30 : decode cX9_unsureCellsOfAll 30 = .ok (.iinc 2 1, 3) := by decide +kernel
theorem dX9_unsureCellsOfAll_33 : decode cX9_unsureCellsOfAll 33 = .ok (.goto (-29), 3) := by decide +kernel
theorem dX9_unsureCellsOfAll_36 : decode cX9_unsureCellsOfAll 36 = .ok (.iload_n 1, 1) := by decide +kernel
theorem dX9_unsureCellsOfAll_37 : decode cX9_unsureCellsOfAll 37 = .ok (.ireturn, 1) := by decide +kernel
theorem dX9_gapsOfAll_0 : decode cX9_gapsOfAll 0 = .ok (.iconst 0, 1) := by decide +kernel
theorem dX9_gapsOfAll_1 : decode cX9_gapsOfAll 1 = .ok (.istore_n 1, 1) := by decide +kernel
theorem dX9_gapsOfAll_2 : decode cX9_gapsOfAll 2 = .ok (.iconst 0, 1) := by decide +kernel
theorem dX9_gapsOfAll_3 : decode cX9_gapsOfAll 3 = .ok (.istore_n 2, 1) := by decide +kernel
theorem dX9_gapsOfAll_4 : decode cX9_gapsOfAll 4 = .ok (.iload_n 2, 1) := by decide +kernel
theorem dX9_gapsOfAll_5 : decode cX9_gapsOfAll 5 = .ok (.aload_n 0, 1) := by decide +kernel
theorem dX9_gapsOfAll_6 : decode cX9_gapsOfAll 6 = .ok (.getfield 12, 3) := by decide +kernel
theorem dX9_gapsOfAll_9 : decode cX9_gapsOfAll 9 = .ok (.invokevirtual 61, 3) := by decide +kernel
theorem dX9_gapsOfAll_12 : decode cX9_gapsOfAll 12 = .ok (.if_icmp .ge 27, 3) := by decide +kernel
theorem dX9_gapsOfAll_15 : decode cX9_gapsOfAll 15 = .ok (.iload_n 1, 1) := by decide +kernel
theorem dX9_gapsOfAll_16 : decode cX9_gapsOfAll 16 = .ok (.aload_n 0, 1) := by decide +kernel
theorem dX9_gapsOfAll_17 : decode cX9_gapsOfAll 17 = .ok (.getfield 12, 3) := by decide +kernel
theorem dX9_gapsOfAll_20 : decode cX9_gapsOfAll 20 = .ok (.aload_n 0, 1) := by decide +kernel
theorem dX9_gapsOfAll_21 : decode cX9_gapsOfAll 21 = .ok (.getfield 12, 3) := by decide +kernel
theorem dX9_gapsOfAll_24 : decode cX9_gapsOfAll 24 = .ok (.iload_n 2, 1) := by decide +kernel
theorem dX9_gapsOfAll_25 : decode cX9_gapsOfAll 25 = .ok (.invokevirtual 83, 3) := by decide +kernel
theorem dX9_gapsOfAll_28 : decode cX9_gapsOfAll 28 = .ok (.invokestatic 132, 3) := by decide +kernel
theorem dX9_gapsOfAll_31 : decode cX9_gapsOfAll 31 = .ok (.iadd, 1) := by decide +kernel
theorem dX9_gapsOfAll_32 : decode cX9_gapsOfAll 32 = .ok (.istore_n 1, 1) := by decide +kernel
theorem dX9_gapsOfAll_33 : decode cX9_gapsOfAll 33 = .ok (.iinc 2 1, 3) := by decide +kernel
theorem dX9_gapsOfAll_36 : decode cX9_gapsOfAll 36 = .ok (.goto (-32), 3) := by decide +kernel
theorem dX9_gapsOfAll_39 : decode cX9_gapsOfAll 39 = .ok (.iload_n 1, 1) := by decide +kernel
theorem dX9_gapsOfAll_40 : decode cX9_gapsOfAll 40 = .ok (.ireturn, 1) := by decide +kernel
theorem dX9_firstWithGreatestGap_0 : decode cX9_firstWithGreatestGap 0 = .ok (.iconst (-1), 1) := by decide +kernel
theorem dX9_firstWithGreatestGap_1 : decode cX9_firstWithGreatestGap 1 = .ok (.istore_n 1, 1) := by decide +kernel
theorem dX9_firstWithGreatestGap_2 : decode cX9_firstWithGreatestGap 2 = .ok (.iconst 0, 1) := by decide +kernel
theorem dX9_firstWithGreatestGap_3 : decode cX9_firstWithGreatestGap 3 = .ok (.istore_n 2, 1) := by decide +kernel
theorem dX9_firstWithGreatestGap_4 : decode cX9_firstWithGreatestGap 4 = .ok (.iconst 0, 1) := by decide +kernel
theorem dX9_firstWithGreatestGap_5 : decode cX9_firstWithGreatestGap 5 = .ok (.istore_n 3, 1) := by decide +kernel
theorem dX9_firstWithGreatestGap_6 : decode cX9_firstWithGreatestGap 6 = .ok (.iload_n 3, 1) := by decide +kernel
theorem dX9_firstWithGreatestGap_7 : decode cX9_firstWithGreatestGap 7 = .ok (.aload_n 0, 1) := by decide +kernel
theorem dX9_firstWithGreatestGap_8 : decode cX9_firstWithGreatestGap 8 = .ok (.getfield 12, 3) := by decide +kernel
theorem dX9_firstWithGreatestGap_11 : decode cX9_firstWithGreatestGap 11 = .ok (.invokevirtual 61, 3) := by decide +kernel
theorem dX9_firstWithGreatestGap_14 : decode cX9_firstWithGreatestGap 14 = .ok (.if_icmp .ge 37, 3) := by decide +kernel
theorem dX9_firstWithGreatestGap_17 : decode cX9_firstWithGreatestGap 17 = .ok (.aload_n 0, 1) := by decide +kernel
theorem dX9_firstWithGreatestGap_18 : decode cX9_firstWithGreatestGap 18 = .ok (.getfield 12, 3) := by decide +kernel
theorem dX9_firstWithGreatestGap_21 : decode cX9_firstWithGreatestGap 21 = .ok (.aload_n 0, 1) := by decide +kernel
theorem dX9_firstWithGreatestGap_22 : decode cX9_firstWithGreatestGap 22 = .ok (.getfield 12, 3) := by decide +kernel
theorem dX9_firstWithGreatestGap_25 : decode cX9_firstWithGreatestGap 25 = .ok (.iload_n 3, 1) := by decide +kernel
theorem dX9_firstWithGreatestGap_26 : decode cX9_firstWithGreatestGap 26 = .ok (.invokevirtual 83, 3) := by decide +kernel
theorem dX9_firstWithGreatestGap_29 : decode cX9_firstWithGreatestGap 29 = .ok (.invokestatic 87, 3) := by decide +kernel
theorem dX9_firstWithGreatestGap_32 : decode cX9_firstWithGreatestGap 32 = .ok (.istore 4, 2) := by decide +kernel
theorem dX9_firstWithGreatestGap_34 : decode cX9_firstWithGreatestGap 34 = .ok (.iload 4, 2) := by decide +kernel
theorem dX9_firstWithGreatestGap_36 : decode cX9_firstWithGreatestGap 36 = .ok (.iload_n 2, 1) := by decide +kernel
theorem dX9_firstWithGreatestGap_37 : decode cX9_firstWithGreatestGap 37 = .ok (.if_icmp .le 8, 3) := by decide +kernel
theorem dX9_firstWithGreatestGap_40 : decode cX9_firstWithGreatestGap 40 = .ok (.iload 4, 2) := by decide +kernel
theorem dX9_firstWithGreatestGap_42 : decode cX9_firstWithGreatestGap 42 = .ok (.istore_n 2, 1) := by decide +kernel
theorem dX9_firstWithGreatestGap_43 : decode cX9_firstWithGreatestGap 43 = .ok (.iload_n 3, 1) := by decide +kernel
theorem dX9_firstWithGreatestGap_44 : decode cX9_firstWithGreatestGap 44 = .ok (.istore_n 1, 1) := by decide +kernel
theorem dX9_firstWithGreatestGap_45 : decode cX9_firstWithGreatestGap 45 = .ok (.iinc 3 1, 3) := by decide +kernel
theorem dX9_firstWithGreatestGap_48 : decode cX9_firstWithGreatestGap 48 = .ok (.goto (-42), 3) := by decide +kernel
theorem dX9_firstWithGreatestGap_51 : decode cX9_firstWithGreatestGap 51 = .ok (.iload_n 1, 1) := by decide +kernel
theorem dX9_firstWithGreatestGap_52 : decode cX9_firstWithGreatestGap 52 = .ok (.ireturn, 1) := by decide +kernel
theorem dX10_init_0 : decode cX10_init 0 = .ok (.aload_n 0, 1) := by decide +kernel
theorem dX10_init_1 : decode cX10_init 1 = .ok (.invokespecial 1, 3) := by decide +kernel
theorem dX10_init_4 : decode cX10_init 4 = .ok (.aload_n 0, 1) := by decide +kernel
theorem dX10_init_5 : decode cX10_init 5 = .ok (.sipush 338, 3) := by decide +kernel
theorem dX10_init_8 : decode cX10_init 8 = .ok (.newarray .int, 2) := by decide +kernel
theorem dX10_init_10 : decode cX10_init 10 = .ok (.putfield 7, 3) := by decide +kernel
theorem dX10_init_13 : decode cX10_init 13 = .ok (.aload_n 0, 1) := by decide +kernel
theorem dX10_init_14 : decode cX10_init 14 = .ok (.sipush 5408, 3) := by decide +kernel
theorem dX10_init_17 : decode cX10_init 17 = .ok (.newarray .int, 2) := by decide +kernel
theorem dX10_init_19 : decode cX10_init 19 = .ok (.putfield 13, 3) := by decide +kernel
theorem dX10_init_22 : decode cX10_init 22 = .ok (.aload_n 0, 1) := by decide +kernel
theorem dX10_init_23 : decode cX10_init 23 = .ok (.sipush 676, 3) := by decide +kernel
theorem dX10_init_26 : decode cX10_init 26 = .ok (.newarray .int, 2) := by decide +kernel
theorem dX10_init_28 : decode cX10_init 28 = .ok (.putfield 16, 3) := by decide +kernel
theorem dX10_init_31 : decode cX10_init 31 = .ok (.aload_n 0, 1) := by decide +kernel
theorem dX10_init_32 : decode cX10_init 32 = .ok (.iconst 2, 1) := by decide +kernel
theorem dX10_init_33 : decode cX10_init 33 = .ok (.newarray .boolean, 2) := by decide +kernel
theorem dX10_init_35 : decode cX10_init 35 = .ok (.putfield 19, 3) := by decide +kernel
theorem dX10_init_38 : decode cX10_init 38 = .ok (.aload_n 0, 1) := by decide +kernel
theorem dX10_init_39 : decode cX10_init 39 = .ok (.iconst 2, 1) := by decide +kernel
theorem dX10_init_40 : decode cX10_init 40 = .ok (.newarray .long, 2) := by decide +kernel
theorem dX10_init_42 : decode cX10_init 42 = .ok (.putfield 23, 3) := by decide +kernel
theorem dX10_init_45 : decode cX10_init 45 = .ok (.aload_n 0, 1) := by decide +kernel
theorem dX10_init_46 : decode cX10_init 46 = .ok (.bipush 20, 2) := by decide +kernel
theorem dX10_init_48 : decode cX10_init 48 = .ok (.newarray .int, 2) := by decide +kernel
theorem dX10_init_50 : decode cX10_init 50 = .ok (.putfield 27, 3) := by decide +kernel
theorem dX10_init_53 : decode cX10_init 53 = .ok (.aload_n 0, 1) := by decide +kernel
theorem dX10_init_54 : decode cX10_init 54 = .ok (.bipush 20, 2) := by decide +kernel
theorem dX10_init_56 : decode cX10_init 56 = .ok (.newarray .int, 2) := by decide +kernel
theorem dX10_init_58 : decode cX10_init 58 = .ok (.putfield 30, 3) := by decide +kernel
theorem dX10_init_61 : decode cX10_init 61 = .ok (.aload_n 0, 1) := by decide +kernel
theorem dX10_init_62 : decode cX10_init 62 = .ok (.bipush 20, 2) := by decide +kernel
theorem dX10_init_64 : decode cX10_init 64 = .ok (.newarray .int, 2) := by decide +kernel
theorem dX10_init_66 : decode cX10_init 66 = .ok (.putfield 33, 3) := by decide +kernel
theorem dX10_init_69 : decode cX10_init 69 = .ok (.aload_n 0, 1) := by decide +kernel
theorem dX10_init_70 : decode cX10_init 70 = .ok (.bipush 61, 2) := by decide +kernel
theorem dX10_init_72 : decode cX10_init 72 = .ok (.newarray .int, 2) := by decide +kernel
theorem dX10_init_74 : decode cX10_init 74 = .ok (.putfield 36, 3) := by decide +kernel
theorem dX10_init_77 : decode cX10_init 77 = .ok (.aload_n 0, 1) := by decide +kernel
theorem dX10_init_78 : decode cX10_init 78 = .ok (.bipush 61, 2) := by decide +kernel
theorem dX10_init_80 : decode cX10_init 80 = .ok (.newarray .int, 2) := by decide +kernel
theorem dX10_init_82 : decode cX10_init 82 = .ok (.putfield 39, 3) := by decide +kernel
theorem dX10_init_85 : decode cX10_init 85 = .ok (.aload_n 0, 1) := by decide +kernel
theorem dX10_init_86 : decode cX10_init 86 = .ok (.lconst 0, 1) := by decide +kernel
theorem dX10_init_87 : decode cX10_init 87 = .ok (.putfield 42, 3) := by decide +kernel
theorem dX10_init_90 : decode cX10_init 90 = .ok (.return_, 1) := by decide +kernel
theorem dX10_in_0 : decode cX10_in 0 = .ok (.lload_n 0, 1) := by decide +kernel
theorem dX10_in_1 : decode cX10_in 1 = .ok (.lload_n 2, 1) := by decide +kernel
theorem dX10_in_2 : decode cX10_in 2 = .ok (.lcmp, 1) := by decide +kernel
theorem dX10_in_3 : decode cX10_in 3 = .ok (.ifCond .lt 14, 3) := by decide +kernel
theorem dX10_in_6 : decode cX10_in 6 = .ok (.lload_n 0, 1) := by decide +kernel
theorem dX10_in_7 : decode cX10_in 7 = .ok (.lload 4, 2) := by decide +kernel
theorem dX10_in_9 : decode cX10_in 9 = .ok (.lcmp, 1) := by decide +kernel
theorem dX10_in_10 : decode cX10_in 10 = .ok (.ifCond .gt 7, 3) := by decide +kernel
theorem dX10_in_13 : decode cX10_in 13 = .ok (.iconst 1, 1) := by decide +kernel
theorem dX10_in_14 : decode cX10_in 14 = .ok (.goto 4, 3) := by decide +kernel
theorem dX10_in_17 : decode cX10_in 17 = .ok (.iconst 0, 1) := by decide +kernel
theorem dX10_in_18 : decode cX10_in 18 = .ok (.ireturn, 1) := by decide +kernel
theorem dX10_size_0 : decode cX10_size 0 = .ok (.iload_n 0, 1) := by decide +kernel
theorem dX10_size_1 : decode cX10_size 1 = .ok (.ifCond .ge 8, 3) := by decide +kernel
theorem dX10_size_4 : decode cX10_size 4 = .ok (.iload_n 0, 1) := by decide +kernel
theorem dX10_size_5 : decode cX10_size 5 = .ok (.ineg, 1) := by decide +kernel
theorem dX10_size_6 : decode cX10_size 6 = .ok (.goto 4, 3) := by decide +kernel
theorem dX10_size_9 : decode cX10_size 9 = .ok (.iload_n 0, 1) := by decide +kernel
theorem dX10_size_10 : decode cX10_size 10 = .ok (.ireturn, 1) := by decide +kernel
theorem dX10_larger_0 : decode cX10_larger 0 = .ok (.iload_n 0, 1) := by decide +kernel
theorem dX10_larger_1 : decode cX10_larger 1 = .ok (.iload_n 1, 1) := by decide +kernel
theorem dX10_larger_2 : decode cX10_larger 2 = .ok (.if_icmp .le 7, 3) := by decide +kernel
theorem dX10_larger_5 : decode cX10_larger 5 = .ok (.iload_n 0, 1) := by decide +kernel
theorem dX10_larger_6 : decode cX10_larger 6 = .ok (.goto 4, 3) := by decide +kernel
theorem dX10_larger_9 : decode cX10_larger 9 = .ok (.iload_n 1, 1) := by decide +kernel
theorem dX10_larger_10 : decode cX10_larger 10 = .ok (.ireturn, 1) := by decide +kernel
theorem dX10_its_0 : decode cX10_its 0 = .ok (.aload_n 0, 1) := by decide +kernel
theorem dX10_its_1 : decode cX10_its 1 = .ok (.getfield 7, 3) := by decide +kernel
theorem dX10_its_4 : decode cX10_its 4 = .ok (.iconst 2, 1) := by decide +kernel
theorem dX10_its_5 : decode cX10_its 5 = .ok (.bipush 6, 2) := by decide +kernel
theorem dX10_its_7 : decode cX10_its 7 = .ok (.iload_n 1, 1) := by decide +kernel
theorem dX10_its_8 : decode cX10_its 8 = .ok (.imul, 1) := by decide +kernel
theorem dX10_its_9 : decode cX10_its 9 = .ok (.iadd, 1) := by decide +kernel
theorem dX10_its_10 : decode cX10_its 10 = .ok (.iload_n 2, 1) := by decide +kernel
theorem dX10_its_11 : decode cX10_its 11 = .ok (.iadd, 1) := by decide +kernel
theorem dX10_its_12 : decode cX10_its 12 = .ok (.iaload, 1) := by decide +kernel
theorem dX10_its_13 : decode cX10_its 13 = .ok (.ireturn, 1) := by decide +kernel
theorem dX10_isGrid_0 : decode cX10_isGrid 0 = .ok (.iload_n 1, 1) := by decide +kernel
theorem dX10_isGrid_1 : decode cX10_isGrid 1 = .ok (.i2l, 1) := by decide +kernel
theorem dX10_isGrid_2 : decode cX10_isGrid 2 = .ok (.lconst 0, 1) := by decide +kernel
theorem dX10_isGrid_3 : decode cX10_isGrid 3 = .ok (.aload_n 0, 1) := by decide +kernel
theorem dX10_isGrid_4 : decode cX10_isGrid 4 = .ok (.getfield 7, 3) := by decide +kernel
theorem dX10_isGrid_7 : decode cX10_isGrid 7 = .ok (.iconst 0, 1) := by decide +kernel
theorem dX10_isGrid_8 : decode cX10_isGrid 8 = .ok (.iaload, 1) := by decide +kernel
theorem dX10_isGrid_9 : decode cX10_isGrid 9 = .ok (.iconst 1, 1) := by decide +kernel
theorem dX10_isGrid_10 : decode cX10_isGrid 10 = .ok (.isub, 1) := by decide +kernel
theorem dX10_isGrid_11 : decode cX10_isGrid 11 = .ok (.i2l, 1) := by decide +kernel
theorem dX10_isGrid_12 : decode cX10_isGrid 12 = .ok (.invokestatic 50, 3) := by decide +kernel
theorem dX10_isGrid_15 : decode cX10_isGrid 15 = .ok (.ireturn, 1) := by decide +kernel
theorem dX10_isNode_0 : decode cX10_isNode 0 = .ok (.aload_n 0, 1) := by decide +kernel
theorem dX10_isNode_1 : decode cX10_isNode 1 = .ok (.iload_n 1, 1) := by decide +kernel
theorem dX10_isNode_2 : decode cX10_isNode 2 = .ok (.invokevirtual 54, 3) := by decide +kernel
theorem dX10_isNode_5 : decode cX10_isNode 5 = .ok (.ifCond .eq 43, 3) := by decide +kernel
theorem dX10_isNode_8 : decode cX10_isNode 8 = .ok (.iload_n 2, 1) := by decide +kernel
theorem dX10_isNode_9 : decode cX10_isNode 9 = .ok (.i2l, 1) := by decide +kernel
theorem dX10_isNode_10 : decode cX10_isNode 10 = .ok (.lconst 0, 1) := by decide +kernel
theorem dX10_isNode_11 : decode cX10_isNode 11 = .ok (.aload_n 0, 1) := by decide +kernel
theorem dX10_isNode_12 : decode cX10_isNode 12 = .ok (.iload_n 1, 1) := by decide +kernel
theorem dX10_isNode_13 : decode cX10_isNode 13 = .ok (.iconst 4, 1) := by decide +kernel
theorem dX10_isNode_14 : decode cX10_isNode 14 = .ok (.invokevirtual 58, 3) := by decide +kernel
theorem dX10_isNode_17 : decode cX10_isNode 17 = .ok (.iconst 1, 1) := by decide +kernel
theorem dX10_isNode_18 : decode cX10_isNode 18 = .ok (.isub, 1) := by decide +kernel
theorem dX10_isNode_19 : decode cX10_isNode 19 = .ok (.i2l, 1) := by decide +kernel
theorem dX10_isNode_20 : decode cX10_isNode 20 = .ok (.invokestatic 50, 3) := by decide +kernel
theorem dX10_isNode_23 : decode cX10_isNode 23 = .ok (.ifCond .eq 25, 3) := by decide +kernel
theorem dX10_isNode_26 : decode cX10_isNode 26 = .ok (.iload_n 3, 1) := by decide +kernel
theorem dX10_isNode_27 : decode cX10_isNode 27 = .ok (.i2l, 1) := by decide +kernel
theorem dX10_isNode_28 : decode cX10_isNode 28 = .ok (.lconst 0, 1) := by decide +kernel
theorem dX10_isNode_29 : decode cX10_isNode 29 = .ok (.aload_n 0, 1) := by decide +kernel
theorem dX10_isNode_30 : decode cX10_isNode 30 = .ok (.iload_n 1, 1) := by decide +kernel
theorem dX10_isNode_31 : decode cX10_isNode 31 = .ok (.iconst 5, 1) := by decide +kernel
theorem dX10_isNode_32 : decode cX10_isNode 32 = .ok (.invokevirtual 58, 3) := by decide +kernel
theorem dX10_isNode_35 : decode cX10_isNode 35 = .ok (.iconst 1, 1) := by decide +kernel
theorem dX10_isNode_36 : decode cX10_isNode 36 = .ok (.isub, 1) := by decide +kernel
theorem dX10_isNode_37 : decode cX10_isNode 37 = .ok (.i2l, 1) := by decide +kernel
theorem dX10_isNode_38 : decode cX10_isNode 38 = .ok (.invokestatic 50, 3) := by decide +kernel
theorem dX10_isNode_41 : decode cX10_isNode 41 = .ok (.ifCond .eq 7, 3) := by decide +kernel
theorem dX10_isNode_44 : decode cX10_isNode 44 = .ok (.iconst 1, 1) := by decide +kernel
theorem dX10_isNode_45 : decode cX10_isNode 45 = .ok (.goto 4, 3) := by decide +kernel
theorem dX10_isNode_48 : decode cX10_isNode 48 = .ok (.iconst 0, 1) := by decide +kernel
theorem dX10_isNode_49 : decode cX10_isNode 49 = .ok (.ireturn, 1) := by decide +kernel
theorem dX10_isCell_0 : decode cX10_isCell 0 = .ok (.aload_n 0, 1) := by decide +kernel
theorem dX10_isCell_1 : decode cX10_isCell 1 = .ok (.iload_n 1, 1) := by decide +kernel
theorem dX10_isCell_2 : decode cX10_isCell 2 = .ok (.invokevirtual 54, 3) := by decide +kernel
theorem dX10_isCell_5 : decode cX10_isCell 5 = .ok (.ifCond .eq 43, 3) := by decide +kernel
theorem dX10_isCell_8 : decode cX10_isCell 8 = .ok (.iload_n 2, 1) := by decide +kernel
theorem dX10_isCell_9 : decode cX10_isCell 9 = .ok (.i2l, 1) := by decide +kernel
theorem dX10_isCell_10 : decode cX10_isCell 10 = .ok (.lconst 0, 1) := by decide +kernel
theorem dX10_isCell_11 : decode cX10_isCell 11 = .ok (.aload_n 0, 1) := by decide +kernel
theorem dX10_isCell_12 : decode cX10_isCell 12 = .ok (.iload_n 1, 1) := by decide +kernel
theorem dX10_isCell_13 : decode cX10_isCell 13 = .ok (.iconst 4, 1) := by decide +kernel
theorem dX10_isCell_14 : decode cX10_isCell 14 = .ok (.invokevirtual 58, 3) := by decide +kernel
theorem dX10_isCell_17 : decode cX10_isCell 17 = .ok (.iconst 2, 1) := by decide +kernel
theorem dX10_isCell_18 : decode cX10_isCell 18 = .ok (.isub, 1) := by decide +kernel
theorem dX10_isCell_19 : decode cX10_isCell 19 = .ok (.i2l, 1) := by decide +kernel
theorem dX10_isCell_20 : decode cX10_isCell 20 = .ok (.invokestatic 50, 3) := by decide +kernel
theorem dX10_isCell_23 : decode cX10_isCell 23 = .ok (.ifCond .eq 25, 3) := by decide +kernel
theorem dX10_isCell_26 : decode cX10_isCell 26 = .ok (.iload_n 3, 1) := by decide +kernel
theorem dX10_isCell_27 : decode cX10_isCell 27 = .ok (.i2l, 1) := by decide +kernel
theorem dX10_isCell_28 : decode cX10_isCell 28 = .ok (.lconst 0, 1) := by decide +kernel
theorem dX10_isCell_29 : decode cX10_isCell 29 = .ok (.aload_n 0, 1) := by decide +kernel
theorem dX10_isCell_30 : decode cX10_isCell 30 = .ok (.iload_n 1, 1) := by decide +kernel
theorem dX10_isCell_31 : decode cX10_isCell 31 = .ok (.iconst 5, 1) := by decide +kernel
theorem dX10_isCell_32 : decode cX10_isCell 32 = .ok (.invokevirtual 58, 3) := by decide +kernel
theorem dX10_isCell_35 : decode cX10_isCell 35 = .ok (.iconst 2, 1) := by decide +kernel
theorem dX10_isCell_36 : decode cX10_isCell 36 = .ok (.isub, 1) := by decide +kernel
theorem dX10_isCell_37 : decode cX10_isCell 37 = .ok (.i2l, 1) := by decide +kernel
theorem dX10_isCell_38 : decode cX10_isCell 38 = .ok (.invokestatic 50, 3) := by decide +kernel
theorem dX10_isCell_41 : decode cX10_isCell 41 = .ok (.ifCond .eq 7, 3) := by decide +kernel
theorem dX10_isCell_44 : decode cX10_isCell 44 = .ok (.iconst 1, 1) := by decide +kernel
theorem dX10_isCell_45 : decode cX10_isCell 45 = .ok (.goto 4, 3) := by decide +kernel
theorem dX10_isCell_48 : decode cX10_isCell 48 = .ok (.iconst 0, 1) := by decide +kernel
theorem dX10_isCell_49 : decode cX10_isCell 49 = .ok (.ireturn, 1) := by decide +kernel
theorem dX10_at_0 : decode cX10_at 0 = .ok (.bipush 38, 2) := by decide +kernel
theorem dX10_at_2 : decode cX10_at 2 = .ok (.bipush 50, 2) := by decide +kernel
theorem dX10_at_4 : decode cX10_at 4 = .ok (.iload_n 0, 1) := by decide +kernel
theorem dX10_at_5 : decode cX10_at 5 = .ok (.imul, 1) := by decide +kernel
theorem dX10_at_6 : decode cX10_at 6 = .ok (.iadd, 1) := by decide +kernel
theorem dX10_at_7 : decode cX10_at 7 = .ok (.iconst 2, 1) := by decide +kernel
theorem dX10_at_8 : decode cX10_at 8 = .ok (.iconst 5, 1) := by decide +kernel
theorem dX10_at_9 : decode cX10_at 9 = .ok (.iload_n 2, 1) := by decide +kernel
theorem dX10_at_10 : decode cX10_at 10 = .ok (.imul, 1) := by decide +kernel
theorem dX10_at_11 : decode cX10_at 11 = .ok (.iload_n 1, 1) := by decide +kernel
theorem dX10_at_12 : decode cX10_at 12 = .ok (.iadd, 1) := by decide +kernel
theorem dX10_at_13 : decode cX10_at 13 = .ok (.imul, 1) := by decide +kernel
theorem dX10_at_14 : decode cX10_at 14 = .ok (.iadd, 1) := by decide +kernel
theorem dX10_at_15 : decode cX10_at 15 = .ok (.ireturn, 1) := by decide +kernel
theorem dX10_off_0 : decode cX10_off 0 = .ok (.aload_n 0, 1) := by decide +kernel
theorem dX10_off_1 : decode cX10_off 1 = .ok (.getfield 7, 3) := by decide +kernel
theorem dX10_off_4 : decode cX10_off 4 = .ok (.iload_n 1, 1) := by decide +kernel
theorem dX10_off_5 : decode cX10_off 5 = .ok (.iload_n 2, 1) := by decide +kernel
theorem dX10_off_6 : decode cX10_off 6 = .ok (.iload_n 3, 1) := by decide +kernel
theorem dX10_off_7 : decode cX10_off 7 = .ok (.invokestatic 62, 3) := by decide +kernel
theorem dX10_off_10 : decode cX10_off 10 = .ok (.iload 4, 2) := by decide +kernel
theorem dX10_off_12 : decode cX10_off 12 = .ok (.iadd, 1) := by decide +kernel
theorem dX10_off_13 : decode cX10_off 13 = .ok (.iaload, 1) := by decide +kernel
theorem dX10_off_14 : decode cX10_off 14 = .ok (.ireturn, 1) := by decide +kernel
theorem dX10_stands_0 : decode cX10_stands 0 = .ok (.bipush 64, 2) := by decide +kernel
theorem dX10_stands_2 : decode cX10_stands 2 = .ok (.aload_n 0, 1) := by decide +kernel
theorem dX10_stands_3 : decode cX10_stands 3 = .ok (.iload_n 1, 1) := by decide +kernel
theorem dX10_stands_4 : decode cX10_stands 4 = .ok (.iconst 1, 1) := by decide +kernel
theorem dX10_stands_5 : decode cX10_stands 5 = .ok (.iload_n 3, 1) := by decide +kernel
theorem dX10_stands_6 : decode cX10_stands 6 = .ok (.iadd, 1) := by decide +kernel
theorem dX10_stands_7 : decode cX10_stands 7 = .ok (.invokevirtual 58, 3) := by decide +kernel
theorem dX10_stands_10 : decode cX10_stands 10 = .ok (.iload_n 2, 1) := by decide +kernel
theorem dX10_stands_11 : decode cX10_stands 11 = .ok (.aload_n 0, 1) := by decide +kernel
theorem dX10_stands_12 : decode cX10_stands 12 = .ok (.iload_n 1, 1) := by decide +kernel
theorem dX10_stands_13 : decode cX10_stands 13 = .ok (.iconst 3, 1) := by decide +kernel
theorem dX10_stands_14 : decode cX10_stands 14 = .ok (.invokevirtual 58, 3) := by decide +kernel
theorem dX10_stands_17 : decode cX10_stands 17 = .ok (.imul, 1) := by decide +kernel
theorem dX10_stands_18 : decode cX10_stands 18 = .ok (.iadd, 1) := by decide +kernel
theorem dX10_stands_19 : decode cX10_stands 19 = .ok (.imul, 1) := by decide +kernel
theorem dX10_stands_20 : decode cX10_stands 20 = .ok (.ireturn, 1) := by decide +kernel
theorem dX10_last_0 : decode cX10_last 0 = .ok (.aload_n 0, 1) := by decide +kernel
theorem dX10_last_1 : decode cX10_last 1 = .ok (.iload_n 1, 1) := by decide +kernel
theorem dX10_last_2 : decode cX10_last 2 = .ok (.aload_n 0, 1) := by decide +kernel
theorem dX10_last_3 : decode cX10_last 3 = .ok (.iload_n 1, 1) := by decide +kernel
theorem dX10_last_4 : decode cX10_last 4 = .ok (.iconst 4, 1) := by decide +kernel
theorem dX10_last_5 : decode cX10_last 5 = .ok (.iload_n 2, 1) := by decide +kernel
theorem dX10_last_6 : decode cX10_last 6 = .ok (.iadd, 1) := by decide +kernel
theorem dX10_last_7 : decode cX10_last 7 = .ok (.invokevirtual 58, 3) := by decide +kernel
theorem dX10_last_10 : decode cX10_last 10 = .ok (.iconst 1, 1) := by decide +kernel
theorem dX10_last_11 : decode cX10_last 11 = .ok (.isub, 1) := by decide +kernel
theorem dX10_last_12 : decode cX10_last 12 = .ok (.iload_n 2, 1) := by decide +kernel
theorem dX10_last_13 : decode cX10_last 13 = .ok (.invokevirtual 66, 3) := by decide +kernel
theorem dX10_last_16 : decode cX10_last 16 = .ok (.ireturn, 1) := by decide +kernel
theorem dX10_isOn_0 : decode cX10_isOn 0 = .ok (.iload_n 2, 1) := by decide +kernel
theorem dX10_isOn_1 : decode cX10_isOn 1 = .ok (.i2l, 1) := by decide +kernel
theorem dX10_isOn_2 : decode cX10_isOn 2 = .ok (.aload_n 0, 1) := by decide +kernel
theorem dX10_isOn_3 : decode cX10_isOn 3 = .ok (.iload_n 1, 1) := by decide +kernel
theorem dX10_isOn_4 : decode cX10_isOn 4 = .ok (.iconst 0, 1) := by decide +kernel
theorem dX10_isOn_5 : decode cX10_isOn 5 = .ok (.iconst 0, 1) := by decide +kernel
theorem dX10_isOn_6 : decode cX10_isOn 6 = .ok (.invokevirtual 66, 3) := by decide +kernel
theorem dX10_isOn_9 : decode cX10_isOn 9 = .ok (.i2l, 1) := by decide +kernel
theorem dX10_isOn_10 : decode cX10_isOn 10 = .ok (.aload_n 0, 1) := by decide +kernel
theorem dX10_isOn_11 : decode cX10_isOn 11 = .ok (.iload_n 1, 1) := by decide +kernel
theorem dX10_isOn_12 : decode cX10_isOn 12 = .ok (.iconst 0, 1) := by decide +kernel
theorem dX10_isOn_13 : decode cX10_isOn 13 = .ok (.invokevirtual 69, 3) := by decide +kernel
theorem dX10_isOn_16 : decode cX10_isOn 16 = .ok (.i2l, 1) := by decide +kernel
theorem dX10_isOn_17 : decode cX10_isOn 17 = .ok (.invokestatic 50, 3) := by decide +kernel
theorem dX10_isOn_20 : decode cX10_isOn 20 = .ok (.ifCond .eq 30, 3) := by decide +kernel
theorem dX10_isOn_23 : decode cX10_isOn 23 = .ok (.iload_n 3, 1) := by decide +kernel
theorem dX10_isOn_24 : decode cX10_isOn 24 = .ok (.i2l, 1) := by decide +kernel
theorem dX10_isOn_25 : decode cX10_isOn 25 = .ok (.aload_n 0, 1) := by decide +kernel
theorem dX10_isOn_26 : decode cX10_isOn 26 = .ok (.iload_n 1, 1) := by decide +kernel
theorem dX10_isOn_27 : decode cX10_isOn 27 = .ok (.iconst 0, 1) := by decide +kernel
theorem dX10_isOn_28 : decode cX10_isOn 28 = .ok (.iconst 1, 1) := by decide +kernel
theorem dX10_isOn_29 : decode cX10_isOn 29 = .ok (.invokevirtual 66, 3) := by decide +kernel
theorem dX10_isOn_32 : decode cX10_isOn 32 = .ok (.i2l, 1) := by decide +kernel
theorem dX10_isOn_33 : decode cX10_isOn 33 = .ok (.aload_n 0, 1) := by decide +kernel
theorem dX10_isOn_34 : decode cX10_isOn 34 = .ok (.iload_n 1, 1) := by decide +kernel
theorem dX10_isOn_35 : decode cX10_isOn 35 = .ok (.iconst 1, 1) := by decide +kernel
theorem dX10_isOn_36 : decode cX10_isOn 36 = .ok (.invokevirtual 69, 3) := by decide +kernel
theorem dX10_isOn_39 : decode cX10_isOn 39 = .ok (.i2l, 1) := by decide +kernel
theorem dX10_isOn_40 : decode cX10_isOn 40 = .ok (.invokestatic 50, 3) := by decide +kernel
theorem dX10_isOn_43 : decode cX10_isOn 43 = .ok (.ifCond .eq 7, 3) := by decide +kernel
theorem dX10_isOn_46 : decode cX10_isOn 46 = .ok (.iconst 1, 1) := by decide +kernel
theorem dX10_isOn_47 : decode cX10_isOn 47 = .ok (.goto 4, 3) := by decide +kernel
theorem dX10_isOn_50 : decode cX10_isOn 50 = .ok (.iconst 0, 1) := by decide +kernel
theorem dX10_isOn_51 : decode cX10_isOn 51 = .ok (.ireturn, 1) := by decide +kernel
theorem dX10_isPlace_0 : decode cX10_isPlace 0 = .ok (.iload_n 0, 1) := by decide +kernel
theorem dX10_isPlace_1 : decode cX10_isPlace 1 = .ok (.i2l, 1) := by decide +kernel
theorem dX10_isPlace_2 : decode cX10_isPlace 2 = .ok (.lconst 0, 1) := by decide +kernel
theorem dX10_isPlace_3 : decode cX10_isPlace 3 = .ok (.ldc2_w 72, 3) := by decide +kernel
theorem dX10_isPlace_6 : decode cX10_isPlace 6 = .ok (.invokestatic 50, 3) := by decide +kernel
theorem dX10_isPlace_9 : decode cX10_isPlace 9 = .ok (.ifCond .eq 19, 3) := by decide +kernel
theorem dX10_isPlace_12 : decode cX10_isPlace 12 = .ok (.iload_n 1, 1) := by decide +kernel
theorem dX10_isPlace_13 : decode cX10_isPlace 13 = .ok (.i2l, 1) := by decide +kernel
theorem dX10_isPlace_14 : decode cX10_isPlace 14 = .ok (.lconst 0, 1) := by decide +kernel
theorem dX10_isPlace_15 : decode cX10_isPlace 15 = .ok (.ldc2_w 72, 3) := by decide +kernel
theorem dX10_isPlace_18 : decode cX10_isPlace 18 = .ok (.invokestatic 50, 3) := by decide +kernel
theorem dX10_isPlace_21 : decode cX10_isPlace 21 = .ok (.ifCond .eq 7, 3) := by decide +kernel
theorem dX10_isPlace_24 : decode cX10_isPlace 24 = .ok (.iconst 1, 1) := by decide +kernel
theorem dX10_isPlace_25 : decode cX10_isPlace 25 = .ok (.goto 4, 3) := by decide +kernel
theorem dX10_isPlace_28 : decode cX10_isPlace 28 = .ok (.iconst 0, 1) := by decide +kernel
theorem dX10_isPlace_29 : decode cX10_isPlace 29 = .ok (.ireturn, 1) := by decide +kernel
theorem dX10_child_0 : decode cX10_child 0 = .ok (.iconst 0, 1) := by decide +kernel
theorem dX10_child_1 : decode cX10_child 1 = .ok (.istore 4, 2) := by decide +kernel
theorem dX10_child_3 : decode cX10_child 3 = .ok (.iload 4, 2) := by decide +kernel
theorem dX10_child_5 : decode cX10_child 5 = .ok (.aload_n 0, 1) := by decide +kernel
theorem dX10_child_6 : decode cX10_child 6 = .ok (.getfield 7, 3) := by decide +kernel
theorem dX10_child_9 : decode cX10_child 9 = .ok (.iconst 0, 1) := by decide +kernel
theorem dX10_child_10 : decode cX10_child 10 = .ok (.iaload, 1) := by decide +kernel
theorem dX10_child_11 : decode cX10_child 11 = .ok (.if_icmp .ge 34, 3) := by decide +kernel
theorem dX10_child_14 : decode cX10_child 14 = .ok (.aload_n 0, 1) := by decide +kernel
theorem dX10_child_15 : decode cX10_child 15 = .ok (.iload 4, 2) := by decide +kernel
theorem dX10_child_17 : decode cX10_child 17 = .ok (.iconst 0, 1) := by decide +kernel
theorem dX10_child_18 : decode cX10_child 18 = .ok (.invokevirtual 58, 3) := by decide +kernel
theorem dX10_child_21 : decode cX10_child 21 = .ok (.iload_n 1, 1) := by decide +kernel
theorem dX10_child_22 : decode cX10_child 22 = .ok (.if_icmp .ne 17, 3) := by decide +kernel
theorem dX10_child_25 : decode cX10_child 25 = .ok (.aload_n 0, 1) := by decide +kernel
theorem dX10_child_26 : decode cX10_child 26 = .ok (.iload 4, 2) := by decide +kernel
theorem dX10_child_28 : decode cX10_child 28 = .ok (.iload_n 2, 1) := by decide +kernel
theorem dX10_child_29 : decode cX10_child 29 = .ok (.iload_n 3, 1) := by decide +kernel
theorem dX10_child_30 : decode cX10_child 30 = .ok (.invokevirtual 74, 3) := by decide +kernel
theorem dX10_child_33 : decode cX10_child 33 = .ok (.ifCond .eq 6, 3) := by decide +kernel
theorem dX10_child_36 : decode cX10_child 36 = .ok (.iload 4, 2) := by decide +kernel
theorem dX10_child_38 : decode cX10_child 38 = .ok (.ireturn, 1) := by decide +kernel
theorem dX10_child_39 : decode cX10_child 39 = .ok (.iinc 4 1, 3) := by decide +kernel
theorem dX10_child_42 : decode cX10_child 42 = .ok (.goto (-39), 3) := by decide +kernel
theorem dX10_child_45 : decode cX10_child 45 = .ok (.iconst (-1), 1) := by decide +kernel
theorem dX10_child_46 : decode cX10_child 46 = .ok (.ireturn, 1) := by decide +kernel
theorem dX10_belongs_0 : decode cX10_belongs 0 = .ok (.aload_n 0, 1) := by decide +kernel
theorem dX10_belongs_1 : decode cX10_belongs 1 = .ok (.iconst (-1), 1) := by decide +kernel
theorem dX10_belongs_2 : decode cX10_belongs 2 = .ok (.iload_n 1, 1) := by decide +kernel
theorem dX10_belongs_3 : decode cX10_belongs 3 = .ok (.iload_n 2, 1) := by decide +kernel
theorem dX10_belongs_4 : decode cX10_belongs 4 = .ok (.invokevirtual 78, 3) := by decide +kernel
theorem dX10_belongs_7 : decode cX10_belongs 7 = .ok (.istore_n 3, 1) := by decide +kernel
theorem dX10_belongs_8 : decode cX10_belongs 8 = .ok (.iload_n 3, 1) := by decide +kernel
theorem dX10_belongs_9 : decode cX10_belongs 9 = .ok (.istore 4, 2) := by decide +kernel
theorem dX10_belongs_11 : decode cX10_belongs 11 = .ok (.iload 4, 2) := by decide +kernel
theorem dX10_belongs_13 : decode cX10_belongs 13 = .ok (.iconst (-1), 1) := by decide +kernel
theorem dX10_belongs_14 : decode cX10_belongs 14 = .ok (.if_icmp .eq 18, 3) := by decide +kernel
theorem dX10_belongs_17 : decode cX10_belongs 17 = .ok (.iload 4, 2) := by decide +kernel
theorem dX10_belongs_19 : decode cX10_belongs 19 = .ok (.istore_n 3, 1) := by decide +kernel
theorem dX10_belongs_20 : decode cX10_belongs 20 = .ok (.aload_n 0, 1) := by decide +kernel
theorem dX10_belongs_21 : decode cX10_belongs 21 = .ok (.iload_n 3, 1) := by decide +kernel
theorem dX10_belongs_22 : decode cX10_belongs 22 = .ok (.iload_n 1, 1) := by decide +kernel
theorem dX10_belongs_23 : decode cX10_belongs 23 = .ok (.iload_n 2, 1) := by decide +kernel
theorem dX10_belongs_24 : decode cX10_belongs 24 = .ok (.invokevirtual 78, 3) := by decide +kernel
theorem dX10_belongs_27 : decode cX10_belongs 27 = .ok (.istore 4, 2) := by decide +kernel
theorem dX10_belongs_29 : decode cX10_belongs 29 = .ok (.goto (-18), 3) := by decide +kernel
theorem dX10_belongs_32 : decode cX10_belongs 32 = .ok (.iload_n 3, 1) := by decide +kernel
theorem dX10_belongs_33 : decode cX10_belongs 33 = .ok (.ireturn, 1) := by decide +kernel
theorem dX10_rounded_0 : decode cX10_rounded 0 = .ok (.ldc2_w 81, 3) := by decide +kernel
theorem dX10_rounded_3 : decode cX10_rounded 3 = .ok (.lload_n 0, 1) := by decide +kernel
theorem dX10_rounded_4 : decode cX10_rounded 4 = .ok (.lmul, 1) := by decide +kernel
theorem dX10_rounded_5 : decode cX10_rounded 5 = .ok (.lload_n 2, 1) := by decide +kernel
theorem dX10_rounded_6 : decode cX10_rounded 6 = .ok (.ladd, 1) := by decide +kernel
theorem dX10_rounded_7 : decode cX10_rounded 7 = .ok (.lstore 4, 2) := by decide +kernel
theorem dX10_rounded_9 : decode cX10_rounded 9 = .ok (.lload 4, 2) := by decide +kernel
theorem dX10_rounded_11 : decode cX10_rounded 11 = .ok (.ldc2_w 81, 3) := by decide +kernel
theorem dX10_rounded_14 : decode cX10_rounded 14 = .ok (.lload_n 2, 1) := by decide +kernel
theorem dX10_rounded_15 : decode cX10_rounded 15 = .ok (.lmul, 1) := by decide +kernel
theorem dX10_rounded_16 : decode cX10_rounded 16 = .ok (.ldiv, 1) := by decide +kernel
theorem dX10_rounded_17 : decode cX10_rounded 17 = .ok (.lstore 6, 2) := by decide +kernel
theorem dX10_rounded_19 : decode cX10_rounded 19 = .ok (.lload 4, 2) := by decide +kernel
theorem dX10_rounded_21 : decode cX10_rounded 21 = .ok (.ldc2_w 81, 3) := by decide +kernel
theorem dX10_rounded_24 : decode cX10_rounded 24 = .ok (.lload_n 2, 1) := by decide +kernel
theorem dX10_rounded_25 : decode cX10_rounded 25 = .ok (.lmul, 1) := by decide +kernel
theorem dX10_rounded_26 : decode cX10_rounded 26 = .ok (.lrem, 1) := by decide +kernel
theorem dX10_rounded_27 : decode cX10_rounded 27 = .ok (.lconst 0, 1) := by decide +kernel
theorem dX10_rounded_28 : decode cX10_rounded 28 = .ok (.lcmp, 1) := by decide +kernel
theorem dX10_rounded_29 : decode cX10_rounded 29 = .ok (.ifCond .ge 10, 3) := by decide +kernel
theorem dX10_rounded_32 : decode cX10_rounded 32 = .ok (.lload 6, 2) := by decide +kernel
theorem dX10_rounded_34 : decode cX10_rounded 34 = .ok (.lconst 1, 1) := by decide +kernel
theorem dX10_rounded_35 : decode cX10_rounded 35 = .ok (.lsub, 1) := by decide +kernel
theorem dX10_rounded_36 : decode cX10_rounded 36 = .ok (.goto 5, 3) := by decide +kernel
theorem dX10_rounded_39 : decode cX10_rounded 39 = .ok (.lload 6, 2) := by decide +kernel
theorem dX10_rounded_41 : decode cX10_rounded 41 = .ok (.lreturn, 1) := by decide +kernel
theorem dX10_between_0 : decode cX10_between 0 = .ok (.aload_n 0, 1) := by decide +kernel
theorem dX10_between_1 : decode cX10_between 1 = .ok (.getfield 7, 3) := by decide +kernel
theorem dX10_between_4 : decode cX10_between 4 = .ok (.iconst 1, 1) := by decide +kernel
theorem dX10_between_5 : decode cX10_between 5 = .ok (.iaload, 1) := by decide +kernel
theorem dX10_between_6 : decode cX10_between 6 = .ok (.ifCond .ne 61, 3) := by decide +kernel
theorem dX10_between_9 : decode cX10_between 9 = .ok (.iload_n 1, 1) := by decide +kernel
theorem dX10_between_10 : decode cX10_between 10 = .ok (.i2l, 1) := by decide +kernel
theorem dX10_between_11 : decode cX10_between 11 = .ok (.lload 9, 2) := by decide +kernel
theorem dX10_between_13 : decode cX10_between 13 = .ok (.lload 5, 2) := by decide +kernel
theorem dX10_between_15 : decode cX10_between 15 = .ok (.lsub, 1) := by decide +kernel
theorem dX10_between_16 : decode cX10_between 16 = .ok (.lmul, 1) := by decide +kernel
theorem dX10_between_17 : decode cX10_between 17 = .ok (.lload 9, 2) := by decide +kernel
theorem dX10_between_19 : decode cX10_between 19 = .ok (.lload 7, 2) := by decide +kernel
theorem dX10_between_21 : decode cX10_between 21 = .ok (.lsub, 1) := by decide +kernel
theorem dX10_between_22 : decode cX10_between 22 = .ok (.lmul, 1) := by decide +kernel
theorem dX10_between_23 : decode cX10_between 23 = .ok (.iload_n 2, 1) := by decide +kernel
theorem dX10_between_24 : decode cX10_between 24 = .ok (.i2l, 1) := by decide +kernel
theorem dX10_between_25 : decode cX10_between 25 = .ok (.lload 5, 2) := by decide +kernel
theorem dX10_between_27 : decode cX10_between 27 = .ok (.lmul, 1) := by decide +kernel
theorem dX10_between_28 : decode cX10_between 28 = .ok (.lload 9, 2) := by decide +kernel
theorem dX10_between_30 : decode cX10_between 30 = .ok (.lload 7, 2) := by decide +kernel
theorem dX10_between_32 : decode cX10_between 32 = .ok (.lsub, 1) := by decide +kernel
theorem dX10_between_33 : decode cX10_between 33 = .ok (.lmul, 1) := by decide +kernel
theorem dX10_between_34 : decode cX10_between 34 = .ok (.ladd, 1) := by decide +kernel
theorem dX10_between_35 : decode cX10_between 35 = .ok (.iload_n 3, 1) := by decide +kernel
theorem dX10_between_36 : decode cX10_between 36 = .ok (.i2l, 1) := by decide +kernel
theorem dX10_between_37 : decode cX10_between 37 = .ok (.lload 9, 2) := by decide +kernel
theorem dX10_between_39 : decode cX10_between 39 = .ok (.lload 5, 2) := by decide +kernel
theorem dX10_between_41 : decode cX10_between 41 = .ok (.lsub, 1) := by decide +kernel
theorem dX10_between_42 : decode cX10_between 42 = .ok (.lmul, 1) := by decide +kernel
theorem dX10_between_43 : decode cX10_between 43 = .ok (.lload 7, 2) := by decide +kernel
theorem dX10_between_45 : decode cX10_between 45 = .ok (.lmul, 1) := by decide +kernel
theorem dX10_between_46 : decode cX10_between 46 = .ok (.ladd, 1) := by decide +kernel
theorem dX10_between_47 : decode cX10_between 47 = .ok (.iload 4, 2) := by decide +kernel
theorem dX10_between_49 : decode cX10_between 49 = .ok (.i2l, 1) := by decide +kernel
theorem dX10_between_50 : decode cX10_between 50 = .ok (.lload 5, 2) := by decide +kernel
theorem dX10_between_52 : decode cX10_between 52 = .ok (.lmul, 1) := by decide +kernel
theorem dX10_between_53 : decode cX10_between 53 = .ok (.lload 7, 2) := by decide +kernel
theorem dX10_between_55 : decode cX10_between 55 = .ok (.lmul, 1) := by decide +kernel
theorem dX10_between_56 : decode cX10_between 56 = .ok (.ladd, 1) := by decide +kernel
theorem dX10_between_57 : decode cX10_between 57 = .ok (.lload 9, 2) := by decide +kernel
theorem dX10_between_59 : decode cX10_between 59 = .ok (.lload 9, 2) := by decide +kernel
theorem dX10_between_61 : decode cX10_between 61 = .ok (.lmul, 1) := by decide +kernel
theorem dX10_between_62 : decode cX10_between 62 = .ok (.invokestatic 83, 3) := by decide +kernel
theorem dX10_between_65 : decode cX10_between 65 = .ok (.l2i, 1) := by decide +kernel
theorem dX10_between_66 : decode cX10_between 66 = .ok (.ireturn, 1) := by decide +kernel
theorem dX10_between_67 : decode cX10_between 67 = .ok (.aload_n 0, 1) := by decide +kernel
theorem dX10_between_68 : decode cX10_between 68 = .ok (.getfield 7, 3) := by decide +kernel
theorem dX10_between_71 : decode cX10_between 71 = .ok (.iconst 1, 1) := by decide +kernel
theorem dX10_between_72 : decode cX10_between 72 = .ok (.iaload, 1) := by decide +kernel
theorem dX10_between_73 : decode cX10_between 73 = .ok (.iconst 1, 1) := by decide +kernel
theorem dX10_between_74 : decode cX10_between 74 = .ok (.if_icmp .ne 71, 3) := by decide +kernel
theorem dX10_between_77 : decode cX10_between 77 = .ok (.ldc2_w 81, 3) := by decide +kernel
theorem dX10_between_80 : decode cX10_between 80 = .ok (.lload 5, 2) := by decide +kernel
theorem dX10_between_82 : decode cX10_between 82 = .ok (.lmul, 1) := by decide +kernel
theorem dX10_between_83 : decode cX10_between 83 = .ok (.lload 9, 2) := by decide +kernel
theorem dX10_between_85 : decode cX10_between 85 = .ok (.lcmp, 1) := by decide +kernel
theorem dX10_between_86 : decode cX10_between 86 = .ok (.ifCond .lt 7, 3) := by decide +kernel
theorem dX10_between_89 : decode cX10_between 89 = .ok (.iconst 1, 1) := by decide +kernel
theorem dX10_between_90 : decode cX10_between 90 = .ok (.goto 4, 3) := by decide +kernel
theorem dX10_between_93 : decode cX10_between 93 = .ok (.iconst 0, 1) := by decide +kernel
theorem dX10_between_94 : decode cX10_between 94 = .ok (.istore 11, 2) := by decide +kernel
theorem dX10_between_96 : decode cX10_between 96 = .ok (.ldc2_w 81, 3) := by decide +kernel
theorem dX10_between_99 : decode cX10_between 99 = .ok (.lload 7, 2) := by decide +kernel
theorem dX10_between_101 : decode cX10_between 101 = .ok (.lmul, 1) := by decide +kernel
theorem dX10_between_102 : decode cX10_between 102 = .ok (.lload 9, 2) := by decide +kernel
theorem dX10_between_104 : decode cX10_between 104 = .ok (.lcmp, 1) := by decide +kernel
theorem dX10_between_105 : decode cX10_between 105 = .ok (.ifCond .lt 7, 3) := by decide +kernel
theorem dX10_between_108 : decode cX10_between 108 = .ok (.iconst 1, 1) := by decide +kernel
theorem dX10_between_109 : decode cX10_between 109 = .ok (.goto 4, 3) := by decide +kernel
theorem dX10_between_112 : decode cX10_between 112 = .ok (.iconst 0, 1) := by decide +kernel
theorem dX10_between_113 : decode cX10_between 113 = .ok (.istore 12, 2) := by decide +kernel
theorem dX10_between_115 : decode cX10_between 115 = .ok (.iload 12, 2) := by decide +kernel
theorem dX10_between_117 : decode cX10_between 117 = .ok (.ifCond .eq 17, 3) := by decide +kernel
theorem dX10_between_120 : decode cX10_between 120 = .ok (.iload 11, 2) := by decide +kernel
theorem dX10_between_122 : decode cX10_between 122 = .ok (.ifCond .eq 8, 3) := by decide +kernel
theorem dX10_between_125 : decode cX10_between 125 = .ok (.iload 4, 2) := by decide +kernel
theorem dX10_between_127 : decode cX10_between 127 = .ok (.goto 17, 3) := by decide +kernel
theorem dX10_between_130 : decode cX10_between 130 = .ok (.iload_n 3, 1) := by decide +kernel
theorem dX10_between_131 : decode cX10_between 131 = .ok (.goto 13, 3) := by decide +kernel
theorem dX10_between_134 : decode cX10_between 134 = .ok (.iload 11, 2) := by decide +kernel
theorem dX10_between_136 : decode cX10_between 136 = .ok (.ifCond .eq 7, 3) := by decide +kernel
theorem dX10_between_139 : decode cX10_between 139 = .ok (.iload_n 2, 1) := by decide +kernel
theorem dX10_between_140 : decode cX10_between 140 = .ok (.goto 4, 3) := by decide +kernel
theorem dX10_between_143 : decode cX10_between 143 = .ok (.iload_n 1, 1) := by decide +kernel
theorem dX10_between_144 : decode cX10_between 144 = .ok (.ireturn, 1) := by decide +kernel
theorem dX10_between_145 : decode cX10_between 145 = .ok (.lload 5, 2) := by decide +kernel
theorem dX10_between_147 : decode cX10_between 147 = .ok (.lload 7, 2) := by decide +kernel
theorem dX10_between_149 : decode cX10_between 149 = .ok (.lcmp, 1) := by decide +kernel
theorem dX10_between_150 : decode cX10_between 150 = .ok (.ifCond .lt 28, 3) := by decide +kernel
theorem dX10_between_153 : decode cX10_between 153 = .ok (.iload_n 1, 1) := by decide +kernel
theorem dX10_between_154 : decode cX10_between 154 = .ok (.i2l, 1) := by decide +kernel
theorem dX10_between_155 : decode cX10_between 155 = .ok (.lload 9, 2) := by decide +kernel
theorem dX10_between_157 : decode cX10_between 157 = .ok (.lmul, 1) := by decide +kernel
theorem dX10_between_158 : decode cX10_between 158 = .ok (.iload_n 2, 1) := by decide +kernel
theorem dX10_between_159 : decode cX10_between 159 = .ok (.iload_n 1, 1) := by decide +kernel
theorem dX10_between_160 : decode cX10_between 160 = .ok (.isub, 1) := by decide +kernel
theorem dX10_between_161 : decode cX10_between 161 = .ok (.i2l, 1) := by decide +kernel
theorem dX10_between_162 : decode cX10_between 162 = .ok (.lload 5, 2) := by decide +kernel
theorem dX10_between_164 : decode cX10_between 164 = .ok (.lmul, 1) := by decide +kernel
theorem dX10_between_165 : decode cX10_between 165 = .ok (.ladd, 1) := by decide +kernel
theorem dX10_between_166 : decode cX10_between 166 = .ok (.iload 4, 2) := by decide +kernel
theorem dX10_between_168 : decode cX10_between 168 = .ok (.iload_n 2, 1) := by decide +kernel
theorem dX10_between_169 : decode cX10_between 169 = .ok (.isub, 1) := by decide +kernel
theorem dX10_between_170 : decode cX10_between 170 = .ok (.i2l, 1) := by decide +kernel
theorem dX10_between_171 : decode cX10_between 171 = .ok (.lload 7, 2) := by decide +kernel
theorem dX10_between_173 : decode cX10_between 173 = .ok (.lmul, 1) := by decide +kernel
theorem dX10_between_174 : decode cX10_between 174 = .ok (.ladd, 1) := by decide +kernel
theorem dX10_between_175 : decode cX10_between 175 = .ok (.goto 25, 3) := by decide +kernel
theorem dX10_between_178 : decode cX10_between 178 = .ok (.iload_n 1, 1) := by decide +kernel
theorem dX10_between_179 : decode cX10_between 179 = .ok (.i2l, 1) := by decide +kernel
theorem dX10_between_180 : decode cX10_between 180 = .ok (.lload 9, 2) := by decide +kernel
theorem dX10_between_182 : decode cX10_between 182 = .ok (.lmul, 1) := by decide +kernel
theorem dX10_between_183 : decode cX10_between 183 = .ok (.iload 4, 2) := by decide +kernel
theorem dX10_between_185 : decode cX10_between 185 = .ok (.iload_n 3, 1) := by decide +kernel
theorem dX10_between_186 : decode cX10_between 186 = .ok (.isub, 1) := by decide +kernel
theorem dX10_between_187 : decode cX10_between 187 = .ok (.i2l, 1) := by decide +kernel
theorem dX10_between_188 : decode cX10_between 188 = .ok (.lload 5, 2) := by decide +kernel
theorem dX10_between_190 : decode cX10_between 190 = .ok (.lmul, 1) := by decide +kernel
theorem dX10_between_191 : decode cX10_between 191 = .ok (.ladd, 1) := by decide +kernel
theorem dX10_between_192 : decode cX10_between 192 = .ok (.iload_n 3, 1) := by decide +kernel
theorem dX10_between_193 : decode cX10_between 193 = .ok (.iload_n 1, 1) := by decide +kernel
theorem dX10_between_194 : decode cX10_between 194 = .ok (.isub, 1) := by decide +kernel
theorem dX10_between_195 : decode cX10_between 195 = .ok (.i2l, 1) := by decide +kernel
theorem dX10_between_196 : decode cX10_between 196 = .ok (.lload 7, 2) := by decide +kernel
theorem dX10_between_198 : decode cX10_between 198 = .ok (.lmul, 1) := by decide +kernel
theorem dX10_between_199 : decode cX10_between 199 = .ok (.ladd, 1) := by decide +kernel
theorem dX10_between_200 : decode cX10_between 200 = .ok (.lload 9, 2) := by decide +kernel
theorem dX10_between_202 : decode cX10_between 202 = .ok (.invokestatic 83, 3) := by decide +kernel
theorem dX10_between_205 : decode cX10_between 205 = .ok (.l2i, 1) := by decide +kernel
theorem dX10_between_206 : decode cX10_between 206 = .ok (.ireturn, 1) := by decide +kernel
theorem dX10_offset_0 : decode cX10_offset 0 = .ok (.bipush 64, 2) := by decide +kernel
theorem dX10_offset_2 : decode cX10_offset 2 = .ok (.aload_n 0, 1) := by decide +kernel
theorem dX10_offset_3 : decode cX10_offset 3 = .ok (.iload_n 1, 1) := by decide +kernel
theorem dX10_offset_4 : decode cX10_offset 4 = .ok (.iconst 3, 1) := by decide +kernel
theorem dX10_offset_5 : decode cX10_offset 5 = .ok (.invokevirtual 58, 3) := by decide +kernel
theorem dX10_offset_8 : decode cX10_offset 8 = .ok (.imul, 1) := by decide +kernel
theorem dX10_offset_9 : decode cX10_offset 9 = .ok (.istore 5, 2) := by decide +kernel
theorem dX10_offset_11 : decode cX10_offset 11 = .ok (.iload_n 2, 1) := by decide +kernel
theorem dX10_offset_12 : decode cX10_offset 12 = .ok (.aload_n 0, 1) := by decide +kernel
theorem dX10_offset_13 : decode cX10_offset 13 = .ok (.iload_n 1, 1) := by decide +kernel
theorem dX10_offset_14 : decode cX10_offset 14 = .ok (.iconst 0, 1) := by decide +kernel
theorem dX10_offset_15 : decode cX10_offset 15 = .ok (.iconst 0, 1) := by decide +kernel
theorem dX10_offset_16 : decode cX10_offset 16 = .ok (.invokevirtual 66, 3) := by decide +kernel
theorem dX10_offset_19 : decode cX10_offset 19 = .ok (.isub, 1) := by decide +kernel
theorem dX10_offset_20 : decode cX10_offset 20 = .ok (.iload 5, 2) := by decide +kernel
theorem dX10_offset_22 : decode cX10_offset 22 = .ok (.idiv, 1) := by decide +kernel
theorem dX10_offset_23 : decode cX10_offset 23 = .ok (.istore 6, 2) := by decide +kernel
theorem dX10_offset_25 : decode cX10_offset 25 = .ok (.iload_n 3, 1) := by decide +kernel
theorem dX10_offset_26 : decode cX10_offset 26 = .ok (.aload_n 0, 1) := by decide +kernel
theorem dX10_offset_27 : decode cX10_offset 27 = .ok (.iload_n 1, 1) := by decide +kernel
theorem dX10_offset_28 : decode cX10_offset 28 = .ok (.iconst 0, 1) := by decide +kernel
theorem dX10_offset_29 : decode cX10_offset 29 = .ok (.iconst 1, 1) := by decide +kernel
theorem dX10_offset_30 : decode cX10_offset 30 = .ok (.invokevirtual 66, 3) := by decide +kernel
theorem dX10_offset_33 : decode cX10_offset 33 = .ok (.isub, 1) := by decide +kernel
theorem dX10_offset_34 : decode cX10_offset 34 = .ok (.iload 5, 2) := by decide +kernel
theorem dX10_offset_36 : decode cX10_offset 36 = .ok (.idiv, 1) := by decide +kernel
theorem dX10_offset_37 : decode cX10_offset 37 = .ok (.istore 7, 2) := by decide +kernel
theorem dX10_offset_39 : decode cX10_offset 39 = .ok (.iload 6, 2) := by decide +kernel
theorem dX10_offset_41 : decode cX10_offset 41 = .ok (.aload_n 0, 1) := by decide +kernel
theorem dX10_offset_42 : decode cX10_offset 42 = .ok (.iload_n 1, 1) := by decide +kernel
theorem dX10_offset_43 : decode cX10_offset 43 = .ok (.iconst 4, 1) := by decide +kernel
theorem dX10_offset_44 : decode cX10_offset 44 = .ok (.invokevirtual 58, 3) := by decide +kernel
theorem dX10_offset_47 : decode cX10_offset 47 = .ok (.iconst 2, 1) := by decide +kernel
theorem dX10_offset_48 : decode cX10_offset 48 = .ok (.isub, 1) := by decide +kernel
theorem dX10_offset_49 : decode cX10_offset 49 = .ok (.if_icmp .le 14, 3) := by decide +kernel
theorem dX10_offset_52 : decode cX10_offset 52 = .ok (.aload_n 0, 1) := by decide +kernel
theorem dX10_offset_53 : decode cX10_offset 53 = .ok (.iload_n 1, 1) := by decide +kernel
theorem dX10_offset_54 : decode cX10_offset 54 = .ok (.iconst 4, 1) := by decide +kernel
theorem dX10_offset_55 : decode cX10_offset 55 = .ok (.invokevirtual 58, 3) := by decide +kernel
theorem dX10_offset_58 : decode cX10_offset 58 = .ok (.iconst 2, 1) := by decide +kernel
theorem dX10_offset_59 : decode cX10_offset 59 = .ok (.isub, 1) := by decide +kernel
theorem dX10_offset_60 : decode cX10_offset 60 = .ok (.goto 5, 3) := by decide +kernel
theorem dX10_offset_63 : decode cX10_offset 63 = .ok (.iload 6, 2) := by decide +kernel
theorem dX10_offset_65 : decode cX10_offset 65 = .ok (.istore 6, 2) := by decide +kernel
theorem dX10_offset_67 : decode cX10_offset 67 = .ok (.iload 7, 2) := by decide +kernel
theorem dX10_offset_69 : decode cX10_offset 69 = .ok (.aload_n 0, 1) := by decide +kernel
theorem dX10_offset_70 : decode cX10_offset 70 = .ok (.iload_n 1, 1) := by decide +kernel
theorem dX10_offset_71 : decode cX10_offset 71 = .ok (.iconst 5, 1) := by decide +kernel
theorem dX10_offset_72 : decode cX10_offset 72 = .ok (.invokevirtual 58, 3) := by decide +kernel
theorem dX10_offset_75 : decode cX10_offset 75 = .ok (.iconst 2, 1) := by decide +kernel
theorem dX10_offset_76 : decode cX10_offset 76 = .ok (.isub, 1) := by decide +kernel
theorem dX10_offset_77 : decode cX10_offset 77 = .ok (.if_icmp .le 14, 3) := by decide +kernel
theorem dX10_offset_80 : decode cX10_offset 80 = .ok (.aload_n 0, 1) := by decide +kernel
theorem dX10_offset_81 : decode cX10_offset 81 = .ok (.iload_n 1, 1) := by decide +kernel
theorem dX10_offset_82 : decode cX10_offset 82 = .ok (.iconst 5, 1) := by decide +kernel
theorem dX10_offset_83 : decode cX10_offset 83 = .ok (.invokevirtual 58, 3) := by decide +kernel
theorem dX10_offset_86 : decode cX10_offset 86 = .ok (.iconst 2, 1) := by decide +kernel
theorem dX10_offset_87 : decode cX10_offset 87 = .ok (.isub, 1) := by decide +kernel
theorem dX10_offset_88 : decode cX10_offset 88 = .ok (.goto 5, 3) := by decide +kernel
theorem dX10_offset_91 : decode cX10_offset 91 = .ok (.iload 7, 2) := by decide +kernel
theorem dX10_offset_93 : decode cX10_offset 93 = .ok (.istore 7, 2) := by decide +kernel
theorem dX10_offset_95 : decode cX10_offset 95 = .ok (.iload_n 2, 1) := by decide +kernel
theorem dX10_offset_96 : decode cX10_offset 96 = .ok (.aload_n 0, 1) := by decide +kernel
theorem dX10_offset_97 : decode cX10_offset 97 = .ok (.iload_n 1, 1) := by decide +kernel
theorem dX10_offset_98 : decode cX10_offset 98 = .ok (.iload 6, 2) := by decide +kernel
theorem dX10_offset_100 : decode cX10_offset 100 = .ok (.iconst 0, 1) := by decide +kernel
theorem dX10_offset_101 : decode cX10_offset 101 = .ok (.invokevirtual 66, 3) := by decide +kernel
theorem dX10_offset_104 : decode cX10_offset 104 = .ok (.isub, 1) := by decide +kernel
theorem dX10_offset_105 : decode cX10_offset 105 = .ok (.istore 8, 2) := by decide +kernel
theorem dX10_offset_107 : decode cX10_offset 107 = .ok (.iload_n 3, 1) := by decide +kernel
theorem dX10_offset_108 : decode cX10_offset 108 = .ok (.aload_n 0, 1) := by decide +kernel
theorem dX10_offset_109 : decode cX10_offset 109 = .ok (.iload_n 1, 1) := by decide +kernel
theorem dX10_offset_110 : decode cX10_offset 110 = .ok (.iload 7, 2) := by decide +kernel
theorem dX10_offset_112 : decode cX10_offset 112 = .ok (.iconst 1, 1) := by decide +kernel
theorem dX10_offset_113 : decode cX10_offset 113 = .ok (.invokevirtual 66, 3) := by decide +kernel
theorem dX10_offset_116 : decode cX10_offset 116 = .ok (.isub, 1) := by decide +kernel
theorem dX10_offset_117 : decode cX10_offset 117 = .ok (.istore 9, 2) := by decide +kernel
theorem dX10_offset_119 : decode cX10_offset 119 = .ok (.aload_n 0, 1) := by decide +kernel
theorem dX10_offset_120 : decode cX10_offset 120 = .ok (.aload_n 0, 1) := by decide +kernel
theorem dX10_offset_121 : decode cX10_offset 121 = .ok (.iload_n 1, 1) := by decide +kernel
theorem dX10_offset_122 : decode cX10_offset 122 = .ok (.iload 6, 2) := by decide +kernel
theorem dX10_offset_124 : decode cX10_offset 124 = .ok (.iload 7, 2) := by decide +kernel
theorem dX10_offset_126 : decode cX10_offset 126 = .ok (.iload 4, 2) := by decide +kernel
theorem dX10_offset_128 : decode cX10_offset 128 = .ok (.invokevirtual 87, 3) := by decide +kernel
theorem dX10_offset_131 : decode cX10_offset 131 = .ok (.aload_n 0, 1) := by decide +kernel
theorem dX10_offset_132 : decode cX10_offset 132 = .ok (.iload_n 1, 1) := by decide +kernel
theorem dX10_offset_133 : decode cX10_offset 133 = .ok (.iload 6, 2) := by decide +kernel
theorem dX10_offset_135 : decode cX10_offset 135 = .ok (.iconst 1, 1) := by decide +kernel
theorem dX10_offset_136 : decode cX10_offset 136 = .ok (.iadd, 1) := by decide +kernel
theorem dX10_offset_137 : decode cX10_offset 137 = .ok (.iload 7, 2) := by decide +kernel
theorem dX10_offset_139 : decode cX10_offset 139 = .ok (.iload 4, 2) := by decide +kernel
theorem dX10_offset_141 : decode cX10_offset 141 = .ok (.invokevirtual 87, 3) := by decide +kernel
theorem dX10_offset_144 : decode cX10_offset 144 = .ok (.aload_n 0, 1) := by decide +kernel
theorem dX10_offset_145 : decode cX10_offset 145 = .ok (.iload_n 1, 1) := by decide +kernel
theorem dX10_offset_146 : decode cX10_offset 146 = .ok (.iload 6, 2) := by decide +kernel
theorem dX10_offset_148 : decode cX10_offset 148 = .ok (.iload 7, 2) := by decide +kernel
theorem dX10_offset_150 : decode cX10_offset 150 = .ok (.iconst 1, 1) := by decide +kernel
theorem dX10_offset_151 : decode cX10_offset 151 = .ok (.iadd, 1) := by decide +kernel
theorem dX10_offset_152 : decode cX10_offset 152 = .ok (.iload 4, 2) := by decide +kernel
theorem dX10_offset_154 : decode cX10_offset 154 = .ok (.invokevirtual 87, 3) := by decide +kernel
theorem dX10_offset_157 : decode cX10_offset 157 = .ok (.aload_n 0, 1) := by decide +kernel
theorem dX10_offset_158 : decode cX10_offset 158 = .ok (.iload_n 1, 1) := by decide +kernel
theorem dX10_offset_159 : decode cX10_offset 159 = .ok (.iload 6, 2) := by decide +kernel
theorem dX10_offset_161 : decode cX10_offset 161 = .ok (.iconst 1, 1) := by decide +kernel
theorem dX10_offset_162 : decode cX10_offset 162 = .ok (.iadd, 1) := by decide +kernel
theorem dX10_offset_163 : decode cX10_offset 163 = .ok (.iload 7, 2) := by decide +kernel
theorem dX10_offset_165 : decode cX10_offset 165 = .ok (.iconst 1, 1) := by decide +kernel
theorem dX10_offset_166 : decode cX10_offset 166 = .ok (.iadd, 1) := by decide +kernel
theorem dX10_offset_167 : decode cX10_offset 167 = .ok (.iload 4, 2) := by decide +kernel
theorem dX10_offset_169 : decode cX10_offset 169 = .ok (.invokevirtual 87, 3) := by decide +kernel
theorem dX10_offset_172 : decode cX10_offset 172 = .ok (.iload 8, 2) := by decide +kernel
theorem dX10_offset_174 : decode cX10_offset 174 = .ok (.i2l, 1) := by decide +kernel
theorem dX10_offset_175 : decode cX10_offset 175 = .ok (.iload 9, 2) := by decide +kernel
theorem dX10_offset_177 : decode cX10_offset 177 = .ok (.i2l, 1) := by decide +kernel
theorem dX10_offset_178 : decode cX10_offset 178 = .ok (.iload 5, 2) := by decide +kernel
theorem dX10_offset_180 : decode cX10_offset 180 = .ok (.i2l, 1) := by decide +kernel
theorem dX10_offset_181 : decode cX10_offset 181 = .ok (.invokevirtual 91, 3) := by decide +kernel
theorem dX10_offset_184 : decode cX10_offset 184 = .ok (.ireturn, 1) := by decide +kernel
theorem dX10_movedBy_0 : decode cX10_movedBy 0 = .ok (.aload_n 0, 1) := by decide +kernel
theorem dX10_movedBy_1 : decode cX10_movedBy 1 = .ok (.iload_n 1, 1) := by decide +kernel
theorem dX10_movedBy_2 : decode cX10_movedBy 2 = .ok (.iload_n 2, 1) := by decide +kernel
theorem dX10_movedBy_3 : decode cX10_movedBy 3 = .ok (.invokevirtual 95, 3) := by decide +kernel
theorem dX10_movedBy_6 : decode cX10_movedBy 6 = .ok (.istore 4, 2) := by decide +kernel
theorem dX10_movedBy_8 : decode cX10_movedBy 8 = .ok (.iload 4, 2) := by decide +kernel
theorem dX10_movedBy_10 : decode cX10_movedBy 10 = .ok (.iconst (-1), 1) := by decide +kernel
theorem dX10_movedBy_11 : decode cX10_movedBy 11 = .ok (.if_icmp .ne 7, 3) := by decide +kernel
theorem dX10_movedBy_14 : decode cX10_movedBy 14 = .ok (.iconst 0, 1) := by decide +kernel
theorem dX10_movedBy_15 : decode cX10_movedBy 15 = .ok (.goto 12, 3) := by decide +kernel
theorem dX10_movedBy_18 : decode cX10_movedBy 18 = .ok (.aload_n 0, 1) := by decide +kernel
theorem dX10_movedBy_19 : decode cX10_movedBy 19 = .ok (.iload 4, 2) := by decide +kernel
theorem dX10_movedBy_21 : decode cX10_movedBy 21 = .ok (.iload_n 1, 1) := by decide +kernel
theorem dX10_movedBy_22 : decode cX10_movedBy 22 = .ok (.iload_n 2, 1) := by decide +kernel
theorem dX10_movedBy_23 : decode cX10_movedBy 23 = .ok (.iload_n 3, 1) := by decide +kernel
theorem dX10_movedBy_24 : decode cX10_movedBy 24 = .ok (.invokevirtual 98, 3) := by decide +kernel
theorem dX10_movedBy_27 : decode cX10_movedBy 27 = .ok (.ireturn, 1) := by decide +kernel
theorem dX10_isBorder_0 : decode cX10_isBorder 0 = .ok (.iload_n 2, 1) := by decide +kernel
theorem dX10_isBorder_1 : decode cX10_isBorder 1 = .ok (.ifCond .eq 31, 3) := by decide +kernel
theorem dX10_isBorder_4 : decode cX10_isBorder 4 = .ok (.iload_n 3, 1) := by decide +kernel
theorem dX10_isBorder_5 : decode cX10_isBorder 5 = .ok (.ifCond .eq 27, 3) := by decide +kernel
theorem dX10_isBorder_8 : decode cX10_isBorder 8 = .ok (.iload_n 2, 1) := by decide +kernel
theorem dX10_isBorder_9 : decode cX10_isBorder 9 = .ok (.aload_n 0, 1) := by decide +kernel
theorem dX10_isBorder_10 : decode cX10_isBorder 10 = .ok (.iload_n 1, 1) := by decide +kernel
theorem dX10_isBorder_11 : decode cX10_isBorder 11 = .ok (.iconst 4, 1) := by decide +kernel
theorem dX10_isBorder_12 : decode cX10_isBorder 12 = .ok (.invokevirtual 58, 3) := by decide +kernel
theorem dX10_isBorder_15 : decode cX10_isBorder 15 = .ok (.iconst 1, 1) := by decide +kernel
theorem dX10_isBorder_16 : decode cX10_isBorder 16 = .ok (.isub, 1) := by decide +kernel
theorem dX10_isBorder_17 : decode cX10_isBorder 17 = .ok (.if_icmp .eq 15, 3) := by decide +kernel
theorem dX10_isBorder_20 : decode cX10_isBorder 20 = .ok (.iload_n 3, 1) := by decide +kernel
theorem dX10_isBorder_21 : decode cX10_isBorder 21 = .ok (.aload_n 0, 1) := by decide +kernel
theorem dX10_isBorder_22 : decode cX10_isBorder 22 = .ok (.iload_n 1, 1) := by decide +kernel
theorem dX10_isBorder_23 : decode cX10_isBorder 23 = .ok (.iconst 5, 1) := by decide +kernel
theorem dX10_isBorder_24 : decode cX10_isBorder 24 = .ok (.invokevirtual 58, 3) := by decide +kernel
theorem dX10_isBorder_27 : decode cX10_isBorder 27 = .ok (.iconst 1, 1) := by decide +kernel
theorem dX10_isBorder_28 : decode cX10_isBorder 28 = .ok (.isub, 1) := by decide +kernel
theorem dX10_isBorder_29 : decode cX10_isBorder 29 = .ok (.if_icmp .ne 7, 3) := by decide +kernel
theorem dX10_isBorder_32 : decode cX10_isBorder 32 = .ok (.iconst 1, 1) := by decide +kernel
theorem dX10_isBorder_33 : decode cX10_isBorder 33 = .ok (.goto 4, 3) := by decide +kernel
theorem dX10_isBorder_36 : decode cX10_isBorder 36 = .ok (.iconst 0, 1) := by decide +kernel
theorem dX10_isBorder_37 : decode cX10_isBorder 37 = .ok (.ireturn, 1) := by decide +kernel
theorem dX10_ofParent_0 : decode cX10_ofParent 0 = .ok (.aload_n 0, 1) := by decide +kernel
theorem dX10_ofParent_1 : decode cX10_ofParent 1 = .ok (.aload_n 0, 1) := by decide +kernel
theorem dX10_ofParent_2 : decode cX10_ofParent 2 = .ok (.iload_n 1, 1) := by decide +kernel
theorem dX10_ofParent_3 : decode cX10_ofParent 3 = .ok (.iconst 0, 1) := by decide +kernel
theorem dX10_ofParent_4 : decode cX10_ofParent 4 = .ok (.invokevirtual 58, 3) := by decide +kernel
theorem dX10_ofParent_7 : decode cX10_ofParent 7 = .ok (.aload_n 0, 1) := by decide +kernel
theorem dX10_ofParent_8 : decode cX10_ofParent 8 = .ok (.iload_n 1, 1) := by decide +kernel
theorem dX10_ofParent_9 : decode cX10_ofParent 9 = .ok (.iload_n 2, 1) := by decide +kernel
theorem dX10_ofParent_10 : decode cX10_ofParent 10 = .ok (.iconst 0, 1) := by decide +kernel
theorem dX10_ofParent_11 : decode cX10_ofParent 11 = .ok (.invokevirtual 66, 3) := by decide +kernel
theorem dX10_ofParent_14 : decode cX10_ofParent 14 = .ok (.aload_n 0, 1) := by decide +kernel
theorem dX10_ofParent_15 : decode cX10_ofParent 15 = .ok (.iload_n 1, 1) := by decide +kernel
theorem dX10_ofParent_16 : decode cX10_ofParent 16 = .ok (.iload_n 3, 1) := by decide +kernel
theorem dX10_ofParent_17 : decode cX10_ofParent 17 = .ok (.iconst 1, 1) := by decide +kernel
theorem dX10_ofParent_18 : decode cX10_ofParent 18 = .ok (.invokevirtual 66, 3) := by decide +kernel
theorem dX10_ofParent_21 : decode cX10_ofParent 21 = .ok (.iload 4, 2) := by decide +kernel
theorem dX10_ofParent_23 : decode cX10_ofParent 23 = .ok (.invokevirtual 98, 3) := by decide +kernel
theorem dX10_ofParent_26 : decode cX10_ofParent 26 = .ok (.ireturn, 1) := by decide +kernel
theorem dX10_gapAt_0 : decode cX10_gapAt 0 = .ok (.aload_n 0, 1) := by decide +kernel
theorem dX10_gapAt_1 : decode cX10_gapAt 1 = .ok (.iload_n 1, 1) := by decide +kernel
theorem dX10_gapAt_2 : decode cX10_gapAt 2 = .ok (.iload_n 2, 1) := by decide +kernel
theorem dX10_gapAt_3 : decode cX10_gapAt 3 = .ok (.iload_n 3, 1) := by decide +kernel
theorem dX10_gapAt_4 : decode cX10_gapAt 4 = .ok (.iconst 0, 1) := by decide +kernel
theorem dX10_gapAt_5 : decode cX10_gapAt 5 = .ok (.invokevirtual 87, 3) := by decide +kernel
theorem dX10_gapAt_8 : decode cX10_gapAt 8 = .ok (.aload_n 0, 1) := by decide +kernel
theorem dX10_gapAt_9 : decode cX10_gapAt 9 = .ok (.iload_n 1, 1) := by decide +kernel
theorem dX10_gapAt_10 : decode cX10_gapAt 10 = .ok (.iload_n 2, 1) := by decide +kernel
theorem dX10_gapAt_11 : decode cX10_gapAt 11 = .ok (.iload_n 3, 1) := by decide +kernel
theorem dX10_gapAt_12 : decode cX10_gapAt 12 = .ok (.iconst 0, 1) := by decide +kernel
theorem dX10_gapAt_13 : decode cX10_gapAt 13 = .ok (.invokevirtual 101, 3) := by decide +kernel
theorem dX10_gapAt_16 : decode cX10_gapAt 16 = .ok (.isub, 1) := by decide +kernel
theorem dX10_gapAt_17 : decode cX10_gapAt 17 = .ok (.invokestatic 104, 3) := by decide +kernel
theorem dX10_gapAt_20 : decode cX10_gapAt 20 = .ok (.istore 4, 2) := by decide +kernel
theorem dX10_gapAt_22 : decode cX10_gapAt 22 = .ok (.iload 4, 2) := by decide +kernel
theorem dX10_gapAt_24 : decode cX10_gapAt 24 = .ok (.aload_n 0, 1) := by decide +kernel
theorem dX10_gapAt_25 : decode cX10_gapAt 25 = .ok (.iload_n 1, 1) := by decide +kernel
theorem dX10_gapAt_26 : decode cX10_gapAt 26 = .ok (.iload_n 2, 1) := by decide +kernel
theorem dX10_gapAt_27 : decode cX10_gapAt 27 = .ok (.iload_n 3, 1) := by decide +kernel
theorem dX10_gapAt_28 : decode cX10_gapAt 28 = .ok (.iconst 1, 1) := by decide +kernel
theorem dX10_gapAt_29 : decode cX10_gapAt 29 = .ok (.invokevirtual 87, 3) := by decide +kernel
theorem dX10_gapAt_32 : decode cX10_gapAt 32 = .ok (.aload_n 0, 1) := by decide +kernel
theorem dX10_gapAt_33 : decode cX10_gapAt 33 = .ok (.iload_n 1, 1) := by decide +kernel
theorem dX10_gapAt_34 : decode cX10_gapAt 34 = .ok (.iload_n 2, 1) := by decide +kernel
theorem dX10_gapAt_35 : decode cX10_gapAt 35 = .ok (.iload_n 3, 1) := by decide +kernel
theorem dX10_gapAt_36 : decode cX10_gapAt 36 = .ok (.iconst 1, 1) := by decide +kernel
theorem dX10_gapAt_37 : decode cX10_gapAt 37 = .ok (.invokevirtual 101, 3) := by decide +kernel
theorem dX10_gapAt_40 : decode cX10_gapAt 40 = .ok (.isub, 1) := by decide +kernel
theorem dX10_gapAt_41 : decode cX10_gapAt 41 = .ok (.invokestatic 104, 3) := by decide +kernel
theorem dX10_gapAt_44 : decode cX10_gapAt 44 = .ok (.invokestatic 108, 3) := by decide +kernel
theorem dX10_gapAt_47 : decode cX10_gapAt 47 = .ok (.ireturn, 1) := by decide +kernel
theorem dX10_gaps_0 : decode cX10_gaps 0 = .ok (.aload_n 0, 1) := by decide +kernel
theorem dX10_gaps_1 : decode cX10_gaps 1 = .ok (.iconst 0, 1) := by decide +kernel
theorem dX10_gaps_2 : decode cX10_gaps 2 = .ok (.putfield 111, 3) := by decide +kernel
theorem dX10_gaps_5 : decode cX10_gaps 5 = .ok (.aload_n 0, 1) := by decide +kernel
theorem dX10_gaps_6 : decode cX10_gaps 6 = .ok (.iconst 0, 1) := by decide +kernel
theorem dX10_gaps_7 : decode cX10_gaps 7 = .ok (.putfield 114, 3) := by decide +kernel
theorem dX10_gaps_10 : decode cX10_gaps 10 = .ok (.iconst 0, 1) := by decide +kernel
theorem dX10_gaps_11 : decode cX10_gaps 11 = .ok (.istore_n 2, 1) := by decide +kernel
theorem dX10_gaps_12 : decode cX10_gaps 12 = .ok (.iload_n 2, 1) := by decide +kernel
theorem dX10_gaps_13 : decode cX10_gaps 13 = .ok (.aload_n 0, 1) := by decide +kernel
theorem dX10_gaps_14 : decode cX10_gaps 14 = .ok (.iload_n 1, 1) := by decide +kernel
theorem dX10_gaps_15 : decode cX10_gaps 15 = .ok (.iconst 4, 1) := by decide +kernel
theorem dX10_gaps_16 : decode cX10_gaps 16 = .ok (.invokevirtual 58, 3) := by decide +kernel
theorem dX10_gaps_19 : decode cX10_gaps 19 = .ok (.aload_n 0, 1) := by decide +kernel
theorem dX10_gaps_20 : decode cX10_gaps 20 = .ok (.iload_n 1, 1) := by decide +kernel
theorem dX10_gaps_21 : decode cX10_gaps 21 = .ok (.iconst 5, 1) := by decide +kernel
theorem dX10_gaps_22 : decode cX10_gaps 22 = .ok (.invokevirtual 58, 3) := by decide +kernel
theorem dX10_gaps_25 : decode cX10_gaps 25 = .ok (.imul, 1) := by decide +kernel
theorem dX10_gaps_26 : decode cX10_gaps 26 = .ok (.if_icmp .ge 93, 3) := by decide +kernel
theorem dX10_gaps_29 : decode cX10_gaps 29 = .ok (.aload_n 0, 1) := by decide +kernel
theorem dX10_gaps_30 : decode cX10_gaps 30 = .ok (.iload_n 1, 1) := by decide +kernel
theorem dX10_gaps_31 : decode cX10_gaps 31 = .ok (.iconst 0, 1) := by decide +kernel
theorem dX10_gaps_32 : decode cX10_gaps 32 = .ok (.invokevirtual 58, 3) := by decide +kernel
theorem dX10_gaps_35 : decode cX10_gaps 35 = .ok (.iconst (-1), 1) := by decide +kernel
theorem dX10_gaps_36 : decode cX10_gaps 36 = .ok (.if_icmp .eq 83, 3) := by decide +kernel
theorem dX10_gaps_39 : decode cX10_gaps 39 = .ok (.iload_n 2, 1) := by decide +kernel
theorem dX10_gaps_40 : decode cX10_gaps 40 = .ok (.aload_n 0, 1) := by decide +kernel
theorem dX10_gaps_41 : decode cX10_gaps 41 = .ok (.iload_n 1, 1) := by decide +kernel
theorem dX10_gaps_42 : decode cX10_gaps 42 = .ok (.iconst 4, 1) := by decide +kernel
theorem dX10_gaps_43 : decode cX10_gaps 43 = .ok (.invokevirtual 58, 3) := by decide +kernel
theorem dX10_gaps_46 : decode cX10_gaps 46 = .ok (.irem, 1) := by decide +kernel
theorem dX10_gaps_47 : decode cX10_gaps 47 = .ok (.istore_n 3, 1) := by decide +kernel
theorem dX10_gaps_48 : decode cX10_gaps 48 = .ok (.iload_n 2, 1) := by decide +kernel
theorem dX10_gaps_49 : decode cX10_gaps 49 = .ok (.aload_n 0, 1) := by decide +kernel
theorem dX10_gaps_50 : decode cX10_gaps 50 = .ok (.iload_n 1, 1) := by decide +kernel
theorem dX10_gaps_51 : decode cX10_gaps 51 = .ok (.iconst 4, 1) := by decide +kernel
theorem dX10_gaps_52 : decode cX10_gaps 52 = .ok (.invokevirtual 58, 3) := by decide +kernel
theorem dX10_gaps_55 : decode cX10_gaps 55 = .ok (.idiv, 1) := by decide +kernel
theorem dX10_gaps_56 : decode cX10_gaps 56 = .ok (.istore 4, 2) := by decide +kernel
theorem dX10_gaps_58 : decode cX10_gaps 58 = .ok (.aload_n 0, 1) := by decide +kernel
theorem dX10_gaps_59 : decode cX10_gaps 59 = .ok (.iload_n 1, 1) := by decide +kernel
theorem dX10_gaps_60 : decode cX10_gaps 60 = .ok (.iload_n 3, 1) := by decide +kernel
theorem dX10_gaps_61 : decode cX10_gaps 61 = .ok (.iload 4, 2) := by decide +kernel
theorem dX10_gaps_63 : decode cX10_gaps 63 = .ok (.invokevirtual 117, 3) := by decide +kernel
theorem dX10_gaps_66 : decode cX10_gaps 66 = .ok (.ifCond .eq 47, 3) := by decide +kernel
theorem dX10_gaps_69 : decode cX10_gaps 69 = .ok (.aload_n 0, 1) := by decide +kernel
theorem dX10_gaps_70 : decode cX10_gaps 70 = .ok (.dup, 1) := by decide +kernel
theorem dX10_gaps_71 : decode cX10_gaps 71 = .ok (.getfield 111, 3) := by decide +kernel
theorem dX10_gaps_74 : decode cX10_gaps 74 = .ok (.aload_n 0, 1) := by decide +kernel
theorem dX10_gaps_75 : decode cX10_gaps 75 = .ok (.iload_n 1, 1) := by decide +kernel
theorem dX10_gaps_76 : decode cX10_gaps 76 = .ok (.iload_n 3, 1) := by decide +kernel
theorem dX10_gaps_77 : decode cX10_gaps 77 = .ok (.iload 4, 2) := by decide +kernel
theorem dX10_gaps_79 : decode cX10_gaps 79 = .ok (.invokevirtual 120, 3) := by decide +kernel
theorem dX10_gaps_82 : decode cX10_gaps 82 = .ok (.ifCond .le 7, 3) := by decide +kernel
theorem dX10_gaps_85 : decode cX10_gaps 85 = .ok (.iconst 1, 1) := by decide +kernel
theorem dX10_gaps_86 : decode cX10_gaps 86 = .ok (.goto 4, 3) := by decide +kernel
theorem dX10_gaps_89 : decode cX10_gaps 89 = .ok (.iconst 0, 1) := by decide +kernel
theorem dX10_gaps_90 : decode cX10_gaps 90 = .ok (.iadd, 1) := by decide +kernel
theorem dX10_gaps_91 : decode cX10_gaps 91 = .ok (.putfield 111, 3) := by decide +kernel
theorem dX10_gaps_94 : decode cX10_gaps 94 = .ok (.aload_n 0, 1) := by decide +kernel
theorem dX10_gaps_95 : decode cX10_gaps 95 = .ok (.aload_n 0, 1) := by decide +kernel
theorem dX10_gaps_96 : decode cX10_gaps 96 = .ok (.getfield 114, 3) := by decide +kernel
theorem dX10_gaps_99 : decode cX10_gaps 99 = .ok (.aload_n 0, 1) := by decide +kernel
theorem dX10_gaps_100 : decode cX10_gaps 100 = .ok (.iload_n 1, 1) := by decide +kernel
theorem dX10_gaps_101 : decode cX10_gaps 101 = .ok (.iload_n 3, 1) := by decide +kernel
theorem dX10_gaps_102 : decode cX10_gaps 102 = .ok (.iload 4, 2) := by decide +kernel
theorem dX10_gaps_104 : decode cX10_gaps 104 = .ok (.invokevirtual 120, 3) := by decide +kernel
theorem dX10_gaps_107 : decode cX10_gaps 107 = .ok (.invokestatic 108, 3) := by decide +kernel
theorem dX10_gaps_110 : decode cX10_gaps 110 = .ok (.putfield 114, 3) := by decide +kernel
theorem dX10_gaps_113 : decode cX10_gaps 113 = .ok (.iinc 2 1, 3) := by decide +kernel
theorem dX10_gaps_116 : decode cX10_gaps 116 = .ok (.goto (-104), 3) := by decide +kernel
theorem dX10_gaps_119 : decode cX10_gaps 119 = .ok (.return_, 1) := by decide +kernel
theorem dX10_steepIn_0 : decode cX10_steepIn 0 = .ok (.aload_n 0, 1) := by decide +kernel
theorem dX10_steepIn_1 : decode cX10_steepIn 1 = .ok (.iload_n 1, 1) := by decide +kernel
theorem dX10_steepIn_2 : decode cX10_steepIn 2 = .ok (.iload_n 2, 1) := by decide +kernel
theorem dX10_steepIn_3 : decode cX10_steepIn 3 = .ok (.iload_n 3, 1) := by decide +kernel
theorem dX10_steepIn_4 : decode cX10_steepIn 4 = .ok (.iload 4, 2) := by decide +kernel
theorem dX10_steepIn_6 : decode cX10_steepIn 6 = .ok (.invokevirtual 87, 3) := by decide +kernel
theorem dX10_steepIn_9 : decode cX10_steepIn 9 = .ok (.istore 5, 2) := by decide +kernel
theorem dX10_steepIn_11 : decode cX10_steepIn 11 = .ok (.aload_n 0, 1) := by decide +kernel
theorem dX10_steepIn_12 : decode cX10_steepIn 12 = .ok (.iload_n 1, 1) := by decide +kernel
theorem dX10_steepIn_13 : decode cX10_steepIn 13 = .ok (.iload_n 2, 1) := by decide +kernel
theorem dX10_steepIn_14 : decode cX10_steepIn 14 = .ok (.iconst 1, 1) := by decide +kernel
theorem dX10_steepIn_15 : decode cX10_steepIn 15 = .ok (.iadd, 1) := by decide +kernel
theorem dX10_steepIn_16 : decode cX10_steepIn 16 = .ok (.iload_n 3, 1) := by decide +kernel
theorem dX10_steepIn_17 : decode cX10_steepIn 17 = .ok (.iload 4, 2) := by decide +kernel
theorem dX10_steepIn_19 : decode cX10_steepIn 19 = .ok (.invokevirtual 87, 3) := by decide +kernel
theorem dX10_steepIn_22 : decode cX10_steepIn 22 = .ok (.istore 6, 2) := by decide +kernel
theorem dX10_steepIn_24 : decode cX10_steepIn 24 = .ok (.aload_n 0, 1) := by decide +kernel
theorem dX10_steepIn_25 : decode cX10_steepIn 25 = .ok (.iload_n 1, 1) := by decide +kernel
theorem dX10_steepIn_26 : decode cX10_steepIn 26 = .ok (.iload_n 2, 1) := by decide +kernel
theorem dX10_steepIn_27 : decode cX10_steepIn 27 = .ok (.iload_n 3, 1) := by decide +kernel
theorem dX10_steepIn_28 : decode cX10_steepIn 28 = .ok (.iconst 1, 1) := by decide +kernel
theorem dX10_steepIn_29 : decode cX10_steepIn 29 = .ok (.iadd, 1) := by decide +kernel
theorem dX10_steepIn_30 : decode cX10_steepIn 30 = .ok (.iload 4, 2) := by decide +kernel
theorem dX10_steepIn_32 : decode cX10_steepIn 32 = .ok (.invokevirtual 87, 3) := by decide +kernel
theorem dX10_steepIn_35 : decode cX10_steepIn 35 = .ok (.istore 7, 2) := by decide +kernel
theorem dX10_steepIn_37 : decode cX10_steepIn 37 = .ok (.aload_n 0, 1) := by decide +kernel
theorem dX10_steepIn_38 : decode cX10_steepIn 38 = .ok (.iload_n 1, 1) := by decide +kernel
theorem dX10_steepIn_39 : decode cX10_steepIn 39 = .ok (.iload_n 2, 1) := by decide +kernel
theorem dX10_steepIn_40 : decode cX10_steepIn 40 = .ok (.iconst 1, 1) := by decide +kernel
theorem dX10_steepIn_41 : decode cX10_steepIn 41 = .ok (.iadd, 1) := by decide +kernel
theorem dX10_steepIn_42 : decode cX10_steepIn 42 = .ok (.iload_n 3, 1) := by decide +kernel
theorem dX10_steepIn_43 : decode cX10_steepIn 43 = .ok (.iconst 1, 1) := by decide +kernel
theorem dX10_steepIn_44 : decode cX10_steepIn 44 = .ok (.iadd, 1) := by decide +kernel
theorem dX10_steepIn_45 : decode cX10_steepIn 45 = .ok (.iload 4, 2) := by decide +kernel
theorem dX10_steepIn_47 : decode cX10_steepIn 47 = .ok (.invokevirtual 87, 3) := by decide +kernel
theorem dX10_steepIn_50 : decode cX10_steepIn 50 = .ok (.istore 8, 2) := by decide +kernel
theorem dX10_steepIn_52 : decode cX10_steepIn 52 = .ok (.iload 6, 2) := by decide +kernel
theorem dX10_steepIn_54 : decode cX10_steepIn 54 = .ok (.iload 5, 2) := by decide +kernel
theorem dX10_steepIn_56 : decode cX10_steepIn 56 = .ok (.isub, 1) := by decide +kernel
theorem dX10_steepIn_57 : decode cX10_steepIn 57 = .ok (.invokestatic 104, 3) := by decide +kernel
theorem dX10_steepIn_60 : decode cX10_steepIn 60 = .ok (.iload 8, 2) := by decide +kernel
theorem dX10_steepIn_62 : decode cX10_steepIn 62 = .ok (.iload 7, 2) := by decide +kernel
theorem dX10_steepIn_64 : decode cX10_steepIn 64 = .ok (.isub, 1) := by decide +kernel
theorem dX10_steepIn_65 : decode cX10_steepIn 65 = .ok (.invokestatic 104, 3) := by decide +kernel
theorem dX10_steepIn_68 : decode cX10_steepIn 68 = .ok (.invokestatic 108, 3) := by decide +kernel
theorem dX10_steepIn_71 : decode cX10_steepIn 71 = .ok (.iload 7, 2) := by decide +kernel
theorem dX10_steepIn_73 : decode cX10_steepIn 73 = .ok (.iload 5, 2) := by decide +kernel
theorem dX10_steepIn_75 : decode cX10_steepIn 75 = .ok (.isub, 1) := by decide +kernel
theorem dX10_steepIn_76 : decode cX10_steepIn 76 = .ok (.invokestatic 104, 3) := by decide +kernel
theorem dX10_steepIn_79 : decode cX10_steepIn 79 = .ok (.iload 8, 2) := by decide +kernel
theorem dX10_steepIn_81 : decode cX10_steepIn 81 = .ok (.iload 6, 2) := by decide +kernel
theorem dX10_steepIn_83 : decode cX10_steepIn 83 = .ok (.isub, 1) := by decide +kernel
theorem dX10_steepIn_84 : decode cX10_steepIn 84 = .ok (.invokestatic 104, 3) := by decide +kernel
theorem dX10_steepIn_87 : decode cX10_steepIn 87 = .ok (.invokestatic 108, 3) := by decide +kernel
theorem dX10_steepIn_90 : decode cX10_steepIn 90 = .ok (.iadd, 1) := by decide +kernel
theorem dX10_steepIn_91 : decode cX10_steepIn 91 = .ok (.ireturn, 1) := by decide +kernel
theorem dX10_steep_0 : decode cX10_steep 0 = .ok (.aload_n 0, 1) := by decide +kernel
theorem dX10_steep_1 : decode cX10_steep 1 = .ok (.iload_n 1, 1) := by decide +kernel
theorem dX10_steep_2 : decode cX10_steep 2 = .ok (.iload_n 2, 1) := by decide +kernel
theorem dX10_steep_3 : decode cX10_steep 3 = .ok (.iload_n 3, 1) := by decide +kernel
theorem dX10_steep_4 : decode cX10_steep 4 = .ok (.iconst 0, 1) := by decide +kernel
theorem dX10_steep_5 : decode cX10_steep 5 = .ok (.invokevirtual 123, 3) := by decide +kernel
theorem dX10_steep_8 : decode cX10_steep 8 = .ok (.aload_n 0, 1) := by decide +kernel
theorem dX10_steep_9 : decode cX10_steep 9 = .ok (.iload_n 1, 1) := by decide +kernel
theorem dX10_steep_10 : decode cX10_steep 10 = .ok (.iload_n 2, 1) := by decide +kernel
theorem dX10_steep_11 : decode cX10_steep 11 = .ok (.iload_n 3, 1) := by decide +kernel
theorem dX10_steep_12 : decode cX10_steep 12 = .ok (.iconst 1, 1) := by decide +kernel
theorem dX10_steep_13 : decode cX10_steep 13 = .ok (.invokevirtual 123, 3) := by decide +kernel
theorem dX10_steep_16 : decode cX10_steep 16 = .ok (.invokestatic 108, 3) := by decide +kernel
theorem dX10_steep_19 : decode cX10_steep 19 = .ok (.ireturn, 1) := by decide +kernel
theorem dX10_isSure_0 : decode cX10_isSure 0 = .ok (.iconst 2, 1) := by decide +kernel
theorem dX10_isSure_1 : decode cX10_isSure 1 = .ok (.aload_n 0, 1) := by decide +kernel
theorem dX10_isSure_2 : decode cX10_isSure 2 = .ok (.iload_n 1, 1) := by decide +kernel
theorem dX10_isSure_3 : decode cX10_isSure 3 = .ok (.iload_n 2, 1) := by decide +kernel
theorem dX10_isSure_4 : decode cX10_isSure 4 = .ok (.iload_n 3, 1) := by decide +kernel
theorem dX10_isSure_5 : decode cX10_isSure 5 = .ok (.invokevirtual 126, 3) := by decide +kernel
theorem dX10_isSure_8 : decode cX10_isSure 8 = .ok (.imul, 1) := by decide +kernel
theorem dX10_isSure_9 : decode cX10_isSure 9 = .ok (.bipush 64, 2) := by decide +kernel
theorem dX10_isSure_11 : decode cX10_isSure 11 = .ok (.aload_n 0, 1) := by decide +kernel
theorem dX10_isSure_12 : decode cX10_isSure 12 = .ok (.iload_n 1, 1) := by decide +kernel
theorem dX10_isSure_13 : decode cX10_isSure 13 = .ok (.iconst 3, 1) := by decide +kernel
theorem dX10_isSure_14 : decode cX10_isSure 14 = .ok (.invokevirtual 58, 3) := by decide +kernel
theorem dX10_isSure_17 : decode cX10_isSure 17 = .ok (.imul, 1) := by decide +kernel
theorem dX10_isSure_18 : decode cX10_isSure 18 = .ok (.if_icmp .ge 7, 3) := by decide +kernel
theorem dX10_isSure_21 : decode cX10_isSure 21 = .ok (.iconst 1, 1) := by decide +kernel
theorem dX10_isSure_22 : decode cX10_isSure 22 = .ok (.goto 4, 3) := by decide +kernel
theorem dX10_isSure_25 : decode cX10_isSure 25 = .ok (.iconst 0, 1) := by decide +kernel
theorem dX10_isSure_26 : decode cX10_isSure 26 = .ok (.ireturn, 1) := by decide +kernel
theorem dX10_corner_0 : decode cX10_corner 0 = .ok (.iload_n 2, 1) := by decide +kernel
theorem dX10_corner_1 : decode cX10_corner 1 = .ok (.iload 4, 2) := by decide +kernel
theorem dX10_corner_3 : decode cX10_corner 3 = .ok (.iconst 4, 1) := by decide +kernel
theorem dX10_corner_4 : decode cX10_corner 4 = .ok (.irem, 1) := by decide +kernel
theorem dX10_corner_5 : decode cX10_corner 5 = .ok (.iconst 1, 1) := by decide +kernel
theorem dX10_corner_6 : decode cX10_corner 6 = .ok (.if_icmp .eq 11, 3) := by decide +kernel
theorem dX10_corner_9 : decode cX10_corner 9 = .ok (.iload 4, 2) := by decide +kernel
theorem dX10_corner_11 : decode cX10_corner 11 = .ok (.iconst 4, 1) := by decide +kernel
theorem dX10_corner_12 : decode cX10_corner 12 = .ok (.irem, 1) := by decide +kernel
theorem dX10_corner_13 : decode cX10_corner 13 = .ok (.iconst 2, 1) := by decide +kernel
theorem dX10_corner_14 : decode cX10_corner 14 = .ok (.if_icmp .ne 7, 3) := by decide +kernel
theorem dX10_corner_17 : decode cX10_corner 17 = .ok (.iconst 1, 1) := by decide +kernel
theorem dX10_corner_18 : decode cX10_corner 18 = .ok (.goto 4, 3) := by decide +kernel
theorem dX10_corner_21 : decode cX10_corner 21 = .ok (.iconst 0, 1) := by decide +kernel
theorem dX10_corner_22 : decode cX10_corner 22 = .ok (.iadd, 1) := by decide +kernel
theorem dX10_corner_23 : decode cX10_corner 23 = .ok (.istore 6, 2) := by decide +kernel
theorem dX10_corner_25 : decode cX10_corner 25 = .ok (.iload_n 3, 1) := by decide +kernel
theorem dX10_corner_26 : decode cX10_corner 26 = .ok (.iload 4, 2) := by decide +kernel
theorem dX10_corner_28 : decode cX10_corner 28 = .ok (.iconst 4, 1) := by decide +kernel
theorem dX10_corner_29 : decode cX10_corner 29 = .ok (.irem, 1) := by decide +kernel
theorem dX10_corner_30 : decode cX10_corner 30 = .ok (.iconst 1, 1) := by decide +kernel
theorem dX10_corner_31 : decode cX10_corner 31 = .ok (.if_icmp .le 7, 3) := by decide +kernel
theorem dX10_corner_34 : decode cX10_corner 34 = .ok (.iconst 1, 1) := by decide +kernel
theorem dX10_corner_35 : decode cX10_corner 35 = .ok (.goto 4, 3) := by decide +kernel
theorem dX10_corner_38 : decode cX10_corner 38 = .ok (.iconst 0, 1) := by decide +kernel
theorem dX10_corner_39 : decode cX10_corner 39 = .ok (.iadd, 1) := by decide +kernel
theorem dX10_corner_40 : decode cX10_corner 40 = .ok (.istore 7, 2) := by decide +kernel
theorem dX10_corner_42 : decode cX10_corner 42 = .ok (.aload_n 0, 1) := by decide +kernel
theorem dX10_corner_43 : decode cX10_corner 43 = .ok (.iload_n 1, 1) := by decide +kernel
theorem dX10_corner_44 : decode cX10_corner 44 = .ok (.iload 5, 2) := by decide +kernel
theorem dX10_corner_46 : decode cX10_corner 46 = .ok (.ifCond .ne 8, 3) := by decide +kernel
theorem dX10_corner_49 : decode cX10_corner 49 = .ok (.iload 6, 2) := by decide +kernel
theorem dX10_corner_51 : decode cX10_corner 51 = .ok (.goto 5, 3) := by decide +kernel
theorem dX10_corner_54 : decode cX10_corner 54 = .ok (.iload 7, 2) := by decide +kernel
theorem dX10_corner_56 : decode cX10_corner 56 = .ok (.iload 5, 2) := by decide +kernel
theorem dX10_corner_58 : decode cX10_corner 58 = .ok (.invokevirtual 66, 3) := by decide +kernel
theorem dX10_corner_61 : decode cX10_corner 61 = .ok (.aload_n 0, 1) := by decide +kernel
theorem dX10_corner_62 : decode cX10_corner 62 = .ok (.iload_n 1, 1) := by decide +kernel
theorem dX10_corner_63 : decode cX10_corner 63 = .ok (.iload 6, 2) := by decide +kernel
theorem dX10_corner_65 : decode cX10_corner 65 = .ok (.iload 7, 2) := by decide +kernel
theorem dX10_corner_67 : decode cX10_corner 67 = .ok (.iload 5, 2) := by decide +kernel
theorem dX10_corner_69 : decode cX10_corner 69 = .ok (.invokevirtual 87, 3) := by decide +kernel
theorem dX10_corner_72 : decode cX10_corner 72 = .ok (.iadd, 1) := by decide +kernel
theorem dX10_corner_73 : decode cX10_corner 73 = .ok (.i2l, 1) := by decide +kernel
theorem dX10_corner_74 : decode cX10_corner 74 = .ok (.lreturn, 1) := by decide +kernel
theorem dX10_cross_0 : decode cX10_cross 0 = .ok (.aload_n 0, 1) := by decide +kernel
theorem dX10_cross_1 : decode cX10_cross 1 = .ok (.iload_n 1, 1) := by decide +kernel
theorem dX10_cross_2 : decode cX10_cross 2 = .ok (.iload_n 2, 1) := by decide +kernel
theorem dX10_cross_3 : decode cX10_cross 3 = .ok (.iload_n 3, 1) := by decide +kernel
theorem dX10_cross_4 : decode cX10_cross 4 = .ok (.iload 4, 2) := by decide +kernel
theorem dX10_cross_6 : decode cX10_cross 6 = .ok (.iconst 0, 1) := by decide +kernel
theorem dX10_cross_7 : decode cX10_cross 7 = .ok (.invokevirtual 129, 3) := by decide +kernel
theorem dX10_cross_10 : decode cX10_cross 10 = .ok (.aload_n 0, 1) := by decide +kernel
theorem dX10_cross_11 : decode cX10_cross 11 = .ok (.iload_n 1, 1) := by decide +kernel
theorem dX10_cross_12 : decode cX10_cross 12 = .ok (.iload_n 2, 1) := by decide +kernel
theorem dX10_cross_13 : decode cX10_cross 13 = .ok (.iload_n 3, 1) := by decide +kernel
theorem dX10_cross_14 : decode cX10_cross 14 = .ok (.iload 5, 2) := by decide +kernel
theorem dX10_cross_16 : decode cX10_cross 16 = .ok (.iconst 1, 1) := by decide +kernel
theorem dX10_cross_17 : decode cX10_cross 17 = .ok (.invokevirtual 129, 3) := by decide +kernel
theorem dX10_cross_20 : decode cX10_cross 20 = .ok (.lmul, 1) := by decide +kernel
theorem dX10_cross_21 : decode cX10_cross 21 = .ok (.aload_n 0, 1) := by decide +kernel
theorem dX10_cross_22 : decode cX10_cross 22 = .ok (.iload_n 1, 1) := by decide +kernel
theorem dX10_cross_23 : decode cX10_cross 23 = .ok (.iload_n 2, 1) := by decide +kernel
theorem dX10_cross_24 : decode cX10_cross 24 = .ok (.iload_n 3, 1) := by decide +kernel
theorem dX10_cross_25 : decode cX10_cross 25 = .ok (.iload 5, 2) := by decide +kernel
theorem dX10_cross_27 : decode cX10_cross 27 = .ok (.iconst 0, 1) := by decide +kernel
theorem dX10_cross_28 : decode cX10_cross 28 = .ok (.invokevirtual 129, 3) := by decide +kernel
theorem dX10_cross_31 : decode cX10_cross 31 = .ok (.aload_n 0, 1) := by decide +kernel
theorem dX10_cross_32 : decode cX10_cross 32 = .ok (.iload_n 1, 1) := by decide +kernel
theorem dX10_cross_33 : decode cX10_cross 33 = .ok (.iload_n 2, 1) := by decide +kernel
theorem dX10_cross_34 : decode cX10_cross 34 = .ok (.iload_n 3, 1) := by decide +kernel
theorem dX10_cross_35 : decode cX10_cross 35 = .ok (.iload 4, 2) := by decide +kernel
theorem dX10_cross_37 : decode cX10_cross 37 = .ok (.iconst 1, 1) := by decide +kernel
theorem dX10_cross_38 : decode cX10_cross 38 = .ok (.invokevirtual 129, 3) := by decide +kernel
theorem dX10_cross_41 : decode cX10_cross 41 = .ok (.lmul, 1) := by decide +kernel
theorem dX10_cross_42 : decode cX10_cross 42 = .ok (.lsub, 1) := by decide +kernel
theorem dX10_cross_43 : decode cX10_cross 43 = .ok (.lreturn, 1) := by decide +kernel
theorem dX10_area_0 : decode cX10_area 0 = .ok (.aload_n 0, 1) := by decide +kernel
theorem dX10_area_1 : decode cX10_area 1 = .ok (.iload_n 1, 1) := by decide +kernel
theorem dX10_area_2 : decode cX10_area 2 = .ok (.iload_n 2, 1) := by decide +kernel
theorem dX10_area_3 : decode cX10_area 3 = .ok (.iload_n 3, 1) := by decide +kernel
theorem dX10_area_4 : decode cX10_area 4 = .ok (.iconst 0, 1) := by decide +kernel
theorem dX10_area_5 : decode cX10_area 5 = .ok (.iconst 1, 1) := by decide +kernel
theorem dX10_area_6 : decode cX10_area 6 = .ok (.invokevirtual 133, 3) := by decide +kernel
theorem dX10_area_9 : decode cX10_area 9 = .ok (.aload_n 0, 1) := by decide +kernel
theorem dX10_area_10 : decode cX10_area 10 = .ok (.iload_n 1, 1) := by decide +kernel
theorem dX10_area_11 : decode cX10_area 11 = .ok (.iload_n 2, 1) := by decide +kernel
theorem dX10_area_12 : decode cX10_area 12 = .ok (.iload_n 3, 1) := by decide +kernel
theorem dX10_area_13 : decode cX10_area 13 = .ok (.iconst 1, 1) := by decide +kernel
theorem dX10_area_14 : decode cX10_area 14 = .ok (.iconst 2, 1) := by decide +kernel
theorem dX10_area_15 : decode cX10_area 15 = .ok (.invokevirtual 133, 3) := by decide +kernel
theorem dX10_area_18 : decode cX10_area 18 = .ok (.ladd, 1) := by decide +kernel
theorem dX10_area_19 : decode cX10_area 19 = .ok (.aload_n 0, 1) := by decide +kernel
theorem dX10_area_20 : decode cX10_area 20 = .ok (.iload_n 1, 1) := by decide +kernel
theorem dX10_area_21 : decode cX10_area 21 = .ok (.iload_n 2, 1) := by decide +kernel
theorem dX10_area_22 : decode cX10_area 22 = .ok (.iload_n 3, 1) := by decide +kernel
theorem dX10_area_23 : decode cX10_area 23 = .ok (.iconst 2, 1) := by decide +kernel
theorem dX10_area_24 : decode cX10_area 24 = .ok (.iconst 3, 1) := by decide +kernel
theorem dX10_area_25 : decode cX10_area 25 = .ok (.invokevirtual 133, 3) := by decide +kernel
theorem dX10_area_28 : decode cX10_area 28 = .ok (.ladd, 1) := by decide +kernel
theorem dX10_area_29 : decode cX10_area 29 = .ok (.aload_n 0, 1) := by decide +kernel
theorem dX10_area_30 : decode cX10_area 30 = .ok (.iload_n 1, 1) := by decide +kernel
theorem dX10_area_31 : decode cX10_area 31 = .ok (.iload_n 2, 1) := by decide +kernel
theorem dX10_area_32 : decode cX10_area 32 = .ok (.iload_n 3, 1) := by decide +kernel
theorem dX10_area_33 : decode cX10_area 33 = .ok (.iconst 3, 1) := by decide +kernel
theorem dX10_area_34 : decode cX10_area 34 = .ok (.iconst 0, 1) := by decide +kernel
theorem dX10_area_35 : decode cX10_area 35 = .ok (.invokevirtual 133, 3) := by decide +kernel
theorem dX10_area_38 : decode cX10_area 38 = .ok (.ladd, 1) := by decide +kernel
theorem dX10_area_39 : decode cX10_area 39 = .ok (.lreturn, 1) := by decide +kernel
theorem dX10_isFolded_0 : decode cX10_isFolded 0 = .ok (.iconst 0, 1) := by decide +kernel
theorem dX10_isFolded_1 : decode cX10_isFolded 1 = .ok (.istore 4, 2) := by decide +kernel
theorem dX10_isFolded_3 : decode cX10_isFolded 3 = .ok (.iconst 0, 1) := by decide +kernel
theorem dX10_isFolded_4 : decode cX10_isFolded 4 = .ok (.istore 5, 2) := by decide +kernel
theorem dX10_isFolded_6 : decode cX10_isFolded 6 = .ok (.iload 5, 2) := by decide +kernel
theorem dX10_isFolded_8 : decode cX10_isFolded 8 = .ok (.iconst 4, 1) := by decide +kernel
theorem dX10_isFolded_9 : decode cX10_isFolded 9 = .ok (.if_icmp .ge 69, 3) := by decide +kernel
theorem dX10_isFolded_12 : decode cX10_isFolded 12 = .ok (.iload 4, 2) := by decide +kernel
theorem dX10_isFolded_14 : decode cX10_isFolded 14 = .ok (.ifCond .ne 51, 3) := by decide +kernel
theorem dX10_isFolded_17 : decode cX10_isFolded 17 = .ok (.aload_n 0, 1) := by decide +kernel
theorem dX10_isFolded_18 : decode cX10_isFolded 18 = .ok (.iload_n 1, 1) := by decide +kernel
theorem dX10_isFolded_19 : decode cX10_isFolded 19 = .ok (.iload_n 2, 1) := by decide +kernel
theorem dX10_isFolded_20 : decode cX10_isFolded 20 = .ok (.iload_n 3, 1) := by decide +kernel
theorem dX10_isFolded_21 : decode cX10_isFolded 21 = .ok (.iload 5, 2) := by decide +kernel
theorem dX10_isFolded_23 : decode cX10_isFolded 23 = .ok (.iload 5, 2) := by decide +kernel
theorem dX10_isFolded_25 : decode cX10_isFolded 25 = .ok (.iconst 1, 1) := by decide +kernel
theorem dX10_isFolded_26 : decode cX10_isFolded 26 = .ok (.iadd, 1) := by decide +kernel
theorem dX10_isFolded_27 : decode cX10_isFolded 27 = .ok (.invokevirtual 133, 3) := by decide +kernel
theorem dX10_isFolded_30 : decode cX10_isFolded 30 = .ok (.aload_n 0, 1) := by decide +kernel
theorem dX10_isFolded_31 : decode cX10_isFolded 31 = .ok (.iload_n 1, 1) := by decide +kernel
theorem dX10_isFolded_32 : decode cX10_isFolded 32 = .ok (.iload_n 2, 1) := by decide +kernel
theorem dX10_isFolded_33 : decode cX10_isFolded 33 = .ok (.iload_n 3, 1) := by decide +kernel
theorem dX10_isFolded_34 : decode cX10_isFolded 34 = .ok (.iload 5, 2) := by decide +kernel
theorem dX10_isFolded_36 : decode cX10_isFolded 36 = .ok (.iconst 1, 1) := by decide +kernel
theorem dX10_isFolded_37 : decode cX10_isFolded 37 = .ok (.iadd, 1) := by decide +kernel
theorem dX10_isFolded_38 : decode cX10_isFolded 38 = .ok (.iload 5, 2) := by decide +kernel
theorem dX10_isFolded_40 : decode cX10_isFolded 40 = .ok (.iconst 2, 1) := by decide +kernel
theorem dX10_isFolded_41 : decode cX10_isFolded 41 = .ok (.iadd, 1) := by decide +kernel
theorem dX10_isFolded_42 : decode cX10_isFolded 42 = .ok (.invokevirtual 133, 3) := by decide +kernel
theorem dX10_isFolded_45 : decode cX10_isFolded 45 = .ok (.ladd, 1) := by decide +kernel
theorem dX10_isFolded_46 : decode cX10_isFolded 46 = .ok (.aload_n 0, 1) := by decide +kernel
theorem dX10_isFolded_47 : decode cX10_isFolded 47 = .ok (.iload_n 1, 1) := by decide +kernel
theorem dX10_isFolded_48 : decode cX10_isFolded 48 = .ok (.iload_n 2, 1) := by decide +kernel
theorem dX10_isFolded_49 : decode cX10_isFolded 49 = .ok (.iload_n 3, 1) := by decide +kernel
theorem dX10_isFolded_50 : decode cX10_isFolded 50 = .ok (.iload 5, 2) := by decide +kernel
theorem dX10_isFolded_52 : decode cX10_isFolded 52 = .ok (.iconst 2, 1) := by decide +kernel
theorem dX10_isFolded_53 : decode cX10_isFolded 53 = .ok (.iadd, 1) := by decide +kernel
theorem dX10_isFolded_54 : decode cX10_isFolded 54 = .ok (.iload 5, 2) := by decide +kernel
theorem dX10_isFolded_56 : decode cX10_isFolded 56 = .ok (.invokevirtual 133, 3) := by decide +kernel
theorem dX10_isFolded_59 : decode cX10_isFolded 59 = .ok (.ladd, 1) := by decide +kernel
theorem dX10_isFolded_60 : decode cX10_isFolded 60 = .ok (.lconst 0, 1) := by decide +kernel
theorem dX10_isFolded_61 : decode cX10_isFolded 61 = .ok (.lcmp, 1) := by decide +kernel
theorem dX10_isFolded_62 : decode cX10_isFolded 62 = .ok (.ifCond .gt 7, 3) := by decide +kernel
theorem dX10_isFolded_65 : decode cX10_isFolded 65 = .ok (.iconst 1, 1) := by decide +kernel
theorem dX10_isFolded_66 : decode cX10_isFolded 66 = .ok (.goto 4, 3) := by decide +kernel
theorem dX10_isFolded_69 : decode cX10_isFolded 69 = .ok (.iconst 0, 1) := by decide +kernel
theorem dX10_isFolded_70 : decode cX10_isFolded 70 = .ok (.istore 4, 2) := by decide +kernel
theorem dX10_isFolded_72 : decode cX10_isFolded 72 = .ok (.iinc 5 1, 3) := by decide +kernel
theorem dX10_isFolded_75 : decode cX10_isFolded 75 = .ok (.goto (-69), 3) := by decide +kernel
theorem dX10_isFolded_78 : decode cX10_isFolded 78 = .ok (.iload 4, 2) := by decide +kernel
theorem dX10_isFolded_80 : decode cX10_isFolded 80 = .ok (.ireturn, 1) := by decide +kernel
theorem dX10_cells_0 : decode cX10_cells 0 = .ok (.iconst 0, 1) := by decide +kernel
theorem dX10_cells_1 : decode cX10_cells 1 = .ok (.istore_n 3, 1) := by decide +kernel
theorem dX10_cells_2 : decode cX10_cells 2 = .ok (.iconst 0, 1) := by decide +kernel
theorem dX10_cells_3 : decode cX10_cells 3 = .ok (.istore 4, 2) := by decide +kernel
theorem dX10_cells_5 : decode cX10_cells 5 = .ok (.iload 4, 2) := by decide +kernel
theorem dX10_cells_7 : decode cX10_cells 7 = .ok (.aload_n 0, 1) := by decide +kernel
theorem dX10_cells_8 : decode cX10_cells 8 = .ok (.iload_n 1, 1) := by decide +kernel
theorem dX10_cells_9 : decode cX10_cells 9 = .ok (.iconst 4, 1) := by decide +kernel
theorem dX10_cells_10 : decode cX10_cells 10 = .ok (.invokevirtual 58, 3) := by decide +kernel
theorem dX10_cells_13 : decode cX10_cells 13 = .ok (.iconst 1, 1) := by decide +kernel
theorem dX10_cells_14 : decode cX10_cells 14 = .ok (.isub, 1) := by decide +kernel
theorem dX10_cells_15 : decode cX10_cells 15 = .ok (.if_icmp .ge 70, 3) := by decide +kernel
theorem dX10_cells_18 : decode cX10_cells 18 = .ok (.iconst 0, 1) := by decide +kernel
theorem dX10_cells_19 : decode cX10_cells 19 = .ok (.istore 5, 2) := by decide +kernel
theorem dX10_cells_21 : decode cX10_cells 21 = .ok (.iload 5, 2) := by decide +kernel
theorem dX10_cells_23 : decode cX10_cells 23 = .ok (.aload_n 0, 1) := by decide +kernel
theorem dX10_cells_24 : decode cX10_cells 24 = .ok (.iload_n 1, 1) := by decide +kernel
theorem dX10_cells_25 : decode cX10_cells 25 = .ok (.iconst 5, 1) := by decide +kernel
theorem dX10_cells_26 : decode cX10_cells 26 = .ok (.invokevirtual 58, 3) := by decide +kernel
theorem dX10_cells_29 : decode cX10_cells 29 = .ok (.iconst 1, 1) := by decide +kernel
theorem dX10_cells_30 : decode cX10_cells 30 = .ok (.isub, 1) := by decide +kernel
theorem dX10_cells_31 : decode cX10_cells 31 = .ok (.if_icmp .ge 48, 3) := by decide +kernel
theorem dX10_cells_34 : decode cX10_cells 34 = .ok (.iload_n 3, 1) := by decide +kernel
theorem dX10_cells_35 : decode cX10_cells 35 = .ok (.iload_n 2, 1) := by decide +kernel
theorem dX10_cells_36 : decode cX10_cells 36 = .ok (.ifCond .eq 18, 3) := by decide +kernel
theorem dX10_cells_39 : decode cX10_cells 39 = .ok (.aload_n 0, 1) := by decide +kernel
theorem dX10_cells_40 : decode cX10_cells 40 = .ok (.iload_n 1, 1) := by decide +kernel
theorem dX10_cells_41 : decode cX10_cells 41 = .ok (.iload 4, 2) := by decide +kernel
theorem dX10_cells_43 : decode cX10_cells 43 = .ok (.iload 5, 2) := by decide +kernel
theorem dX10_cells_45 : decode cX10_cells 45 = .ok (.invokevirtual 136, 3) := by decide +kernel
theorem dX10_cells_48 : decode cX10_cells 48 = .ok (.ifCond .eq 22, 3) := by decide +kernel
theorem dX10_cells_51 : decode cX10_cells 51 = .ok (.goto 15, 3) := by decide +kernel
theorem dX10_cells_54 : decode cX10_cells 54 = .ok (.aload_n 0, 1) := by decide +kernel
theorem dX10_cells_55 : decode cX10_cells 55 = .ok (.iload_n 1, 1) := by decide +kernel
theorem dX10_cells_56 : decode cX10_cells 56 = .ok (.iload 4, 2) := by decide +kernel
theorem dX10_cells_58 : decode cX10_cells 58 = .ok (.iload 5, 2) := by decide +kernel
theorem dX10_cells_60 : decode cX10_cells 60 = .ok (.invokevirtual 139, 3) := by decide +kernel
theorem dX10_cells_63 : decode cX10_cells 63 = .ok (.ifCond .ne 7, 3) := by decide +kernel
theorem dX10_cells_66 : decode cX10_cells 66 = .ok (.iconst 1, 1) := by decide +kernel
theorem dX10_cells_67 : decode cX10_cells 67 = .ok (.goto 4, 3) := by decide +kernel
theorem dX10_cells_70 : decode cX10_cells 70 = .ok (.iconst 0, 1) := by decide +kernel
theorem dX10_cells_71 : decode cX10_cells 71 = .ok (.iadd, 1) := by decide +kernel
theorem dX10_cells_72 : decode cX10_cells 72 = .ok (.istore_n 3, 1) := by decide +kernel
theorem dX10_cells_73 : decode cX10_cells 73 = .ok (.iinc 5 1, 3) := by decide +kernel
theorem dX10_cells_76 : decode cX10_cells 76 = .ok (.goto (-55), 3) := by decide +kernel
theorem dX10_cells_79 : decode cX10_cells 79 = .ok (.iinc 4 1, 3) := by decide +kernel
theorem dX10_cells_82 : decode cX10_cells 82 = .ok (.goto (-77), 3) := by decide +kernel
theorem dX10_cells_85 : decode cX10_cells 85 = .ok (.iload_n 3, 1) := by decide +kernel
theorem dX10_cells_86 : decode cX10_cells 86 = .ok (.ireturn, 1) := by decide +kernel
theorem dX10_nodesMoved_0 : decode cX10_nodesMoved 0 = .ok (.iconst 0, 1) := by decide +kernel
theorem dX10_nodesMoved_1 : decode cX10_nodesMoved 1 = .ok (.istore_n 1, 1) := by decide +kernel
theorem dX10_nodesMoved_2 : decode cX10_nodesMoved 2 = .ok (.iconst 0, 1) := by decide +kernel
theorem dX10_nodesMoved_3 : decode cX10_nodesMoved 3 = .ok (.istore_n 2, 1) := by decide +kernel
theorem dX10_nodesMoved_4 : decode cX10_nodesMoved 4 = .ok (.iload_n 2, 1) := by decide +kernel
theorem dX10_nodesMoved_5 : decode cX10_nodesMoved 5 = .ok (.aload_n 0, 1) := by decide +kernel
theorem dX10_nodesMoved_6 : decode cX10_nodesMoved 6 = .ok (.getfield 7, 3) := by decide +kernel
theorem dX10_nodesMoved_9 : decode cX10_nodesMoved 9 = .ok (.iconst 0, 1) := by decide +kernel
theorem dX10_nodesMoved_10 : decode cX10_nodesMoved 10 = .ok (.iaload, 1) := by decide +kernel
theorem dX10_nodesMoved_11 : decode cX10_nodesMoved 11 = .ok (.if_icmp .ge 88, 3) := by decide +kernel
theorem dX10_nodesMoved_14 : decode cX10_nodesMoved 14 = .ok (.iconst 0, 1) := by decide +kernel
theorem dX10_nodesMoved_15 : decode cX10_nodesMoved 15 = .ok (.istore_n 3, 1) := by decide +kernel
theorem dX10_nodesMoved_16 : decode cX10_nodesMoved 16 = .ok (.iload_n 3, 1) := by decide +kernel
theorem dX10_nodesMoved_17 : decode cX10_nodesMoved 17 = .ok (.aload_n 0, 1) := by decide +kernel
theorem dX10_nodesMoved_18 : decode cX10_nodesMoved 18 = .ok (.iload_n 2, 1) := by decide +kernel
theorem dX10_nodesMoved_19 : decode cX10_nodesMoved 19 = .ok (.iconst 4, 1) := by decide +kernel
theorem dX10_nodesMoved_20 : decode cX10_nodesMoved 20 = .ok (.invokevirtual 58, 3) := by decide +kernel
theorem dX10_nodesMoved_23 : decode cX10_nodesMoved 23 = .ok (.aload_n 0, 1) := by decide +kernel
theorem dX10_nodesMoved_24 : decode cX10_nodesMoved 24 = .ok (.iload_n 2, 1) := by decide +kernel
theorem dX10_nodesMoved_25 : decode cX10_nodesMoved 25 = .ok (.iconst 5, 1) := by decide +kernel
theorem dX10_nodesMoved_26 : decode cX10_nodesMoved 26 = .ok (.invokevirtual 58, 3) := by decide +kernel
theorem dX10_nodesMoved_29 : decode cX10_nodesMoved 29 = .ok (.imul, 1) := by decide +kernel
theorem dX10_nodesMoved_30 : decode cX10_nodesMoved 30 = .ok (.if_icmp .ge 63, 3) := by decide +kernel
theorem dX10_nodesMoved_33 : decode cX10_nodesMoved 33 = .ok (.iload_n 3, 1) := by decide +kernel
theorem dX10_nodesMoved_34 : decode cX10_nodesMoved 34 = .ok (.aload_n 0, 1) := by decide +kernel
theorem dX10_nodesMoved_35 : decode cX10_nodesMoved 35 = .ok (.iload_n 2, 1) := by decide +kernel
theorem dX10_nodesMoved_36 : decode cX10_nodesMoved 36 = .ok (.iconst 4, 1) := by decide +kernel
theorem dX10_nodesMoved_37 : decode cX10_nodesMoved 37 = .ok (.invokevirtual 58, 3) := by decide +kernel
theorem dX10_nodesMoved_40 : decode cX10_nodesMoved 40 = .ok (.irem, 1) := by decide +kernel
theorem dX10_nodesMoved_41 : decode cX10_nodesMoved 41 = .ok (.istore 4, 2) := by decide +kernel
theorem dX10_nodesMoved_43 : decode cX10_nodesMoved 43 = .ok (.iload_n 3, 1) := by decide +kernel
theorem dX10_nodesMoved_44 : decode cX10_nodesMoved 44 = .ok (.aload_n 0, 1) := by decide +kernel
theorem dX10_nodesMoved_45 : decode cX10_nodesMoved 45 = .ok (.iload_n 2, 1) := by decide +kernel
theorem dX10_nodesMoved_46 : decode cX10_nodesMoved 46 = .ok (.iconst 4, 1) := by decide +kernel
theorem dX10_nodesMoved_47 : decode cX10_nodesMoved 47 = .ok (.invokevirtual 58, 3) := by decide +kernel
theorem dX10_nodesMoved_50 : decode cX10_nodesMoved 50 = .ok (.idiv, 1) := by decide +kernel
theorem dX10_nodesMoved_51 : decode cX10_nodesMoved 51 = .ok (.istore 5, 2) := by decide +kernel
theorem dX10_nodesMoved_53 : decode cX10_nodesMoved 53 = .ok (.iload_n 1, 1) := by decide +kernel
theorem dX10_nodesMoved_54 : decode cX10_nodesMoved 54 = .ok (.aload_n 0, 1) := by decide +kernel
theorem dX10_nodesMoved_55 : decode cX10_nodesMoved 55 = .ok (.iload_n 2, 1) := by decide +kernel
theorem dX10_nodesMoved_56 : decode cX10_nodesMoved 56 = .ok (.iload 4, 2) := by decide +kernel
theorem dX10_nodesMoved_58 : decode cX10_nodesMoved 58 = .ok (.iload 5, 2) := by decide +kernel
theorem dX10_nodesMoved_60 : decode cX10_nodesMoved 60 = .ok (.iconst 0, 1) := by decide +kernel
theorem dX10_nodesMoved_61 : decode cX10_nodesMoved 61 = .ok (.invokevirtual 87, 3) := by decide +kernel
theorem dX10_nodesMoved_64 : decode cX10_nodesMoved 64 = .ok (.ifCond .ne 16, 3) := by decide +kernel
theorem dX10_nodesMoved_67 : decode cX10_nodesMoved 67 = .ok (.aload_n 0, 1) := by decide +kernel
theorem dX10_nodesMoved_68 : decode cX10_nodesMoved 68 = .ok (.iload_n 2, 1) := by decide +kernel
theorem dX10_nodesMoved_69 : decode cX10_nodesMoved 69 = .ok (.iload 4, 2) := by decide +kernel
theorem dX10_nodesMoved_71 : decode cX10_nodesMoved 71 = .ok (.iload 5, 2) := by decide +kernel
theorem dX10_nodesMoved_73 : decode cX10_nodesMoved 73 = .ok (.iconst 1, 1) := by decide +kernel
theorem dX10_nodesMoved_74 : decode cX10_nodesMoved 74 = .ok (.invokevirtual 87, 3) := by decide +kernel
theorem dX10_nodesMoved_77 : decode cX10_nodesMoved 77 = .ok (.ifCond .eq 7, 3) := by decide +kernel
theorem dX10_nodesMoved_80 : decode cX10_nodesMoved 80 = .ok (.iconst 1, 1) := by decide +kernel
theorem dX10_nodesMoved_81 : decode cX10_nodesMoved 81 = .ok (.goto 4, 3) := by decide +kernel
theorem dX10_nodesMoved_84 : decode cX10_nodesMoved 84 = .ok (.iconst 0, 1) := by decide +kernel
theorem dX10_nodesMoved_85 : decode cX10_nodesMoved 85 = .ok (.iadd, 1) := by decide +kernel
theorem dX10_nodesMoved_86 : decode cX10_nodesMoved 86 = .ok (.istore_n 1, 1) := by decide +kernel
theorem dX10_nodesMoved_87 : decode cX10_nodesMoved 87 = .ok (.iinc 3 1, 3) := by decide +kernel
theorem dX10_nodesMoved_90 : decode cX10_nodesMoved 90 = .ok (.goto (-74), 3) := by decide +kernel
theorem dX10_nodesMoved_93 : decode cX10_nodesMoved 93 = .ok (.iinc 2 1, 3) := by decide +kernel
theorem dX10_nodesMoved_96 : decode cX10_nodesMoved 96 = .ok (.goto (-92), 3) := by decide +kernel
theorem dX10_nodesMoved_99 : decode cX10_nodesMoved 99 = .ok (.iload_n 1, 1) := by decide +kernel
theorem dX10_nodesMoved_100 : decode cX10_nodesMoved 100 = .ok (.ireturn, 1) := by decide +kernel
theorem dX10_wrong_0 : decode cX10_wrong 0 = .ok (.iconst 0, 1) := by decide +kernel
theorem dX10_wrong_1 : decode cX10_wrong 1 = .ok (.istore_n 1, 1) := by decide +kernel
theorem dX10_wrong_2 : decode cX10_wrong 2 = .ok (.iload_n 1, 1) := by decide +kernel
theorem dX10_wrong_3 : decode cX10_wrong 3 = .ok (.aload_n 0, 1) := by decide +kernel
theorem dX10_wrong_4 : decode cX10_wrong 4 = .ok (.getfield 142, 3) := by decide +kernel
theorem dX10_wrong_7 : decode cX10_wrong 7 = .ok (.if_icmp .ge 44, 3) := by decide +kernel
theorem dX10_wrong_10 : decode cX10_wrong 10 = .ok (.aload_n 0, 1) := by decide +kernel
theorem dX10_wrong_11 : decode cX10_wrong 11 = .ok (.getfield 27, 3) := by decide +kernel
theorem dX10_wrong_14 : decode cX10_wrong 14 = .ok (.iload_n 1, 1) := by decide +kernel
theorem dX10_wrong_15 : decode cX10_wrong 15 = .ok (.iaload, 1) := by decide +kernel
theorem dX10_wrong_16 : decode cX10_wrong 16 = .ok (.aload_n 0, 1) := by decide +kernel
theorem dX10_wrong_17 : decode cX10_wrong 17 = .ok (.aload_n 0, 1) := by decide +kernel
theorem dX10_wrong_18 : decode cX10_wrong 18 = .ok (.getfield 27, 3) := by decide +kernel
theorem dX10_wrong_21 : decode cX10_wrong 21 = .ok (.iload_n 1, 1) := by decide +kernel
theorem dX10_wrong_22 : decode cX10_wrong 22 = .ok (.iaload, 1) := by decide +kernel
theorem dX10_wrong_23 : decode cX10_wrong 23 = .ok (.aload_n 0, 1) := by decide +kernel
theorem dX10_wrong_24 : decode cX10_wrong 24 = .ok (.getfield 30, 3) := by decide +kernel
theorem dX10_wrong_27 : decode cX10_wrong 27 = .ok (.iload_n 1, 1) := by decide +kernel
theorem dX10_wrong_28 : decode cX10_wrong 28 = .ok (.iaload, 1) := by decide +kernel
theorem dX10_wrong_29 : decode cX10_wrong 29 = .ok (.iconst 0, 1) := by decide +kernel
theorem dX10_wrong_30 : decode cX10_wrong 30 = .ok (.invokevirtual 145, 3) := by decide +kernel
theorem dX10_wrong_33 : decode cX10_wrong 33 = .ok (.iadd, 1) := by decide +kernel
theorem dX10_wrong_34 : decode cX10_wrong 34 = .ok (.aload_n 0, 1) := by decide +kernel
theorem dX10_wrong_35 : decode cX10_wrong 35 = .ok (.getfield 33, 3) := by decide +kernel
theorem dX10_wrong_38 : decode cX10_wrong 38 = .ok (.iload_n 1, 1) := by decide +kernel
theorem dX10_wrong_39 : decode cX10_wrong 39 = .ok (.iaload, 1) := by decide +kernel
theorem dX10_wrong_40 : decode cX10_wrong 40 = .ok (.if_icmp .eq 5, 3) := by decide +kernel
theorem dX10_wrong_43 : decode cX10_wrong 43 = .ok (.iload_n 1, 1) := by decide +kernel
theorem dX10_wrong_44 : decode cX10_wrong 44 = .ok (.ireturn, 1) := by decide +kernel
theorem dX10_wrong_45 : decode cX10_wrong 45 = .ok (.iinc 1 1, 3) := by decide +kernel
theorem dX10_wrong_48 : decode cX10_wrong 48 = .ok (.goto (-46), 3) := by decide +kernel
theorem dX10_wrong_51 : decode cX10_wrong 51 = .ok (.iconst (-1), 1) := by decide +kernel
theorem dX10_wrong_52 : decode cX10_wrong 52 = .ok (.ireturn, 1) := by decide +kernel
theorem dX10_tally_0 : decode cX10_tally 0 = .ok (.iconst 0, 1) := by decide +kernel
theorem dX10_tally_1 : decode cX10_tally 1 = .ok (.istore_n 2, 1) := by decide +kernel
theorem dX10_tally_2 : decode cX10_tally 2 = .ok (.iconst 0, 1) := by decide +kernel
theorem dX10_tally_3 : decode cX10_tally 3 = .ok (.istore_n 3, 1) := by decide +kernel
theorem dX10_tally_4 : decode cX10_tally 4 = .ok (.iconst (-1), 1) := by decide +kernel
theorem dX10_tally_5 : decode cX10_tally 5 = .ok (.istore 4, 2) := by decide +kernel
theorem dX10_tally_7 : decode cX10_tally 7 = .ok (.iconst 0, 1) := by decide +kernel
theorem dX10_tally_8 : decode cX10_tally 8 = .ok (.istore 5, 2) := by decide +kernel
theorem dX10_tally_10 : decode cX10_tally 10 = .ok (.iload 5, 2) := by decide +kernel
theorem dX10_tally_12 : decode cX10_tally 12 = .ok (.aload_n 0, 1) := by decide +kernel
theorem dX10_tally_13 : decode cX10_tally 13 = .ok (.getfield 7, 3) := by decide +kernel
theorem dX10_tally_16 : decode cX10_tally 16 = .ok (.iconst 0, 1) := by decide +kernel
theorem dX10_tally_17 : decode cX10_tally 17 = .ok (.iaload, 1) := by decide +kernel
theorem dX10_tally_18 : decode cX10_tally 18 = .ok (.if_icmp .ge 81, 3) := by decide +kernel
theorem dX10_tally_21 : decode cX10_tally 21 = .ok (.aload_n 0, 1) := by decide +kernel
theorem dX10_tally_22 : decode cX10_tally 22 = .ok (.iload 5, 2) := by decide +kernel
theorem dX10_tally_24 : decode cX10_tally 24 = .ok (.invokevirtual 148, 3) := by decide +kernel
theorem dX10_tally_27 : decode cX10_tally 27 = .ok (.iload_n 2, 1) := by decide +kernel
theorem dX10_tally_28 : decode cX10_tally 28 = .ok (.iload_n 1, 1) := by decide +kernel
theorem dX10_tally_29 : decode cX10_tally 29 = .ok (.iconst 5, 1) := by decide +kernel
theorem dX10_tally_30 : decode cX10_tally 30 = .ok (.if_icmp .ne 10, 3) := by decide +kernel
theorem dX10_tally_33 : decode cX10_tally 33 = .ok (.aload_n 0, 1) := by decide +kernel
theorem dX10_tally_34 : decode cX10_tally 34 = .ok (.getfield 111, 3) := by decide +kernel
theorem dX10_tally_37 : decode cX10_tally 37 = .ok (.goto 28, 3) := by decide +kernel
theorem dX10_tally_40 : decode cX10_tally 40 = .ok (.iload_n 1, 1) := by decide +kernel
theorem dX10_tally_41 : decode cX10_tally 41 = .ok (.iconst 5, 1) := by decide +kernel
theorem dX10_tally_42 : decode cX10_tally 42 = .ok (.if_icmp .ge 22, 3) := by decide +kernel
theorem dX10_tally_45 : decode cX10_tally 45 = .ok (.aload_n 0, 1) := by decide +kernel
theorem dX10_tally_46 : decode cX10_tally 46 = .ok (.iload 5, 2) := by decide +kernel
theorem dX10_tally_48 : decode cX10_tally 48 = .ok (.iload_n 1, 1) := by decide +kernel
theorem dX10_tally_49 : decode cX10_tally 49 = .ok (.iconst 4, 1) := by decide +kernel
theorem dX10_tally_50 : decode cX10_tally 50 = .ok (.if_icmp .ne 7, 3) := by decide +kernel
theorem dX10_tally_53 : decode cX10_tally 53 = .ok (.iconst 1, 1) := by decide +kernel
theorem dX10_tally_54 : decode cX10_tally 54 = .ok (.goto 4, 3) := by decide +kernel
theorem dX10_tally_57 : decode cX10_tally 57 = .ok (.iconst 0, 1) := by decide +kernel
theorem dX10_tally_58 : decode cX10_tally 58 = .ok (.invokevirtual 152, 3) := by decide +kernel
theorem dX10_tally_61 : decode cX10_tally 61 = .ok (.goto 4, 3) := by decide +kernel
theorem dX10_tally_64 : decode cX10_tally 64 = .ok (.iconst 0, 1) := by decide +kernel
theorem dX10_tally_65 : decode cX10_tally 65 = .ok (.iadd, 1) := by decide +kernel
theorem dX10_tally_66 : decode cX10_tally 66 = .ok (.istore_n 2, 1) := by decide +kernel
theorem dX10_tally_67 : decode cX10_tally 67 = .ok (.aload_n 0, 1) := by decide +kernel
theorem dX10_tally_68 : decode cX10_tally 68 = .ok (.getfield 114, 3) := by decide +kernel
theorem dX10_tally_71 : decode cX10_tally 71 = .ok (.iload_n 3, 1) := by decide +kernel
theorem dX10_tally_72 : decode cX10_tally 72 = .ok (.if_icmp .le 8, 3) := by decide +kernel
theorem dX10_tally_75 : decode cX10_tally 75 = .ok (.iload 5, 2) := by decide +kernel
theorem dX10_tally_77 : decode cX10_tally 77 = .ok (.goto 5, 3) := by decide +kernel
theorem dX10_tally_80 : decode cX10_tally 80 = .ok (.iload 4, 2) := by decide +kernel
theorem dX10_tally_82 : decode cX10_tally 82 = .ok (.istore 4, 2) := by decide +kernel
theorem dX10_tally_84 : decode cX10_tally 84 = .ok (.iload_n 3, 1) := by decide +kernel
theorem dX10_tally_85 : decode cX10_tally 85 = .ok (.aload_n 0, 1) := by decide +kernel
theorem dX10_tally_86 : decode cX10_tally 86 = .ok (.getfield 114, 3) := by decide +kernel
theorem dX10_tally_89 : decode cX10_tally 89 = .ok (.invokestatic 108, 3) := by decide +kernel
theorem dX10_tally_92 : decode cX10_tally 92 = .ok (.istore_n 3, 1) := by decide +kernel
theorem dX10_tally_93 : decode cX10_tally 93 = .ok (.iinc 5 1, 3) := by decide +kernel
theorem dX10_tally_96 : decode cX10_tally 96 = .ok (.goto (-86), 3) := by decide +kernel
theorem dX10_tally_99 : decode cX10_tally 99 = .ok (.iload_n 1, 1) := by decide +kernel
theorem dX10_tally_100 : decode cX10_tally 100 = .ok (.bipush 6, 2) := by decide +kernel
theorem dX10_tally_102 : decode cX10_tally 102 = .ok (.if_icmp .ge 7, 3) := by decide +kernel
theorem dX10_tally_105 : decode cX10_tally 105 = .ok (.iload_n 2, 1) := by decide +kernel
theorem dX10_tally_106 : decode cX10_tally 106 = .ok (.goto 15, 3) := by decide +kernel
theorem dX10_tally_109 : decode cX10_tally 109 = .ok (.iload_n 1, 1) := by decide +kernel
theorem dX10_tally_110 : decode cX10_tally 110 = .ok (.bipush 6, 2) := by decide +kernel
theorem dX10_tally_112 : decode cX10_tally 112 = .ok (.if_icmp .ne 7, 3) := by decide +kernel
theorem dX10_tally_115 : decode cX10_tally 115 = .ok (.iload_n 3, 1) := by decide +kernel
theorem dX10_tally_116 : decode cX10_tally 116 = .ok (.goto 5, 3) := by decide +kernel
theorem dX10_tally_119 : decode cX10_tally 119 = .ok (.iload 4, 2) := by decide +kernel
theorem dX10_tally_121 : decode cX10_tally 121 = .ok (.ireturn, 1) := by decide +kernel
theorem dX10_told_0 : decode cX10_told 0 = .ok (.aload_n 0, 1) := by decide +kernel
theorem dX10_told_1 : decode cX10_told 1 = .ok (.iconst 0, 1) := by decide +kernel
theorem dX10_told_2 : decode cX10_told 2 = .ok (.putfield 46, 3) := by decide +kernel
theorem dX10_told_5 : decode cX10_told 5 = .ok (.iload_n 1, 1) := by decide +kernel
theorem dX10_told_6 : decode cX10_told 6 = .ok (.tableswitch 108 0 11 #[62, 69, 76, 81, 81, 81, 81, 81, 87, 92, 97, 102], 62) := by decide +kernel
theorem dX10_told_68 : decode cX10_told 68 = .ok (.aload_n 0, 1) := by decide +kernel
theorem dX10_told_69 : decode cX10_told 69 = .ok (.getfield 7, 3) := by decide +kernel
theorem dX10_told_72 : decode cX10_told 72 = .ok (.iconst 0, 1) := by decide +kernel
theorem dX10_told_73 : decode cX10_told 73 = .ok (.iaload, 1) := by decide +kernel
theorem dX10_told_74 : decode cX10_told 74 = .ok (.ireturn, 1) := by decide +kernel
theorem dX10_told_75 : decode cX10_told 75 = .ok (.aload_n 0, 1) := by decide +kernel
theorem dX10_told_76 : decode cX10_told 76 = .ok (.getfield 7, 3) := by decide +kernel
theorem dX10_told_79 : decode cX10_told 79 = .ok (.iconst 1, 1) := by decide +kernel
theorem dX10_told_80 : decode cX10_told 80 = .ok (.iaload, 1) := by decide +kernel
theorem dX10_told_81 : decode cX10_told 81 = .ok (.ireturn, 1) := by decide +kernel
theorem dX10_told_82 : decode cX10_told 82 = .ok (.aload_n 0, 1) := by decide +kernel
theorem dX10_told_83 : decode cX10_told 83 = .ok (.invokevirtual 156, 3) := by decide +kernel
theorem dX10_told_86 : decode cX10_told 86 = .ok (.ireturn, 1) := by decide +kernel
theorem dX10_told_87 : decode cX10_told 87 = .ok (.aload_n 0, 1) := by decide +kernel
theorem dX10_told_88 : decode cX10_told 88 = .ok (.iload_n 1, 1) := by decide +kernel
theorem dX10_told_89 : decode cX10_told 89 = .ok (.invokevirtual 160, 3) := by decide +kernel
theorem dX10_told_92 : decode cX10_told 92 = .ok (.ireturn, 1) := by decide +kernel
theorem dX10_told_93 : decode cX10_told 93 = .ok (.aload_n 0, 1) := by decide +kernel
theorem dX10_told_94 : decode cX10_told 94 = .ok (.getfield 142, 3) := by decide +kernel
theorem dX10_told_97 : decode cX10_told 97 = .ok (.ireturn, 1) := by decide +kernel
theorem dX10_told_98 : decode cX10_told 98 = .ok (.aload_n 0, 1) := by decide +kernel
theorem dX10_told_99 : decode cX10_told 99 = .ok (.invokevirtual 163, 3) := by decide +kernel
theorem dX10_told_102 : decode cX10_told 102 = .ok (.ireturn, 1) := by decide +kernel
theorem dX10_told_103 : decode cX10_told 103 = .ok (.aload_n 0, 1) := by decide +kernel
theorem dX10_told_104 : decode cX10_told 104 = .ok (.getfield 166, 3) := by decide +kernel
theorem dX10_told_107 : decode cX10_told 107 = .ok (.ireturn, 1) := by decide +kernel
theorem dX10_told_108 : decode cX10_told 108 = .ok (.aload_n 0, 1) := by decide +kernel
theorem dX10_told_109 : decode cX10_told 109 = .ok (.getfield 42, 3) := by decide +kernel
theorem dX10_told_112 : decode cX10_told 112 = .ok (.l2i, 1) := by decide +kernel
theorem dX10_told_113 : decode cX10_told 113 = .ok (.ireturn, 1) := by decide +kernel
theorem dX10_told_114 : decode cX10_told 114 = .ok (.ldc 169, 2) := by decide +kernel
theorem dX10_told_116 : decode cX10_told 116 = .ok (.ireturn, 1) := by decide +kernel
theorem dX10_children_0 : decode cX10_children 0 = .ok (.iconst 0, 1) := by decide +kernel
theorem dX10_children_1 : decode cX10_children 1 = .ok (.istore_n 2, 1) := by decide +kernel
theorem dX10_children_2 : decode cX10_children 2 = .ok (.iconst 0, 1) := by decide +kernel
theorem dX10_children_3 : decode cX10_children 3 = .ok (.istore_n 3, 1) := by decide +kernel
theorem dX10_children_4 : decode cX10_children 4 = .ok (.iload_n 3, 1) := by decide +kernel
theorem dX10_children_5 : decode cX10_children 5 = .ok (.aload_n 0, 1) := by decide +kernel
theorem dX10_children_6 : decode cX10_children 6 = .ok (.getfield 7, 3) := by decide +kernel
theorem dX10_children_9 : decode cX10_children 9 = .ok (.iconst 0, 1) := by decide +kernel
theorem dX10_children_10 : decode cX10_children 10 = .ok (.iaload, 1) := by decide +kernel
theorem dX10_children_11 : decode cX10_children 11 = .ok (.if_icmp .ge 27, 3) := by decide +kernel
theorem dX10_children_14 : decode cX10_children 14 = .ok (.iload_n 2, 1) := by decide +kernel
theorem dX10_children_15 : decode cX10_children 15 = .ok (.aload_n 0, 1) := by decide +kernel
theorem dX10_children_16 : decode cX10_children 16 = .ok (.iload_n 3, 1) := by decide +kernel
theorem dX10_children_17 : decode cX10_children 17 = .ok (.iconst 0, 1) := by decide +kernel
theorem dX10_children_18 : decode cX10_children 18 = .ok (.invokevirtual 58, 3) := by decide +kernel
theorem dX10_children_21 : decode cX10_children 21 = .ok (.iload_n 1, 1) := by decide +kernel
theorem dX10_children_22 : decode cX10_children 22 = .ok (.if_icmp .ne 7, 3) := by decide +kernel
theorem dX10_children_25 : decode cX10_children 25 = .ok (.iconst 1, 1) := by decide +kernel
theorem dX10_children_26 : decode cX10_children 26 = .ok (.goto 4, 3) := by decide +kernel
theorem dX10_children_29 : decode cX10_children 29 = .ok (.iconst 0, 1) := by decide +kernel
theorem dX10_children_30 : decode cX10_children 30 = .ok (.iadd, 1) := by decide +kernel
theorem dX10_children_31 : decode cX10_children 31 = .ok (.istore_n 2, 1) := by decide +kernel
theorem dX10_children_32 : decode cX10_children 32 = .ok (.iinc 3 1, 3) := by decide +kernel
theorem dX10_children_35 : decode cX10_children 35 = .ok (.goto (-31), 3) := by decide +kernel
theorem dX10_children_38 : decode cX10_children 38 = .ok (.iload_n 2, 1) := by decide +kernel
theorem dX10_children_39 : decode cX10_children 39 = .ok (.ireturn, 1) := by decide +kernel
theorem dX10_depth_0 : decode cX10_depth 0 = .ok (.iconst 0, 1) := by decide +kernel
theorem dX10_depth_1 : decode cX10_depth 1 = .ok (.istore_n 2, 1) := by decide +kernel
theorem dX10_depth_2 : decode cX10_depth 2 = .ok (.aload_n 0, 1) := by decide +kernel
theorem dX10_depth_3 : decode cX10_depth 3 = .ok (.iload_n 1, 1) := by decide +kernel
theorem dX10_depth_4 : decode cX10_depth 4 = .ok (.iconst 0, 1) := by decide +kernel
theorem dX10_depth_5 : decode cX10_depth 5 = .ok (.invokevirtual 58, 3) := by decide +kernel
theorem dX10_depth_8 : decode cX10_depth 8 = .ok (.istore_n 3, 1) := by decide +kernel
theorem dX10_depth_9 : decode cX10_depth 9 = .ok (.iload_n 3, 1) := by decide +kernel
theorem dX10_depth_10 : decode cX10_depth 10 = .ok (.iconst (-1), 1) := by decide +kernel
theorem dX10_depth_11 : decode cX10_depth 11 = .ok (.if_icmp .eq 16, 3) := by decide +kernel
theorem dX10_depth_14 : decode cX10_depth 14 = .ok (.aload_n 0, 1) := by decide +kernel
theorem dX10_depth_15 : decode cX10_depth 15 = .ok (.iload_n 3, 1) := by decide +kernel
theorem dX10_depth_16 : decode cX10_depth 16 = .ok (.iconst 0, 1) := by decide +kernel
theorem dX10_depth_17 : decode cX10_depth 17 = .ok (.invokevirtual 58, 3) := by decide +kernel
theorem dX10_depth_20 : decode cX10_depth 20 = .ok (.istore_n 3, 1) := by decide +kernel
theorem dX10_depth_21 : decode cX10_depth 21 = .ok (.iinc 2 1, 3) := by decide +kernel
theorem dX10_depth_24 : decode cX10_depth 24 = .ok (.goto (-15), 3) := by decide +kernel
theorem dX10_depth_27 : decode cX10_depth 27 = .ok (.iload_n 2, 1) := by decide +kernel
theorem dX10_depth_28 : decode cX10_depth 28 = .ok (.ireturn, 1) := by decide +kernel
theorem dX10_gridAt_0 : decode cX10_gridAt 0 = .ok (.aload_n 0, 1) := by decide +kernel
theorem dX10_gridAt_1 : decode cX10_gridAt 1 = .ok (.iconst 0, 1) := by decide +kernel
theorem dX10_gridAt_2 : decode cX10_gridAt 2 = .ok (.putfield 46, 3) := by decide +kernel
theorem dX10_gridAt_5 : decode cX10_gridAt 5 = .ok (.aload_n 0, 1) := by decide +kernel
theorem dX10_gridAt_6 : decode cX10_gridAt 6 = .ok (.iload_n 1, 1) := by decide +kernel
theorem dX10_gridAt_7 : decode cX10_gridAt 7 = .ok (.invokevirtual 54, 3) := by decide +kernel
theorem dX10_gridAt_10 : decode cX10_gridAt 10 = .ok (.ifCond .ne 6, 3) := by decide +kernel
theorem dX10_gridAt_13 : decode cX10_gridAt 13 = .ok (.ldc 170, 2) := by decide +kernel
theorem dX10_gridAt_15 : decode cX10_gridAt 15 = .ok (.ireturn, 1) := by decide +kernel
theorem dX10_gridAt_16 : decode cX10_gridAt 16 = .ok (.iload_n 2, 1) := by decide +kernel
theorem dX10_gridAt_17 : decode cX10_gridAt 17 = .ok (.i2l, 1) := by decide +kernel
theorem dX10_gridAt_18 : decode cX10_gridAt 18 = .ok (.lconst 0, 1) := by decide +kernel
theorem dX10_gridAt_19 : decode cX10_gridAt 19 = .ok (.ldc2_w 171, 3) := by decide +kernel
theorem dX10_gridAt_22 : decode cX10_gridAt 22 = .ok (.invokestatic 50, 3) := by decide +kernel
theorem dX10_gridAt_25 : decode cX10_gridAt 25 = .ok (.ifCond .ne 6, 3) := by decide +kernel
theorem dX10_gridAt_28 : decode cX10_gridAt 28 = .ok (.ldc 169, 2) := by decide +kernel
theorem dX10_gridAt_30 : decode cX10_gridAt 30 = .ok (.ireturn, 1) := by decide +kernel
theorem dX10_gridAt_31 : decode cX10_gridAt 31 = .ok (.iload_n 2, 1) := by decide +kernel
theorem dX10_gridAt_32 : decode cX10_gridAt 32 = .ok (.bipush 6, 2) := by decide +kernel
theorem dX10_gridAt_34 : decode cX10_gridAt 34 = .ok (.if_icmp .ge 10, 3) := by decide +kernel
theorem dX10_gridAt_37 : decode cX10_gridAt 37 = .ok (.aload_n 0, 1) := by decide +kernel
theorem dX10_gridAt_38 : decode cX10_gridAt 38 = .ok (.iload_n 1, 1) := by decide +kernel
theorem dX10_gridAt_39 : decode cX10_gridAt 39 = .ok (.iload_n 2, 1) := by decide +kernel
theorem dX10_gridAt_40 : decode cX10_gridAt 40 = .ok (.invokevirtual 58, 3) := by decide +kernel
theorem dX10_gridAt_43 : decode cX10_gridAt 43 = .ok (.ireturn, 1) := by decide +kernel
theorem dX10_gridAt_44 : decode cX10_gridAt 44 = .ok (.aload_n 0, 1) := by decide +kernel
theorem dX10_gridAt_45 : decode cX10_gridAt 45 = .ok (.iload_n 1, 1) := by decide +kernel
theorem dX10_gridAt_46 : decode cX10_gridAt 46 = .ok (.invokevirtual 148, 3) := by decide +kernel
theorem dX10_gridAt_49 : decode cX10_gridAt 49 = .ok (.iload_n 2, 1) := by decide +kernel
theorem dX10_gridAt_50 : decode cX10_gridAt 50 = .ok (.tableswitch 52 6 9 #[30, 36, 42, 47], 30) := by decide +kernel
theorem dX10_gridAt_80 : decode cX10_gridAt 80 = .ok (.aload_n 0, 1) := by decide +kernel
theorem dX10_gridAt_81 : decode cX10_gridAt 81 = .ok (.iload_n 1, 1) := by decide +kernel
theorem dX10_gridAt_82 : decode cX10_gridAt 82 = .ok (.invokevirtual 173, 3) := by decide +kernel
theorem dX10_gridAt_85 : decode cX10_gridAt 85 = .ok (.ireturn, 1) := by decide +kernel
end
section
theorem dX10_gridAt_86 : decode cX10_gridAt 86 = .ok (.aload_n 0, 1) := by decide +kernel
theorem dX10_gridAt_87 : decode cX10_gridAt 87 = .ok (.iload_n 1, 1) := by decide +kernel
theorem dX10_gridAt_88 : decode cX10_gridAt 88 = .ok (.invokevirtual 176, 3) := by decide +kernel
theorem dX10_gridAt_91 : decode cX10_gridAt 91 = .ok (.ireturn, 1) := by decide +kernel
theorem dX10_gridAt_92 : decode cX10_gridAt 92 = .ok (.aload_n 0, 1) := by decide +kernel
theorem dX10_gridAt_93 : decode cX10_gridAt 93 = .ok (.getfield 111, 3) := by decide +kernel
theorem dX10_gridAt_96 : decode cX10_gridAt 96 = .ok (.ireturn, 1) := by decide +kernel
theorem dX10_gridAt_97 : decode cX10_gridAt 97 = .ok (.aload_n 0, 1) := by decide +kernel
theorem dX10_gridAt_98 : decode cX10_gridAt 98 = .ok (.getfield 114, 3) := by decide +kernel
theorem dX10_gridAt_101 : decode cX10_gridAt 101 = .ok (.ireturn, 1) := by decide +kernel
theorem dX10_gridAt_102 : decode cX10_gridAt 102 = .ok (.aload_n 0, 1) := by decide +kernel
theorem dX10_gridAt_103 : decode cX10_gridAt 103 = .ok (.iload_n 1, 1) := by decide +kernel
theorem dX10_gridAt_104 : decode cX10_gridAt 104 = .ok (.iconst 1, 1) := by decide +kernel
theorem dX10_gridAt_105 : decode cX10_gridAt 105 = .ok (.invokevirtual 152, 3) := by decide +kernel
theorem dX10_gridAt_108 : decode cX10_gridAt 108 = .ok (.ireturn, 1) := by decide +kernel
theorem dX10_nodeAt_0 : decode cX10_nodeAt 0 = .ok (.aload_n 0, 1) := by decide +kernel
theorem dX10_nodeAt_1 : decode cX10_nodeAt 1 = .ok (.iconst 0, 1) := by decide +kernel
theorem dX10_nodeAt_2 : decode cX10_nodeAt 2 = .ok (.putfield 46, 3) := by decide +kernel
theorem dX10_nodeAt_5 : decode cX10_nodeAt 5 = .ok (.aload_n 0, 1) := by decide +kernel
theorem dX10_nodeAt_6 : decode cX10_nodeAt 6 = .ok (.iload_n 1, 1) := by decide +kernel
theorem dX10_nodeAt_7 : decode cX10_nodeAt 7 = .ok (.iload_n 2, 1) := by decide +kernel
theorem dX10_nodeAt_8 : decode cX10_nodeAt 8 = .ok (.iload_n 3, 1) := by decide +kernel
theorem dX10_nodeAt_9 : decode cX10_nodeAt 9 = .ok (.invokevirtual 179, 3) := by decide +kernel
theorem dX10_nodeAt_12 : decode cX10_nodeAt 12 = .ok (.ifCond .ne 6, 3) := by decide +kernel
theorem dX10_nodeAt_15 : decode cX10_nodeAt 15 = .ok (.ldc 170, 2) := by decide +kernel
theorem dX10_nodeAt_17 : decode cX10_nodeAt 17 = .ok (.ireturn, 1) := by decide +kernel
theorem dX10_nodeAt_18 : decode cX10_nodeAt 18 = .ok (.iload 4, 2) := by decide +kernel
theorem dX10_nodeAt_20 : decode cX10_nodeAt 20 = .ok (.i2l, 1) := by decide +kernel
theorem dX10_nodeAt_21 : decode cX10_nodeAt 21 = .ok (.lconst 0, 1) := by decide +kernel
theorem dX10_nodeAt_22 : decode cX10_nodeAt 22 = .ok (.ldc2_w 182, 3) := by decide +kernel
theorem dX10_nodeAt_25 : decode cX10_nodeAt 25 = .ok (.invokestatic 50, 3) := by decide +kernel
theorem dX10_nodeAt_28 : decode cX10_nodeAt 28 = .ok (.ifCond .ne 6, 3) := by decide +kernel
theorem dX10_nodeAt_31 : decode cX10_nodeAt 31 = .ok (.ldc 169, 2) := by decide +kernel
theorem dX10_nodeAt_33 : decode cX10_nodeAt 33 = .ok (.ireturn, 1) := by decide +kernel
theorem dX10_nodeAt_34 : decode cX10_nodeAt 34 = .ok (.iload 4, 2) := by decide +kernel
theorem dX10_nodeAt_36 : decode cX10_nodeAt 36 = .ok (.iconst 2, 1) := by decide +kernel
theorem dX10_nodeAt_37 : decode cX10_nodeAt 37 = .ok (.if_icmp .ge 16, 3) := by decide +kernel
theorem dX10_nodeAt_40 : decode cX10_nodeAt 40 = .ok (.aload_n 0, 1) := by decide +kernel
theorem dX10_nodeAt_41 : decode cX10_nodeAt 41 = .ok (.iload_n 1, 1) := by decide +kernel
theorem dX10_nodeAt_42 : decode cX10_nodeAt 42 = .ok (.iload_n 2, 1) := by decide +kernel
theorem dX10_nodeAt_43 : decode cX10_nodeAt 43 = .ok (.iload_n 3, 1) := by decide +kernel
theorem dX10_nodeAt_44 : decode cX10_nodeAt 44 = .ok (.iload 4, 2) := by decide +kernel
theorem dX10_nodeAt_46 : decode cX10_nodeAt 46 = .ok (.invokevirtual 87, 3) := by decide +kernel
theorem dX10_nodeAt_49 : decode cX10_nodeAt 49 = .ok (.ldc 184, 2) := by decide +kernel
theorem dX10_nodeAt_51 : decode cX10_nodeAt 51 = .ok (.iadd, 1) := by decide +kernel
theorem dX10_nodeAt_52 : decode cX10_nodeAt 52 = .ok (.ireturn, 1) := by decide +kernel
theorem dX10_nodeAt_53 : decode cX10_nodeAt 53 = .ok (.aload_n 0, 1) := by decide +kernel
theorem dX10_nodeAt_54 : decode cX10_nodeAt 54 = .ok (.iload_n 1, 1) := by decide +kernel
theorem dX10_nodeAt_55 : decode cX10_nodeAt 55 = .ok (.iconst 0, 1) := by decide +kernel
theorem dX10_nodeAt_56 : decode cX10_nodeAt 56 = .ok (.invokevirtual 58, 3) := by decide +kernel
theorem dX10_nodeAt_59 : decode cX10_nodeAt 59 = .ok (.iconst (-1), 1) := by decide +kernel
theorem dX10_nodeAt_60 : decode cX10_nodeAt 60 = .ok (.if_icmp .ne 7, 3) := by decide +kernel
theorem dX10_nodeAt_63 : decode cX10_nodeAt 63 = .ok (.iconst (-1), 1) := by decide +kernel
theorem dX10_nodeAt_64 : decode cX10_nodeAt 64 = .ok (.goto 17, 3) := by decide +kernel
theorem dX10_nodeAt_67 : decode cX10_nodeAt 67 = .ok (.aload_n 0, 1) := by decide +kernel
theorem dX10_nodeAt_68 : decode cX10_nodeAt 68 = .ok (.iload_n 1, 1) := by decide +kernel
theorem dX10_nodeAt_69 : decode cX10_nodeAt 69 = .ok (.iload_n 2, 1) := by decide +kernel
theorem dX10_nodeAt_70 : decode cX10_nodeAt 70 = .ok (.iload_n 3, 1) := by decide +kernel
theorem dX10_nodeAt_71 : decode cX10_nodeAt 71 = .ok (.iload 4, 2) := by decide +kernel
theorem dX10_nodeAt_73 : decode cX10_nodeAt 73 = .ok (.iconst 2, 1) := by decide +kernel
theorem dX10_nodeAt_74 : decode cX10_nodeAt 74 = .ok (.isub, 1) := by decide +kernel
theorem dX10_nodeAt_75 : decode cX10_nodeAt 75 = .ok (.invokevirtual 101, 3) := by decide +kernel
theorem dX10_nodeAt_78 : decode cX10_nodeAt 78 = .ok (.ldc 184, 2) := by decide +kernel
theorem dX10_nodeAt_80 : decode cX10_nodeAt 80 = .ok (.iadd, 1) := by decide +kernel
theorem dX10_nodeAt_81 : decode cX10_nodeAt 81 = .ok (.ireturn, 1) := by decide +kernel
theorem dX10_cellAt_0 : decode cX10_cellAt 0 = .ok (.aload_n 0, 1) := by decide +kernel
theorem dX10_cellAt_1 : decode cX10_cellAt 1 = .ok (.iconst 0, 1) := by decide +kernel
theorem dX10_cellAt_2 : decode cX10_cellAt 2 = .ok (.putfield 46, 3) := by decide +kernel
theorem dX10_cellAt_5 : decode cX10_cellAt 5 = .ok (.aload_n 0, 1) := by decide +kernel
theorem dX10_cellAt_6 : decode cX10_cellAt 6 = .ok (.iload_n 1, 1) := by decide +kernel
theorem dX10_cellAt_7 : decode cX10_cellAt 7 = .ok (.iload_n 2, 1) := by decide +kernel
theorem dX10_cellAt_8 : decode cX10_cellAt 8 = .ok (.iload_n 3, 1) := by decide +kernel
theorem dX10_cellAt_9 : decode cX10_cellAt 9 = .ok (.invokevirtual 185, 3) := by decide +kernel
theorem dX10_cellAt_12 : decode cX10_cellAt 12 = .ok (.ifCond .ne 7, 3) := by decide +kernel
theorem dX10_cellAt_15 : decode cX10_cellAt 15 = .ok (.ldc2_w 188, 3) := by decide +kernel
theorem dX10_cellAt_18 : decode cX10_cellAt 18 = .ok (.lreturn, 1) := by decide +kernel
theorem dX10_cellAt_19 : decode cX10_cellAt 19 = .ok (.iload 4, 2) := by decide +kernel
theorem dX10_cellAt_21 : decode cX10_cellAt 21 = .ok (.tableswitch 80 0 3 #[31, 40, 56, 72], 31) := by decide +kernel
theorem dX10_cellAt_52 : decode cX10_cellAt 52 = .ok (.aload_n 0, 1) := by decide +kernel
theorem dX10_cellAt_53 : decode cX10_cellAt 53 = .ok (.iload_n 1, 1) := by decide +kernel
theorem dX10_cellAt_54 : decode cX10_cellAt 54 = .ok (.iload_n 2, 1) := by decide +kernel
theorem dX10_cellAt_55 : decode cX10_cellAt 55 = .ok (.iload_n 3, 1) := by decide +kernel
theorem dX10_cellAt_56 : decode cX10_cellAt 56 = .ok (.invokevirtual 126, 3) := by decide +kernel
theorem dX10_cellAt_59 : decode cX10_cellAt 59 = .ok (.i2l, 1) := by decide +kernel
theorem dX10_cellAt_60 : decode cX10_cellAt 60 = .ok (.lreturn, 1) := by decide +kernel
theorem dX10_cellAt_61 : decode cX10_cellAt 61 = .ok (.aload_n 0, 1) := by decide +kernel
theorem dX10_cellAt_62 : decode cX10_cellAt 62 = .ok (.iload_n 1, 1) := by decide +kernel
theorem dX10_cellAt_63 : decode cX10_cellAt 63 = .ok (.iload_n 2, 1) := by decide +kernel
theorem dX10_cellAt_64 : decode cX10_cellAt 64 = .ok (.iload_n 3, 1) := by decide +kernel
theorem dX10_cellAt_65 : decode cX10_cellAt 65 = .ok (.invokevirtual 139, 3) := by decide +kernel
theorem dX10_cellAt_68 : decode cX10_cellAt 68 = .ok (.ifCond .eq 7, 3) := by decide +kernel
theorem dX10_cellAt_71 : decode cX10_cellAt 71 = .ok (.lconst 1, 1) := by decide +kernel
theorem dX10_cellAt_72 : decode cX10_cellAt 72 = .ok (.goto 4, 3) := by decide +kernel
theorem dX10_cellAt_75 : decode cX10_cellAt 75 = .ok (.lconst 0, 1) := by decide +kernel
theorem dX10_cellAt_76 : decode cX10_cellAt 76 = .ok (.lreturn, 1) := by decide +kernel
theorem dX10_cellAt_77 : decode cX10_cellAt 77 = .ok (.aload_n 0, 1) := by decide +kernel
theorem dX10_cellAt_78 : decode cX10_cellAt 78 = .ok (.iload_n 1, 1) := by decide +kernel
theorem dX10_cellAt_79 : decode cX10_cellAt 79 = .ok (.iload_n 2, 1) := by decide +kernel
theorem dX10_cellAt_80 : decode cX10_cellAt 80 = .ok (.iload_n 3, 1) := by decide +kernel
theorem dX10_cellAt_81 : decode cX10_cellAt 81 = .ok (.invokevirtual 136, 3) := by decide +kernel
theorem dX10_cellAt_84 : decode cX10_cellAt 84 = .ok (.ifCond .eq 7, 3) := by decide +kernel
theorem dX10_cellAt_87 : decode cX10_cellAt 87 = .ok (.lconst 1, 1) := by decide +kernel
theorem dX10_cellAt_88 : decode cX10_cellAt 88 = .ok (.goto 4, 3) := by decide +kernel
theorem dX10_cellAt_91 : decode cX10_cellAt 91 = .ok (.lconst 0, 1) := by decide +kernel
theorem dX10_cellAt_92 : decode cX10_cellAt 92 = .ok (.lreturn, 1) := by decide +kernel
theorem dX10_cellAt_93 : decode cX10_cellAt 93 = .ok (.aload_n 0, 1) := by decide +kernel
theorem dX10_cellAt_94 : decode cX10_cellAt 94 = .ok (.iload_n 1, 1) := by decide +kernel
theorem dX10_cellAt_95 : decode cX10_cellAt 95 = .ok (.iload_n 2, 1) := by decide +kernel
theorem dX10_cellAt_96 : decode cX10_cellAt 96 = .ok (.iload_n 3, 1) := by decide +kernel
theorem dX10_cellAt_97 : decode cX10_cellAt 97 = .ok (.invokevirtual 190, 3) := by decide +kernel
theorem dX10_cellAt_100 : decode cX10_cellAt 100 = .ok (.lreturn, 1) := by decide +kernel
theorem dX10_cellAt_101 : decode cX10_cellAt 101 = .ok (.ldc2_w 194, 3) := by decide +kernel
theorem dX10_cellAt_104 : decode cX10_cellAt 104 = .ok (.lreturn, 1) := by decide +kernel
theorem dX10_which_0 : decode cX10_which 0 = .ok (.aload_n 0, 1) := by decide +kernel
theorem dX10_which_1 : decode cX10_which 1 = .ok (.iconst 0, 1) := by decide +kernel
theorem dX10_which_2 : decode cX10_which 2 = .ok (.putfield 46, 3) := by decide +kernel
theorem dX10_which_5 : decode cX10_which 5 = .ok (.iload_n 1, 1) := by decide +kernel
theorem dX10_which_6 : decode cX10_which 6 = .ok (.iload_n 2, 1) := by decide +kernel
theorem dX10_which_7 : decode cX10_which 7 = .ok (.invokestatic 196, 3) := by decide +kernel
theorem dX10_which_10 : decode cX10_which 10 = .ok (.ifCond .eq 12, 3) := by decide +kernel
theorem dX10_which_13 : decode cX10_which 13 = .ok (.aload_n 0, 1) := by decide +kernel
theorem dX10_which_14 : decode cX10_which 14 = .ok (.iload_n 1, 1) := by decide +kernel
theorem dX10_which_15 : decode cX10_which 15 = .ok (.iload_n 2, 1) := by decide +kernel
theorem dX10_which_16 : decode cX10_which 16 = .ok (.invokevirtual 95, 3) := by decide +kernel
theorem dX10_which_19 : decode cX10_which 19 = .ok (.goto 5, 3) := by decide +kernel
theorem dX10_which_22 : decode cX10_which 22 = .ok (.ldc 169, 2) := by decide +kernel
theorem dX10_which_24 : decode cX10_which 24 = .ok (.ireturn, 1) := by decide +kernel
theorem dX10_moved_0 : decode cX10_moved 0 = .ok (.aload_n 0, 1) := by decide +kernel
theorem dX10_moved_1 : decode cX10_moved 1 = .ok (.iconst 0, 1) := by decide +kernel
theorem dX10_moved_2 : decode cX10_moved 2 = .ok (.putfield 46, 3) := by decide +kernel
theorem dX10_moved_5 : decode cX10_moved 5 = .ok (.iload_n 1, 1) := by decide +kernel
theorem dX10_moved_6 : decode cX10_moved 6 = .ok (.iload_n 2, 1) := by decide +kernel
theorem dX10_moved_7 : decode cX10_moved 7 = .ok (.invokestatic 196, 3) := by decide +kernel
theorem dX10_moved_10 : decode cX10_moved 10 = .ok (.ifCond .eq 13, 3) := by decide +kernel
theorem dX10_moved_13 : decode cX10_moved 13 = .ok (.iload_n 3, 1) := by decide +kernel
theorem dX10_moved_14 : decode cX10_moved 14 = .ok (.i2l, 1) := by decide +kernel
theorem dX10_moved_15 : decode cX10_moved 15 = .ok (.lconst 0, 1) := by decide +kernel
theorem dX10_moved_16 : decode cX10_moved 16 = .ok (.lconst 1, 1) := by decide +kernel
theorem dX10_moved_17 : decode cX10_moved 17 = .ok (.invokestatic 50, 3) := by decide +kernel
theorem dX10_moved_20 : decode cX10_moved 20 = .ok (.ifCond .ne 6, 3) := by decide +kernel
theorem dX10_moved_23 : decode cX10_moved 23 = .ok (.ldc 169, 2) := by decide +kernel
theorem dX10_moved_25 : decode cX10_moved 25 = .ok (.ireturn, 1) := by decide +kernel
theorem dX10_moved_26 : decode cX10_moved 26 = .ok (.iload_n 3, 1) := by decide +kernel
theorem dX10_moved_27 : decode cX10_moved 27 = .ok (.ifCond .ne 7, 3) := by decide +kernel
theorem dX10_moved_30 : decode cX10_moved 30 = .ok (.iload_n 1, 1) := by decide +kernel
theorem dX10_moved_31 : decode cX10_moved 31 = .ok (.goto 4, 3) := by decide +kernel
theorem dX10_moved_34 : decode cX10_moved 34 = .ok (.iload_n 2, 1) := by decide +kernel
theorem dX10_moved_35 : decode cX10_moved 35 = .ok (.aload_n 0, 1) := by decide +kernel
theorem dX10_moved_36 : decode cX10_moved 36 = .ok (.iload_n 1, 1) := by decide +kernel
theorem dX10_moved_37 : decode cX10_moved 37 = .ok (.iload_n 2, 1) := by decide +kernel
theorem dX10_moved_38 : decode cX10_moved 38 = .ok (.iload_n 3, 1) := by decide +kernel
theorem dX10_moved_39 : decode cX10_moved 39 = .ok (.invokevirtual 145, 3) := by decide +kernel
theorem dX10_moved_42 : decode cX10_moved 42 = .ok (.iadd, 1) := by decide +kernel
theorem dX10_moved_43 : decode cX10_moved 43 = .ok (.ldc 184, 2) := by decide +kernel
theorem dX10_moved_45 : decode cX10_moved 45 = .ok (.iadd, 1) := by decide +kernel
theorem dX10_moved_46 : decode cX10_moved 46 = .ok (.ireturn, 1) := by decide +kernel
theorem dX10_wasThere_0 : decode cX10_wasThere 0 = .ok (.iconst 0, 1) := by decide +kernel
theorem dX10_wasThere_1 : decode cX10_wasThere 1 = .ok (.istore_n 2, 1) := by decide +kernel
theorem dX10_wasThere_2 : decode cX10_wasThere 2 = .ok (.iload_n 2, 1) := by decide +kernel
theorem dX10_wasThere_3 : decode cX10_wasThere 3 = .ok (.iload_n 1, 1) := by decide +kernel
theorem dX10_wasThere_4 : decode cX10_wasThere 4 = .ok (.if_icmp .ge 41, 3) := by decide +kernel
theorem dX10_wasThere_7 : decode cX10_wasThere 7 = .ok (.aload_n 0, 1) := by decide +kernel
theorem dX10_wasThere_8 : decode cX10_wasThere 8 = .ok (.getfield 36, 3) := by decide +kernel
theorem dX10_wasThere_11 : decode cX10_wasThere 11 = .ok (.iload_n 2, 1) := by decide +kernel
theorem dX10_wasThere_12 : decode cX10_wasThere 12 = .ok (.iaload, 1) := by decide +kernel
theorem dX10_wasThere_13 : decode cX10_wasThere 13 = .ok (.aload_n 0, 1) := by decide +kernel
theorem dX10_wasThere_14 : decode cX10_wasThere 14 = .ok (.getfield 36, 3) := by decide +kernel
theorem dX10_wasThere_17 : decode cX10_wasThere 17 = .ok (.iload_n 1, 1) := by decide +kernel
theorem dX10_wasThere_18 : decode cX10_wasThere 18 = .ok (.iaload, 1) := by decide +kernel
theorem dX10_wasThere_19 : decode cX10_wasThere 19 = .ok (.if_icmp .ne 20, 3) := by decide +kernel
theorem dX10_wasThere_22 : decode cX10_wasThere 22 = .ok (.aload_n 0, 1) := by decide +kernel
theorem dX10_wasThere_23 : decode cX10_wasThere 23 = .ok (.getfield 39, 3) := by decide +kernel
theorem dX10_wasThere_26 : decode cX10_wasThere 26 = .ok (.iload_n 2, 1) := by decide +kernel
theorem dX10_wasThere_27 : decode cX10_wasThere 27 = .ok (.iaload, 1) := by decide +kernel
theorem dX10_wasThere_28 : decode cX10_wasThere 28 = .ok (.aload_n 0, 1) := by decide +kernel
theorem dX10_wasThere_29 : decode cX10_wasThere 29 = .ok (.getfield 39, 3) := by decide +kernel
theorem dX10_wasThere_32 : decode cX10_wasThere 32 = .ok (.iload_n 1, 1) := by decide +kernel
theorem dX10_wasThere_33 : decode cX10_wasThere 33 = .ok (.iaload, 1) := by decide +kernel
theorem dX10_wasThere_34 : decode cX10_wasThere 34 = .ok (.if_icmp .ne 5, 3) := by decide +kernel
theorem dX10_wasThere_37 : decode cX10_wasThere 37 = .ok (.iconst 1, 1) := by decide +kernel
theorem dX10_wasThere_38 : decode cX10_wasThere 38 = .ok (.ireturn, 1) := by decide +kernel
theorem dX10_wasThere_39 : decode cX10_wasThere 39 = .ok (.iinc 2 1, 3) := by decide +kernel
theorem dX10_wasThere_42 : decode cX10_wasThere 42 = .ok (.goto (-40), 3) := by decide +kernel
theorem dX10_wasThere_45 : decode cX10_wasThere 45 = .ok (.iconst 0, 1) := by decide +kernel
theorem dX10_wasThere_46 : decode cX10_wasThere 46 = .ok (.ireturn, 1) := by decide +kernel
theorem dX10_back_0 : decode cX10_back 0 = .ok (.aload_n 0, 1) := by decide +kernel
theorem dX10_back_1 : decode cX10_back 1 = .ok (.iconst 0, 1) := by decide +kernel
theorem dX10_back_2 : decode cX10_back 2 = .ok (.putfield 46, 3) := by decide +kernel
theorem dX10_back_5 : decode cX10_back 5 = .ok (.iload_n 1, 1) := by decide +kernel
theorem dX10_back_6 : decode cX10_back 6 = .ok (.i2l, 1) := by decide +kernel
theorem dX10_back_7 : decode cX10_back 7 = .ok (.ldc2_w 200, 3) := by decide +kernel
theorem dX10_back_10 : decode cX10_back 10 = .ok (.ldc2_w 202, 3) := by decide +kernel
theorem dX10_back_13 : decode cX10_back 13 = .ok (.invokestatic 50, 3) := by decide +kernel
theorem dX10_back_16 : decode cX10_back 16 = .ok (.ifCond .eq 29, 3) := by decide +kernel
theorem dX10_back_19 : decode cX10_back 19 = .ok (.iload_n 2, 1) := by decide +kernel
theorem dX10_back_20 : decode cX10_back 20 = .ok (.i2l, 1) := by decide +kernel
theorem dX10_back_21 : decode cX10_back 21 = .ok (.ldc2_w 200, 3) := by decide +kernel
theorem dX10_back_24 : decode cX10_back 24 = .ok (.ldc2_w 202, 3) := by decide +kernel
theorem dX10_back_27 : decode cX10_back 27 = .ok (.invokestatic 50, 3) := by decide +kernel
theorem dX10_back_30 : decode cX10_back 30 = .ok (.ifCond .eq 15, 3) := by decide +kernel
theorem dX10_back_33 : decode cX10_back 33 = .ok (.iload_n 3, 1) := by decide +kernel
theorem dX10_back_34 : decode cX10_back 34 = .ok (.i2l, 1) := by decide +kernel
theorem dX10_back_35 : decode cX10_back 35 = .ok (.lconst 0, 1) := by decide +kernel
theorem dX10_back_36 : decode cX10_back 36 = .ok (.ldc2_w 182, 3) := by decide +kernel
theorem dX10_back_39 : decode cX10_back 39 = .ok (.invokestatic 50, 3) := by decide +kernel
theorem dX10_back_42 : decode cX10_back 42 = .ok (.ifCond .ne 6, 3) := by decide +kernel
theorem dX10_back_45 : decode cX10_back 45 = .ok (.ldc 169, 2) := by decide +kernel
theorem dX10_back_47 : decode cX10_back 47 = .ok (.ireturn, 1) := by decide +kernel
theorem dX10_back_48 : decode cX10_back 48 = .ok (.aload_n 0, 1) := by decide +kernel
theorem dX10_back_49 : decode cX10_back 49 = .ok (.getfield 36, 3) := by decide +kernel
theorem dX10_back_52 : decode cX10_back 52 = .ok (.iconst 0, 1) := by decide +kernel
theorem dX10_back_53 : decode cX10_back 53 = .ok (.iload_n 1, 1) := by decide +kernel
theorem dX10_back_54 : decode cX10_back 54 = .ok (.iastore, 1) := by decide +kernel
theorem dX10_back_55 : decode cX10_back 55 = .ok (.aload_n 0, 1) := by decide +kernel
theorem dX10_back_56 : decode cX10_back 56 = .ok (.getfield 39, 3) := by decide +kernel
theorem dX10_back_59 : decode cX10_back 59 = .ok (.iconst 0, 1) := by decide +kernel
theorem dX10_back_60 : decode cX10_back 60 = .ok (.iload_n 2, 1) := by decide +kernel
theorem dX10_back_61 : decode cX10_back 61 = .ok (.iastore, 1) := by decide +kernel
theorem dX10_back_62 : decode cX10_back 62 = .ok (.iconst 0, 1) := by decide +kernel
theorem dX10_back_63 : decode cX10_back 63 = .ok (.istore 4, 2) := by decide +kernel
theorem dX10_back_65 : decode cX10_back 65 = .ok (.iload_n 1, 1) := by decide +kernel
theorem dX10_back_66 : decode cX10_back 66 = .ok (.iload_n 2, 1) := by decide +kernel
theorem dX10_back_67 : decode cX10_back 67 = .ok (.invokestatic 196, 3) := by decide +kernel
theorem dX10_back_70 : decode cX10_back 70 = .ok (.ifCond .eq 7, 3) := by decide +kernel
theorem dX10_back_73 : decode cX10_back 73 = .ok (.iconst 3, 1) := by decide +kernel
theorem dX10_back_74 : decode cX10_back 74 = .ok (.goto 4, 3) := by decide +kernel
theorem dX10_back_77 : decode cX10_back 77 = .ok (.iconst 2, 1) := by decide +kernel
theorem dX10_back_78 : decode cX10_back 78 = .ok (.istore 5, 2) := by decide +kernel
theorem dX10_back_80 : decode cX10_back 80 = .ok (.iload 5, 2) := by decide +kernel
theorem dX10_back_82 : decode cX10_back 82 = .ok (.iconst 3, 1) := by decide +kernel
theorem dX10_back_83 : decode cX10_back 83 = .ok (.if_icmp .ne 174, 3) := by decide +kernel
theorem dX10_back_86 : decode cX10_back 86 = .ok (.iload 4, 2) := by decide +kernel
theorem dX10_back_88 : decode cX10_back 88 = .ok (.bipush 60, 2) := by decide +kernel
theorem dX10_back_90 : decode cX10_back 90 = .ok (.if_icmp .ge 167, 3) := by decide +kernel
theorem dX10_back_93 : decode cX10_back 93 = .ok (.iinc 4 1, 3) := by decide +kernel
theorem dX10_back_96 : decode cX10_back 96 = .ok (.aload_n 0, 1) := by decide +kernel
theorem dX10_back_97 : decode cX10_back 97 = .ok (.getfield 36, 3) := by decide +kernel
theorem dX10_back_100 : decode cX10_back 100 = .ok (.iload 4, 2) := by decide +kernel
theorem dX10_back_102 : decode cX10_back 102 = .ok (.iload_n 1, 1) := by decide +kernel
theorem dX10_back_103 : decode cX10_back 103 = .ok (.aload_n 0, 1) := by decide +kernel
theorem dX10_back_104 : decode cX10_back 104 = .ok (.aload_n 0, 1) := by decide +kernel
theorem dX10_back_105 : decode cX10_back 105 = .ok (.getfield 36, 3) := by decide +kernel
theorem dX10_back_108 : decode cX10_back 108 = .ok (.iload 4, 2) := by decide +kernel
theorem dX10_back_110 : decode cX10_back 110 = .ok (.iconst 1, 1) := by decide +kernel
theorem dX10_back_111 : decode cX10_back 111 = .ok (.isub, 1) := by decide +kernel
theorem dX10_back_112 : decode cX10_back 112 = .ok (.iaload, 1) := by decide +kernel
theorem dX10_back_113 : decode cX10_back 113 = .ok (.aload_n 0, 1) := by decide +kernel
theorem dX10_back_114 : decode cX10_back 114 = .ok (.getfield 39, 3) := by decide +kernel
theorem dX10_back_117 : decode cX10_back 117 = .ok (.iload 4, 2) := by decide +kernel
theorem dX10_back_119 : decode cX10_back 119 = .ok (.iconst 1, 1) := by decide +kernel
theorem dX10_back_120 : decode cX10_back 120 = .ok (.isub, 1) := by decide +kernel
theorem dX10_back_121 : decode cX10_back 121 = .ok (.iaload, 1) := by decide +kernel
theorem dX10_back_122 : decode cX10_back 122 = .ok (.iconst 0, 1) := by decide +kernel
theorem dX10_back_123 : decode cX10_back 123 = .ok (.invokevirtual 145, 3) := by decide +kernel
theorem dX10_back_126 : decode cX10_back 126 = .ok (.isub, 1) := by decide +kernel
theorem dX10_back_127 : decode cX10_back 127 = .ok (.iastore, 1) := by decide +kernel
theorem dX10_back_128 : decode cX10_back 128 = .ok (.aload_n 0, 1) := by decide +kernel
theorem dX10_back_129 : decode cX10_back 129 = .ok (.getfield 39, 3) := by decide +kernel
theorem dX10_back_132 : decode cX10_back 132 = .ok (.iload 4, 2) := by decide +kernel
theorem dX10_back_134 : decode cX10_back 134 = .ok (.iload_n 2, 1) := by decide +kernel
theorem dX10_back_135 : decode cX10_back 135 = .ok (.aload_n 0, 1) := by decide +kernel
theorem dX10_back_136 : decode cX10_back 136 = .ok (.aload_n 0, 1) := by decide +kernel
theorem dX10_back_137 : decode cX10_back 137 = .ok (.getfield 36, 3) := by decide +kernel
theorem dX10_back_140 : decode cX10_back 140 = .ok (.iload 4, 2) := by decide +kernel
theorem dX10_back_142 : decode cX10_back 142 = .ok (.iconst 1, 1) := by decide +kernel
theorem dX10_back_143 : decode cX10_back 143 = .ok (.isub, 1) := by decide +kernel
theorem dX10_back_144 : decode cX10_back 144 = .ok (.iaload, 1) := by decide +kernel
theorem dX10_back_145 : decode cX10_back 145 = .ok (.aload_n 0, 1) := by decide +kernel
theorem dX10_back_146 : decode cX10_back 146 = .ok (.getfield 39, 3) := by decide +kernel
theorem dX10_back_149 : decode cX10_back 149 = .ok (.iload 4, 2) := by decide +kernel
theorem dX10_back_151 : decode cX10_back 151 = .ok (.iconst 1, 1) := by decide +kernel
theorem dX10_back_152 : decode cX10_back 152 = .ok (.isub, 1) := by decide +kernel
theorem dX10_back_153 : decode cX10_back 153 = .ok (.iaload, 1) := by decide +kernel
theorem dX10_back_154 : decode cX10_back 154 = .ok (.iconst 1, 1) := by decide +kernel
theorem dX10_back_155 : decode cX10_back 155 = .ok (.invokevirtual 145, 3) := by decide +kernel
theorem dX10_back_158 : decode cX10_back 158 = .ok (.isub, 1) := by decide +kernel
theorem dX10_back_159 : decode cX10_back 159 = .ok (.iastore, 1) := by decide +kernel
theorem dX10_back_160 : decode cX10_back 160 = .ok (.aload_n 0, 1) := by decide +kernel
theorem dX10_back_161 : decode cX10_back 161 = .ok (.getfield 36, 3) := by decide +kernel
theorem dX10_back_164 : decode cX10_back 164 = .ok (.iload 4, 2) := by decide +kernel
theorem dX10_back_166 : decode cX10_back 166 = .ok (.iaload, 1) := by decide +kernel
theorem dX10_back_167 : decode cX10_back 167 = .ok (.aload_n 0, 1) := by decide +kernel
theorem dX10_back_168 : decode cX10_back 168 = .ok (.getfield 36, 3) := by decide +kernel
theorem dX10_back_171 : decode cX10_back 171 = .ok (.iload 4, 2) := by decide +kernel
theorem dX10_back_173 : decode cX10_back 173 = .ok (.iconst 1, 1) := by decide +kernel
theorem dX10_back_174 : decode cX10_back 174 = .ok (.isub, 1) := by decide +kernel
theorem dX10_back_175 : decode cX10_back 175 = .ok (.iaload, 1) := by decide +kernel
theorem dX10_back_176 : decode cX10_back 176 = .ok (.if_icmp .ne 26, 3) := by decide +kernel
theorem dX10_back_179 : decode cX10_back 179 = .ok (.aload_n 0, 1) := by decide +kernel
theorem dX10_back_180 : decode cX10_back 180 = .ok (.getfield 39, 3) := by decide +kernel
theorem dX10_back_183 : decode cX10_back 183 = .ok (.iload 4, 2) := by decide +kernel
theorem dX10_back_185 : decode cX10_back 185 = .ok (.iaload, 1) := by decide +kernel
theorem dX10_back_186 : decode cX10_back 186 = .ok (.aload_n 0, 1) := by decide +kernel
theorem dX10_back_187 : decode cX10_back 187 = .ok (.getfield 39, 3) := by decide +kernel
theorem dX10_back_190 : decode cX10_back 190 = .ok (.iload 4, 2) := by decide +kernel
theorem dX10_back_192 : decode cX10_back 192 = .ok (.iconst 1, 1) := by decide +kernel
theorem dX10_back_193 : decode cX10_back 193 = .ok (.isub, 1) := by decide +kernel
theorem dX10_back_194 : decode cX10_back 194 = .ok (.iaload, 1) := by decide +kernel
theorem dX10_back_195 : decode cX10_back 195 = .ok (.if_icmp .ne 7, 3) := by decide +kernel
theorem dX10_back_198 : decode cX10_back 198 = .ok (.iconst 1, 1) := by decide +kernel
theorem dX10_back_199 : decode cX10_back 199 = .ok (.goto 4, 3) := by decide +kernel
theorem dX10_back_202 : decode cX10_back 202 = .ok (.iconst 0, 1) := by decide +kernel
theorem dX10_back_203 : decode cX10_back 203 = .ok (.istore 6, 2) := by decide +kernel
theorem dX10_back_205 : decode cX10_back 205 = .ok (.aload_n 0, 1) := by decide +kernel
theorem dX10_back_206 : decode cX10_back 206 = .ok (.getfield 36, 3) := by decide +kernel
theorem dX10_back_209 : decode cX10_back 209 = .ok (.iload 4, 2) := by decide +kernel
theorem dX10_back_211 : decode cX10_back 211 = .ok (.iaload, 1) := by decide +kernel
theorem dX10_back_212 : decode cX10_back 212 = .ok (.aload_n 0, 1) := by decide +kernel
theorem dX10_back_213 : decode cX10_back 213 = .ok (.getfield 39, 3) := by decide +kernel
theorem dX10_back_216 : decode cX10_back 216 = .ok (.iload 4, 2) := by decide +kernel
theorem dX10_back_218 : decode cX10_back 218 = .ok (.iaload, 1) := by decide +kernel
theorem dX10_back_219 : decode cX10_back 219 = .ok (.invokestatic 196, 3) := by decide +kernel
theorem dX10_back_222 : decode cX10_back 222 = .ok (.ifCond .ne 7, 3) := by decide +kernel
theorem dX10_back_225 : decode cX10_back 225 = .ok (.iconst 2, 1) := by decide +kernel
theorem dX10_back_226 : decode cX10_back 226 = .ok (.goto 26, 3) := by decide +kernel
theorem dX10_back_229 : decode cX10_back 229 = .ok (.iload 6, 2) := by decide +kernel
theorem dX10_back_231 : decode cX10_back 231 = .ok (.ifCond .eq 7, 3) := by decide +kernel
theorem dX10_back_234 : decode cX10_back 234 = .ok (.iconst 0, 1) := by decide +kernel
theorem dX10_back_235 : decode cX10_back 235 = .ok (.goto 17, 3) := by decide +kernel
theorem dX10_back_238 : decode cX10_back 238 = .ok (.aload_n 0, 1) := by decide +kernel
theorem dX10_back_239 : decode cX10_back 239 = .ok (.iload 4, 2) := by decide +kernel
theorem dX10_back_241 : decode cX10_back 241 = .ok (.invokevirtual 204, 3) := by decide +kernel
theorem dX10_back_244 : decode cX10_back 244 = .ok (.ifCond .eq 7, 3) := by decide +kernel
theorem dX10_back_247 : decode cX10_back 247 = .ok (.iconst 1, 1) := by decide +kernel
theorem dX10_back_248 : decode cX10_back 248 = .ok (.goto 4, 3) := by decide +kernel
theorem dX10_back_251 : decode cX10_back 251 = .ok (.iconst 3, 1) := by decide +kernel
theorem dX10_back_252 : decode cX10_back 252 = .ok (.istore 5, 2) := by decide +kernel
theorem dX10_back_254 : decode cX10_back 254 = .ok (.goto (-174), 3) := by decide +kernel
theorem dX10_back_257 : decode cX10_back 257 = .ok (.iload_n 3, 1) := by decide +kernel
theorem dX10_back_258 : decode cX10_back 258 = .ok (.ifCond .ne 8, 3) := by decide +kernel
theorem dX10_back_261 : decode cX10_back 261 = .ok (.iload 5, 2) := by decide +kernel
theorem dX10_back_263 : decode cX10_back 263 = .ok (.goto 38, 3) := by decide +kernel
theorem dX10_back_266 : decode cX10_back 266 = .ok (.iload_n 3, 1) := by decide +kernel
theorem dX10_back_267 : decode cX10_back 267 = .ok (.iconst 1, 1) := by decide +kernel
theorem dX10_back_268 : decode cX10_back 268 = .ok (.if_icmp .ne 8, 3) := by decide +kernel
theorem dX10_back_271 : decode cX10_back 271 = .ok (.iload 4, 2) := by decide +kernel
theorem dX10_back_273 : decode cX10_back 273 = .ok (.goto 28, 3) := by decide +kernel
theorem dX10_back_276 : decode cX10_back 276 = .ok (.iload_n 3, 1) := by decide +kernel
theorem dX10_back_277 : decode cX10_back 277 = .ok (.iconst 2, 1) := by decide +kernel
theorem dX10_back_278 : decode cX10_back 278 = .ok (.if_icmp .ne 13, 3) := by decide +kernel
theorem dX10_back_281 : decode cX10_back 281 = .ok (.aload_n 0, 1) := by decide +kernel
theorem dX10_back_282 : decode cX10_back 282 = .ok (.getfield 36, 3) := by decide +kernel
theorem dX10_back_285 : decode cX10_back 285 = .ok (.iload 4, 2) := by decide +kernel
theorem dX10_back_287 : decode cX10_back 287 = .ok (.iaload, 1) := by decide +kernel
theorem dX10_back_288 : decode cX10_back 288 = .ok (.goto 10, 3) := by decide +kernel
theorem dX10_back_291 : decode cX10_back 291 = .ok (.aload_n 0, 1) := by decide +kernel
theorem dX10_back_292 : decode cX10_back 292 = .ok (.getfield 39, 3) := by decide +kernel
theorem dX10_back_295 : decode cX10_back 295 = .ok (.iload 4, 2) := by decide +kernel
theorem dX10_back_297 : decode cX10_back 297 = .ok (.iaload, 1) := by decide +kernel
theorem dX10_back_298 : decode cX10_back 298 = .ok (.ldc 184, 2) := by decide +kernel
theorem dX10_back_300 : decode cX10_back 300 = .ok (.iadd, 1) := by decide +kernel
theorem dX10_back_301 : decode cX10_back 301 = .ok (.ireturn, 1) := by decide +kernel
theorem dX10_notes_0 : decode cX10_notes 0 = .ok (.aload_n 0, 1) := by decide +kernel
theorem dX10_notes_1 : decode cX10_notes 1 = .ok (.getfield 166, 3) := by decide +kernel
theorem dX10_notes_4 : decode cX10_notes 4 = .ok (.bipush 16, 2) := by decide +kernel
theorem dX10_notes_6 : decode cX10_notes 6 = .ok (.if_icmp .ne 44, 3) := by decide +kernel
theorem dX10_notes_9 : decode cX10_notes 9 = .ok (.iconst 0, 1) := by decide +kernel
theorem dX10_notes_10 : decode cX10_notes 10 = .ok (.istore_n 1, 1) := by decide +kernel
theorem dX10_notes_11 : decode cX10_notes 11 = .ok (.iload_n 1, 1) := by decide +kernel
theorem dX10_notes_12 : decode cX10_notes 12 = .ok (.sipush 5070, 3) := by decide +kernel
theorem dX10_notes_15 : decode cX10_notes 15 = .ok (.if_icmp .ge 25, 3) := by decide +kernel
theorem dX10_notes_18 : decode cX10_notes 18 = .ok (.aload_n 0, 1) := by decide +kernel
theorem dX10_notes_19 : decode cX10_notes 19 = .ok (.getfield 13, 3) := by decide +kernel
theorem dX10_notes_22 : decode cX10_notes 22 = .ok (.iload_n 1, 1) := by decide +kernel
theorem dX10_notes_23 : decode cX10_notes 23 = .ok (.aload_n 0, 1) := by decide +kernel
theorem dX10_notes_24 : decode cX10_notes 24 = .ok (.getfield 13, 3) := by decide +kernel
theorem dX10_notes_27 : decode cX10_notes 27 = .ok (.iload_n 1, 1) := by decide +kernel
theorem dX10_notes_28 : decode cX10_notes 28 = .ok (.sipush 338, 3) := by decide +kernel
theorem dX10_notes_31 : decode cX10_notes 31 = .ok (.iadd, 1) := by decide +kernel
theorem dX10_notes_32 : decode cX10_notes 32 = .ok (.iaload, 1) := by decide +kernel
theorem dX10_notes_33 : decode cX10_notes 33 = .ok (.iastore, 1) := by decide +kernel
theorem dX10_notes_34 : decode cX10_notes 34 = .ok (.iinc 1 1, 3) := by decide +kernel
theorem dX10_notes_37 : decode cX10_notes 37 = .ok (.goto (-26), 3) := by decide +kernel
theorem dX10_notes_40 : decode cX10_notes 40 = .ok (.aload_n 0, 1) := by decide +kernel
theorem dX10_notes_41 : decode cX10_notes 41 = .ok (.dup, 1) := by decide +kernel
theorem dX10_notes_42 : decode cX10_notes 42 = .ok (.getfield 166, 3) := by decide +kernel
theorem dX10_notes_45 : decode cX10_notes 45 = .ok (.iconst 1, 1) := by decide +kernel
theorem dX10_notes_46 : decode cX10_notes 46 = .ok (.isub, 1) := by decide +kernel
theorem dX10_notes_47 : decode cX10_notes 47 = .ok (.putfield 166, 3) := by decide +kernel
theorem dX10_notes_50 : decode cX10_notes 50 = .ok (.iconst 0, 1) := by decide +kernel
theorem dX10_notes_51 : decode cX10_notes 51 = .ok (.istore_n 1, 1) := by decide +kernel
theorem dX10_notes_52 : decode cX10_notes 52 = .ok (.iload_n 1, 1) := by decide +kernel
theorem dX10_notes_53 : decode cX10_notes 53 = .ok (.sipush 338, 3) := by decide +kernel
theorem dX10_notes_56 : decode cX10_notes 56 = .ok (.if_icmp .ge 30, 3) := by decide +kernel
theorem dX10_notes_59 : decode cX10_notes 59 = .ok (.aload_n 0, 1) := by decide +kernel
theorem dX10_notes_60 : decode cX10_notes 60 = .ok (.getfield 13, 3) := by decide +kernel
theorem dX10_notes_63 : decode cX10_notes 63 = .ok (.sipush 338, 3) := by decide +kernel
theorem dX10_notes_66 : decode cX10_notes 66 = .ok (.aload_n 0, 1) := by decide +kernel
theorem dX10_notes_67 : decode cX10_notes 67 = .ok (.getfield 166, 3) := by decide +kernel
theorem dX10_notes_70 : decode cX10_notes 70 = .ok (.imul, 1) := by decide +kernel
theorem dX10_notes_71 : decode cX10_notes 71 = .ok (.iload_n 1, 1) := by decide +kernel
theorem dX10_notes_72 : decode cX10_notes 72 = .ok (.iadd, 1) := by decide +kernel
theorem dX10_notes_73 : decode cX10_notes 73 = .ok (.aload_n 0, 1) := by decide +kernel
theorem dX10_notes_74 : decode cX10_notes 74 = .ok (.getfield 7, 3) := by decide +kernel
theorem dX10_notes_77 : decode cX10_notes 77 = .ok (.iload_n 1, 1) := by decide +kernel
theorem dX10_notes_78 : decode cX10_notes 78 = .ok (.iaload, 1) := by decide +kernel
theorem dX10_notes_79 : decode cX10_notes 79 = .ok (.iastore, 1) := by decide +kernel
theorem dX10_notes_80 : decode cX10_notes 80 = .ok (.iinc 1 1, 3) := by decide +kernel
theorem dX10_notes_83 : decode cX10_notes 83 = .ok (.goto (-31), 3) := by decide +kernel
theorem dX10_notes_86 : decode cX10_notes 86 = .ok (.aload_n 0, 1) := by decide +kernel
theorem dX10_notes_87 : decode cX10_notes 87 = .ok (.dup, 1) := by decide +kernel
theorem dX10_notes_88 : decode cX10_notes 88 = .ok (.getfield 166, 3) := by decide +kernel
theorem dX10_notes_91 : decode cX10_notes 91 = .ok (.iconst 1, 1) := by decide +kernel
theorem dX10_notes_92 : decode cX10_notes 92 = .ok (.iadd, 1) := by decide +kernel
theorem dX10_notes_93 : decode cX10_notes 93 = .ok (.putfield 166, 3) := by decide +kernel
theorem dX10_notes_96 : decode cX10_notes 96 = .ok (.return_, 1) := by decide +kernel
theorem dX10_overlaps_0 : decode cX10_overlaps 0 = .ok (.aload_n 0, 1) := by decide +kernel
theorem dX10_overlaps_1 : decode cX10_overlaps 1 = .ok (.iload_n 1, 1) := by decide +kernel
theorem dX10_overlaps_2 : decode cX10_overlaps 2 = .ok (.iconst 1, 1) := by decide +kernel
theorem dX10_overlaps_3 : decode cX10_overlaps 3 = .ok (.invokevirtual 58, 3) := by decide +kernel
theorem dX10_overlaps_6 : decode cX10_overlaps 6 = .ok (.aload_n 0, 1) := by decide +kernel
theorem dX10_overlaps_7 : decode cX10_overlaps 7 = .ok (.iload_n 1, 1) := by decide +kernel
theorem dX10_overlaps_8 : decode cX10_overlaps 8 = .ok (.iconst 4, 1) := by decide +kernel
theorem dX10_overlaps_9 : decode cX10_overlaps 9 = .ok (.invokevirtual 58, 3) := by decide +kernel
theorem dX10_overlaps_12 : decode cX10_overlaps 12 = .ok (.iconst 1, 1) := by decide +kernel
theorem dX10_overlaps_13 : decode cX10_overlaps 13 = .ok (.isub, 1) := by decide +kernel
theorem dX10_overlaps_14 : decode cX10_overlaps 14 = .ok (.aload_n 0, 1) := by decide +kernel
theorem dX10_overlaps_15 : decode cX10_overlaps 15 = .ok (.iload_n 1, 1) := by decide +kernel
theorem dX10_overlaps_16 : decode cX10_overlaps 16 = .ok (.iconst 3, 1) := by decide +kernel
theorem dX10_overlaps_17 : decode cX10_overlaps 17 = .ok (.invokevirtual 58, 3) := by decide +kernel
theorem dX10_overlaps_20 : decode cX10_overlaps 20 = .ok (.imul, 1) := by decide +kernel
theorem dX10_overlaps_21 : decode cX10_overlaps 21 = .ok (.iadd, 1) := by decide +kernel
theorem dX10_overlaps_22 : decode cX10_overlaps 22 = .ok (.istore 6, 2) := by decide +kernel
theorem dX10_overlaps_24 : decode cX10_overlaps 24 = .ok (.aload_n 0, 1) := by decide +kernel
theorem dX10_overlaps_25 : decode cX10_overlaps 25 = .ok (.iload_n 1, 1) := by decide +kernel
theorem dX10_overlaps_26 : decode cX10_overlaps 26 = .ok (.iconst 2, 1) := by decide +kernel
theorem dX10_overlaps_27 : decode cX10_overlaps 27 = .ok (.invokevirtual 58, 3) := by decide +kernel
theorem dX10_overlaps_30 : decode cX10_overlaps 30 = .ok (.aload_n 0, 1) := by decide +kernel
theorem dX10_overlaps_31 : decode cX10_overlaps 31 = .ok (.iload_n 1, 1) := by decide +kernel
theorem dX10_overlaps_32 : decode cX10_overlaps 32 = .ok (.iconst 5, 1) := by decide +kernel
theorem dX10_overlaps_33 : decode cX10_overlaps 33 = .ok (.invokevirtual 58, 3) := by decide +kernel
theorem dX10_overlaps_36 : decode cX10_overlaps 36 = .ok (.iconst 1, 1) := by decide +kernel
theorem dX10_overlaps_37 : decode cX10_overlaps 37 = .ok (.isub, 1) := by decide +kernel
theorem dX10_overlaps_38 : decode cX10_overlaps 38 = .ok (.aload_n 0, 1) := by decide +kernel
theorem dX10_overlaps_39 : decode cX10_overlaps 39 = .ok (.iload_n 1, 1) := by decide +kernel
theorem dX10_overlaps_40 : decode cX10_overlaps 40 = .ok (.iconst 3, 1) := by decide +kernel
theorem dX10_overlaps_41 : decode cX10_overlaps 41 = .ok (.invokevirtual 58, 3) := by decide +kernel
theorem dX10_overlaps_44 : decode cX10_overlaps 44 = .ok (.imul, 1) := by decide +kernel
theorem dX10_overlaps_45 : decode cX10_overlaps 45 = .ok (.iadd, 1) := by decide +kernel
theorem dX10_overlaps_46 : decode cX10_overlaps 46 = .ok (.istore 7, 2) := by decide +kernel
theorem dX10_overlaps_48 : decode cX10_overlaps 48 = .ok (.iload_n 2, 1) := by decide +kernel
theorem dX10_overlaps_49 : decode cX10_overlaps 49 = .ok (.iload 6, 2) := by decide +kernel
theorem dX10_overlaps_51 : decode cX10_overlaps 51 = .ok (.if_icmp .ge 39, 3) := by decide +kernel
theorem dX10_overlaps_54 : decode cX10_overlaps 54 = .ok (.aload_n 0, 1) := by decide +kernel
theorem dX10_overlaps_55 : decode cX10_overlaps 55 = .ok (.iload_n 1, 1) := by decide +kernel
theorem dX10_overlaps_56 : decode cX10_overlaps 56 = .ok (.iconst 1, 1) := by decide +kernel
theorem dX10_overlaps_57 : decode cX10_overlaps 57 = .ok (.invokevirtual 58, 3) := by decide +kernel
theorem dX10_overlaps_60 : decode cX10_overlaps 60 = .ok (.iload_n 2, 1) := by decide +kernel
theorem dX10_overlaps_61 : decode cX10_overlaps 61 = .ok (.iload 4, 2) := by decide +kernel
theorem dX10_overlaps_63 : decode cX10_overlaps 63 = .ok (.iadd, 1) := by decide +kernel
theorem dX10_overlaps_64 : decode cX10_overlaps 64 = .ok (.if_icmp .ge 26, 3) := by decide +kernel
theorem dX10_overlaps_67 : decode cX10_overlaps 67 = .ok (.iload_n 3, 1) := by decide +kernel
theorem dX10_overlaps_68 : decode cX10_overlaps 68 = .ok (.iload 7, 2) := by decide +kernel
theorem dX10_overlaps_70 : decode cX10_overlaps 70 = .ok (.if_icmp .ge 20, 3) := by decide +kernel
theorem dX10_overlaps_73 : decode cX10_overlaps 73 = .ok (.aload_n 0, 1) := by decide +kernel
theorem dX10_overlaps_74 : decode cX10_overlaps 74 = .ok (.iload_n 1, 1) := by decide +kernel
theorem dX10_overlaps_75 : decode cX10_overlaps 75 = .ok (.iconst 2, 1) := by decide +kernel
theorem dX10_overlaps_76 : decode cX10_overlaps 76 = .ok (.invokevirtual 58, 3) := by decide +kernel
theorem dX10_overlaps_79 : decode cX10_overlaps 79 = .ok (.iload_n 3, 1) := by decide +kernel
theorem dX10_overlaps_80 : decode cX10_overlaps 80 = .ok (.iload 5, 2) := by decide +kernel
theorem dX10_overlaps_82 : decode cX10_overlaps 82 = .ok (.iadd, 1) := by decide +kernel
theorem dX10_overlaps_83 : decode cX10_overlaps 83 = .ok (.if_icmp .ge 7, 3) := by decide +kernel
theorem dX10_overlaps_86 : decode cX10_overlaps 86 = .ok (.iconst 1, 1) := by decide +kernel
theorem dX10_overlaps_87 : decode cX10_overlaps 87 = .ok (.goto 4, 3) := by decide +kernel
theorem dX10_overlaps_90 : decode cX10_overlaps 90 = .ok (.iconst 0, 1) := by decide +kernel
theorem dX10_overlaps_91 : decode cX10_overlaps 91 = .ok (.ireturn, 1) := by decide +kernel
theorem dX10_mayBe_0 : decode cX10_mayBe 0 = .ok (.iload_n 1, 1) := by decide +kernel
theorem dX10_mayBe_1 : decode cX10_mayBe 1 = .ok (.iconst (-1), 1) := by decide +kernel
theorem dX10_mayBe_2 : decode cX10_mayBe 2 = .ok (.if_icmp .eq 66, 3) := by decide +kernel
theorem dX10_mayBe_5 : decode cX10_mayBe 5 = .ok (.aload_n 0, 1) := by decide +kernel
theorem dX10_mayBe_6 : decode cX10_mayBe 6 = .ok (.iload_n 1, 1) := by decide +kernel
theorem dX10_mayBe_7 : decode cX10_mayBe 7 = .ok (.bipush 64, 2) := by decide +kernel
theorem dX10_mayBe_9 : decode cX10_mayBe 9 = .ok (.iload_n 2, 1) := by decide +kernel
theorem dX10_mayBe_10 : decode cX10_mayBe 10 = .ok (.imul, 1) := by decide +kernel
theorem dX10_mayBe_11 : decode cX10_mayBe 11 = .ok (.bipush 64, 2) := by decide +kernel
theorem dX10_mayBe_13 : decode cX10_mayBe 13 = .ok (.iload_n 3, 1) := by decide +kernel
theorem dX10_mayBe_14 : decode cX10_mayBe 14 = .ok (.imul, 1) := by decide +kernel
theorem dX10_mayBe_15 : decode cX10_mayBe 15 = .ok (.invokevirtual 74, 3) := by decide +kernel
theorem dX10_mayBe_18 : decode cX10_mayBe 18 = .ok (.ifCond .eq 29, 3) := by decide +kernel
theorem dX10_mayBe_21 : decode cX10_mayBe 21 = .ok (.aload_n 0, 1) := by decide +kernel
theorem dX10_mayBe_22 : decode cX10_mayBe 22 = .ok (.iload_n 1, 1) := by decide +kernel
theorem dX10_mayBe_23 : decode cX10_mayBe 23 = .ok (.bipush 64, 2) := by decide +kernel
theorem dX10_mayBe_25 : decode cX10_mayBe 25 = .ok (.iload_n 2, 1) := by decide +kernel
theorem dX10_mayBe_26 : decode cX10_mayBe 26 = .ok (.iload 5, 2) := by decide +kernel
theorem dX10_mayBe_28 : decode cX10_mayBe 28 = .ok (.iadd, 1) := by decide +kernel
theorem dX10_mayBe_29 : decode cX10_mayBe 29 = .ok (.imul, 1) := by decide +kernel
theorem dX10_mayBe_30 : decode cX10_mayBe 30 = .ok (.bipush 64, 2) := by decide +kernel
theorem dX10_mayBe_32 : decode cX10_mayBe 32 = .ok (.iload_n 3, 1) := by decide +kernel
theorem dX10_mayBe_33 : decode cX10_mayBe 33 = .ok (.iload 6, 2) := by decide +kernel
theorem dX10_mayBe_35 : decode cX10_mayBe 35 = .ok (.iadd, 1) := by decide +kernel
theorem dX10_mayBe_36 : decode cX10_mayBe 36 = .ok (.imul, 1) := by decide +kernel
theorem dX10_mayBe_37 : decode cX10_mayBe 37 = .ok (.invokevirtual 74, 3) := by decide +kernel
theorem dX10_mayBe_40 : decode cX10_mayBe 40 = .ok (.ifCond .eq 7, 3) := by decide +kernel
theorem dX10_mayBe_43 : decode cX10_mayBe 43 = .ok (.iconst 1, 1) := by decide +kernel
theorem dX10_mayBe_44 : decode cX10_mayBe 44 = .ok (.goto 4, 3) := by decide +kernel
theorem dX10_mayBe_47 : decode cX10_mayBe 47 = .ok (.iconst 0, 1) := by decide +kernel
theorem dX10_mayBe_48 : decode cX10_mayBe 48 = .ok (.istore 7, 2) := by decide +kernel
theorem dX10_mayBe_50 : decode cX10_mayBe 50 = .ok (.iload 4, 2) := by decide +kernel
theorem dX10_mayBe_52 : decode cX10_mayBe 52 = .ok (.aload_n 0, 1) := by decide +kernel
theorem dX10_mayBe_53 : decode cX10_mayBe 53 = .ok (.iload_n 1, 1) := by decide +kernel
theorem dX10_mayBe_54 : decode cX10_mayBe 54 = .ok (.iconst 3, 1) := by decide +kernel
theorem dX10_mayBe_55 : decode cX10_mayBe 55 = .ok (.invokevirtual 58, 3) := by decide +kernel
theorem dX10_mayBe_58 : decode cX10_mayBe 58 = .ok (.if_icmp .ge 8, 3) := by decide +kernel
theorem dX10_mayBe_61 : decode cX10_mayBe 61 = .ok (.iload 7, 2) := by decide +kernel
theorem dX10_mayBe_63 : decode cX10_mayBe 63 = .ok (.ifCond .ne 5, 3) := by decide +kernel
theorem dX10_mayBe_66 : decode cX10_mayBe 66 = .ok (.iconst 0, 1) := by decide +kernel
theorem dX10_mayBe_67 : decode cX10_mayBe 67 = .ok (.ireturn, 1) := by decide +kernel
theorem dX10_mayBe_68 : decode cX10_mayBe 68 = .ok (.iconst 0, 1) := by decide +kernel
theorem dX10_mayBe_69 : decode cX10_mayBe 69 = .ok (.istore 7, 2) := by decide +kernel
theorem dX10_mayBe_71 : decode cX10_mayBe 71 = .ok (.iload 7, 2) := by decide +kernel
theorem dX10_mayBe_73 : decode cX10_mayBe 73 = .ok (.aload_n 0, 1) := by decide +kernel
theorem dX10_mayBe_74 : decode cX10_mayBe 74 = .ok (.getfield 7, 3) := by decide +kernel
theorem dX10_mayBe_77 : decode cX10_mayBe 77 = .ok (.iconst 0, 1) := by decide +kernel
theorem dX10_mayBe_78 : decode cX10_mayBe 78 = .ok (.iaload, 1) := by decide +kernel
theorem dX10_mayBe_79 : decode cX10_mayBe 79 = .ok (.if_icmp .ge 37, 3) := by decide +kernel
theorem dX10_mayBe_82 : decode cX10_mayBe 82 = .ok (.aload_n 0, 1) := by decide +kernel
theorem dX10_mayBe_83 : decode cX10_mayBe 83 = .ok (.iload 7, 2) := by decide +kernel
theorem dX10_mayBe_85 : decode cX10_mayBe 85 = .ok (.iconst 0, 1) := by decide +kernel
theorem dX10_mayBe_86 : decode cX10_mayBe 86 = .ok (.invokevirtual 58, 3) := by decide +kernel
theorem dX10_mayBe_89 : decode cX10_mayBe 89 = .ok (.iload_n 1, 1) := by decide +kernel
theorem dX10_mayBe_90 : decode cX10_mayBe 90 = .ok (.if_icmp .ne 20, 3) := by decide +kernel
theorem dX10_mayBe_93 : decode cX10_mayBe 93 = .ok (.aload_n 0, 1) := by decide +kernel
theorem dX10_mayBe_94 : decode cX10_mayBe 94 = .ok (.iload 7, 2) := by decide +kernel
theorem dX10_mayBe_96 : decode cX10_mayBe 96 = .ok (.iload_n 2, 1) := by decide +kernel
theorem dX10_mayBe_97 : decode cX10_mayBe 97 = .ok (.iload_n 3, 1) := by decide +kernel
theorem dX10_mayBe_98 : decode cX10_mayBe 98 = .ok (.iload 5, 2) := by decide +kernel
theorem dX10_mayBe_100 : decode cX10_mayBe 100 = .ok (.iload 6, 2) := by decide +kernel
theorem dX10_mayBe_102 : decode cX10_mayBe 102 = .ok (.invokevirtual 207, 3) := by decide +kernel
theorem dX10_mayBe_105 : decode cX10_mayBe 105 = .ok (.ifCond .eq 5, 3) := by decide +kernel
theorem dX10_mayBe_108 : decode cX10_mayBe 108 = .ok (.iconst 0, 1) := by decide +kernel
theorem dX10_mayBe_109 : decode cX10_mayBe 109 = .ok (.ireturn, 1) := by decide +kernel
theorem dX10_mayBe_110 : decode cX10_mayBe 110 = .ok (.iinc 7 1, 3) := by decide +kernel
theorem dX10_mayBe_113 : decode cX10_mayBe 113 = .ok (.goto (-42), 3) := by decide +kernel
theorem dX10_mayBe_116 : decode cX10_mayBe 116 = .ok (.iconst 1, 1) := by decide +kernel
theorem dX10_mayBe_117 : decode cX10_mayBe 117 = .ok (.ireturn, 1) := by decide +kernel
theorem dX10_grid_0 : decode cX10_grid 0 = .ok (.aload_n 0, 1) := by decide +kernel
theorem dX10_grid_1 : decode cX10_grid 1 = .ok (.iconst 0, 1) := by decide +kernel
theorem dX10_grid_2 : decode cX10_grid 2 = .ok (.putfield 46, 3) := by decide +kernel
theorem dX10_grid_5 : decode cX10_grid 5 = .ok (.iload_n 1, 1) := by decide +kernel
theorem dX10_grid_6 : decode cX10_grid 6 = .ok (.iconst (-1), 1) := by decide +kernel
theorem dX10_grid_7 : decode cX10_grid 7 = .ok (.if_icmp .eq 14, 3) := by decide +kernel
theorem dX10_grid_10 : decode cX10_grid 10 = .ok (.aload_n 0, 1) := by decide +kernel
theorem dX10_grid_11 : decode cX10_grid 11 = .ok (.iload_n 1, 1) := by decide +kernel
theorem dX10_grid_12 : decode cX10_grid 12 = .ok (.invokevirtual 54, 3) := by decide +kernel
theorem dX10_grid_15 : decode cX10_grid 15 = .ok (.ifCond .ne 6, 3) := by decide +kernel
theorem dX10_grid_18 : decode cX10_grid 18 = .ok (.ldc 170, 2) := by decide +kernel
theorem dX10_grid_20 : decode cX10_grid 20 = .ok (.ireturn, 1) := by decide +kernel
theorem dX10_grid_21 : decode cX10_grid 21 = .ok (.iload_n 2, 1) := by decide +kernel
theorem dX10_grid_22 : decode cX10_grid 22 = .ok (.i2l, 1) := by decide +kernel
theorem dX10_grid_23 : decode cX10_grid 23 = .ok (.lconst 0, 1) := by decide +kernel
theorem dX10_grid_24 : decode cX10_grid 24 = .ok (.ldc2_w 211, 3) := by decide +kernel
theorem dX10_grid_27 : decode cX10_grid 27 = .ok (.invokestatic 50, 3) := by decide +kernel
theorem dX10_grid_30 : decode cX10_grid 30 = .ok (.ifCond .eq 58, 3) := by decide +kernel
theorem dX10_grid_33 : decode cX10_grid 33 = .ok (.iload_n 3, 1) := by decide +kernel
theorem dX10_grid_34 : decode cX10_grid 34 = .ok (.i2l, 1) := by decide +kernel
theorem dX10_grid_35 : decode cX10_grid 35 = .ok (.lconst 0, 1) := by decide +kernel
theorem dX10_grid_36 : decode cX10_grid 36 = .ok (.ldc2_w 211, 3) := by decide +kernel
theorem dX10_grid_39 : decode cX10_grid 39 = .ok (.invokestatic 50, 3) := by decide +kernel
theorem dX10_grid_42 : decode cX10_grid 42 = .ok (.ifCond .eq 46, 3) := by decide +kernel
theorem dX10_grid_45 : decode cX10_grid 45 = .ok (.iload 4, 2) := by decide +kernel
theorem dX10_grid_47 : decode cX10_grid 47 = .ok (.i2l, 1) := by decide +kernel
theorem dX10_grid_48 : decode cX10_grid 48 = .ok (.lconst 1, 1) := by decide +kernel
theorem dX10_grid_49 : decode cX10_grid 49 = .ok (.ldc2_w 213, 3) := by decide +kernel
theorem dX10_grid_52 : decode cX10_grid 52 = .ok (.invokestatic 50, 3) := by decide +kernel
theorem dX10_grid_55 : decode cX10_grid 55 = .ok (.ifCond .eq 33, 3) := by decide +kernel
theorem dX10_grid_58 : decode cX10_grid 58 = .ok (.iload 5, 2) := by decide +kernel
theorem dX10_grid_60 : decode cX10_grid 60 = .ok (.i2l, 1) := by decide +kernel
theorem dX10_grid_61 : decode cX10_grid 61 = .ok (.ldc2_w 81, 3) := by decide +kernel
theorem dX10_grid_64 : decode cX10_grid 64 = .ok (.ldc2_w 215, 3) := by decide +kernel
theorem dX10_grid_67 : decode cX10_grid 67 = .ok (.invokestatic 50, 3) := by decide +kernel
theorem dX10_grid_70 : decode cX10_grid 70 = .ok (.ifCond .eq 18, 3) := by decide +kernel
theorem dX10_grid_73 : decode cX10_grid 73 = .ok (.iload 6, 2) := by decide +kernel
theorem dX10_grid_75 : decode cX10_grid 75 = .ok (.i2l, 1) := by decide +kernel
theorem dX10_grid_76 : decode cX10_grid 76 = .ok (.ldc2_w 81, 3) := by decide +kernel
theorem dX10_grid_79 : decode cX10_grid 79 = .ok (.ldc2_w 215, 3) := by decide +kernel
theorem dX10_grid_82 : decode cX10_grid 82 = .ok (.invokestatic 50, 3) := by decide +kernel
theorem dX10_grid_85 : decode cX10_grid 85 = .ok (.ifCond .ne 6, 3) := by decide +kernel
theorem dX10_grid_88 : decode cX10_grid 88 = .ok (.ldc 169, 2) := by decide +kernel
theorem dX10_grid_90 : decode cX10_grid 90 = .ok (.ireturn, 1) := by decide +kernel
theorem dX10_grid_91 : decode cX10_grid 91 = .ok (.iload 5, 2) := by decide +kernel
theorem dX10_grid_93 : decode cX10_grid 93 = .ok (.iconst 1, 1) := by decide +kernel
theorem dX10_grid_94 : decode cX10_grid 94 = .ok (.isub, 1) := by decide +kernel
theorem dX10_grid_95 : decode cX10_grid 95 = .ok (.iload 4, 2) := by decide +kernel
theorem dX10_grid_97 : decode cX10_grid 97 = .ok (.imul, 1) := by decide +kernel
theorem dX10_grid_98 : decode cX10_grid 98 = .ok (.istore 7, 2) := by decide +kernel
theorem dX10_grid_100 : decode cX10_grid 100 = .ok (.iload 6, 2) := by decide +kernel
theorem dX10_grid_102 : decode cX10_grid 102 = .ok (.iconst 1, 1) := by decide +kernel
theorem dX10_grid_103 : decode cX10_grid 103 = .ok (.isub, 1) := by decide +kernel
theorem dX10_grid_104 : decode cX10_grid 104 = .ok (.iload 4, 2) := by decide +kernel
theorem dX10_grid_106 : decode cX10_grid 106 = .ok (.imul, 1) := by decide +kernel
theorem dX10_grid_107 : decode cX10_grid 107 = .ok (.istore 8, 2) := by decide +kernel
theorem dX10_grid_109 : decode cX10_grid 109 = .ok (.iload_n 2, 1) := by decide +kernel
theorem dX10_grid_110 : decode cX10_grid 110 = .ok (.iload 7, 2) := by decide +kernel
theorem dX10_grid_112 : decode cX10_grid 112 = .ok (.iadd, 1) := by decide +kernel
theorem dX10_grid_113 : decode cX10_grid 113 = .ok (.sipush 1000, 3) := by decide +kernel
theorem dX10_grid_116 : decode cX10_grid 116 = .ok (.if_icmp .gt 13, 3) := by decide +kernel
theorem dX10_grid_119 : decode cX10_grid 119 = .ok (.iload_n 3, 1) := by decide +kernel
theorem dX10_grid_120 : decode cX10_grid 120 = .ok (.iload 8, 2) := by decide +kernel
theorem dX10_grid_122 : decode cX10_grid 122 = .ok (.iadd, 1) := by decide +kernel
theorem dX10_grid_123 : decode cX10_grid 123 = .ok (.sipush 1000, 3) := by decide +kernel
theorem dX10_grid_126 : decode cX10_grid 126 = .ok (.if_icmp .le 6, 3) := by decide +kernel
theorem dX10_grid_129 : decode cX10_grid 129 = .ok (.ldc 169, 2) := by decide +kernel
theorem dX10_grid_131 : decode cX10_grid 131 = .ok (.ireturn, 1) := by decide +kernel
theorem dX10_grid_132 : decode cX10_grid 132 = .ok (.aload_n 0, 1) := by decide +kernel
theorem dX10_grid_133 : decode cX10_grid 133 = .ok (.iload_n 1, 1) := by decide +kernel
theorem dX10_grid_134 : decode cX10_grid 134 = .ok (.iload_n 2, 1) := by decide +kernel
theorem dX10_grid_135 : decode cX10_grid 135 = .ok (.iload_n 3, 1) := by decide +kernel
theorem dX10_grid_136 : decode cX10_grid 136 = .ok (.iload 4, 2) := by decide +kernel
theorem dX10_grid_138 : decode cX10_grid 138 = .ok (.iload 7, 2) := by decide +kernel
theorem dX10_grid_140 : decode cX10_grid 140 = .ok (.iload 8, 2) := by decide +kernel
theorem dX10_grid_142 : decode cX10_grid 142 = .ok (.invokevirtual 217, 3) := by decide +kernel
theorem dX10_grid_145 : decode cX10_grid 145 = .ok (.ifCond .ne 6, 3) := by decide +kernel
theorem dX10_grid_148 : decode cX10_grid 148 = .ok (.ldc 221, 2) := by decide +kernel
theorem dX10_grid_150 : decode cX10_grid 150 = .ok (.ireturn, 1) := by decide +kernel
theorem dX10_grid_151 : decode cX10_grid 151 = .ok (.aload_n 0, 1) := by decide +kernel
theorem dX10_grid_152 : decode cX10_grid 152 = .ok (.getfield 7, 3) := by decide +kernel
theorem dX10_grid_155 : decode cX10_grid 155 = .ok (.iconst 0, 1) := by decide +kernel
theorem dX10_grid_156 : decode cX10_grid 156 = .ok (.iaload, 1) := by decide +kernel
theorem dX10_grid_157 : decode cX10_grid 157 = .ok (.bipush 6, 2) := by decide +kernel
theorem dX10_grid_159 : decode cX10_grid 159 = .ok (.if_icmp .ne 6, 3) := by decide +kernel
theorem dX10_grid_162 : decode cX10_grid 162 = .ok (.ldc 222, 2) := by decide +kernel
theorem dX10_grid_164 : decode cX10_grid 164 = .ok (.ireturn, 1) := by decide +kernel
theorem dX10_grid_165 : decode cX10_grid 165 = .ok (.aload_n 0, 1) := by decide +kernel
theorem dX10_grid_166 : decode cX10_grid 166 = .ok (.invokevirtual 223, 3) := by decide +kernel
theorem dX10_grid_169 : decode cX10_grid 169 = .ok (.aload_n 0, 1) := by decide +kernel
theorem dX10_grid_170 : decode cX10_grid 170 = .ok (.getfield 7, 3) := by decide +kernel
theorem dX10_grid_173 : decode cX10_grid 173 = .ok (.iconst 0, 1) := by decide +kernel
theorem dX10_grid_174 : decode cX10_grid 174 = .ok (.iaload, 1) := by decide +kernel
theorem dX10_grid_175 : decode cX10_grid 175 = .ok (.istore 9, 2) := by decide +kernel
theorem dX10_grid_177 : decode cX10_grid 177 = .ok (.aload_n 0, 1) := by decide +kernel
theorem dX10_grid_178 : decode cX10_grid 178 = .ok (.getfield 7, 3) := by decide +kernel
theorem dX10_grid_181 : decode cX10_grid 181 = .ok (.iconst 0, 1) := by decide +kernel
theorem dX10_grid_182 : decode cX10_grid 182 = .ok (.dup2, 1) := by decide +kernel
theorem dX10_grid_183 : decode cX10_grid 183 = .ok (.iaload, 1) := by decide +kernel
theorem dX10_grid_184 : decode cX10_grid 184 = .ok (.iconst 1, 1) := by decide +kernel
theorem dX10_grid_185 : decode cX10_grid 185 = .ok (.iadd, 1) := by decide +kernel
theorem dX10_grid_186 : decode cX10_grid 186 = .ok (.iastore, 1) := by decide +kernel
theorem dX10_grid_187 : decode cX10_grid 187 = .ok (.aload_n 0, 1) := by decide +kernel
theorem dX10_grid_188 : decode cX10_grid 188 = .ok (.getfield 7, 3) := by decide +kernel
theorem dX10_grid_191 : decode cX10_grid 191 = .ok (.iconst 2, 1) := by decide +kernel
theorem dX10_grid_192 : decode cX10_grid 192 = .ok (.bipush 6, 2) := by decide +kernel
theorem dX10_grid_194 : decode cX10_grid 194 = .ok (.iload 9, 2) := by decide +kernel
theorem dX10_grid_196 : decode cX10_grid 196 = .ok (.imul, 1) := by decide +kernel
theorem dX10_grid_197 : decode cX10_grid 197 = .ok (.iadd, 1) := by decide +kernel
theorem dX10_grid_198 : decode cX10_grid 198 = .ok (.iconst 0, 1) := by decide +kernel
theorem dX10_grid_199 : decode cX10_grid 199 = .ok (.iadd, 1) := by decide +kernel
theorem dX10_grid_200 : decode cX10_grid 200 = .ok (.iload_n 1, 1) := by decide +kernel
theorem dX10_grid_201 : decode cX10_grid 201 = .ok (.iastore, 1) := by decide +kernel
theorem dX10_grid_202 : decode cX10_grid 202 = .ok (.aload_n 0, 1) := by decide +kernel
theorem dX10_grid_203 : decode cX10_grid 203 = .ok (.getfield 7, 3) := by decide +kernel
theorem dX10_grid_206 : decode cX10_grid 206 = .ok (.iconst 2, 1) := by decide +kernel
theorem dX10_grid_207 : decode cX10_grid 207 = .ok (.bipush 6, 2) := by decide +kernel
theorem dX10_grid_209 : decode cX10_grid 209 = .ok (.iload 9, 2) := by decide +kernel
theorem dX10_grid_211 : decode cX10_grid 211 = .ok (.imul, 1) := by decide +kernel
theorem dX10_grid_212 : decode cX10_grid 212 = .ok (.iadd, 1) := by decide +kernel
theorem dX10_grid_213 : decode cX10_grid 213 = .ok (.iconst 1, 1) := by decide +kernel
theorem dX10_grid_214 : decode cX10_grid 214 = .ok (.iadd, 1) := by decide +kernel
theorem dX10_grid_215 : decode cX10_grid 215 = .ok (.iload_n 2, 1) := by decide +kernel
theorem dX10_grid_216 : decode cX10_grid 216 = .ok (.iastore, 1) := by decide +kernel
theorem dX10_grid_217 : decode cX10_grid 217 = .ok (.aload_n 0, 1) := by decide +kernel
theorem dX10_grid_218 : decode cX10_grid 218 = .ok (.getfield 7, 3) := by decide +kernel
theorem dX10_grid_221 : decode cX10_grid 221 = .ok (.iconst 2, 1) := by decide +kernel
theorem dX10_grid_222 : decode cX10_grid 222 = .ok (.bipush 6, 2) := by decide +kernel
theorem dX10_grid_224 : decode cX10_grid 224 = .ok (.iload 9, 2) := by decide +kernel
theorem dX10_grid_226 : decode cX10_grid 226 = .ok (.imul, 1) := by decide +kernel
theorem dX10_grid_227 : decode cX10_grid 227 = .ok (.iadd, 1) := by decide +kernel
theorem dX10_grid_228 : decode cX10_grid 228 = .ok (.iconst 2, 1) := by decide +kernel
theorem dX10_grid_229 : decode cX10_grid 229 = .ok (.iadd, 1) := by decide +kernel
theorem dX10_grid_230 : decode cX10_grid 230 = .ok (.iload_n 3, 1) := by decide +kernel
theorem dX10_grid_231 : decode cX10_grid 231 = .ok (.iastore, 1) := by decide +kernel
theorem dX10_grid_232 : decode cX10_grid 232 = .ok (.aload_n 0, 1) := by decide +kernel
theorem dX10_grid_233 : decode cX10_grid 233 = .ok (.getfield 7, 3) := by decide +kernel
theorem dX10_grid_236 : decode cX10_grid 236 = .ok (.iconst 2, 1) := by decide +kernel
theorem dX10_grid_237 : decode cX10_grid 237 = .ok (.bipush 6, 2) := by decide +kernel
theorem dX10_grid_239 : decode cX10_grid 239 = .ok (.iload 9, 2) := by decide +kernel
theorem dX10_grid_241 : decode cX10_grid 241 = .ok (.imul, 1) := by decide +kernel
theorem dX10_grid_242 : decode cX10_grid 242 = .ok (.iadd, 1) := by decide +kernel
theorem dX10_grid_243 : decode cX10_grid 243 = .ok (.iconst 3, 1) := by decide +kernel
theorem dX10_grid_244 : decode cX10_grid 244 = .ok (.iadd, 1) := by decide +kernel
theorem dX10_grid_245 : decode cX10_grid 245 = .ok (.iload 4, 2) := by decide +kernel
theorem dX10_grid_247 : decode cX10_grid 247 = .ok (.iastore, 1) := by decide +kernel
theorem dX10_grid_248 : decode cX10_grid 248 = .ok (.aload_n 0, 1) := by decide +kernel
theorem dX10_grid_249 : decode cX10_grid 249 = .ok (.getfield 7, 3) := by decide +kernel
theorem dX10_grid_252 : decode cX10_grid 252 = .ok (.iconst 2, 1) := by decide +kernel
theorem dX10_grid_253 : decode cX10_grid 253 = .ok (.bipush 6, 2) := by decide +kernel
theorem dX10_grid_255 : decode cX10_grid 255 = .ok (.iload 9, 2) := by decide +kernel
theorem dX10_grid_257 : decode cX10_grid 257 = .ok (.imul, 1) := by decide +kernel
theorem dX10_grid_258 : decode cX10_grid 258 = .ok (.iadd, 1) := by decide +kernel
theorem dX10_grid_259 : decode cX10_grid 259 = .ok (.iconst 4, 1) := by decide +kernel
theorem dX10_grid_260 : decode cX10_grid 260 = .ok (.iadd, 1) := by decide +kernel
theorem dX10_grid_261 : decode cX10_grid 261 = .ok (.iload 5, 2) := by decide +kernel
theorem dX10_grid_263 : decode cX10_grid 263 = .ok (.iastore, 1) := by decide +kernel
theorem dX10_grid_264 : decode cX10_grid 264 = .ok (.aload_n 0, 1) := by decide +kernel
theorem dX10_grid_265 : decode cX10_grid 265 = .ok (.getfield 7, 3) := by decide +kernel
theorem dX10_grid_268 : decode cX10_grid 268 = .ok (.iconst 2, 1) := by decide +kernel
theorem dX10_grid_269 : decode cX10_grid 269 = .ok (.bipush 6, 2) := by decide +kernel
theorem dX10_grid_271 : decode cX10_grid 271 = .ok (.iload 9, 2) := by decide +kernel
theorem dX10_grid_273 : decode cX10_grid 273 = .ok (.imul, 1) := by decide +kernel
theorem dX10_grid_274 : decode cX10_grid 274 = .ok (.iadd, 1) := by decide +kernel
theorem dX10_grid_275 : decode cX10_grid 275 = .ok (.iconst 5, 1) := by decide +kernel
theorem dX10_grid_276 : decode cX10_grid 276 = .ok (.iadd, 1) := by decide +kernel
theorem dX10_grid_277 : decode cX10_grid 277 = .ok (.iload 6, 2) := by decide +kernel
theorem dX10_grid_279 : decode cX10_grid 279 = .ok (.iastore, 1) := by decide +kernel
theorem dX10_grid_280 : decode cX10_grid 280 = .ok (.iconst 0, 1) := by decide +kernel
theorem dX10_grid_281 : decode cX10_grid 281 = .ok (.istore 10, 2) := by decide +kernel
theorem dX10_grid_283 : decode cX10_grid 283 = .ok (.iload 10, 2) := by decide +kernel
theorem dX10_grid_285 : decode cX10_grid 285 = .ok (.bipush 50, 2) := by decide +kernel
theorem dX10_grid_287 : decode cX10_grid 287 = .ok (.if_icmp .ge 26, 3) := by decide +kernel
theorem dX10_grid_290 : decode cX10_grid 290 = .ok (.aload_n 0, 1) := by decide +kernel
theorem dX10_grid_291 : decode cX10_grid 291 = .ok (.getfield 7, 3) := by decide +kernel
theorem dX10_grid_294 : decode cX10_grid 294 = .ok (.bipush 38, 2) := by decide +kernel
theorem dX10_grid_296 : decode cX10_grid 296 = .ok (.bipush 50, 2) := by decide +kernel
theorem dX10_grid_298 : decode cX10_grid 298 = .ok (.iload 9, 2) := by decide +kernel
theorem dX10_grid_300 : decode cX10_grid 300 = .ok (.imul, 1) := by decide +kernel
theorem dX10_grid_301 : decode cX10_grid 301 = .ok (.iadd, 1) := by decide +kernel
theorem dX10_grid_302 : decode cX10_grid 302 = .ok (.iload 10, 2) := by decide +kernel
theorem dX10_grid_304 : decode cX10_grid 304 = .ok (.iadd, 1) := by decide +kernel
theorem dX10_grid_305 : decode cX10_grid 305 = .ok (.iconst 0, 1) := by decide +kernel
theorem dX10_grid_306 : decode cX10_grid 306 = .ok (.iastore, 1) := by decide +kernel
theorem dX10_grid_307 : decode cX10_grid 307 = .ok (.iinc 10 1, 3) := by decide +kernel
theorem dX10_grid_310 : decode cX10_grid 310 = .ok (.goto (-27), 3) := by decide +kernel
theorem dX10_grid_313 : decode cX10_grid 313 = .ok (.iload 9, 2) := by decide +kernel
theorem dX10_grid_315 : decode cX10_grid 315 = .ok (.ireturn, 1) := by decide +kernel
theorem dX10_isOffset_0 : decode cX10_isOffset 0 = .ok (.iload_n 0, 1) := by decide +kernel
theorem dX10_isOffset_1 : decode cX10_isOffset 1 = .ok (.i2l, 1) := by decide +kernel
theorem dX10_isOffset_2 : decode cX10_isOffset 2 = .ok (.ldc2_w 226, 3) := by decide +kernel
theorem dX10_isOffset_5 : decode cX10_isOffset 5 = .ok (.ldc2_w 228, 3) := by decide +kernel
theorem dX10_isOffset_8 : decode cX10_isOffset 8 = .ok (.invokestatic 50, 3) := by decide +kernel
theorem dX10_isOffset_11 : decode cX10_isOffset 11 = .ok (.ifCond .eq 21, 3) := by decide +kernel
theorem dX10_isOffset_14 : decode cX10_isOffset 14 = .ok (.iload_n 1, 1) := by decide +kernel
theorem dX10_isOffset_15 : decode cX10_isOffset 15 = .ok (.i2l, 1) := by decide +kernel
theorem dX10_isOffset_16 : decode cX10_isOffset 16 = .ok (.ldc2_w 226, 3) := by decide +kernel
theorem dX10_isOffset_19 : decode cX10_isOffset 19 = .ok (.ldc2_w 228, 3) := by decide +kernel
theorem dX10_isOffset_22 : decode cX10_isOffset 22 = .ok (.invokestatic 50, 3) := by decide +kernel
theorem dX10_isOffset_25 : decode cX10_isOffset 25 = .ok (.ifCond .eq 7, 3) := by decide +kernel
theorem dX10_isOffset_28 : decode cX10_isOffset 28 = .ok (.iconst 1, 1) := by decide +kernel
theorem dX10_isOffset_29 : decode cX10_isOffset 29 = .ok (.goto 4, 3) := by decide +kernel
theorem dX10_isOffset_32 : decode cX10_isOffset 32 = .ok (.iconst 0, 1) := by decide +kernel
theorem dX10_isOffset_33 : decode cX10_isOffset 33 = .ok (.ireturn, 1) := by decide +kernel
theorem dX10_sets_0 : decode cX10_sets 0 = .ok (.iload_n 1, 1) := by decide +kernel
theorem dX10_sets_1 : decode cX10_sets 1 = .ok (.iload_n 2, 1) := by decide +kernel
theorem dX10_sets_2 : decode cX10_sets 2 = .ok (.iload_n 3, 1) := by decide +kernel
theorem dX10_sets_3 : decode cX10_sets 3 = .ok (.invokestatic 62, 3) := by decide +kernel
theorem dX10_sets_6 : decode cX10_sets 6 = .ok (.istore 6, 2) := by decide +kernel
theorem dX10_sets_8 : decode cX10_sets 8 = .ok (.aload_n 0, 1) := by decide +kernel
theorem dX10_sets_9 : decode cX10_sets 9 = .ok (.getfield 7, 3) := by decide +kernel
theorem dX10_sets_12 : decode cX10_sets 12 = .ok (.iload 6, 2) := by decide +kernel
theorem dX10_sets_14 : decode cX10_sets 14 = .ok (.iaload, 1) := by decide +kernel
theorem dX10_sets_15 : decode cX10_sets 15 = .ok (.iload 4, 2) := by decide +kernel
theorem dX10_sets_17 : decode cX10_sets 17 = .ok (.if_icmp .ne 17, 3) := by decide +kernel
theorem dX10_sets_20 : decode cX10_sets 20 = .ok (.aload_n 0, 1) := by decide +kernel
theorem dX10_sets_21 : decode cX10_sets 21 = .ok (.getfield 7, 3) := by decide +kernel
theorem dX10_sets_24 : decode cX10_sets 24 = .ok (.iload 6, 2) := by decide +kernel
theorem dX10_sets_26 : decode cX10_sets 26 = .ok (.iconst 1, 1) := by decide +kernel
theorem dX10_sets_27 : decode cX10_sets 27 = .ok (.iadd, 1) := by decide +kernel
theorem dX10_sets_28 : decode cX10_sets 28 = .ok (.iaload, 1) := by decide +kernel
theorem dX10_sets_29 : decode cX10_sets 29 = .ok (.iload 5, 2) := by decide +kernel
theorem dX10_sets_31 : decode cX10_sets 31 = .ok (.if_icmp .eq 7, 3) := by decide +kernel
theorem dX10_sets_34 : decode cX10_sets 34 = .ok (.iconst 1, 1) := by decide +kernel
theorem dX10_sets_35 : decode cX10_sets 35 = .ok (.goto 4, 3) := by decide +kernel
theorem dX10_sets_38 : decode cX10_sets 38 = .ok (.iconst 0, 1) := by decide +kernel
theorem dX10_sets_39 : decode cX10_sets 39 = .ok (.istore 7, 2) := by decide +kernel
theorem dX10_sets_41 : decode cX10_sets 41 = .ok (.aload_n 0, 1) := by decide +kernel
theorem dX10_sets_42 : decode cX10_sets 42 = .ok (.getfield 7, 3) := by decide +kernel
theorem dX10_sets_45 : decode cX10_sets 45 = .ok (.iload 6, 2) := by decide +kernel
theorem dX10_sets_47 : decode cX10_sets 47 = .ok (.iload 4, 2) := by decide +kernel
theorem dX10_sets_49 : decode cX10_sets 49 = .ok (.iastore, 1) := by decide +kernel
theorem dX10_sets_50 : decode cX10_sets 50 = .ok (.aload_n 0, 1) := by decide +kernel
theorem dX10_sets_51 : decode cX10_sets 51 = .ok (.getfield 7, 3) := by decide +kernel
theorem dX10_sets_54 : decode cX10_sets 54 = .ok (.iload 6, 2) := by decide +kernel
theorem dX10_sets_56 : decode cX10_sets 56 = .ok (.iconst 1, 1) := by decide +kernel
theorem dX10_sets_57 : decode cX10_sets 57 = .ok (.iadd, 1) := by decide +kernel
theorem dX10_sets_58 : decode cX10_sets 58 = .ok (.iload 5, 2) := by decide +kernel
theorem dX10_sets_60 : decode cX10_sets 60 = .ok (.iastore, 1) := by decide +kernel
theorem dX10_sets_61 : decode cX10_sets 61 = .ok (.iload 7, 2) := by decide +kernel
theorem dX10_sets_63 : decode cX10_sets 63 = .ok (.ifCond .eq 7, 3) := by decide +kernel
theorem dX10_sets_66 : decode cX10_sets 66 = .ok (.iconst 1, 1) := by decide +kernel
theorem dX10_sets_67 : decode cX10_sets 67 = .ok (.goto 4, 3) := by decide +kernel
theorem dX10_sets_70 : decode cX10_sets 70 = .ok (.iconst 0, 1) := by decide +kernel
theorem dX10_sets_71 : decode cX10_sets 71 = .ok (.ireturn, 1) := by decide +kernel
theorem dX10_node_0 : decode cX10_node 0 = .ok (.aload_n 0, 1) := by decide +kernel
theorem dX10_node_1 : decode cX10_node 1 = .ok (.iconst 0, 1) := by decide +kernel
theorem dX10_node_2 : decode cX10_node 2 = .ok (.putfield 46, 3) := by decide +kernel
theorem dX10_node_5 : decode cX10_node 5 = .ok (.aload_n 0, 1) := by decide +kernel
theorem dX10_node_6 : decode cX10_node 6 = .ok (.iload_n 1, 1) := by decide +kernel
theorem dX10_node_7 : decode cX10_node 7 = .ok (.iload_n 2, 1) := by decide +kernel
theorem dX10_node_8 : decode cX10_node 8 = .ok (.iload_n 3, 1) := by decide +kernel
theorem dX10_node_9 : decode cX10_node 9 = .ok (.invokevirtual 179, 3) := by decide +kernel
theorem dX10_node_12 : decode cX10_node 12 = .ok (.ifCond .ne 6, 3) := by decide +kernel
theorem dX10_node_15 : decode cX10_node 15 = .ok (.ldc 170, 2) := by decide +kernel
theorem dX10_node_17 : decode cX10_node 17 = .ok (.ireturn, 1) := by decide +kernel
theorem dX10_node_18 : decode cX10_node 18 = .ok (.iload 4, 2) := by decide +kernel
theorem dX10_node_20 : decode cX10_node 20 = .ok (.iload 5, 2) := by decide +kernel
theorem dX10_node_22 : decode cX10_node 22 = .ok (.invokestatic 230, 3) := by decide +kernel
theorem dX10_node_25 : decode cX10_node 25 = .ok (.ifCond .ne 6, 3) := by decide +kernel
theorem dX10_node_28 : decode cX10_node 28 = .ok (.ldc 169, 2) := by decide +kernel
theorem dX10_node_30 : decode cX10_node 30 = .ok (.ireturn, 1) := by decide +kernel
theorem dX10_node_31 : decode cX10_node 31 = .ok (.aload_n 0, 1) := by decide +kernel
theorem dX10_node_32 : decode cX10_node 32 = .ok (.invokevirtual 223, 3) := by decide +kernel
theorem dX10_node_35 : decode cX10_node 35 = .ok (.aload_n 0, 1) := by decide +kernel
theorem dX10_node_36 : decode cX10_node 36 = .ok (.iload_n 1, 1) := by decide +kernel
theorem dX10_node_37 : decode cX10_node 37 = .ok (.iload_n 2, 1) := by decide +kernel
theorem dX10_node_38 : decode cX10_node 38 = .ok (.iload_n 3, 1) := by decide +kernel
theorem dX10_node_39 : decode cX10_node 39 = .ok (.iload 4, 2) := by decide +kernel
theorem dX10_node_41 : decode cX10_node 41 = .ok (.iload 5, 2) := by decide +kernel
theorem dX10_node_43 : decode cX10_node 43 = .ok (.invokevirtual 233, 3) := by decide +kernel
theorem dX10_node_46 : decode cX10_node 46 = .ok (.ireturn, 1) := by decide +kernel
theorem dX10_fill_0 : decode cX10_fill 0 = .ok (.aload_n 0, 1) := by decide +kernel
theorem dX10_fill_1 : decode cX10_fill 1 = .ok (.iconst 0, 1) := by decide +kernel
theorem dX10_fill_2 : decode cX10_fill 2 = .ok (.putfield 46, 3) := by decide +kernel
theorem dX10_fill_5 : decode cX10_fill 5 = .ok (.aload_n 0, 1) := by decide +kernel
theorem dX10_fill_6 : decode cX10_fill 6 = .ok (.iload_n 1, 1) := by decide +kernel
theorem dX10_fill_7 : decode cX10_fill 7 = .ok (.invokevirtual 54, 3) := by decide +kernel
theorem dX10_fill_10 : decode cX10_fill 10 = .ok (.ifCond .ne 6, 3) := by decide +kernel
theorem dX10_fill_13 : decode cX10_fill 13 = .ok (.ldc 170, 2) := by decide +kernel
theorem dX10_fill_15 : decode cX10_fill 15 = .ok (.ireturn, 1) := by decide +kernel
theorem dX10_fill_16 : decode cX10_fill 16 = .ok (.iload_n 2, 1) := by decide +kernel
theorem dX10_fill_17 : decode cX10_fill 17 = .ok (.iload_n 3, 1) := by decide +kernel
theorem dX10_fill_18 : decode cX10_fill 18 = .ok (.invokestatic 230, 3) := by decide +kernel
theorem dX10_fill_21 : decode cX10_fill 21 = .ok (.ifCond .ne 6, 3) := by decide +kernel
theorem dX10_fill_24 : decode cX10_fill 24 = .ok (.ldc 169, 2) := by decide +kernel
theorem dX10_fill_26 : decode cX10_fill 26 = .ok (.ireturn, 1) := by decide +kernel
theorem dX10_fill_27 : decode cX10_fill 27 = .ok (.aload_n 0, 1) := by decide +kernel
theorem dX10_fill_28 : decode cX10_fill 28 = .ok (.invokevirtual 223, 3) := by decide +kernel
theorem dX10_fill_31 : decode cX10_fill 31 = .ok (.iconst 0, 1) := by decide +kernel
theorem dX10_fill_32 : decode cX10_fill 32 = .ok (.istore 4, 2) := by decide +kernel
theorem dX10_fill_34 : decode cX10_fill 34 = .ok (.iconst 0, 1) := by decide +kernel
theorem dX10_fill_35 : decode cX10_fill 35 = .ok (.istore 5, 2) := by decide +kernel
theorem dX10_fill_37 : decode cX10_fill 37 = .ok (.iload 5, 2) := by decide +kernel
theorem dX10_fill_39 : decode cX10_fill 39 = .ok (.aload_n 0, 1) := by decide +kernel
theorem dX10_fill_40 : decode cX10_fill 40 = .ok (.iload_n 1, 1) := by decide +kernel
theorem dX10_fill_41 : decode cX10_fill 41 = .ok (.iconst 4, 1) := by decide +kernel
theorem dX10_fill_42 : decode cX10_fill 42 = .ok (.invokevirtual 58, 3) := by decide +kernel
theorem dX10_fill_45 : decode cX10_fill 45 = .ok (.aload_n 0, 1) := by decide +kernel
theorem dX10_fill_46 : decode cX10_fill 46 = .ok (.iload_n 1, 1) := by decide +kernel
theorem dX10_fill_47 : decode cX10_fill 47 = .ok (.iconst 5, 1) := by decide +kernel
theorem dX10_fill_48 : decode cX10_fill 48 = .ok (.invokevirtual 58, 3) := by decide +kernel
theorem dX10_fill_51 : decode cX10_fill 51 = .ok (.imul, 1) := by decide +kernel
theorem dX10_fill_52 : decode cX10_fill 52 = .ok (.if_icmp .ge 39, 3) := by decide +kernel
theorem dX10_fill_55 : decode cX10_fill 55 = .ok (.iload 4, 2) := by decide +kernel
theorem dX10_fill_57 : decode cX10_fill 57 = .ok (.aload_n 0, 1) := by decide +kernel
theorem dX10_fill_58 : decode cX10_fill 58 = .ok (.iload_n 1, 1) := by decide +kernel
theorem dX10_fill_59 : decode cX10_fill 59 = .ok (.iload 5, 2) := by decide +kernel
theorem dX10_fill_61 : decode cX10_fill 61 = .ok (.aload_n 0, 1) := by decide +kernel
theorem dX10_fill_62 : decode cX10_fill 62 = .ok (.iload_n 1, 1) := by decide +kernel
theorem dX10_fill_63 : decode cX10_fill 63 = .ok (.iconst 4, 1) := by decide +kernel
theorem dX10_fill_64 : decode cX10_fill 64 = .ok (.invokevirtual 58, 3) := by decide +kernel
theorem dX10_fill_67 : decode cX10_fill 67 = .ok (.irem, 1) := by decide +kernel
theorem dX10_fill_68 : decode cX10_fill 68 = .ok (.iload 5, 2) := by decide +kernel
theorem dX10_fill_70 : decode cX10_fill 70 = .ok (.aload_n 0, 1) := by decide +kernel
theorem dX10_fill_71 : decode cX10_fill 71 = .ok (.iload_n 1, 1) := by decide +kernel
theorem dX10_fill_72 : decode cX10_fill 72 = .ok (.iconst 4, 1) := by decide +kernel
theorem dX10_fill_73 : decode cX10_fill 73 = .ok (.invokevirtual 58, 3) := by decide +kernel
theorem dX10_fill_76 : decode cX10_fill 76 = .ok (.idiv, 1) := by decide +kernel
theorem dX10_fill_77 : decode cX10_fill 77 = .ok (.iload_n 2, 1) := by decide +kernel
theorem dX10_fill_78 : decode cX10_fill 78 = .ok (.iload_n 3, 1) := by decide +kernel
theorem dX10_fill_79 : decode cX10_fill 79 = .ok (.invokevirtual 233, 3) := by decide +kernel
theorem dX10_fill_82 : decode cX10_fill 82 = .ok (.iadd, 1) := by decide +kernel
theorem dX10_fill_83 : decode cX10_fill 83 = .ok (.istore 4, 2) := by decide +kernel
theorem dX10_fill_85 : decode cX10_fill 85 = .ok (.iinc 5 1, 3) := by decide +kernel
theorem dX10_fill_88 : decode cX10_fill 88 = .ok (.goto (-51), 3) := by decide +kernel
theorem dX10_fill_91 : decode cX10_fill 91 = .ok (.iload 4, 2) := by decide +kernel
theorem dX10_fill_93 : decode cX10_fill 93 = .ok (.ireturn, 1) := by decide +kernel
theorem dX10_fit_0 : decode cX10_fit 0 = .ok (.aload_n 0, 1) := by decide +kernel
theorem dX10_fit_1 : decode cX10_fit 1 = .ok (.iconst 0, 1) := by decide +kernel
theorem dX10_fit_2 : decode cX10_fit 2 = .ok (.putfield 46, 3) := by decide +kernel
theorem dX10_fit_5 : decode cX10_fit 5 = .ok (.aload_n 0, 1) := by decide +kernel
theorem dX10_fit_6 : decode cX10_fit 6 = .ok (.iload_n 1, 1) := by decide +kernel
theorem dX10_fit_7 : decode cX10_fit 7 = .ok (.invokevirtual 54, 3) := by decide +kernel
theorem dX10_fit_10 : decode cX10_fit 10 = .ok (.ifCond .ne 6, 3) := by decide +kernel
theorem dX10_fit_13 : decode cX10_fit 13 = .ok (.ldc 170, 2) := by decide +kernel
theorem dX10_fit_15 : decode cX10_fit 15 = .ok (.ireturn, 1) := by decide +kernel
theorem dX10_fit_16 : decode cX10_fit 16 = .ok (.aload_n 0, 1) := by decide +kernel
theorem dX10_fit_17 : decode cX10_fit 17 = .ok (.iload_n 1, 1) := by decide +kernel
theorem dX10_fit_18 : decode cX10_fit 18 = .ok (.iconst 0, 1) := by decide +kernel
theorem dX10_fit_19 : decode cX10_fit 19 = .ok (.invokevirtual 58, 3) := by decide +kernel
theorem dX10_fit_22 : decode cX10_fit 22 = .ok (.iconst (-1), 1) := by decide +kernel
theorem dX10_fit_23 : decode cX10_fit 23 = .ok (.if_icmp .ne 6, 3) := by decide +kernel
theorem dX10_fit_26 : decode cX10_fit 26 = .ok (.ldc 221, 2) := by decide +kernel
theorem dX10_fit_28 : decode cX10_fit 28 = .ok (.ireturn, 1) := by decide +kernel
theorem dX10_fit_29 : decode cX10_fit 29 = .ok (.aload_n 0, 1) := by decide +kernel
theorem dX10_fit_30 : decode cX10_fit 30 = .ok (.invokevirtual 223, 3) := by decide +kernel
theorem dX10_fit_33 : decode cX10_fit 33 = .ok (.iconst 0, 1) := by decide +kernel
theorem dX10_fit_34 : decode cX10_fit 34 = .ok (.istore_n 2, 1) := by decide +kernel
theorem dX10_fit_35 : decode cX10_fit 35 = .ok (.iconst 0, 1) := by decide +kernel
theorem dX10_fit_36 : decode cX10_fit 36 = .ok (.istore_n 3, 1) := by decide +kernel
theorem dX10_fit_37 : decode cX10_fit 37 = .ok (.iload_n 3, 1) := by decide +kernel
theorem dX10_fit_38 : decode cX10_fit 38 = .ok (.aload_n 0, 1) := by decide +kernel
theorem dX10_fit_39 : decode cX10_fit 39 = .ok (.iload_n 1, 1) := by decide +kernel
theorem dX10_fit_40 : decode cX10_fit 40 = .ok (.iconst 4, 1) := by decide +kernel
theorem dX10_fit_41 : decode cX10_fit 41 = .ok (.invokevirtual 58, 3) := by decide +kernel
theorem dX10_fit_44 : decode cX10_fit 44 = .ok (.aload_n 0, 1) := by decide +kernel
theorem dX10_fit_45 : decode cX10_fit 45 = .ok (.iload_n 1, 1) := by decide +kernel
theorem dX10_fit_46 : decode cX10_fit 46 = .ok (.iconst 5, 1) := by decide +kernel
theorem dX10_fit_47 : decode cX10_fit 47 = .ok (.invokevirtual 58, 3) := by decide +kernel
theorem dX10_fit_50 : decode cX10_fit 50 = .ok (.imul, 1) := by decide +kernel
theorem dX10_fit_51 : decode cX10_fit 51 = .ok (.if_icmp .ge 73, 3) := by decide +kernel
theorem dX10_fit_54 : decode cX10_fit 54 = .ok (.iload_n 3, 1) := by decide +kernel
theorem dX10_fit_55 : decode cX10_fit 55 = .ok (.aload_n 0, 1) := by decide +kernel
theorem dX10_fit_56 : decode cX10_fit 56 = .ok (.iload_n 1, 1) := by decide +kernel
theorem dX10_fit_57 : decode cX10_fit 57 = .ok (.iconst 4, 1) := by decide +kernel
theorem dX10_fit_58 : decode cX10_fit 58 = .ok (.invokevirtual 58, 3) := by decide +kernel
theorem dX10_fit_61 : decode cX10_fit 61 = .ok (.irem, 1) := by decide +kernel
theorem dX10_fit_62 : decode cX10_fit 62 = .ok (.istore 4, 2) := by decide +kernel
theorem dX10_fit_64 : decode cX10_fit 64 = .ok (.iload_n 3, 1) := by decide +kernel
theorem dX10_fit_65 : decode cX10_fit 65 = .ok (.aload_n 0, 1) := by decide +kernel
theorem dX10_fit_66 : decode cX10_fit 66 = .ok (.iload_n 1, 1) := by decide +kernel
theorem dX10_fit_67 : decode cX10_fit 67 = .ok (.iconst 4, 1) := by decide +kernel
theorem dX10_fit_68 : decode cX10_fit 68 = .ok (.invokevirtual 58, 3) := by decide +kernel
theorem dX10_fit_71 : decode cX10_fit 71 = .ok (.idiv, 1) := by decide +kernel
theorem dX10_fit_72 : decode cX10_fit 72 = .ok (.istore 5, 2) := by decide +kernel
theorem dX10_fit_74 : decode cX10_fit 74 = .ok (.aload_n 0, 1) := by decide +kernel
theorem dX10_fit_75 : decode cX10_fit 75 = .ok (.iload_n 1, 1) := by decide +kernel
theorem dX10_fit_76 : decode cX10_fit 76 = .ok (.iload 4, 2) := by decide +kernel
theorem dX10_fit_78 : decode cX10_fit 78 = .ok (.iload 5, 2) := by decide +kernel
theorem dX10_fit_80 : decode cX10_fit 80 = .ok (.invokevirtual 117, 3) := by decide +kernel
theorem dX10_fit_83 : decode cX10_fit 83 = .ok (.ifCond .eq 35, 3) := by decide +kernel
theorem dX10_fit_86 : decode cX10_fit 86 = .ok (.iload_n 2, 1) := by decide +kernel
theorem dX10_fit_87 : decode cX10_fit 87 = .ok (.aload_n 0, 1) := by decide +kernel
theorem dX10_fit_88 : decode cX10_fit 88 = .ok (.iload_n 1, 1) := by decide +kernel
theorem dX10_fit_89 : decode cX10_fit 89 = .ok (.iload 4, 2) := by decide +kernel
theorem dX10_fit_91 : decode cX10_fit 91 = .ok (.iload 5, 2) := by decide +kernel
theorem dX10_fit_93 : decode cX10_fit 93 = .ok (.aload_n 0, 1) := by decide +kernel
theorem dX10_fit_94 : decode cX10_fit 94 = .ok (.iload_n 1, 1) := by decide +kernel
theorem dX10_fit_95 : decode cX10_fit 95 = .ok (.iload 4, 2) := by decide +kernel
theorem dX10_fit_97 : decode cX10_fit 97 = .ok (.iload 5, 2) := by decide +kernel
theorem dX10_fit_99 : decode cX10_fit 99 = .ok (.iconst 0, 1) := by decide +kernel
theorem dX10_fit_100 : decode cX10_fit 100 = .ok (.invokevirtual 101, 3) := by decide +kernel
theorem dX10_fit_103 : decode cX10_fit 103 = .ok (.aload_n 0, 1) := by decide +kernel
theorem dX10_fit_104 : decode cX10_fit 104 = .ok (.iload_n 1, 1) := by decide +kernel
theorem dX10_fit_105 : decode cX10_fit 105 = .ok (.iload 4, 2) := by decide +kernel
theorem dX10_fit_107 : decode cX10_fit 107 = .ok (.iload 5, 2) := by decide +kernel
theorem dX10_fit_109 : decode cX10_fit 109 = .ok (.iconst 1, 1) := by decide +kernel
theorem dX10_fit_110 : decode cX10_fit 110 = .ok (.invokevirtual 101, 3) := by decide +kernel
theorem dX10_fit_113 : decode cX10_fit 113 = .ok (.invokevirtual 233, 3) := by decide +kernel
theorem dX10_fit_116 : decode cX10_fit 116 = .ok (.iadd, 1) := by decide +kernel
theorem dX10_fit_117 : decode cX10_fit 117 = .ok (.istore_n 2, 1) := by decide +kernel
theorem dX10_fit_118 : decode cX10_fit 118 = .ok (.iinc 3 1, 3) := by decide +kernel
theorem dX10_fit_121 : decode cX10_fit 121 = .ok (.goto (-84), 3) := by decide +kernel
theorem dX10_fit_124 : decode cX10_fit 124 = .ok (.iload_n 2, 1) := by decide +kernel
theorem dX10_fit_125 : decode cX10_fit 125 = .ok (.ireturn, 1) := by decide +kernel
theorem dX10_drop_0 : decode cX10_drop 0 = .ok (.aload_n 0, 1) := by decide +kernel
theorem dX10_drop_1 : decode cX10_drop 1 = .ok (.iconst 0, 1) := by decide +kernel
theorem dX10_drop_2 : decode cX10_drop 2 = .ok (.putfield 46, 3) := by decide +kernel
theorem dX10_drop_5 : decode cX10_drop 5 = .ok (.aload_n 0, 1) := by decide +kernel
theorem dX10_drop_6 : decode cX10_drop 6 = .ok (.iload_n 1, 1) := by decide +kernel
theorem dX10_drop_7 : decode cX10_drop 7 = .ok (.invokevirtual 54, 3) := by decide +kernel
theorem dX10_drop_10 : decode cX10_drop 10 = .ok (.ifCond .ne 6, 3) := by decide +kernel
theorem dX10_drop_13 : decode cX10_drop 13 = .ok (.ldc 170, 2) := by decide +kernel
theorem dX10_drop_15 : decode cX10_drop 15 = .ok (.ireturn, 1) := by decide +kernel
theorem dX10_drop_16 : decode cX10_drop 16 = .ok (.aload_n 0, 1) := by decide +kernel
theorem dX10_drop_17 : decode cX10_drop 17 = .ok (.iload_n 1, 1) := by decide +kernel
theorem dX10_drop_18 : decode cX10_drop 18 = .ok (.invokevirtual 173, 3) := by decide +kernel
theorem dX10_drop_21 : decode cX10_drop 21 = .ok (.ifCond .le 6, 3) := by decide +kernel
theorem dX10_drop_24 : decode cX10_drop 24 = .ok (.ldc 221, 2) := by decide +kernel
theorem dX10_drop_26 : decode cX10_drop 26 = .ok (.ireturn, 1) := by decide +kernel
theorem dX10_drop_27 : decode cX10_drop 27 = .ok (.aload_n 0, 1) := by decide +kernel
theorem dX10_drop_28 : decode cX10_drop 28 = .ok (.invokevirtual 223, 3) := by decide +kernel
theorem dX10_drop_31 : decode cX10_drop 31 = .ok (.aload_n 0, 1) := by decide +kernel
theorem dX10_drop_32 : decode cX10_drop 32 = .ok (.getfield 7, 3) := by decide +kernel
theorem dX10_drop_35 : decode cX10_drop 35 = .ok (.iconst 0, 1) := by decide +kernel
theorem dX10_drop_36 : decode cX10_drop 36 = .ok (.dup2, 1) := by decide +kernel
theorem dX10_drop_37 : decode cX10_drop 37 = .ok (.iaload, 1) := by decide +kernel
theorem dX10_drop_38 : decode cX10_drop 38 = .ok (.iconst 1, 1) := by decide +kernel
theorem dX10_drop_39 : decode cX10_drop 39 = .ok (.isub, 1) := by decide +kernel
theorem dX10_drop_40 : decode cX10_drop 40 = .ok (.iastore, 1) := by decide +kernel
theorem dX10_drop_41 : decode cX10_drop 41 = .ok (.iload_n 1, 1) := by decide +kernel
theorem dX10_drop_42 : decode cX10_drop 42 = .ok (.istore_n 2, 1) := by decide +kernel
theorem dX10_drop_43 : decode cX10_drop 43 = .ok (.iload_n 2, 1) := by decide +kernel
theorem dX10_drop_44 : decode cX10_drop 44 = .ok (.aload_n 0, 1) := by decide +kernel
theorem dX10_drop_45 : decode cX10_drop 45 = .ok (.getfield 7, 3) := by decide +kernel
theorem dX10_drop_48 : decode cX10_drop 48 = .ok (.iconst 0, 1) := by decide +kernel
theorem dX10_drop_49 : decode cX10_drop 49 = .ok (.iaload, 1) := by decide +kernel
theorem dX10_drop_50 : decode cX10_drop 50 = .ok (.if_icmp .ge 97, 3) := by decide +kernel
theorem dX10_drop_53 : decode cX10_drop 53 = .ok (.iconst 0, 1) := by decide +kernel
theorem dX10_drop_54 : decode cX10_drop 54 = .ok (.istore_n 3, 1) := by decide +kernel
theorem dX10_drop_55 : decode cX10_drop 55 = .ok (.iload_n 3, 1) := by decide +kernel
theorem dX10_drop_56 : decode cX10_drop 56 = .ok (.bipush 6, 2) := by decide +kernel
theorem dX10_drop_58 : decode cX10_drop 58 = .ok (.if_icmp .ge 38, 3) := by decide +kernel
theorem dX10_drop_61 : decode cX10_drop 61 = .ok (.aload_n 0, 1) := by decide +kernel
theorem dX10_drop_62 : decode cX10_drop 62 = .ok (.getfield 7, 3) := by decide +kernel
theorem dX10_drop_65 : decode cX10_drop 65 = .ok (.iconst 2, 1) := by decide +kernel
theorem dX10_drop_66 : decode cX10_drop 66 = .ok (.bipush 6, 2) := by decide +kernel
theorem dX10_drop_68 : decode cX10_drop 68 = .ok (.iload_n 2, 1) := by decide +kernel
theorem dX10_drop_69 : decode cX10_drop 69 = .ok (.imul, 1) := by decide +kernel
theorem dX10_drop_70 : decode cX10_drop 70 = .ok (.iadd, 1) := by decide +kernel
theorem dX10_drop_71 : decode cX10_drop 71 = .ok (.iload_n 3, 1) := by decide +kernel
theorem dX10_drop_72 : decode cX10_drop 72 = .ok (.iadd, 1) := by decide +kernel
theorem dX10_drop_73 : decode cX10_drop 73 = .ok (.aload_n 0, 1) := by decide +kernel
theorem dX10_drop_74 : decode cX10_drop 74 = .ok (.getfield 7, 3) := by decide +kernel
theorem dX10_drop_77 : decode cX10_drop 77 = .ok (.iconst 2, 1) := by decide +kernel
theorem dX10_drop_78 : decode cX10_drop 78 = .ok (.bipush 6, 2) := by decide +kernel
theorem dX10_drop_80 : decode cX10_drop 80 = .ok (.iload_n 2, 1) := by decide +kernel
theorem dX10_drop_81 : decode cX10_drop 81 = .ok (.imul, 1) := by decide +kernel
theorem dX10_drop_82 : decode cX10_drop 82 = .ok (.iadd, 1) := by decide +kernel
theorem dX10_drop_83 : decode cX10_drop 83 = .ok (.bipush 6, 2) := by decide +kernel
theorem dX10_drop_85 : decode cX10_drop 85 = .ok (.iadd, 1) := by decide +kernel
theorem dX10_drop_86 : decode cX10_drop 86 = .ok (.iload_n 3, 1) := by decide +kernel
theorem dX10_drop_87 : decode cX10_drop 87 = .ok (.iadd, 1) := by decide +kernel
theorem dX10_drop_88 : decode cX10_drop 88 = .ok (.iaload, 1) := by decide +kernel
theorem dX10_drop_89 : decode cX10_drop 89 = .ok (.iastore, 1) := by decide +kernel
theorem dX10_drop_90 : decode cX10_drop 90 = .ok (.iinc 3 1, 3) := by decide +kernel
theorem dX10_drop_93 : decode cX10_drop 93 = .ok (.goto (-38), 3) := by decide +kernel
theorem dX10_drop_96 : decode cX10_drop 96 = .ok (.iconst 0, 1) := by decide +kernel
theorem dX10_drop_97 : decode cX10_drop 97 = .ok (.istore_n 3, 1) := by decide +kernel
theorem dX10_drop_98 : decode cX10_drop 98 = .ok (.iload_n 3, 1) := by decide +kernel
theorem dX10_drop_99 : decode cX10_drop 99 = .ok (.bipush 50, 2) := by decide +kernel
theorem dX10_drop_101 : decode cX10_drop 101 = .ok (.if_icmp .ge 40, 3) := by decide +kernel
theorem dX10_drop_104 : decode cX10_drop 104 = .ok (.aload_n 0, 1) := by decide +kernel
theorem dX10_drop_105 : decode cX10_drop 105 = .ok (.getfield 7, 3) := by decide +kernel
theorem dX10_drop_108 : decode cX10_drop 108 = .ok (.bipush 38, 2) := by decide +kernel
theorem dX10_drop_110 : decode cX10_drop 110 = .ok (.bipush 50, 2) := by decide +kernel
theorem dX10_drop_112 : decode cX10_drop 112 = .ok (.iload_n 2, 1) := by decide +kernel
theorem dX10_drop_113 : decode cX10_drop 113 = .ok (.imul, 1) := by decide +kernel
theorem dX10_drop_114 : decode cX10_drop 114 = .ok (.iadd, 1) := by decide +kernel
theorem dX10_drop_115 : decode cX10_drop 115 = .ok (.iload_n 3, 1) := by decide +kernel
theorem dX10_drop_116 : decode cX10_drop 116 = .ok (.iadd, 1) := by decide +kernel
theorem dX10_drop_117 : decode cX10_drop 117 = .ok (.aload_n 0, 1) := by decide +kernel
theorem dX10_drop_118 : decode cX10_drop 118 = .ok (.getfield 7, 3) := by decide +kernel
theorem dX10_drop_121 : decode cX10_drop 121 = .ok (.bipush 38, 2) := by decide +kernel
theorem dX10_drop_123 : decode cX10_drop 123 = .ok (.bipush 50, 2) := by decide +kernel
theorem dX10_drop_125 : decode cX10_drop 125 = .ok (.iload_n 2, 1) := by decide +kernel
theorem dX10_drop_126 : decode cX10_drop 126 = .ok (.imul, 1) := by decide +kernel
theorem dX10_drop_127 : decode cX10_drop 127 = .ok (.iadd, 1) := by decide +kernel
theorem dX10_drop_128 : decode cX10_drop 128 = .ok (.bipush 50, 2) := by decide +kernel
theorem dX10_drop_130 : decode cX10_drop 130 = .ok (.iadd, 1) := by decide +kernel
theorem dX10_drop_131 : decode cX10_drop 131 = .ok (.iload_n 3, 1) := by decide +kernel
theorem dX10_drop_132 : decode cX10_drop 132 = .ok (.iadd, 1) := by decide +kernel
theorem dX10_drop_133 : decode cX10_drop 133 = .ok (.iaload, 1) := by decide +kernel
theorem dX10_drop_134 : decode cX10_drop 134 = .ok (.iastore, 1) := by decide +kernel
theorem dX10_drop_135 : decode cX10_drop 135 = .ok (.iinc 3 1, 3) := by decide +kernel
theorem dX10_drop_138 : decode cX10_drop 138 = .ok (.goto (-40), 3) := by decide +kernel
theorem dX10_drop_141 : decode cX10_drop 141 = .ok (.iinc 2 1, 3) := by decide +kernel
theorem dX10_drop_144 : decode cX10_drop 144 = .ok (.goto (-101), 3) := by decide +kernel
theorem dX10_drop_147 : decode cX10_drop 147 = .ok (.iconst 0, 1) := by decide +kernel
theorem dX10_drop_148 : decode cX10_drop 148 = .ok (.istore_n 2, 1) := by decide +kernel
theorem dX10_drop_149 : decode cX10_drop 149 = .ok (.iload_n 2, 1) := by decide +kernel
theorem dX10_drop_150 : decode cX10_drop 150 = .ok (.aload_n 0, 1) := by decide +kernel
theorem dX10_drop_151 : decode cX10_drop 151 = .ok (.getfield 7, 3) := by decide +kernel
theorem dX10_drop_154 : decode cX10_drop 154 = .ok (.iconst 0, 1) := by decide +kernel
theorem dX10_drop_155 : decode cX10_drop 155 = .ok (.iaload, 1) := by decide +kernel
theorem dX10_drop_156 : decode cX10_drop 156 = .ok (.if_icmp .ge 40, 3) := by decide +kernel
theorem dX10_drop_159 : decode cX10_drop 159 = .ok (.aload_n 0, 1) := by decide +kernel
theorem dX10_drop_160 : decode cX10_drop 160 = .ok (.getfield 7, 3) := by decide +kernel
theorem dX10_drop_163 : decode cX10_drop 163 = .ok (.iconst 2, 1) := by decide +kernel
theorem dX10_drop_164 : decode cX10_drop 164 = .ok (.bipush 6, 2) := by decide +kernel
theorem dX10_drop_166 : decode cX10_drop 166 = .ok (.iload_n 2, 1) := by decide +kernel
theorem dX10_drop_167 : decode cX10_drop 167 = .ok (.imul, 1) := by decide +kernel
theorem dX10_drop_168 : decode cX10_drop 168 = .ok (.iadd, 1) := by decide +kernel
theorem dX10_drop_169 : decode cX10_drop 169 = .ok (.iconst 0, 1) := by decide +kernel
theorem dX10_drop_170 : decode cX10_drop 170 = .ok (.iadd, 1) := by decide +kernel
theorem dX10_drop_171 : decode cX10_drop 171 = .ok (.dup2, 1) := by decide +kernel
theorem dX10_drop_172 : decode cX10_drop 172 = .ok (.iaload, 1) := by decide +kernel
theorem dX10_drop_173 : decode cX10_drop 173 = .ok (.aload_n 0, 1) := by decide +kernel
theorem dX10_drop_174 : decode cX10_drop 174 = .ok (.iload_n 2, 1) := by decide +kernel
theorem dX10_drop_175 : decode cX10_drop 175 = .ok (.iconst 0, 1) := by decide +kernel
theorem dX10_drop_176 : decode cX10_drop 176 = .ok (.invokevirtual 58, 3) := by decide +kernel
theorem dX10_drop_179 : decode cX10_drop 179 = .ok (.iload_n 1, 1) := by decide +kernel
theorem dX10_drop_180 : decode cX10_drop 180 = .ok (.if_icmp .le 7, 3) := by decide +kernel
theorem dX10_drop_183 : decode cX10_drop 183 = .ok (.iconst 1, 1) := by decide +kernel
theorem dX10_drop_184 : decode cX10_drop 184 = .ok (.goto 4, 3) := by decide +kernel
theorem dX10_drop_187 : decode cX10_drop 187 = .ok (.iconst 0, 1) := by decide +kernel
theorem dX10_drop_188 : decode cX10_drop 188 = .ok (.isub, 1) := by decide +kernel
theorem dX10_drop_189 : decode cX10_drop 189 = .ok (.iastore, 1) := by decide +kernel
theorem dX10_drop_190 : decode cX10_drop 190 = .ok (.iinc 2 1, 3) := by decide +kernel
theorem dX10_drop_193 : decode cX10_drop 193 = .ok (.goto (-44), 3) := by decide +kernel
theorem dX10_drop_196 : decode cX10_drop 196 = .ok (.aload_n 0, 1) := by decide +kernel
theorem dX10_drop_197 : decode cX10_drop 197 = .ok (.getfield 7, 3) := by decide +kernel
theorem dX10_drop_200 : decode cX10_drop 200 = .ok (.iconst 0, 1) := by decide +kernel
theorem dX10_drop_201 : decode cX10_drop 201 = .ok (.iaload, 1) := by decide +kernel
theorem dX10_drop_202 : decode cX10_drop 202 = .ok (.ireturn, 1) := by decide +kernel
theorem dX10_rule_0 : decode cX10_rule 0 = .ok (.aload_n 0, 1) := by decide +kernel
theorem dX10_rule_1 : decode cX10_rule 1 = .ok (.iconst 0, 1) := by decide +kernel
theorem dX10_rule_2 : decode cX10_rule 2 = .ok (.putfield 46, 3) := by decide +kernel
theorem dX10_rule_5 : decode cX10_rule 5 = .ok (.iload_n 1, 1) := by decide +kernel
theorem dX10_rule_6 : decode cX10_rule 6 = .ok (.i2l, 1) := by decide +kernel
theorem dX10_rule_7 : decode cX10_rule 7 = .ok (.lconst 0, 1) := by decide +kernel
theorem dX10_rule_8 : decode cX10_rule 8 = .ok (.ldc2_w 81, 3) := by decide +kernel
theorem dX10_rule_11 : decode cX10_rule 11 = .ok (.invokestatic 50, 3) := by decide +kernel
theorem dX10_rule_14 : decode cX10_rule 14 = .ok (.ifCond .ne 6, 3) := by decide +kernel
theorem dX10_rule_17 : decode cX10_rule 17 = .ok (.ldc 169, 2) := by decide +kernel
theorem dX10_rule_19 : decode cX10_rule 19 = .ok (.ireturn, 1) := by decide +kernel
theorem dX10_rule_20 : decode cX10_rule 20 = .ok (.aload_n 0, 1) := by decide +kernel
theorem dX10_rule_21 : decode cX10_rule 21 = .ok (.invokevirtual 223, 3) := by decide +kernel
theorem dX10_rule_24 : decode cX10_rule 24 = .ok (.aload_n 0, 1) := by decide +kernel
theorem dX10_rule_25 : decode cX10_rule 25 = .ok (.getfield 7, 3) := by decide +kernel
theorem dX10_rule_28 : decode cX10_rule 28 = .ok (.iconst 1, 1) := by decide +kernel
theorem dX10_rule_29 : decode cX10_rule 29 = .ok (.iaload, 1) := by decide +kernel
theorem dX10_rule_30 : decode cX10_rule 30 = .ok (.istore_n 2, 1) := by decide +kernel
theorem dX10_rule_31 : decode cX10_rule 31 = .ok (.aload_n 0, 1) := by decide +kernel
theorem dX10_rule_32 : decode cX10_rule 32 = .ok (.getfield 7, 3) := by decide +kernel
theorem dX10_rule_35 : decode cX10_rule 35 = .ok (.iconst 1, 1) := by decide +kernel
theorem dX10_rule_36 : decode cX10_rule 36 = .ok (.iload_n 1, 1) := by decide +kernel
theorem dX10_rule_37 : decode cX10_rule 37 = .ok (.iastore, 1) := by decide +kernel
theorem dX10_rule_38 : decode cX10_rule 38 = .ok (.iload_n 2, 1) := by decide +kernel
theorem dX10_rule_39 : decode cX10_rule 39 = .ok (.ireturn, 1) := by decide +kernel
theorem dX10_draw_0 : decode cX10_draw 0 = .ok (.aload_n 0, 1) := by decide +kernel
theorem dX10_draw_1 : decode cX10_draw 1 = .ok (.aload_n 0, 1) := by decide +kernel
theorem dX10_draw_2 : decode cX10_draw 2 = .ok (.getfield 42, 3) := by decide +kernel
theorem dX10_draw_5 : decode cX10_draw 5 = .ok (.ldc2_w 237, 3) := by decide +kernel
theorem dX10_draw_8 : decode cX10_draw 8 = .ok (.lmul, 1) := by decide +kernel
theorem dX10_draw_9 : decode cX10_draw 9 = .ok (.ldc2_w 239, 3) := by decide +kernel
theorem dX10_draw_12 : decode cX10_draw 12 = .ok (.ladd, 1) := by decide +kernel
theorem dX10_draw_13 : decode cX10_draw 13 = .ok (.ldc2_w 241, 3) := by decide +kernel
theorem dX10_draw_16 : decode cX10_draw 16 = .ok (.land, 1) := by decide +kernel
theorem dX10_draw_17 : decode cX10_draw 17 = .ok (.putfield 42, 3) := by decide +kernel
theorem dX10_draw_20 : decode cX10_draw 20 = .ok (.aload_n 0, 1) := by decide +kernel
theorem dX10_draw_21 : decode cX10_draw 21 = .ok (.getfield 42, 3) := by decide +kernel
theorem dX10_draw_24 : decode cX10_draw 24 = .ok (.ldc2_w 243, 3) := by decide +kernel
theorem dX10_draw_27 : decode cX10_draw 27 = .ok (.ldiv, 1) := by decide +kernel
theorem dX10_draw_28 : decode cX10_draw 28 = .ok (.iload_n 1, 1) := by decide +kernel
theorem dX10_draw_29 : decode cX10_draw 29 = .ok (.i2l, 1) := by decide +kernel
theorem dX10_draw_30 : decode cX10_draw 30 = .ok (.lrem, 1) := by decide +kernel
theorem dX10_draw_31 : decode cX10_draw 31 = .ok (.l2i, 1) := by decide +kernel
theorem dX10_draw_32 : decode cX10_draw 32 = .ok (.ireturn, 1) := by decide +kernel
theorem dX10_drift_0 : decode cX10_drift 0 = .ok (.aload_n 0, 1) := by decide +kernel
theorem dX10_drift_1 : decode cX10_drift 1 = .ok (.iconst 0, 1) := by decide +kernel
theorem dX10_drift_2 : decode cX10_drift 2 = .ok (.putfield 46, 3) := by decide +kernel
theorem dX10_drift_5 : decode cX10_drift 5 = .ok (.iload_n 1, 1) := by decide +kernel
theorem dX10_drift_6 : decode cX10_drift 6 = .ok (.i2l, 1) := by decide +kernel
theorem dX10_drift_7 : decode cX10_drift 7 = .ok (.lconst 1, 1) := by decide +kernel
theorem dX10_drift_8 : decode cX10_drift 8 = .ok (.ldc2_w 245, 3) := by decide +kernel
theorem dX10_drift_11 : decode cX10_drift 11 = .ok (.invokestatic 50, 3) := by decide +kernel
theorem dX10_drift_14 : decode cX10_drift 14 = .ok (.ifCond .ne 6, 3) := by decide +kernel
theorem dX10_drift_17 : decode cX10_drift 17 = .ok (.ldc 169, 2) := by decide +kernel
theorem dX10_drift_19 : decode cX10_drift 19 = .ok (.ireturn, 1) := by decide +kernel
theorem dX10_drift_20 : decode cX10_drift 20 = .ok (.aload_n 0, 1) := by decide +kernel
theorem dX10_drift_21 : decode cX10_drift 21 = .ok (.getfield 7, 3) := by decide +kernel
theorem dX10_drift_24 : decode cX10_drift 24 = .ok (.iconst 0, 1) := by decide +kernel
theorem dX10_drift_25 : decode cX10_drift 25 = .ok (.iaload, 1) := by decide +kernel
theorem dX10_drift_26 : decode cX10_drift 26 = .ok (.ifCond .ne 6, 3) := by decide +kernel
theorem dX10_drift_29 : decode cX10_drift 29 = .ok (.ldc 221, 2) := by decide +kernel
theorem dX10_drift_31 : decode cX10_drift 31 = .ok (.ireturn, 1) := by decide +kernel
theorem dX10_drift_32 : decode cX10_drift 32 = .ok (.iconst 0, 1) := by decide +kernel
theorem dX10_drift_33 : decode cX10_drift 33 = .ok (.istore_n 2, 1) := by decide +kernel
theorem dX10_drift_34 : decode cX10_drift 34 = .ok (.iload_n 2, 1) := by decide +kernel
theorem dX10_drift_35 : decode cX10_drift 35 = .ok (.iload_n 1, 1) := by decide +kernel
theorem dX10_drift_36 : decode cX10_drift 36 = .ok (.if_icmp .ge 84, 3) := by decide +kernel
theorem dX10_drift_39 : decode cX10_drift 39 = .ok (.aload_n 0, 1) := by decide +kernel
theorem dX10_drift_40 : decode cX10_drift 40 = .ok (.invokevirtual 223, 3) := by decide +kernel
theorem dX10_drift_43 : decode cX10_drift 43 = .ok (.aload_n 0, 1) := by decide +kernel
theorem dX10_drift_44 : decode cX10_drift 44 = .ok (.aload_n 0, 1) := by decide +kernel
theorem dX10_drift_45 : decode cX10_drift 45 = .ok (.getfield 7, 3) := by decide +kernel
theorem dX10_drift_48 : decode cX10_drift 48 = .ok (.iconst 0, 1) := by decide +kernel
theorem dX10_drift_49 : decode cX10_drift 49 = .ok (.iaload, 1) := by decide +kernel
theorem dX10_drift_50 : decode cX10_drift 50 = .ok (.invokevirtual 247, 3) := by decide +kernel
theorem dX10_drift_53 : decode cX10_drift 53 = .ok (.istore_n 3, 1) := by decide +kernel
theorem dX10_drift_54 : decode cX10_drift 54 = .ok (.aload_n 0, 1) := by decide +kernel
theorem dX10_drift_55 : decode cX10_drift 55 = .ok (.aload_n 0, 1) := by decide +kernel
theorem dX10_drift_56 : decode cX10_drift 56 = .ok (.iload_n 3, 1) := by decide +kernel
theorem dX10_drift_57 : decode cX10_drift 57 = .ok (.iconst 4, 1) := by decide +kernel
theorem dX10_drift_58 : decode cX10_drift 58 = .ok (.invokevirtual 58, 3) := by decide +kernel
theorem dX10_drift_61 : decode cX10_drift 61 = .ok (.invokevirtual 247, 3) := by decide +kernel
theorem dX10_drift_64 : decode cX10_drift 64 = .ok (.istore 4, 2) := by decide +kernel
theorem dX10_drift_66 : decode cX10_drift 66 = .ok (.aload_n 0, 1) := by decide +kernel
theorem dX10_drift_67 : decode cX10_drift 67 = .ok (.aload_n 0, 1) := by decide +kernel
theorem dX10_drift_68 : decode cX10_drift 68 = .ok (.iload_n 3, 1) := by decide +kernel
theorem dX10_drift_69 : decode cX10_drift 69 = .ok (.iconst 5, 1) := by decide +kernel
theorem dX10_drift_70 : decode cX10_drift 70 = .ok (.invokevirtual 58, 3) := by decide +kernel
theorem dX10_drift_73 : decode cX10_drift 73 = .ok (.invokevirtual 247, 3) := by decide +kernel
theorem dX10_drift_76 : decode cX10_drift 76 = .ok (.istore 5, 2) := by decide +kernel
theorem dX10_drift_78 : decode cX10_drift 78 = .ok (.aload_n 0, 1) := by decide +kernel
theorem dX10_drift_79 : decode cX10_drift 79 = .ok (.sipush 401, 3) := by decide +kernel
theorem dX10_drift_82 : decode cX10_drift 82 = .ok (.invokevirtual 247, 3) := by decide +kernel
theorem dX10_drift_85 : decode cX10_drift 85 = .ok (.sipush 200, 3) := by decide +kernel
theorem dX10_drift_88 : decode cX10_drift 88 = .ok (.isub, 1) := by decide +kernel
theorem dX10_drift_89 : decode cX10_drift 89 = .ok (.istore 6, 2) := by decide +kernel
theorem dX10_drift_91 : decode cX10_drift 91 = .ok (.aload_n 0, 1) := by decide +kernel
theorem dX10_drift_92 : decode cX10_drift 92 = .ok (.iload_n 3, 1) := by decide +kernel
theorem dX10_drift_93 : decode cX10_drift 93 = .ok (.iload 4, 2) := by decide +kernel
theorem dX10_drift_95 : decode cX10_drift 95 = .ok (.iload 5, 2) := by decide +kernel
theorem dX10_drift_97 : decode cX10_drift 97 = .ok (.iload 6, 2) := by decide +kernel
theorem dX10_drift_99 : decode cX10_drift 99 = .ok (.aload_n 0, 1) := by decide +kernel
theorem dX10_drift_100 : decode cX10_drift 100 = .ok (.sipush 401, 3) := by decide +kernel
theorem dX10_drift_103 : decode cX10_drift 103 = .ok (.invokevirtual 247, 3) := by decide +kernel
theorem dX10_drift_106 : decode cX10_drift 106 = .ok (.sipush 200, 3) := by decide +kernel
theorem dX10_drift_109 : decode cX10_drift 109 = .ok (.isub, 1) := by decide +kernel
theorem dX10_drift_110 : decode cX10_drift 110 = .ok (.invokevirtual 233, 3) := by decide +kernel
theorem dX10_drift_113 : decode cX10_drift 113 = .ok (.pop, 1) := by decide +kernel
theorem dX10_drift_114 : decode cX10_drift 114 = .ok (.iinc 2 1, 3) := by decide +kernel
theorem dX10_drift_117 : decode cX10_drift 117 = .ok (.goto (-83), 3) := by decide +kernel
theorem dX10_drift_120 : decode cX10_drift 120 = .ok (.aload_n 0, 1) := by decide +kernel
theorem dX10_drift_121 : decode cX10_drift 121 = .ok (.invokevirtual 156, 3) := by decide +kernel
theorem dX10_drift_124 : decode cX10_drift 124 = .ok (.ireturn, 1) := by decide +kernel
theorem dX10_undo_0 : decode cX10_undo 0 = .ok (.aload_n 0, 1) := by decide +kernel
theorem dX10_undo_1 : decode cX10_undo 1 = .ok (.iconst 0, 1) := by decide +kernel
theorem dX10_undo_2 : decode cX10_undo 2 = .ok (.putfield 46, 3) := by decide +kernel
theorem dX10_undo_5 : decode cX10_undo 5 = .ok (.iload_n 1, 1) := by decide +kernel
theorem dX10_undo_6 : decode cX10_undo 6 = .ok (.i2l, 1) := by decide +kernel
theorem dX10_undo_7 : decode cX10_undo 7 = .ok (.lconst 1, 1) := by decide +kernel
theorem dX10_undo_8 : decode cX10_undo 8 = .ok (.ldc2_w 250, 3) := by decide +kernel
theorem dX10_undo_11 : decode cX10_undo 11 = .ok (.invokestatic 50, 3) := by decide +kernel
theorem dX10_undo_14 : decode cX10_undo 14 = .ok (.ifCond .ne 6, 3) := by decide +kernel
theorem dX10_undo_17 : decode cX10_undo 17 = .ok (.ldc 169, 2) := by decide +kernel
theorem dX10_undo_19 : decode cX10_undo 19 = .ok (.ireturn, 1) := by decide +kernel
theorem dX10_undo_20 : decode cX10_undo 20 = .ok (.iload_n 1, 1) := by decide +kernel
theorem dX10_undo_21 : decode cX10_undo 21 = .ok (.aload_n 0, 1) := by decide +kernel
theorem dX10_undo_22 : decode cX10_undo 22 = .ok (.getfield 166, 3) := by decide +kernel
theorem dX10_undo_25 : decode cX10_undo 25 = .ok (.if_icmp .le 6, 3) := by decide +kernel
theorem dX10_undo_28 : decode cX10_undo 28 = .ok (.ldc 221, 2) := by decide +kernel
theorem dX10_undo_30 : decode cX10_undo 30 = .ok (.ireturn, 1) := by decide +kernel
theorem dX10_undo_31 : decode cX10_undo 31 = .ok (.aload_n 0, 1) := by decide +kernel
theorem dX10_undo_32 : decode cX10_undo 32 = .ok (.dup, 1) := by decide +kernel
theorem dX10_undo_33 : decode cX10_undo 33 = .ok (.getfield 166, 3) := by decide +kernel
theorem dX10_undo_36 : decode cX10_undo 36 = .ok (.iload_n 1, 1) := by decide +kernel
theorem dX10_undo_37 : decode cX10_undo 37 = .ok (.isub, 1) := by decide +kernel
theorem dX10_undo_38 : decode cX10_undo 38 = .ok (.putfield 166, 3) := by decide +kernel
theorem dX10_undo_41 : decode cX10_undo 41 = .ok (.iconst 0, 1) := by decide +kernel
theorem dX10_undo_42 : decode cX10_undo 42 = .ok (.istore_n 2, 1) := by decide +kernel
theorem dX10_undo_43 : decode cX10_undo 43 = .ok (.iload_n 2, 1) := by decide +kernel
theorem dX10_undo_44 : decode cX10_undo 44 = .ok (.sipush 338, 3) := by decide +kernel
theorem dX10_undo_47 : decode cX10_undo 47 = .ok (.if_icmp .ge 30, 3) := by decide +kernel
theorem dX10_undo_50 : decode cX10_undo 50 = .ok (.aload_n 0, 1) := by decide +kernel
theorem dX10_undo_51 : decode cX10_undo 51 = .ok (.getfield 7, 3) := by decide +kernel
theorem dX10_undo_54 : decode cX10_undo 54 = .ok (.iload_n 2, 1) := by decide +kernel
theorem dX10_undo_55 : decode cX10_undo 55 = .ok (.aload_n 0, 1) := by decide +kernel
theorem dX10_undo_56 : decode cX10_undo 56 = .ok (.getfield 13, 3) := by decide +kernel
theorem dX10_undo_59 : decode cX10_undo 59 = .ok (.sipush 338, 3) := by decide +kernel
theorem dX10_undo_62 : decode cX10_undo 62 = .ok (.aload_n 0, 1) := by decide +kernel
theorem dX10_undo_63 : decode cX10_undo 63 = .ok (.getfield 166, 3) := by decide +kernel
theorem dX10_undo_66 : decode cX10_undo 66 = .ok (.imul, 1) := by decide +kernel
theorem dX10_undo_67 : decode cX10_undo 67 = .ok (.iload_n 2, 1) := by decide +kernel
theorem dX10_undo_68 : decode cX10_undo 68 = .ok (.iadd, 1) := by decide +kernel
theorem dX10_undo_69 : decode cX10_undo 69 = .ok (.iaload, 1) := by decide +kernel
theorem dX10_undo_70 : decode cX10_undo 70 = .ok (.iastore, 1) := by decide +kernel
theorem dX10_undo_71 : decode cX10_undo 71 = .ok (.iinc 2 1, 3) := by decide +kernel
theorem dX10_undo_74 : decode cX10_undo 74 = .ok (.goto (-31), 3) := by decide +kernel
theorem dX10_undo_77 : decode cX10_undo 77 = .ok (.aload_n 0, 1) := by decide +kernel
theorem dX10_undo_78 : decode cX10_undo 78 = .ok (.getfield 166, 3) := by decide +kernel
theorem dX10_undo_81 : decode cX10_undo 81 = .ok (.ireturn, 1) := by decide +kernel
theorem dX10_write_0 : decode cX10_write 0 = .ok (.aload_n 0, 1) := by decide +kernel
theorem dX10_write_1 : decode cX10_write 1 = .ok (.iconst 0, 1) := by decide +kernel
theorem dX10_write_2 : decode cX10_write 2 = .ok (.putfield 46, 3) := by decide +kernel
theorem dX10_write_5 : decode cX10_write 5 = .ok (.iload_n 1, 1) := by decide +kernel
theorem dX10_write_6 : decode cX10_write 6 = .ok (.iload_n 2, 1) := by decide +kernel
theorem dX10_write_7 : decode cX10_write 7 = .ok (.invokestatic 196, 3) := by decide +kernel
theorem dX10_write_10 : decode cX10_write 10 = .ok (.ifCond .ne 6, 3) := by decide +kernel
theorem dX10_write_13 : decode cX10_write 13 = .ok (.ldc 169, 2) := by decide +kernel
theorem dX10_write_15 : decode cX10_write 15 = .ok (.ireturn, 1) := by decide +kernel
theorem dX10_write_16 : decode cX10_write 16 = .ok (.aload_n 0, 1) := by decide +kernel
theorem dX10_write_17 : decode cX10_write 17 = .ok (.getfield 142, 3) := by decide +kernel
theorem dX10_write_20 : decode cX10_write 20 = .ok (.bipush 20, 2) := by decide +kernel
theorem dX10_write_22 : decode cX10_write 22 = .ok (.if_icmp .ne 6, 3) := by decide +kernel
theorem dX10_write_25 : decode cX10_write 25 = .ok (.ldc 222, 2) := by decide +kernel
theorem dX10_write_27 : decode cX10_write 27 = .ok (.ireturn, 1) := by decide +kernel
theorem dX10_write_28 : decode cX10_write 28 = .ok (.aload_n 0, 1) := by decide +kernel
theorem dX10_write_29 : decode cX10_write 29 = .ok (.getfield 27, 3) := by decide +kernel
theorem dX10_write_32 : decode cX10_write 32 = .ok (.aload_n 0, 1) := by decide +kernel
theorem dX10_write_33 : decode cX10_write 33 = .ok (.getfield 142, 3) := by decide +kernel
theorem dX10_write_36 : decode cX10_write 36 = .ok (.iload_n 1, 1) := by decide +kernel
theorem dX10_write_37 : decode cX10_write 37 = .ok (.iastore, 1) := by decide +kernel
theorem dX10_write_38 : decode cX10_write 38 = .ok (.aload_n 0, 1) := by decide +kernel
theorem dX10_write_39 : decode cX10_write 39 = .ok (.getfield 30, 3) := by decide +kernel
theorem dX10_write_42 : decode cX10_write 42 = .ok (.aload_n 0, 1) := by decide +kernel
theorem dX10_write_43 : decode cX10_write 43 = .ok (.getfield 142, 3) := by decide +kernel
theorem dX10_write_46 : decode cX10_write 46 = .ok (.iload_n 2, 1) := by decide +kernel
theorem dX10_write_47 : decode cX10_write 47 = .ok (.iastore, 1) := by decide +kernel
theorem dX10_write_48 : decode cX10_write 48 = .ok (.aload_n 0, 1) := by decide +kernel
theorem dX10_write_49 : decode cX10_write 49 = .ok (.getfield 33, 3) := by decide +kernel
theorem dX10_write_52 : decode cX10_write 52 = .ok (.aload_n 0, 1) := by decide +kernel
theorem dX10_write_53 : decode cX10_write 53 = .ok (.getfield 142, 3) := by decide +kernel
theorem dX10_write_56 : decode cX10_write 56 = .ok (.iload_n 3, 1) := by decide +kernel
theorem dX10_write_57 : decode cX10_write 57 = .ok (.iastore, 1) := by decide +kernel
theorem dX10_write_58 : decode cX10_write 58 = .ok (.aload_n 0, 1) := by decide +kernel
theorem dX10_write_59 : decode cX10_write 59 = .ok (.dup, 1) := by decide +kernel
theorem dX10_write_60 : decode cX10_write 60 = .ok (.getfield 142, 3) := by decide +kernel
theorem dX10_write_63 : decode cX10_write 63 = .ok (.iconst 1, 1) := by decide +kernel
theorem dX10_write_64 : decode cX10_write 64 = .ok (.iadd, 1) := by decide +kernel
theorem dX10_write_65 : decode cX10_write 65 = .ok (.putfield 142, 3) := by decide +kernel
theorem dX10_write_68 : decode cX10_write 68 = .ok (.aload_n 0, 1) := by decide +kernel
theorem dX10_write_69 : decode cX10_write 69 = .ok (.getfield 142, 3) := by decide +kernel
theorem dX10_write_72 : decode cX10_write 72 = .ok (.ireturn, 1) := by decide +kernel
theorem dX10_tear_0 : decode cX10_tear 0 = .ok (.aload_n 0, 1) := by decide +kernel
theorem dX10_tear_1 : decode cX10_tear 1 = .ok (.iconst 0, 1) := by decide +kernel
theorem dX10_tear_2 : decode cX10_tear 2 = .ok (.putfield 46, 3) := by decide +kernel
theorem dX10_tear_5 : decode cX10_tear 5 = .ok (.aload_n 0, 1) := by decide +kernel
theorem dX10_tear_6 : decode cX10_tear 6 = .ok (.getfield 142, 3) := by decide +kernel
theorem dX10_tear_9 : decode cX10_tear 9 = .ok (.istore_n 1, 1) := by decide +kernel
theorem dX10_tear_10 : decode cX10_tear 10 = .ok (.aload_n 0, 1) := by decide +kernel
theorem dX10_tear_11 : decode cX10_tear 11 = .ok (.iconst 0, 1) := by decide +kernel
theorem dX10_tear_12 : decode cX10_tear 12 = .ok (.putfield 142, 3) := by decide +kernel
theorem dX10_tear_15 : decode cX10_tear 15 = .ok (.iload_n 1, 1) := by decide +kernel
theorem dX10_tear_16 : decode cX10_tear 16 = .ok (.ireturn, 1) := by decide +kernel
theorem dX10_seed_0 : decode cX10_seed 0 = .ok (.aload_n 0, 1) := by decide +kernel
theorem dX10_seed_1 : decode cX10_seed 1 = .ok (.iconst 0, 1) := by decide +kernel
theorem dX10_seed_2 : decode cX10_seed 2 = .ok (.putfield 46, 3) := by decide +kernel
theorem dX10_seed_5 : decode cX10_seed 5 = .ok (.iload_n 1, 1) := by decide +kernel
theorem dX10_seed_6 : decode cX10_seed 6 = .ok (.ifCond .ge 6, 3) := by decide +kernel
theorem dX10_seed_9 : decode cX10_seed 9 = .ok (.ldc 169, 2) := by decide +kernel
theorem dX10_seed_11 : decode cX10_seed 11 = .ok (.ireturn, 1) := by decide +kernel
theorem dX10_seed_12 : decode cX10_seed 12 = .ok (.aload_n 0, 1) := by decide +kernel
theorem dX10_seed_13 : decode cX10_seed 13 = .ok (.getfield 42, 3) := by decide +kernel
theorem dX10_seed_16 : decode cX10_seed 16 = .ok (.l2i, 1) := by decide +kernel
theorem dX10_seed_17 : decode cX10_seed 17 = .ok (.istore_n 2, 1) := by decide +kernel
theorem dX10_seed_18 : decode cX10_seed 18 = .ok (.aload_n 0, 1) := by decide +kernel
theorem dX10_seed_19 : decode cX10_seed 19 = .ok (.iload_n 1, 1) := by decide +kernel
theorem dX10_seed_20 : decode cX10_seed 20 = .ok (.i2l, 1) := by decide +kernel
theorem dX10_seed_21 : decode cX10_seed 21 = .ok (.putfield 42, 3) := by decide +kernel
theorem dX10_seed_24 : decode cX10_seed 24 = .ok (.iload_n 2, 1) := by decide +kernel
theorem dX10_seed_25 : decode cX10_seed 25 = .ok (.ireturn, 1) := by decide +kernel
theorem dX10_keep_0 : decode cX10_keep 0 = .ok (.aload_n 0, 1) := by decide +kernel
theorem dX10_keep_1 : decode cX10_keep 1 = .ok (.iconst 0, 1) := by decide +kernel
theorem dX10_keep_2 : decode cX10_keep 2 = .ok (.putfield 46, 3) := by decide +kernel
theorem dX10_keep_5 : decode cX10_keep 5 = .ok (.iload_n 1, 1) := by decide +kernel
theorem dX10_keep_6 : decode cX10_keep 6 = .ok (.i2l, 1) := by decide +kernel
theorem dX10_keep_7 : decode cX10_keep 7 = .ok (.lconst 0, 1) := by decide +kernel
theorem dX10_keep_8 : decode cX10_keep 8 = .ok (.lconst 1, 1) := by decide +kernel
theorem dX10_keep_9 : decode cX10_keep 9 = .ok (.invokestatic 50, 3) := by decide +kernel
theorem dX10_keep_12 : decode cX10_keep 12 = .ok (.ifCond .ne 6, 3) := by decide +kernel
theorem dX10_keep_15 : decode cX10_keep 15 = .ok (.ldc 170, 2) := by decide +kernel
theorem dX10_keep_17 : decode cX10_keep 17 = .ok (.ireturn, 1) := by decide +kernel
theorem dX10_keep_18 : decode cX10_keep 18 = .ok (.iconst 0, 1) := by decide +kernel
theorem dX10_keep_19 : decode cX10_keep 19 = .ok (.istore_n 2, 1) := by decide +kernel
theorem dX10_keep_20 : decode cX10_keep 20 = .ok (.iload_n 2, 1) := by decide +kernel
theorem dX10_keep_21 : decode cX10_keep 21 = .ok (.sipush 338, 3) := by decide +kernel
theorem dX10_keep_24 : decode cX10_keep 24 = .ok (.if_icmp .ge 27, 3) := by decide +kernel
theorem dX10_keep_27 : decode cX10_keep 27 = .ok (.aload_n 0, 1) := by decide +kernel
theorem dX10_keep_28 : decode cX10_keep 28 = .ok (.getfield 16, 3) := by decide +kernel
theorem dX10_keep_31 : decode cX10_keep 31 = .ok (.sipush 338, 3) := by decide +kernel
theorem dX10_keep_34 : decode cX10_keep 34 = .ok (.iload_n 1, 1) := by decide +kernel
theorem dX10_keep_35 : decode cX10_keep 35 = .ok (.imul, 1) := by decide +kernel
theorem dX10_keep_36 : decode cX10_keep 36 = .ok (.iload_n 2, 1) := by decide +kernel
theorem dX10_keep_37 : decode cX10_keep 37 = .ok (.iadd, 1) := by decide +kernel
theorem dX10_keep_38 : decode cX10_keep 38 = .ok (.aload_n 0, 1) := by decide +kernel
theorem dX10_keep_39 : decode cX10_keep 39 = .ok (.getfield 7, 3) := by decide +kernel
theorem dX10_keep_42 : decode cX10_keep 42 = .ok (.iload_n 2, 1) := by decide +kernel
theorem dX10_keep_43 : decode cX10_keep 43 = .ok (.iaload, 1) := by decide +kernel
theorem dX10_keep_44 : decode cX10_keep 44 = .ok (.iastore, 1) := by decide +kernel
theorem dX10_keep_45 : decode cX10_keep 45 = .ok (.iinc 2 1, 3) := by decide +kernel
theorem dX10_keep_48 : decode cX10_keep 48 = .ok (.goto (-28), 3) := by decide +kernel
theorem dX10_keep_51 : decode cX10_keep 51 = .ok (.aload_n 0, 1) := by decide +kernel
theorem dX10_keep_52 : decode cX10_keep 52 = .ok (.getfield 23, 3) := by decide +kernel
theorem dX10_keep_55 : decode cX10_keep 55 = .ok (.iload_n 1, 1) := by decide +kernel
theorem dX10_keep_56 : decode cX10_keep 56 = .ok (.aload_n 0, 1) := by decide +kernel
theorem dX10_keep_57 : decode cX10_keep 57 = .ok (.getfield 42, 3) := by decide +kernel
theorem dX10_keep_60 : decode cX10_keep 60 = .ok (.lastore, 1) := by decide +kernel
theorem dX10_keep_61 : decode cX10_keep 61 = .ok (.aload_n 0, 1) := by decide +kernel
theorem dX10_keep_62 : decode cX10_keep 62 = .ok (.getfield 19, 3) := by decide +kernel
theorem dX10_keep_65 : decode cX10_keep 65 = .ok (.iload_n 1, 1) := by decide +kernel
theorem dX10_keep_66 : decode cX10_keep 66 = .ok (.iconst 1, 1) := by decide +kernel
theorem dX10_keep_67 : decode cX10_keep 67 = .ok (.bastore, 1) := by decide +kernel
theorem dX10_keep_68 : decode cX10_keep 68 = .ok (.aload_n 0, 1) := by decide +kernel
theorem dX10_keep_69 : decode cX10_keep 69 = .ok (.iconst 0, 1) := by decide +kernel
theorem dX10_keep_70 : decode cX10_keep 70 = .ok (.putfield 166, 3) := by decide +kernel
theorem dX10_keep_73 : decode cX10_keep 73 = .ok (.iconst 1, 1) := by decide +kernel
theorem dX10_keep_74 : decode cX10_keep 74 = .ok (.ireturn, 1) := by decide +kernel
theorem dX10_goBack_0 : decode cX10_goBack 0 = .ok (.aload_n 0, 1) := by decide +kernel
theorem dX10_goBack_1 : decode cX10_goBack 1 = .ok (.iconst 0, 1) := by decide +kernel
theorem dX10_goBack_2 : decode cX10_goBack 2 = .ok (.putfield 46, 3) := by decide +kernel
theorem dX10_goBack_5 : decode cX10_goBack 5 = .ok (.iload_n 1, 1) := by decide +kernel
theorem dX10_goBack_6 : decode cX10_goBack 6 = .ok (.i2l, 1) := by decide +kernel
theorem dX10_goBack_7 : decode cX10_goBack 7 = .ok (.lconst 0, 1) := by decide +kernel
theorem dX10_goBack_8 : decode cX10_goBack 8 = .ok (.lconst 1, 1) := by decide +kernel
theorem dX10_goBack_9 : decode cX10_goBack 9 = .ok (.invokestatic 50, 3) := by decide +kernel
theorem dX10_goBack_12 : decode cX10_goBack 12 = .ok (.ifCond .ne 6, 3) := by decide +kernel
theorem dX10_goBack_15 : decode cX10_goBack 15 = .ok (.ldc 170, 2) := by decide +kernel
theorem dX10_goBack_17 : decode cX10_goBack 17 = .ok (.ireturn, 1) := by decide +kernel
theorem dX10_goBack_18 : decode cX10_goBack 18 = .ok (.aload_n 0, 1) := by decide +kernel
theorem dX10_goBack_19 : decode cX10_goBack 19 = .ok (.getfield 19, 3) := by decide +kernel
theorem dX10_goBack_22 : decode cX10_goBack 22 = .ok (.iload_n 1, 1) := by decide +kernel
theorem dX10_goBack_23 : decode cX10_goBack 23 = .ok (.baload, 1) := by decide +kernel
theorem dX10_goBack_24 : decode cX10_goBack 24 = .ok (.ifCond .ne 6, 3) := by decide +kernel
theorem dX10_goBack_27 : decode cX10_goBack 27 = .ok (.ldc 221, 2) := by decide +kernel
theorem dX10_goBack_29 : decode cX10_goBack 29 = .ok (.ireturn, 1) := by decide +kernel
theorem dX10_goBack_30 : decode cX10_goBack 30 = .ok (.iconst 0, 1) := by decide +kernel
theorem dX10_goBack_31 : decode cX10_goBack 31 = .ok (.istore_n 2, 1) := by decide +kernel
theorem dX10_goBack_32 : decode cX10_goBack 32 = .ok (.iload_n 2, 1) := by decide +kernel
theorem dX10_goBack_33 : decode cX10_goBack 33 = .ok (.sipush 338, 3) := by decide +kernel
theorem dX10_goBack_36 : decode cX10_goBack 36 = .ok (.if_icmp .ge 27, 3) := by decide +kernel
theorem dX10_goBack_39 : decode cX10_goBack 39 = .ok (.aload_n 0, 1) := by decide +kernel
theorem dX10_goBack_40 : decode cX10_goBack 40 = .ok (.getfield 7, 3) := by decide +kernel
theorem dX10_goBack_43 : decode cX10_goBack 43 = .ok (.iload_n 2, 1) := by decide +kernel
theorem dX10_goBack_44 : decode cX10_goBack 44 = .ok (.aload_n 0, 1) := by decide +kernel
theorem dX10_goBack_45 : decode cX10_goBack 45 = .ok (.getfield 16, 3) := by decide +kernel
theorem dX10_goBack_48 : decode cX10_goBack 48 = .ok (.sipush 338, 3) := by decide +kernel
theorem dX10_goBack_51 : decode cX10_goBack 51 = .ok (.iload_n 1, 1) := by decide +kernel
theorem dX10_goBack_52 : decode cX10_goBack 52 = .ok (.imul, 1) := by decide +kernel
theorem dX10_goBack_53 : decode cX10_goBack 53 = .ok (.iload_n 2, 1) := by decide +kernel
theorem dX10_goBack_54 : decode cX10_goBack 54 = .ok (.iadd, 1) := by decide +kernel
theorem dX10_goBack_55 : decode cX10_goBack 55 = .ok (.iaload, 1) := by decide +kernel
theorem dX10_goBack_56 : decode cX10_goBack 56 = .ok (.iastore, 1) := by decide +kernel
theorem dX10_goBack_57 : decode cX10_goBack 57 = .ok (.iinc 2 1, 3) := by decide +kernel
theorem dX10_goBack_60 : decode cX10_goBack 60 = .ok (.goto (-28), 3) := by decide +kernel
theorem dX10_goBack_63 : decode cX10_goBack 63 = .ok (.aload_n 0, 1) := by decide +kernel
theorem dX10_goBack_64 : decode cX10_goBack 64 = .ok (.aload_n 0, 1) := by decide +kernel
theorem dX10_goBack_65 : decode cX10_goBack 65 = .ok (.getfield 23, 3) := by decide +kernel
theorem dX10_goBack_68 : decode cX10_goBack 68 = .ok (.iload_n 1, 1) := by decide +kernel
theorem dX10_goBack_69 : decode cX10_goBack 69 = .ok (.laload, 1) := by decide +kernel
theorem dX10_goBack_70 : decode cX10_goBack 70 = .ok (.putfield 42, 3) := by decide +kernel
theorem dX10_goBack_73 : decode cX10_goBack 73 = .ok (.aload_n 0, 1) := by decide +kernel
theorem dX10_goBack_74 : decode cX10_goBack 74 = .ok (.iconst 0, 1) := by decide +kernel
theorem dX10_goBack_75 : decode cX10_goBack 75 = .ok (.putfield 166, 3) := by decide +kernel
theorem dX10_goBack_78 : decode cX10_goBack 78 = .ok (.iconst 1, 1) := by decide +kernel
theorem dX10_goBack_79 : decode cX10_goBack 79 = .ok (.ireturn, 1) := by decide +kernel
theorem dJ9_floorDiv_f86c9_0 : decode cJ9_floorDiv_f86c9 0 = .ok (.lload_n 0, 1) := by decide +kernel
theorem dJ9_floorDiv_f86c9_1 : decode cJ9_floorDiv_f86c9 1 = .ok (.lload_n 2, 1) := by decide +kernel
theorem dJ9_floorDiv_f86c9_2 : decode cJ9_floorDiv_f86c9 2 = .ok (.ldiv, 1) := by decide +kernel
theorem dJ9_floorDiv_f86c9_3 : decode cJ9_floorDiv_f86c9 3 = .ok (.lstore 4, 2) := by decide +kernel
theorem dJ9_floorDiv_f86c9_5 : decode cJ9_floorDiv_f86c9 5 = .ok (.lload_n 0, 1) := by decide +kernel
theorem dJ9_floorDiv_f86c9_6 : decode cJ9_floorDiv_f86c9 6 = .ok (.lload_n 2, 1) := by decide +kernel
theorem dJ9_floorDiv_f86c9_7 : decode cJ9_floorDiv_f86c9 7 = .ok (.lxor, 1) := by decide +kernel
theorem dJ9_floorDiv_f86c9_8 : decode cJ9_floorDiv_f86c9 8 = .ok (.lconst 0, 1) := by decide +kernel
theorem dJ9_floorDiv_f86c9_9 : decode cJ9_floorDiv_f86c9 9 = .ok (.lcmp, 1) := by decide +kernel
theorem dJ9_floorDiv_f86c9_10 : decode cJ9_floorDiv_f86c9 10 = .ok (.ifCond .ge 17, 3) := by decide +kernel
theorem dJ9_floorDiv_f86c9_13 : decode cJ9_floorDiv_f86c9 13 = .ok (.lload 4, 2) := by decide +kernel
theorem dJ9_floorDiv_f86c9_15 : decode cJ9_floorDiv_f86c9 15 = .ok (.lload_n 2, 1) := by decide +kernel
theorem dJ9_floorDiv_f86c9_16 : decode cJ9_floorDiv_f86c9 16 = .ok (.lmul, 1) := by decide +kernel
theorem dJ9_floorDiv_f86c9_17 : decode cJ9_floorDiv_f86c9 17 = .ok (.lload_n 0, 1) := by decide +kernel
theorem dJ9_floorDiv_f86c9_18 : decode cJ9_floorDiv_f86c9 18 = .ok (.lcmp, 1) := by decide +kernel
theorem dJ9_floorDiv_f86c9_19 : decode cJ9_floorDiv_f86c9 19 = .ok (.ifCond .eq 8, 3) := by decide +kernel
theorem dJ9_floorDiv_f86c9_22 : decode cJ9_floorDiv_f86c9 22 = .ok (.lload 4, 2) := by decide +kernel
theorem dJ9_floorDiv_f86c9_24 : decode cJ9_floorDiv_f86c9 24 = .ok (.lconst 1, 1) := by decide +kernel
theorem dJ9_floorDiv_f86c9_25 : decode cJ9_floorDiv_f86c9 25 = .ok (.lsub, 1) := by decide +kernel
theorem dJ9_floorDiv_f86c9_26 : decode cJ9_floorDiv_f86c9 26 = .ok (.lreturn, 1) := by decide +kernel
theorem dJ9_floorDiv_f86c9_27 : decode cJ9_floorDiv_f86c9 27 = .ok (.lload 4, 2) := by decide +kernel
theorem dJ9_floorDiv_f86c9_29 : decode cJ9_floorDiv_f86c9 29 = .ok (.lreturn, 1) := by decide +kernel
theorem dJ9_floorMod_7cf53_0 : decode cJ9_floorMod_7cf53 0 = .ok (.iload_n 0, 1) := by decide +kernel
theorem dJ9_floorMod_7cf53_1 : decode cJ9_floorMod_7cf53 1 = .ok (.iload_n 1, 1) := by decide +kernel
theorem dJ9_floorMod_7cf53_2 : decode cJ9_floorMod_7cf53 2 = .ok (.irem, 1) := by decide +kernel
theorem dJ9_floorMod_7cf53_3 : decode cJ9_floorMod_7cf53 3 = .ok (.istore_n 2, 1) := by decide +kernel
theorem dJ9_floorMod_7cf53_4 : decode cJ9_floorMod_7cf53 4 = .ok (.iload_n 0, 1) := by decide +kernel
theorem dJ9_floorMod_7cf53_5 : decode cJ9_floorMod_7cf53 5 = .ok (.iload_n 1, 1) := by decide +kernel
theorem dJ9_floorMod_7cf53_6 : decode cJ9_floorMod_7cf53 6 = .ok (.ixor, 1) := by decide +kernel
theorem dJ9_floorMod_7cf53_7 : decode cJ9_floorMod_7cf53 7 = .ok (.ifCond .ge 11, 3) := by decide +kernel
theorem dJ9_floorMod_7cf53_10 : decode cJ9_floorMod_7cf53 10 = .ok (.iload_n 2, 1) := by decide +kernel
theorem dJ9_floorMod_7cf53_11 : decode cJ9_floorMod_7cf53 11 = .ok (.ifCond .eq 7, 3) := by decide +kernel
theorem dJ9_floorMod_7cf53_14 : decode cJ9_floorMod_7cf53 14 = .ok (.iload_n 2, 1) := by decide +kernel
theorem dJ9_floorMod_7cf53_15 : decode cJ9_floorMod_7cf53 15 = .ok (.iload_n 1, 1) := by decide +kernel
theorem dJ9_floorMod_7cf53_16 : decode cJ9_floorMod_7cf53 16 = .ok (.iadd, 1) := by decide +kernel
theorem dJ9_floorMod_7cf53_17 : decode cJ9_floorMod_7cf53 17 = .ok (.ireturn, 1) := by decide +kernel
theorem dJ9_floorMod_7cf53_18 : decode cJ9_floorMod_7cf53 18 = .ok (.iload_n 2, 1) := by decide +kernel
theorem dJ9_floorMod_7cf53_19 : decode cJ9_floorMod_7cf53 19 = .ok (.ireturn, 1) := by decide +kernel
theorem dJ9_abs_0f7a4_0 : decode cJ9_abs_0f7a4 0 = .ok (.iload_n 0, 1) := by decide +kernel
theorem dJ9_abs_0f7a4_1 : decode cJ9_abs_0f7a4 1 = .ok (.ifCond .ge 8, 3) := by decide +kernel
theorem dJ9_abs_0f7a4_4 : decode cJ9_abs_0f7a4 4 = .ok (.iload_n 0, 1) := by decide +kernel
theorem dJ9_abs_0f7a4_5 : decode cJ9_abs_0f7a4 5 = .ok (.ineg, 1) := by decide +kernel
theorem dJ9_abs_0f7a4_6 : decode cJ9_abs_0f7a4 6 = .ok (.goto 4, 3) := by decide +kernel
theorem dJ9_abs_0f7a4_9 : decode cJ9_abs_0f7a4 9 = .ok (.iload_n 0, 1) := by decide +kernel
theorem dJ9_abs_0f7a4_10 : decode cJ9_abs_0f7a4 10 = .ok (.ireturn, 1) := by decide +kernel
theorem dJ9_max_7cf53_0 : decode cJ9_max_7cf53 0 = .ok (.iload_n 0, 1) := by decide +kernel
theorem dJ9_max_7cf53_1 : decode cJ9_max_7cf53 1 = .ok (.iload_n 1, 1) := by decide +kernel
theorem dJ9_max_7cf53_2 : decode cJ9_max_7cf53 2 = .ok (.if_icmp .lt 7, 3) := by decide +kernel
theorem dJ9_max_7cf53_5 : decode cJ9_max_7cf53 5 = .ok (.iload_n 0, 1) := by decide +kernel
theorem dJ9_max_7cf53_6 : decode cJ9_max_7cf53 6 = .ok (.goto 4, 3) := by decide +kernel
theorem dJ9_max_7cf53_9 : decode cJ9_max_7cf53 9 = .ok (.iload_n 1, 1) := by decide +kernel
theorem dJ9_max_7cf53_10 : decode cJ9_max_7cf53 10 = .ok (.ireturn, 1) := by decide +kernel
theorem dJ9_min_7cf53_0 : decode cJ9_min_7cf53 0 = .ok (.iload_n 0, 1) := by decide +kernel
theorem dJ9_min_7cf53_1 : decode cJ9_min_7cf53 1 = .ok (.iload_n 1, 1) := by decide +kernel
theorem dJ9_min_7cf53_2 : decode cJ9_min_7cf53 2 = .ok (.if_icmp .gt 7, 3) := by decide +kernel
theorem dJ9_min_7cf53_5 : decode cJ9_min_7cf53 5 = .ok (.iload_n 0, 1) := by decide +kernel
theorem dJ9_min_7cf53_6 : decode cJ9_min_7cf53 6 = .ok (.goto 4, 3) := by decide +kernel
theorem dJ9_min_7cf53_9 : decode cJ9_min_7cf53 9 = .ok (.iload_n 1, 1) := by decide +kernel
theorem dJ9_min_7cf53_10 : decode cJ9_min_7cf53 10 = .ok (.ireturn, 1) := by decide +kernel
theorem dL_law_0 : decode cL_law 0 = .ok (.new 7, 3) := by decide +kernel
theorem dL_law_3 : decode cL_law 3 = .ok (.dup, 1) := by decide +kernel
theorem dL_law_4 : decode cL_law 4 = .ok (.invokespecial 9, 3) := by decide +kernel
theorem dL_law_7 : decode cL_law 7 = .ok (.astore_n 1, 1) := by decide +kernel
theorem dL_law_8 : decode cL_law 8 = .ok (.new 10, 3) := by decide +kernel
theorem dL_law_11 : decode cL_law 11 = .ok (.dup, 1) := by decide +kernel
theorem dL_law_12 : decode cL_law 12 = .ok (.invokespecial 12, 3) := by decide +kernel
theorem dL_law_15 : decode cL_law 15 = .ok (.astore_n 2, 1) := by decide +kernel
theorem dL_law_16 : decode cL_law 16 = .ok (.iconst 0, 1) := by decide +kernel
theorem dL_law_17 : decode cL_law 17 = .ok (.istore_n 3, 1) := by decide +kernel
theorem dL_law_18 : decode cL_law 18 = .ok (.iload_n 3, 1) := by decide +kernel
theorem dL_law_19 : decode cL_law 19 = .ok (.aload_n 0, 1) := by decide +kernel
theorem dL_law_20 : decode cL_law 20 = .ok (.arraylength, 1) := by decide +kernel
theorem dL_law_21 : decode cL_law 21 = .ok (.bipush 7, 2) := by decide +kernel
theorem dL_law_23 : decode cL_law 23 = .ok (.isub, 1) := by decide +kernel
theorem dL_law_24 : decode cL_law 24 = .ok (.if_icmp .gt 813, 3) := by decide +kernel
theorem dL_law_27 : decode cL_law 27 = .ok (.aload_n 0, 1) := by decide +kernel
theorem dL_law_28 : decode cL_law 28 = .ok (.iload_n 3, 1) := by decide +kernel
theorem dL_law_29 : decode cL_law 29 = .ok (.iaload, 1) := by decide +kernel
theorem dL_law_30 : decode cL_law 30 = .ok (.bipush 31, 2) := by decide +kernel
theorem dL_law_32 : decode cL_law 32 = .ok (.iand, 1) := by decide +kernel
theorem dL_law_33 : decode cL_law 33 = .ok (.tableswitch 798 0 19 #[95, 118, 151, 204, 258, 291, 334, 377, 452, 515, 558, 581, 604, 627, 650, 673, 716, 729, 752, 775], 95) := by decide +kernel
theorem dL_law_128 : decode cL_law 128 = .ok (.aload_n 1, 1) := by decide +kernel
theorem dL_law_129 : decode cL_law 129 = .ok (.aload_n 0, 1) := by decide +kernel
theorem dL_law_130 : decode cL_law 130 = .ok (.iload_n 3, 1) := by decide +kernel
theorem dL_law_131 : decode cL_law 131 = .ok (.iconst 1, 1) := by decide +kernel
theorem dL_law_132 : decode cL_law 132 = .ok (.iadd, 1) := by decide +kernel
theorem dL_law_133 : decode cL_law 133 = .ok (.iaload, 1) := by decide +kernel
theorem dL_law_134 : decode cL_law 134 = .ok (.invokevirtual 13, 3) := by decide +kernel
theorem dL_law_137 : decode cL_law 137 = .ok (.aload_n 2, 1) := by decide +kernel
theorem dL_law_138 : decode cL_law 138 = .ok (.aload_n 0, 1) := by decide +kernel
theorem dL_law_139 : decode cL_law 139 = .ok (.iload_n 3, 1) := by decide +kernel
theorem dL_law_140 : decode cL_law 140 = .ok (.iconst 1, 1) := by decide +kernel
theorem dL_law_141 : decode cL_law 141 = .ok (.iadd, 1) := by decide +kernel
theorem dL_law_142 : decode cL_law 142 = .ok (.iaload, 1) := by decide +kernel
theorem dL_law_143 : decode cL_law 143 = .ok (.invokevirtual 17, 3) := by decide +kernel
theorem dL_law_146 : decode cL_law 146 = .ok (.if_icmp .eq 685, 3) := by decide +kernel
theorem dL_law_149 : decode cL_law 149 = .ok (.iconst 0, 1) := by decide +kernel
theorem dL_law_150 : decode cL_law 150 = .ok (.ireturn, 1) := by decide +kernel
theorem dL_law_151 : decode cL_law 151 = .ok (.aload_n 1, 1) := by decide +kernel
theorem dL_law_152 : decode cL_law 152 = .ok (.aload_n 0, 1) := by decide +kernel
theorem dL_law_153 : decode cL_law 153 = .ok (.iload_n 3, 1) := by decide +kernel
theorem dL_law_154 : decode cL_law 154 = .ok (.iconst 1, 1) := by decide +kernel
theorem dL_law_155 : decode cL_law 155 = .ok (.iadd, 1) := by decide +kernel
theorem dL_law_156 : decode cL_law 156 = .ok (.iaload, 1) := by decide +kernel
theorem dL_law_157 : decode cL_law 157 = .ok (.aload_n 0, 1) := by decide +kernel
theorem dL_law_158 : decode cL_law 158 = .ok (.iload_n 3, 1) := by decide +kernel
theorem dL_law_159 : decode cL_law 159 = .ok (.iconst 2, 1) := by decide +kernel
theorem dL_law_160 : decode cL_law 160 = .ok (.iadd, 1) := by decide +kernel
theorem dL_law_161 : decode cL_law 161 = .ok (.iaload, 1) := by decide +kernel
theorem dL_law_162 : decode cL_law 162 = .ok (.invokevirtual 18, 3) := by decide +kernel
theorem dL_law_165 : decode cL_law 165 = .ok (.aload_n 2, 1) := by decide +kernel
theorem dL_law_166 : decode cL_law 166 = .ok (.aload_n 0, 1) := by decide +kernel
theorem dL_law_167 : decode cL_law 167 = .ok (.iload_n 3, 1) := by decide +kernel
theorem dL_law_168 : decode cL_law 168 = .ok (.iconst 1, 1) := by decide +kernel
theorem dL_law_169 : decode cL_law 169 = .ok (.iadd, 1) := by decide +kernel
theorem dL_law_170 : decode cL_law 170 = .ok (.iaload, 1) := by decide +kernel
theorem dL_law_171 : decode cL_law 171 = .ok (.aload_n 0, 1) := by decide +kernel
theorem dL_law_172 : decode cL_law 172 = .ok (.iload_n 3, 1) := by decide +kernel
theorem dL_law_173 : decode cL_law 173 = .ok (.iconst 2, 1) := by decide +kernel
theorem dL_law_174 : decode cL_law 174 = .ok (.iadd, 1) := by decide +kernel
theorem dL_law_175 : decode cL_law 175 = .ok (.iaload, 1) := by decide +kernel
theorem dL_law_176 : decode cL_law 176 = .ok (.invokevirtual 22, 3) := by decide +kernel
theorem dL_law_179 : decode cL_law 179 = .ok (.if_icmp .eq 652, 3) := by decide +kernel
theorem dL_law_182 : decode cL_law 182 = .ok (.iconst 0, 1) := by decide +kernel
theorem dL_law_183 : decode cL_law 183 = .ok (.ireturn, 1) := by decide +kernel
theorem dL_law_184 : decode cL_law 184 = .ok (.aload_n 1, 1) := by decide +kernel
theorem dL_law_185 : decode cL_law 185 = .ok (.aload_n 0, 1) := by decide +kernel
theorem dL_law_186 : decode cL_law 186 = .ok (.iload_n 3, 1) := by decide +kernel
theorem dL_law_187 : decode cL_law 187 = .ok (.iconst 1, 1) := by decide +kernel
theorem dL_law_188 : decode cL_law 188 = .ok (.iadd, 1) := by decide +kernel
theorem dL_law_189 : decode cL_law 189 = .ok (.iaload, 1) := by decide +kernel
theorem dL_law_190 : decode cL_law 190 = .ok (.aload_n 0, 1) := by decide +kernel
theorem dL_law_191 : decode cL_law 191 = .ok (.iload_n 3, 1) := by decide +kernel
theorem dL_law_192 : decode cL_law 192 = .ok (.iconst 2, 1) := by decide +kernel
theorem dL_law_193 : decode cL_law 193 = .ok (.iadd, 1) := by decide +kernel
theorem dL_law_194 : decode cL_law 194 = .ok (.iaload, 1) := by decide +kernel
theorem dL_law_195 : decode cL_law 195 = .ok (.aload_n 0, 1) := by decide +kernel
theorem dL_law_196 : decode cL_law 196 = .ok (.iload_n 3, 1) := by decide +kernel
theorem dL_law_197 : decode cL_law 197 = .ok (.iconst 3, 1) := by decide +kernel
theorem dL_law_198 : decode cL_law 198 = .ok (.iadd, 1) := by decide +kernel
theorem dL_law_199 : decode cL_law 199 = .ok (.iaload, 1) := by decide +kernel
theorem dL_law_200 : decode cL_law 200 = .ok (.aload_n 0, 1) := by decide +kernel
theorem dL_law_201 : decode cL_law 201 = .ok (.iload_n 3, 1) := by decide +kernel
theorem dL_law_202 : decode cL_law 202 = .ok (.iconst 4, 1) := by decide +kernel
theorem dL_law_203 : decode cL_law 203 = .ok (.iadd, 1) := by decide +kernel
theorem dL_law_204 : decode cL_law 204 = .ok (.iaload, 1) := by decide +kernel
theorem dL_law_205 : decode cL_law 205 = .ok (.invokevirtual 23, 3) := by decide +kernel
theorem dL_law_208 : decode cL_law 208 = .ok (.aload_n 2, 1) := by decide +kernel
theorem dL_law_209 : decode cL_law 209 = .ok (.aload_n 0, 1) := by decide +kernel
theorem dL_law_210 : decode cL_law 210 = .ok (.iload_n 3, 1) := by decide +kernel
theorem dL_law_211 : decode cL_law 211 = .ok (.iconst 1, 1) := by decide +kernel
theorem dL_law_212 : decode cL_law 212 = .ok (.iadd, 1) := by decide +kernel
theorem dL_law_213 : decode cL_law 213 = .ok (.iaload, 1) := by decide +kernel
theorem dL_law_214 : decode cL_law 214 = .ok (.aload_n 0, 1) := by decide +kernel
theorem dL_law_215 : decode cL_law 215 = .ok (.iload_n 3, 1) := by decide +kernel
theorem dL_law_216 : decode cL_law 216 = .ok (.iconst 2, 1) := by decide +kernel
theorem dL_law_217 : decode cL_law 217 = .ok (.iadd, 1) := by decide +kernel
theorem dL_law_218 : decode cL_law 218 = .ok (.iaload, 1) := by decide +kernel
theorem dL_law_219 : decode cL_law 219 = .ok (.aload_n 0, 1) := by decide +kernel
theorem dL_law_220 : decode cL_law 220 = .ok (.iload_n 3, 1) := by decide +kernel
theorem dL_law_221 : decode cL_law 221 = .ok (.iconst 3, 1) := by decide +kernel
theorem dL_law_222 : decode cL_law 222 = .ok (.iadd, 1) := by decide +kernel
theorem dL_law_223 : decode cL_law 223 = .ok (.iaload, 1) := by decide +kernel
theorem dL_law_224 : decode cL_law 224 = .ok (.aload_n 0, 1) := by decide +kernel
theorem dL_law_225 : decode cL_law 225 = .ok (.iload_n 3, 1) := by decide +kernel
theorem dL_law_226 : decode cL_law 226 = .ok (.iconst 4, 1) := by decide +kernel
theorem dL_law_227 : decode cL_law 227 = .ok (.iadd, 1) := by decide +kernel
theorem dL_law_228 : decode cL_law 228 = .ok (.iaload, 1) := by decide +kernel
theorem dL_law_229 : decode cL_law 229 = .ok (.invokevirtual 27, 3) := by decide +kernel
theorem dL_law_232 : decode cL_law 232 = .ok (.if_icmp .eq 599, 3) := by decide +kernel
theorem dL_law_235 : decode cL_law 235 = .ok (.iconst 0, 1) := by decide +kernel
theorem dL_law_236 : decode cL_law 236 = .ok (.ireturn, 1) := by decide +kernel
theorem dL_law_237 : decode cL_law 237 = .ok (.aload_n 1, 1) := by decide +kernel
theorem dL_law_238 : decode cL_law 238 = .ok (.aload_n 0, 1) := by decide +kernel
theorem dL_law_239 : decode cL_law 239 = .ok (.iload_n 3, 1) := by decide +kernel
theorem dL_law_240 : decode cL_law 240 = .ok (.iconst 1, 1) := by decide +kernel
theorem dL_law_241 : decode cL_law 241 = .ok (.iadd, 1) := by decide +kernel
theorem dL_law_242 : decode cL_law 242 = .ok (.iaload, 1) := by decide +kernel
theorem dL_law_243 : decode cL_law 243 = .ok (.aload_n 0, 1) := by decide +kernel
theorem dL_law_244 : decode cL_law 244 = .ok (.iload_n 3, 1) := by decide +kernel
theorem dL_law_245 : decode cL_law 245 = .ok (.iconst 2, 1) := by decide +kernel
theorem dL_law_246 : decode cL_law 246 = .ok (.iadd, 1) := by decide +kernel
theorem dL_law_247 : decode cL_law 247 = .ok (.iaload, 1) := by decide +kernel
theorem dL_law_248 : decode cL_law 248 = .ok (.aload_n 0, 1) := by decide +kernel
theorem dL_law_249 : decode cL_law 249 = .ok (.iload_n 3, 1) := by decide +kernel
theorem dL_law_250 : decode cL_law 250 = .ok (.iconst 3, 1) := by decide +kernel
theorem dL_law_251 : decode cL_law 251 = .ok (.iadd, 1) := by decide +kernel
theorem dL_law_252 : decode cL_law 252 = .ok (.iaload, 1) := by decide +kernel
theorem dL_law_253 : decode cL_law 253 = .ok (.aload_n 0, 1) := by decide +kernel
theorem dL_law_254 : decode cL_law 254 = .ok (.iload_n 3, 1) := by decide +kernel
theorem dL_law_255 : decode cL_law 255 = .ok (.iconst 4, 1) := by decide +kernel
theorem dL_law_256 : decode cL_law 256 = .ok (.iadd, 1) := by decide +kernel
theorem dL_law_257 : decode cL_law 257 = .ok (.iaload, 1) := by decide +kernel
theorem dL_law_258 : decode cL_law 258 = .ok (.invokevirtual 28, 3) := by decide +kernel
theorem dL_law_261 : decode cL_law 261 = .ok (.aload_n 2, 1) := by decide +kernel
theorem dL_law_262 : decode cL_law 262 = .ok (.aload_n 0, 1) := by decide +kernel
theorem dL_law_263 : decode cL_law 263 = .ok (.iload_n 3, 1) := by decide +kernel
theorem dL_law_264 : decode cL_law 264 = .ok (.iconst 1, 1) := by decide +kernel
theorem dL_law_265 : decode cL_law 265 = .ok (.iadd, 1) := by decide +kernel
theorem dL_law_266 : decode cL_law 266 = .ok (.iaload, 1) := by decide +kernel
theorem dL_law_267 : decode cL_law 267 = .ok (.aload_n 0, 1) := by decide +kernel
theorem dL_law_268 : decode cL_law 268 = .ok (.iload_n 3, 1) := by decide +kernel
theorem dL_law_269 : decode cL_law 269 = .ok (.iconst 2, 1) := by decide +kernel
theorem dL_law_270 : decode cL_law 270 = .ok (.iadd, 1) := by decide +kernel
theorem dL_law_271 : decode cL_law 271 = .ok (.iaload, 1) := by decide +kernel
theorem dL_law_272 : decode cL_law 272 = .ok (.aload_n 0, 1) := by decide +kernel
theorem dL_law_273 : decode cL_law 273 = .ok (.iload_n 3, 1) := by decide +kernel
theorem dL_law_274 : decode cL_law 274 = .ok (.iconst 3, 1) := by decide +kernel
theorem dL_law_275 : decode cL_law 275 = .ok (.iadd, 1) := by decide +kernel
theorem dL_law_276 : decode cL_law 276 = .ok (.iaload, 1) := by decide +kernel
theorem dL_law_277 : decode cL_law 277 = .ok (.aload_n 0, 1) := by decide +kernel
theorem dL_law_278 : decode cL_law 278 = .ok (.iload_n 3, 1) := by decide +kernel
theorem dL_law_279 : decode cL_law 279 = .ok (.iconst 4, 1) := by decide +kernel
theorem dL_law_280 : decode cL_law 280 = .ok (.iadd, 1) := by decide +kernel
theorem dL_law_281 : decode cL_law 281 = .ok (.iaload, 1) := by decide +kernel
theorem dL_law_282 : decode cL_law 282 = .ok (.invokevirtual 32, 3) := by decide +kernel
theorem dL_law_285 : decode cL_law 285 = .ok (.lcmp, 1) := by decide +kernel
theorem dL_law_286 : decode cL_law 286 = .ok (.ifCond .eq 545, 3) := by decide +kernel
theorem dL_law_289 : decode cL_law 289 = .ok (.iconst 0, 1) := by decide +kernel
theorem dL_law_290 : decode cL_law 290 = .ok (.ireturn, 1) := by decide +kernel
theorem dL_law_291 : decode cL_law 291 = .ok (.aload_n 1, 1) := by decide +kernel
theorem dL_law_292 : decode cL_law 292 = .ok (.aload_n 0, 1) := by decide +kernel
theorem dL_law_293 : decode cL_law 293 = .ok (.iload_n 3, 1) := by decide +kernel
theorem dL_law_294 : decode cL_law 294 = .ok (.iconst 1, 1) := by decide +kernel
theorem dL_law_295 : decode cL_law 295 = .ok (.iadd, 1) := by decide +kernel
theorem dL_law_296 : decode cL_law 296 = .ok (.iaload, 1) := by decide +kernel
theorem dL_law_297 : decode cL_law 297 = .ok (.aload_n 0, 1) := by decide +kernel
theorem dL_law_298 : decode cL_law 298 = .ok (.iload_n 3, 1) := by decide +kernel
theorem dL_law_299 : decode cL_law 299 = .ok (.iconst 2, 1) := by decide +kernel
theorem dL_law_300 : decode cL_law 300 = .ok (.iadd, 1) := by decide +kernel
theorem dL_law_301 : decode cL_law 301 = .ok (.iaload, 1) := by decide +kernel
theorem dL_law_302 : decode cL_law 302 = .ok (.invokevirtual 33, 3) := by decide +kernel
theorem dL_law_305 : decode cL_law 305 = .ok (.aload_n 2, 1) := by decide +kernel
theorem dL_law_306 : decode cL_law 306 = .ok (.aload_n 0, 1) := by decide +kernel
theorem dL_law_307 : decode cL_law 307 = .ok (.iload_n 3, 1) := by decide +kernel
theorem dL_law_308 : decode cL_law 308 = .ok (.iconst 1, 1) := by decide +kernel
theorem dL_law_309 : decode cL_law 309 = .ok (.iadd, 1) := by decide +kernel
theorem dL_law_310 : decode cL_law 310 = .ok (.iaload, 1) := by decide +kernel
theorem dL_law_311 : decode cL_law 311 = .ok (.aload_n 0, 1) := by decide +kernel
theorem dL_law_312 : decode cL_law 312 = .ok (.iload_n 3, 1) := by decide +kernel
theorem dL_law_313 : decode cL_law 313 = .ok (.iconst 2, 1) := by decide +kernel
theorem dL_law_314 : decode cL_law 314 = .ok (.iadd, 1) := by decide +kernel
theorem dL_law_315 : decode cL_law 315 = .ok (.iaload, 1) := by decide +kernel
theorem dL_law_316 : decode cL_law 316 = .ok (.invokevirtual 36, 3) := by decide +kernel
theorem dL_law_319 : decode cL_law 319 = .ok (.if_icmp .eq 512, 3) := by decide +kernel
theorem dL_law_322 : decode cL_law 322 = .ok (.iconst 0, 1) := by decide +kernel
theorem dL_law_323 : decode cL_law 323 = .ok (.ireturn, 1) := by decide +kernel
theorem dL_law_324 : decode cL_law 324 = .ok (.aload_n 1, 1) := by decide +kernel
theorem dL_law_325 : decode cL_law 325 = .ok (.aload_n 0, 1) := by decide +kernel
theorem dL_law_326 : decode cL_law 326 = .ok (.iload_n 3, 1) := by decide +kernel
theorem dL_law_327 : decode cL_law 327 = .ok (.iconst 1, 1) := by decide +kernel
theorem dL_law_328 : decode cL_law 328 = .ok (.iadd, 1) := by decide +kernel
theorem dL_law_329 : decode cL_law 329 = .ok (.iaload, 1) := by decide +kernel
theorem dL_law_330 : decode cL_law 330 = .ok (.aload_n 0, 1) := by decide +kernel
theorem dL_law_331 : decode cL_law 331 = .ok (.iload_n 3, 1) := by decide +kernel
theorem dL_law_332 : decode cL_law 332 = .ok (.iconst 2, 1) := by decide +kernel
theorem dL_law_333 : decode cL_law 333 = .ok (.iadd, 1) := by decide +kernel
theorem dL_law_334 : decode cL_law 334 = .ok (.iaload, 1) := by decide +kernel
theorem dL_law_335 : decode cL_law 335 = .ok (.aload_n 0, 1) := by decide +kernel
theorem dL_law_336 : decode cL_law 336 = .ok (.iload_n 3, 1) := by decide +kernel
theorem dL_law_337 : decode cL_law 337 = .ok (.iconst 3, 1) := by decide +kernel
theorem dL_law_338 : decode cL_law 338 = .ok (.iadd, 1) := by decide +kernel
theorem dL_law_339 : decode cL_law 339 = .ok (.iaload, 1) := by decide +kernel
theorem dL_law_340 : decode cL_law 340 = .ok (.invokevirtual 37, 3) := by decide +kernel
theorem dL_law_343 : decode cL_law 343 = .ok (.aload_n 2, 1) := by decide +kernel
theorem dL_law_344 : decode cL_law 344 = .ok (.aload_n 0, 1) := by decide +kernel
theorem dL_law_345 : decode cL_law 345 = .ok (.iload_n 3, 1) := by decide +kernel
theorem dL_law_346 : decode cL_law 346 = .ok (.iconst 1, 1) := by decide +kernel
theorem dL_law_347 : decode cL_law 347 = .ok (.iadd, 1) := by decide +kernel
theorem dL_law_348 : decode cL_law 348 = .ok (.iaload, 1) := by decide +kernel
theorem dL_law_349 : decode cL_law 349 = .ok (.aload_n 0, 1) := by decide +kernel
theorem dL_law_350 : decode cL_law 350 = .ok (.iload_n 3, 1) := by decide +kernel
theorem dL_law_351 : decode cL_law 351 = .ok (.iconst 2, 1) := by decide +kernel
theorem dL_law_352 : decode cL_law 352 = .ok (.iadd, 1) := by decide +kernel
theorem dL_law_353 : decode cL_law 353 = .ok (.iaload, 1) := by decide +kernel
theorem dL_law_354 : decode cL_law 354 = .ok (.aload_n 0, 1) := by decide +kernel
theorem dL_law_355 : decode cL_law 355 = .ok (.iload_n 3, 1) := by decide +kernel
theorem dL_law_356 : decode cL_law 356 = .ok (.iconst 3, 1) := by decide +kernel
theorem dL_law_357 : decode cL_law 357 = .ok (.iadd, 1) := by decide +kernel
theorem dL_law_358 : decode cL_law 358 = .ok (.iaload, 1) := by decide +kernel
theorem dL_law_359 : decode cL_law 359 = .ok (.invokevirtual 41, 3) := by decide +kernel
theorem dL_law_362 : decode cL_law 362 = .ok (.if_icmp .eq 469, 3) := by decide +kernel
theorem dL_law_365 : decode cL_law 365 = .ok (.iconst 0, 1) := by decide +kernel
theorem dL_law_366 : decode cL_law 366 = .ok (.ireturn, 1) := by decide +kernel
theorem dL_law_367 : decode cL_law 367 = .ok (.aload_n 1, 1) := by decide +kernel
theorem dL_law_368 : decode cL_law 368 = .ok (.aload_n 0, 1) := by decide +kernel
theorem dL_law_369 : decode cL_law 369 = .ok (.iload_n 3, 1) := by decide +kernel
theorem dL_law_370 : decode cL_law 370 = .ok (.iconst 1, 1) := by decide +kernel
theorem dL_law_371 : decode cL_law 371 = .ok (.iadd, 1) := by decide +kernel
theorem dL_law_372 : decode cL_law 372 = .ok (.iaload, 1) := by decide +kernel
theorem dL_law_373 : decode cL_law 373 = .ok (.aload_n 0, 1) := by decide +kernel
theorem dL_law_374 : decode cL_law 374 = .ok (.iload_n 3, 1) := by decide +kernel
theorem dL_law_375 : decode cL_law 375 = .ok (.iconst 2, 1) := by decide +kernel
theorem dL_law_376 : decode cL_law 376 = .ok (.iadd, 1) := by decide +kernel
theorem dL_law_377 : decode cL_law 377 = .ok (.iaload, 1) := by decide +kernel
theorem dL_law_378 : decode cL_law 378 = .ok (.aload_n 0, 1) := by decide +kernel
theorem dL_law_379 : decode cL_law 379 = .ok (.iload_n 3, 1) := by decide +kernel
theorem dL_law_380 : decode cL_law 380 = .ok (.iconst 3, 1) := by decide +kernel
theorem dL_law_381 : decode cL_law 381 = .ok (.iadd, 1) := by decide +kernel
theorem dL_law_382 : decode cL_law 382 = .ok (.iaload, 1) := by decide +kernel
theorem dL_law_383 : decode cL_law 383 = .ok (.invokevirtual 42, 3) := by decide +kernel
theorem dL_law_386 : decode cL_law 386 = .ok (.aload_n 2, 1) := by decide +kernel
theorem dL_law_387 : decode cL_law 387 = .ok (.aload_n 0, 1) := by decide +kernel
theorem dL_law_388 : decode cL_law 388 = .ok (.iload_n 3, 1) := by decide +kernel
theorem dL_law_389 : decode cL_law 389 = .ok (.iconst 1, 1) := by decide +kernel
theorem dL_law_390 : decode cL_law 390 = .ok (.iadd, 1) := by decide +kernel
theorem dL_law_391 : decode cL_law 391 = .ok (.iaload, 1) := by decide +kernel
theorem dL_law_392 : decode cL_law 392 = .ok (.aload_n 0, 1) := by decide +kernel
theorem dL_law_393 : decode cL_law 393 = .ok (.iload_n 3, 1) := by decide +kernel
theorem dL_law_394 : decode cL_law 394 = .ok (.iconst 2, 1) := by decide +kernel
theorem dL_law_395 : decode cL_law 395 = .ok (.iadd, 1) := by decide +kernel
theorem dL_law_396 : decode cL_law 396 = .ok (.iaload, 1) := by decide +kernel
theorem dL_law_397 : decode cL_law 397 = .ok (.aload_n 0, 1) := by decide +kernel
theorem dL_law_398 : decode cL_law 398 = .ok (.iload_n 3, 1) := by decide +kernel
theorem dL_law_399 : decode cL_law 399 = .ok (.iconst 3, 1) := by decide +kernel
theorem dL_law_400 : decode cL_law 400 = .ok (.iadd, 1) := by decide +kernel
theorem dL_law_401 : decode cL_law 401 = .ok (.iaload, 1) := by decide +kernel
theorem dL_law_402 : decode cL_law 402 = .ok (.invokevirtual 45, 3) := by decide +kernel
theorem dL_law_405 : decode cL_law 405 = .ok (.if_icmp .eq 426, 3) := by decide +kernel
theorem dL_law_408 : decode cL_law 408 = .ok (.iconst 0, 1) := by decide +kernel
theorem dL_law_409 : decode cL_law 409 = .ok (.ireturn, 1) := by decide +kernel
theorem dL_law_410 : decode cL_law 410 = .ok (.aload_n 1, 1) := by decide +kernel
theorem dL_law_411 : decode cL_law 411 = .ok (.aload_n 0, 1) := by decide +kernel
theorem dL_law_412 : decode cL_law 412 = .ok (.iload_n 3, 1) := by decide +kernel
theorem dL_law_413 : decode cL_law 413 = .ok (.iconst 1, 1) := by decide +kernel
theorem dL_law_414 : decode cL_law 414 = .ok (.iadd, 1) := by decide +kernel
theorem dL_law_415 : decode cL_law 415 = .ok (.iaload, 1) := by decide +kernel
theorem dL_law_416 : decode cL_law 416 = .ok (.aload_n 0, 1) := by decide +kernel
theorem dL_law_417 : decode cL_law 417 = .ok (.iload_n 3, 1) := by decide +kernel
theorem dL_law_418 : decode cL_law 418 = .ok (.iconst 2, 1) := by decide +kernel
theorem dL_law_419 : decode cL_law 419 = .ok (.iadd, 1) := by decide +kernel
theorem dL_law_420 : decode cL_law 420 = .ok (.iaload, 1) := by decide +kernel
theorem dL_law_421 : decode cL_law 421 = .ok (.aload_n 0, 1) := by decide +kernel
theorem dL_law_422 : decode cL_law 422 = .ok (.iload_n 3, 1) := by decide +kernel
theorem dL_law_423 : decode cL_law 423 = .ok (.iconst 3, 1) := by decide +kernel
theorem dL_law_424 : decode cL_law 424 = .ok (.iadd, 1) := by decide +kernel
theorem dL_law_425 : decode cL_law 425 = .ok (.iaload, 1) := by decide +kernel
theorem dL_law_426 : decode cL_law 426 = .ok (.aload_n 0, 1) := by decide +kernel
theorem dL_law_427 : decode cL_law 427 = .ok (.iload_n 3, 1) := by decide +kernel
theorem dL_law_428 : decode cL_law 428 = .ok (.iconst 4, 1) := by decide +kernel
theorem dL_law_429 : decode cL_law 429 = .ok (.iadd, 1) := by decide +kernel
theorem dL_law_430 : decode cL_law 430 = .ok (.iaload, 1) := by decide +kernel
theorem dL_law_431 : decode cL_law 431 = .ok (.aload_n 0, 1) := by decide +kernel
theorem dL_law_432 : decode cL_law 432 = .ok (.iload_n 3, 1) := by decide +kernel
theorem dL_law_433 : decode cL_law 433 = .ok (.iconst 5, 1) := by decide +kernel
theorem dL_law_434 : decode cL_law 434 = .ok (.iadd, 1) := by decide +kernel
theorem dL_law_435 : decode cL_law 435 = .ok (.iaload, 1) := by decide +kernel
theorem dL_law_436 : decode cL_law 436 = .ok (.aload_n 0, 1) := by decide +kernel
theorem dL_law_437 : decode cL_law 437 = .ok (.iload_n 3, 1) := by decide +kernel
theorem dL_law_438 : decode cL_law 438 = .ok (.bipush 6, 2) := by decide +kernel
theorem dL_law_440 : decode cL_law 440 = .ok (.iadd, 1) := by decide +kernel
theorem dL_law_441 : decode cL_law 441 = .ok (.iaload, 1) := by decide +kernel
theorem dL_law_442 : decode cL_law 442 = .ok (.invokevirtual 46, 3) := by decide +kernel
theorem dL_law_445 : decode cL_law 445 = .ok (.aload_n 2, 1) := by decide +kernel
theorem dL_law_446 : decode cL_law 446 = .ok (.aload_n 0, 1) := by decide +kernel
theorem dL_law_447 : decode cL_law 447 = .ok (.iload_n 3, 1) := by decide +kernel
theorem dL_law_448 : decode cL_law 448 = .ok (.iconst 1, 1) := by decide +kernel
theorem dL_law_449 : decode cL_law 449 = .ok (.iadd, 1) := by decide +kernel
theorem dL_law_450 : decode cL_law 450 = .ok (.iaload, 1) := by decide +kernel
theorem dL_law_451 : decode cL_law 451 = .ok (.aload_n 0, 1) := by decide +kernel
theorem dL_law_452 : decode cL_law 452 = .ok (.iload_n 3, 1) := by decide +kernel
theorem dL_law_453 : decode cL_law 453 = .ok (.iconst 2, 1) := by decide +kernel
theorem dL_law_454 : decode cL_law 454 = .ok (.iadd, 1) := by decide +kernel
theorem dL_law_455 : decode cL_law 455 = .ok (.iaload, 1) := by decide +kernel
theorem dL_law_456 : decode cL_law 456 = .ok (.aload_n 0, 1) := by decide +kernel
theorem dL_law_457 : decode cL_law 457 = .ok (.iload_n 3, 1) := by decide +kernel
theorem dL_law_458 : decode cL_law 458 = .ok (.iconst 3, 1) := by decide +kernel
theorem dL_law_459 : decode cL_law 459 = .ok (.iadd, 1) := by decide +kernel
theorem dL_law_460 : decode cL_law 460 = .ok (.iaload, 1) := by decide +kernel
theorem dL_law_461 : decode cL_law 461 = .ok (.aload_n 0, 1) := by decide +kernel
theorem dL_law_462 : decode cL_law 462 = .ok (.iload_n 3, 1) := by decide +kernel
theorem dL_law_463 : decode cL_law 463 = .ok (.iconst 4, 1) := by decide +kernel
theorem dL_law_464 : decode cL_law 464 = .ok (.iadd, 1) := by decide +kernel
theorem dL_law_465 : decode cL_law 465 = .ok (.iaload, 1) := by decide +kernel
theorem dL_law_466 : decode cL_law 466 = .ok (.aload_n 0, 1) := by decide +kernel
theorem dL_law_467 : decode cL_law 467 = .ok (.iload_n 3, 1) := by decide +kernel
theorem dL_law_468 : decode cL_law 468 = .ok (.iconst 5, 1) := by decide +kernel
theorem dL_law_469 : decode cL_law 469 = .ok (.iadd, 1) := by decide +kernel
theorem dL_law_470 : decode cL_law 470 = .ok (.iaload, 1) := by decide +kernel
theorem dL_law_471 : decode cL_law 471 = .ok (.aload_n 0, 1) := by decide +kernel
theorem dL_law_472 : decode cL_law 472 = .ok (.iload_n 3, 1) := by decide +kernel
theorem dL_law_473 : decode cL_law 473 = .ok (.bipush 6, 2) := by decide +kernel
theorem dL_law_475 : decode cL_law 475 = .ok (.iadd, 1) := by decide +kernel
theorem dL_law_476 : decode cL_law 476 = .ok (.iaload, 1) := by decide +kernel
theorem dL_law_477 : decode cL_law 477 = .ok (.invokevirtual 50, 3) := by decide +kernel
theorem dL_law_480 : decode cL_law 480 = .ok (.if_icmp .eq 351, 3) := by decide +kernel
theorem dL_law_483 : decode cL_law 483 = .ok (.iconst 0, 1) := by decide +kernel
theorem dL_law_484 : decode cL_law 484 = .ok (.ireturn, 1) := by decide +kernel
theorem dL_law_485 : decode cL_law 485 = .ok (.aload_n 1, 1) := by decide +kernel
theorem dL_law_486 : decode cL_law 486 = .ok (.aload_n 0, 1) := by decide +kernel
theorem dL_law_487 : decode cL_law 487 = .ok (.iload_n 3, 1) := by decide +kernel
theorem dL_law_488 : decode cL_law 488 = .ok (.iconst 1, 1) := by decide +kernel
theorem dL_law_489 : decode cL_law 489 = .ok (.iadd, 1) := by decide +kernel
theorem dL_law_490 : decode cL_law 490 = .ok (.iaload, 1) := by decide +kernel
theorem dL_law_491 : decode cL_law 491 = .ok (.aload_n 0, 1) := by decide +kernel
theorem dL_law_492 : decode cL_law 492 = .ok (.iload_n 3, 1) := by decide +kernel
theorem dL_law_493 : decode cL_law 493 = .ok (.iconst 2, 1) := by decide +kernel
theorem dL_law_494 : decode cL_law 494 = .ok (.iadd, 1) := by decide +kernel
theorem dL_law_495 : decode cL_law 495 = .ok (.iaload, 1) := by decide +kernel
theorem dL_law_496 : decode cL_law 496 = .ok (.aload_n 0, 1) := by decide +kernel
theorem dL_law_497 : decode cL_law 497 = .ok (.iload_n 3, 1) := by decide +kernel
theorem dL_law_498 : decode cL_law 498 = .ok (.iconst 3, 1) := by decide +kernel
theorem dL_law_499 : decode cL_law 499 = .ok (.iadd, 1) := by decide +kernel
theorem dL_law_500 : decode cL_law 500 = .ok (.iaload, 1) := by decide +kernel
theorem dL_law_501 : decode cL_law 501 = .ok (.aload_n 0, 1) := by decide +kernel
theorem dL_law_502 : decode cL_law 502 = .ok (.iload_n 3, 1) := by decide +kernel
theorem dL_law_503 : decode cL_law 503 = .ok (.iconst 4, 1) := by decide +kernel
theorem dL_law_504 : decode cL_law 504 = .ok (.iadd, 1) := by decide +kernel
theorem dL_law_505 : decode cL_law 505 = .ok (.iaload, 1) := by decide +kernel
theorem dL_law_506 : decode cL_law 506 = .ok (.aload_n 0, 1) := by decide +kernel
theorem dL_law_507 : decode cL_law 507 = .ok (.iload_n 3, 1) := by decide +kernel
theorem dL_law_508 : decode cL_law 508 = .ok (.iconst 5, 1) := by decide +kernel
theorem dL_law_509 : decode cL_law 509 = .ok (.iadd, 1) := by decide +kernel
theorem dL_law_510 : decode cL_law 510 = .ok (.iaload, 1) := by decide +kernel
theorem dL_law_511 : decode cL_law 511 = .ok (.invokevirtual 51, 3) := by decide +kernel
theorem dL_law_514 : decode cL_law 514 = .ok (.aload_n 2, 1) := by decide +kernel
theorem dL_law_515 : decode cL_law 515 = .ok (.aload_n 0, 1) := by decide +kernel
theorem dL_law_516 : decode cL_law 516 = .ok (.iload_n 3, 1) := by decide +kernel
theorem dL_law_517 : decode cL_law 517 = .ok (.iconst 1, 1) := by decide +kernel
theorem dL_law_518 : decode cL_law 518 = .ok (.iadd, 1) := by decide +kernel
theorem dL_law_519 : decode cL_law 519 = .ok (.iaload, 1) := by decide +kernel
theorem dL_law_520 : decode cL_law 520 = .ok (.aload_n 0, 1) := by decide +kernel
theorem dL_law_521 : decode cL_law 521 = .ok (.iload_n 3, 1) := by decide +kernel
theorem dL_law_522 : decode cL_law 522 = .ok (.iconst 2, 1) := by decide +kernel
theorem dL_law_523 : decode cL_law 523 = .ok (.iadd, 1) := by decide +kernel
theorem dL_law_524 : decode cL_law 524 = .ok (.iaload, 1) := by decide +kernel
theorem dL_law_525 : decode cL_law 525 = .ok (.aload_n 0, 1) := by decide +kernel
theorem dL_law_526 : decode cL_law 526 = .ok (.iload_n 3, 1) := by decide +kernel
theorem dL_law_527 : decode cL_law 527 = .ok (.iconst 3, 1) := by decide +kernel
theorem dL_law_528 : decode cL_law 528 = .ok (.iadd, 1) := by decide +kernel
theorem dL_law_529 : decode cL_law 529 = .ok (.iaload, 1) := by decide +kernel
theorem dL_law_530 : decode cL_law 530 = .ok (.aload_n 0, 1) := by decide +kernel
theorem dL_law_531 : decode cL_law 531 = .ok (.iload_n 3, 1) := by decide +kernel
theorem dL_law_532 : decode cL_law 532 = .ok (.iconst 4, 1) := by decide +kernel
theorem dL_law_533 : decode cL_law 533 = .ok (.iadd, 1) := by decide +kernel
theorem dL_law_534 : decode cL_law 534 = .ok (.iaload, 1) := by decide +kernel
theorem dL_law_535 : decode cL_law 535 = .ok (.aload_n 0, 1) := by decide +kernel
theorem dL_law_536 : decode cL_law 536 = .ok (.iload_n 3, 1) := by decide +kernel
theorem dL_law_537 : decode cL_law 537 = .ok (.iconst 5, 1) := by decide +kernel
theorem dL_law_538 : decode cL_law 538 = .ok (.iadd, 1) := by decide +kernel
theorem dL_law_539 : decode cL_law 539 = .ok (.iaload, 1) := by decide +kernel
theorem dL_law_540 : decode cL_law 540 = .ok (.invokevirtual 55, 3) := by decide +kernel
theorem dL_law_543 : decode cL_law 543 = .ok (.if_icmp .eq 288, 3) := by decide +kernel
theorem dL_law_546 : decode cL_law 546 = .ok (.iconst 0, 1) := by decide +kernel
theorem dL_law_547 : decode cL_law 547 = .ok (.ireturn, 1) := by decide +kernel
theorem dL_law_548 : decode cL_law 548 = .ok (.aload_n 1, 1) := by decide +kernel
theorem dL_law_549 : decode cL_law 549 = .ok (.aload_n 0, 1) := by decide +kernel
theorem dL_law_550 : decode cL_law 550 = .ok (.iload_n 3, 1) := by decide +kernel
theorem dL_law_551 : decode cL_law 551 = .ok (.iconst 1, 1) := by decide +kernel
theorem dL_law_552 : decode cL_law 552 = .ok (.iadd, 1) := by decide +kernel
theorem dL_law_553 : decode cL_law 553 = .ok (.iaload, 1) := by decide +kernel
theorem dL_law_554 : decode cL_law 554 = .ok (.aload_n 0, 1) := by decide +kernel
theorem dL_law_555 : decode cL_law 555 = .ok (.iload_n 3, 1) := by decide +kernel
theorem dL_law_556 : decode cL_law 556 = .ok (.iconst 2, 1) := by decide +kernel
theorem dL_law_557 : decode cL_law 557 = .ok (.iadd, 1) := by decide +kernel
theorem dL_law_558 : decode cL_law 558 = .ok (.iaload, 1) := by decide +kernel
theorem dL_law_559 : decode cL_law 559 = .ok (.aload_n 0, 1) := by decide +kernel
theorem dL_law_560 : decode cL_law 560 = .ok (.iload_n 3, 1) := by decide +kernel
theorem dL_law_561 : decode cL_law 561 = .ok (.iconst 3, 1) := by decide +kernel
theorem dL_law_562 : decode cL_law 562 = .ok (.iadd, 1) := by decide +kernel
theorem dL_law_563 : decode cL_law 563 = .ok (.iaload, 1) := by decide +kernel
theorem dL_law_564 : decode cL_law 564 = .ok (.invokevirtual 56, 3) := by decide +kernel
theorem dL_law_567 : decode cL_law 567 = .ok (.aload_n 2, 1) := by decide +kernel
theorem dL_law_568 : decode cL_law 568 = .ok (.aload_n 0, 1) := by decide +kernel
theorem dL_law_569 : decode cL_law 569 = .ok (.iload_n 3, 1) := by decide +kernel
theorem dL_law_570 : decode cL_law 570 = .ok (.iconst 1, 1) := by decide +kernel
theorem dL_law_571 : decode cL_law 571 = .ok (.iadd, 1) := by decide +kernel
theorem dL_law_572 : decode cL_law 572 = .ok (.iaload, 1) := by decide +kernel
theorem dL_law_573 : decode cL_law 573 = .ok (.aload_n 0, 1) := by decide +kernel
theorem dL_law_574 : decode cL_law 574 = .ok (.iload_n 3, 1) := by decide +kernel
theorem dL_law_575 : decode cL_law 575 = .ok (.iconst 2, 1) := by decide +kernel
theorem dL_law_576 : decode cL_law 576 = .ok (.iadd, 1) := by decide +kernel
theorem dL_law_577 : decode cL_law 577 = .ok (.iaload, 1) := by decide +kernel
theorem dL_law_578 : decode cL_law 578 = .ok (.aload_n 0, 1) := by decide +kernel
theorem dL_law_579 : decode cL_law 579 = .ok (.iload_n 3, 1) := by decide +kernel
theorem dL_law_580 : decode cL_law 580 = .ok (.iconst 3, 1) := by decide +kernel
theorem dL_law_581 : decode cL_law 581 = .ok (.iadd, 1) := by decide +kernel
theorem dL_law_582 : decode cL_law 582 = .ok (.iaload, 1) := by decide +kernel
theorem dL_law_583 : decode cL_law 583 = .ok (.invokevirtual 59, 3) := by decide +kernel
theorem dL_law_586 : decode cL_law 586 = .ok (.if_icmp .eq 245, 3) := by decide +kernel
theorem dL_law_589 : decode cL_law 589 = .ok (.iconst 0, 1) := by decide +kernel
theorem dL_law_590 : decode cL_law 590 = .ok (.ireturn, 1) := by decide +kernel
theorem dL_law_591 : decode cL_law 591 = .ok (.aload_n 1, 1) := by decide +kernel
theorem dL_law_592 : decode cL_law 592 = .ok (.aload_n 0, 1) := by decide +kernel
theorem dL_law_593 : decode cL_law 593 = .ok (.iload_n 3, 1) := by decide +kernel
theorem dL_law_594 : decode cL_law 594 = .ok (.iconst 1, 1) := by decide +kernel
theorem dL_law_595 : decode cL_law 595 = .ok (.iadd, 1) := by decide +kernel
theorem dL_law_596 : decode cL_law 596 = .ok (.iaload, 1) := by decide +kernel
theorem dL_law_597 : decode cL_law 597 = .ok (.invokevirtual 60, 3) := by decide +kernel
theorem dL_law_600 : decode cL_law 600 = .ok (.aload_n 2, 1) := by decide +kernel
theorem dL_law_601 : decode cL_law 601 = .ok (.aload_n 0, 1) := by decide +kernel
theorem dL_law_602 : decode cL_law 602 = .ok (.iload_n 3, 1) := by decide +kernel
theorem dL_law_603 : decode cL_law 603 = .ok (.iconst 1, 1) := by decide +kernel
theorem dL_law_604 : decode cL_law 604 = .ok (.iadd, 1) := by decide +kernel
theorem dL_law_605 : decode cL_law 605 = .ok (.iaload, 1) := by decide +kernel
theorem dL_law_606 : decode cL_law 606 = .ok (.invokevirtual 63, 3) := by decide +kernel
theorem dL_law_609 : decode cL_law 609 = .ok (.if_icmp .eq 222, 3) := by decide +kernel
theorem dL_law_612 : decode cL_law 612 = .ok (.iconst 0, 1) := by decide +kernel
theorem dL_law_613 : decode cL_law 613 = .ok (.ireturn, 1) := by decide +kernel
theorem dL_law_614 : decode cL_law 614 = .ok (.aload_n 1, 1) := by decide +kernel
theorem dL_law_615 : decode cL_law 615 = .ok (.aload_n 0, 1) := by decide +kernel
theorem dL_law_616 : decode cL_law 616 = .ok (.iload_n 3, 1) := by decide +kernel
theorem dL_law_617 : decode cL_law 617 = .ok (.iconst 1, 1) := by decide +kernel
theorem dL_law_618 : decode cL_law 618 = .ok (.iadd, 1) := by decide +kernel
theorem dL_law_619 : decode cL_law 619 = .ok (.iaload, 1) := by decide +kernel
theorem dL_law_620 : decode cL_law 620 = .ok (.invokevirtual 64, 3) := by decide +kernel
theorem dL_law_623 : decode cL_law 623 = .ok (.aload_n 2, 1) := by decide +kernel
theorem dL_law_624 : decode cL_law 624 = .ok (.aload_n 0, 1) := by decide +kernel
theorem dL_law_625 : decode cL_law 625 = .ok (.iload_n 3, 1) := by decide +kernel
theorem dL_law_626 : decode cL_law 626 = .ok (.iconst 1, 1) := by decide +kernel
theorem dL_law_627 : decode cL_law 627 = .ok (.iadd, 1) := by decide +kernel
theorem dL_law_628 : decode cL_law 628 = .ok (.iaload, 1) := by decide +kernel
theorem dL_law_629 : decode cL_law 629 = .ok (.invokevirtual 67, 3) := by decide +kernel
theorem dL_law_632 : decode cL_law 632 = .ok (.if_icmp .eq 199, 3) := by decide +kernel
theorem dL_law_635 : decode cL_law 635 = .ok (.iconst 0, 1) := by decide +kernel
theorem dL_law_636 : decode cL_law 636 = .ok (.ireturn, 1) := by decide +kernel
theorem dL_law_637 : decode cL_law 637 = .ok (.aload_n 1, 1) := by decide +kernel
theorem dL_law_638 : decode cL_law 638 = .ok (.aload_n 0, 1) := by decide +kernel
theorem dL_law_639 : decode cL_law 639 = .ok (.iload_n 3, 1) := by decide +kernel
theorem dL_law_640 : decode cL_law 640 = .ok (.iconst 1, 1) := by decide +kernel
theorem dL_law_641 : decode cL_law 641 = .ok (.iadd, 1) := by decide +kernel
theorem dL_law_642 : decode cL_law 642 = .ok (.iaload, 1) := by decide +kernel
theorem dL_law_643 : decode cL_law 643 = .ok (.invokevirtual 68, 3) := by decide +kernel
theorem dL_law_646 : decode cL_law 646 = .ok (.aload_n 2, 1) := by decide +kernel
theorem dL_law_647 : decode cL_law 647 = .ok (.aload_n 0, 1) := by decide +kernel
theorem dL_law_648 : decode cL_law 648 = .ok (.iload_n 3, 1) := by decide +kernel
theorem dL_law_649 : decode cL_law 649 = .ok (.iconst 1, 1) := by decide +kernel
theorem dL_law_650 : decode cL_law 650 = .ok (.iadd, 1) := by decide +kernel
theorem dL_law_651 : decode cL_law 651 = .ok (.iaload, 1) := by decide +kernel
theorem dL_law_652 : decode cL_law 652 = .ok (.invokevirtual 71, 3) := by decide +kernel
theorem dL_law_655 : decode cL_law 655 = .ok (.if_icmp .eq 176, 3) := by decide +kernel
theorem dL_law_658 : decode cL_law 658 = .ok (.iconst 0, 1) := by decide +kernel
theorem dL_law_659 : decode cL_law 659 = .ok (.ireturn, 1) := by decide +kernel
theorem dL_law_660 : decode cL_law 660 = .ok (.aload_n 1, 1) := by decide +kernel
theorem dL_law_661 : decode cL_law 661 = .ok (.aload_n 0, 1) := by decide +kernel
theorem dL_law_662 : decode cL_law 662 = .ok (.iload_n 3, 1) := by decide +kernel
theorem dL_law_663 : decode cL_law 663 = .ok (.iconst 1, 1) := by decide +kernel
theorem dL_law_664 : decode cL_law 664 = .ok (.iadd, 1) := by decide +kernel
theorem dL_law_665 : decode cL_law 665 = .ok (.iaload, 1) := by decide +kernel
theorem dL_law_666 : decode cL_law 666 = .ok (.invokevirtual 72, 3) := by decide +kernel
theorem dL_law_669 : decode cL_law 669 = .ok (.aload_n 2, 1) := by decide +kernel
theorem dL_law_670 : decode cL_law 670 = .ok (.aload_n 0, 1) := by decide +kernel
theorem dL_law_671 : decode cL_law 671 = .ok (.iload_n 3, 1) := by decide +kernel
theorem dL_law_672 : decode cL_law 672 = .ok (.iconst 1, 1) := by decide +kernel
theorem dL_law_673 : decode cL_law 673 = .ok (.iadd, 1) := by decide +kernel
theorem dL_law_674 : decode cL_law 674 = .ok (.iaload, 1) := by decide +kernel
theorem dL_law_675 : decode cL_law 675 = .ok (.invokevirtual 75, 3) := by decide +kernel
theorem dL_law_678 : decode cL_law 678 = .ok (.if_icmp .eq 153, 3) := by decide +kernel
theorem dL_law_681 : decode cL_law 681 = .ok (.iconst 0, 1) := by decide +kernel
theorem dL_law_682 : decode cL_law 682 = .ok (.ireturn, 1) := by decide +kernel
theorem dL_law_683 : decode cL_law 683 = .ok (.aload_n 1, 1) := by decide +kernel
theorem dL_law_684 : decode cL_law 684 = .ok (.aload_n 0, 1) := by decide +kernel
theorem dL_law_685 : decode cL_law 685 = .ok (.iload_n 3, 1) := by decide +kernel
theorem dL_law_686 : decode cL_law 686 = .ok (.iconst 1, 1) := by decide +kernel
theorem dL_law_687 : decode cL_law 687 = .ok (.iadd, 1) := by decide +kernel
theorem dL_law_688 : decode cL_law 688 = .ok (.iaload, 1) := by decide +kernel
theorem dL_law_689 : decode cL_law 689 = .ok (.invokevirtual 76, 3) := by decide +kernel
theorem dL_law_692 : decode cL_law 692 = .ok (.aload_n 2, 1) := by decide +kernel
theorem dL_law_693 : decode cL_law 693 = .ok (.aload_n 0, 1) := by decide +kernel
theorem dL_law_694 : decode cL_law 694 = .ok (.iload_n 3, 1) := by decide +kernel
theorem dL_law_695 : decode cL_law 695 = .ok (.iconst 1, 1) := by decide +kernel
theorem dL_law_696 : decode cL_law 696 = .ok (.iadd, 1) := by decide +kernel
theorem dL_law_697 : decode cL_law 697 = .ok (.iaload, 1) := by decide +kernel
theorem dL_law_698 : decode cL_law 698 = .ok (.invokevirtual 79, 3) := by decide +kernel
theorem dL_law_701 : decode cL_law 701 = .ok (.if_icmp .eq 130, 3) := by decide +kernel
theorem dL_law_704 : decode cL_law 704 = .ok (.iconst 0, 1) := by decide +kernel
theorem dL_law_705 : decode cL_law 705 = .ok (.ireturn, 1) := by decide +kernel
theorem dL_law_706 : decode cL_law 706 = .ok (.aload_n 1, 1) := by decide +kernel
theorem dL_law_707 : decode cL_law 707 = .ok (.aload_n 0, 1) := by decide +kernel
theorem dL_law_708 : decode cL_law 708 = .ok (.iload_n 3, 1) := by decide +kernel
theorem dL_law_709 : decode cL_law 709 = .ok (.iconst 1, 1) := by decide +kernel
theorem dL_law_710 : decode cL_law 710 = .ok (.iadd, 1) := by decide +kernel
theorem dL_law_711 : decode cL_law 711 = .ok (.iaload, 1) := by decide +kernel
theorem dL_law_712 : decode cL_law 712 = .ok (.aload_n 0, 1) := by decide +kernel
theorem dL_law_713 : decode cL_law 713 = .ok (.iload_n 3, 1) := by decide +kernel
theorem dL_law_714 : decode cL_law 714 = .ok (.iconst 2, 1) := by decide +kernel
theorem dL_law_715 : decode cL_law 715 = .ok (.iadd, 1) := by decide +kernel
theorem dL_law_716 : decode cL_law 716 = .ok (.iaload, 1) := by decide +kernel
theorem dL_law_717 : decode cL_law 717 = .ok (.aload_n 0, 1) := by decide +kernel
theorem dL_law_718 : decode cL_law 718 = .ok (.iload_n 3, 1) := by decide +kernel
theorem dL_law_719 : decode cL_law 719 = .ok (.iconst 3, 1) := by decide +kernel
theorem dL_law_720 : decode cL_law 720 = .ok (.iadd, 1) := by decide +kernel
theorem dL_law_721 : decode cL_law 721 = .ok (.iaload, 1) := by decide +kernel
theorem dL_law_722 : decode cL_law 722 = .ok (.invokevirtual 80, 3) := by decide +kernel
theorem dL_law_725 : decode cL_law 725 = .ok (.aload_n 2, 1) := by decide +kernel
theorem dL_law_726 : decode cL_law 726 = .ok (.aload_n 0, 1) := by decide +kernel
theorem dL_law_727 : decode cL_law 727 = .ok (.iload_n 3, 1) := by decide +kernel
theorem dL_law_728 : decode cL_law 728 = .ok (.iconst 1, 1) := by decide +kernel
theorem dL_law_729 : decode cL_law 729 = .ok (.iadd, 1) := by decide +kernel
theorem dL_law_730 : decode cL_law 730 = .ok (.iaload, 1) := by decide +kernel
theorem dL_law_731 : decode cL_law 731 = .ok (.aload_n 0, 1) := by decide +kernel
theorem dL_law_732 : decode cL_law 732 = .ok (.iload_n 3, 1) := by decide +kernel
theorem dL_law_733 : decode cL_law 733 = .ok (.iconst 2, 1) := by decide +kernel
theorem dL_law_734 : decode cL_law 734 = .ok (.iadd, 1) := by decide +kernel
theorem dL_law_735 : decode cL_law 735 = .ok (.iaload, 1) := by decide +kernel
theorem dL_law_736 : decode cL_law 736 = .ok (.aload_n 0, 1) := by decide +kernel
theorem dL_law_737 : decode cL_law 737 = .ok (.iload_n 3, 1) := by decide +kernel
theorem dL_law_738 : decode cL_law 738 = .ok (.iconst 3, 1) := by decide +kernel
theorem dL_law_739 : decode cL_law 739 = .ok (.iadd, 1) := by decide +kernel
theorem dL_law_740 : decode cL_law 740 = .ok (.iaload, 1) := by decide +kernel
theorem dL_law_741 : decode cL_law 741 = .ok (.invokevirtual 83, 3) := by decide +kernel
theorem dL_law_744 : decode cL_law 744 = .ok (.if_icmp .eq 87, 3) := by decide +kernel
theorem dL_law_747 : decode cL_law 747 = .ok (.iconst 0, 1) := by decide +kernel
theorem dL_law_748 : decode cL_law 748 = .ok (.ireturn, 1) := by decide +kernel
theorem dL_law_749 : decode cL_law 749 = .ok (.aload_n 1, 1) := by decide +kernel
theorem dL_law_750 : decode cL_law 750 = .ok (.invokevirtual 84, 3) := by decide +kernel
theorem dL_law_753 : decode cL_law 753 = .ok (.aload_n 2, 1) := by decide +kernel
theorem dL_law_754 : decode cL_law 754 = .ok (.invokevirtual 88, 3) := by decide +kernel
theorem dL_law_757 : decode cL_law 757 = .ok (.if_icmp .eq 74, 3) := by decide +kernel
theorem dL_law_760 : decode cL_law 760 = .ok (.iconst 0, 1) := by decide +kernel
theorem dL_law_761 : decode cL_law 761 = .ok (.ireturn, 1) := by decide +kernel
theorem dL_law_762 : decode cL_law 762 = .ok (.aload_n 1, 1) := by decide +kernel
theorem dL_law_763 : decode cL_law 763 = .ok (.aload_n 0, 1) := by decide +kernel
theorem dL_law_764 : decode cL_law 764 = .ok (.iload_n 3, 1) := by decide +kernel
theorem dL_law_765 : decode cL_law 765 = .ok (.iconst 1, 1) := by decide +kernel
theorem dL_law_766 : decode cL_law 766 = .ok (.iadd, 1) := by decide +kernel
theorem dL_law_767 : decode cL_law 767 = .ok (.iaload, 1) := by decide +kernel
theorem dL_law_768 : decode cL_law 768 = .ok (.invokevirtual 89, 3) := by decide +kernel
theorem dL_law_771 : decode cL_law 771 = .ok (.aload_n 2, 1) := by decide +kernel
theorem dL_law_772 : decode cL_law 772 = .ok (.aload_n 0, 1) := by decide +kernel
theorem dL_law_773 : decode cL_law 773 = .ok (.iload_n 3, 1) := by decide +kernel
theorem dL_law_774 : decode cL_law 774 = .ok (.iconst 1, 1) := by decide +kernel
theorem dL_law_775 : decode cL_law 775 = .ok (.iadd, 1) := by decide +kernel
theorem dL_law_776 : decode cL_law 776 = .ok (.iaload, 1) := by decide +kernel
theorem dL_law_777 : decode cL_law 777 = .ok (.invokevirtual 92, 3) := by decide +kernel
theorem dL_law_780 : decode cL_law 780 = .ok (.if_icmp .eq 51, 3) := by decide +kernel
theorem dL_law_783 : decode cL_law 783 = .ok (.iconst 0, 1) := by decide +kernel
theorem dL_law_784 : decode cL_law 784 = .ok (.ireturn, 1) := by decide +kernel
theorem dL_law_785 : decode cL_law 785 = .ok (.aload_n 1, 1) := by decide +kernel
theorem dL_law_786 : decode cL_law 786 = .ok (.aload_n 0, 1) := by decide +kernel
theorem dL_law_787 : decode cL_law 787 = .ok (.iload_n 3, 1) := by decide +kernel
theorem dL_law_788 : decode cL_law 788 = .ok (.iconst 1, 1) := by decide +kernel
theorem dL_law_789 : decode cL_law 789 = .ok (.iadd, 1) := by decide +kernel
theorem dL_law_790 : decode cL_law 790 = .ok (.iaload, 1) := by decide +kernel
theorem dL_law_791 : decode cL_law 791 = .ok (.invokevirtual 93, 3) := by decide +kernel
theorem dL_law_794 : decode cL_law 794 = .ok (.aload_n 2, 1) := by decide +kernel
theorem dL_law_795 : decode cL_law 795 = .ok (.aload_n 0, 1) := by decide +kernel
theorem dL_law_796 : decode cL_law 796 = .ok (.iload_n 3, 1) := by decide +kernel
theorem dL_law_797 : decode cL_law 797 = .ok (.iconst 1, 1) := by decide +kernel
theorem dL_law_798 : decode cL_law 798 = .ok (.iadd, 1) := by decide +kernel
theorem dL_law_799 : decode cL_law 799 = .ok (.iaload, 1) := by decide +kernel
theorem dL_law_800 : decode cL_law 800 = .ok (.invokevirtual 96, 3) := by decide +kernel
theorem dL_law_803 : decode cL_law 803 = .ok (.if_icmp .eq 28, 3) := by decide +kernel
theorem dL_law_806 : decode cL_law 806 = .ok (.iconst 0, 1) := by decide +kernel
theorem dL_law_807 : decode cL_law 807 = .ok (.ireturn, 1) := by decide +kernel
theorem dL_law_808 : decode cL_law 808 = .ok (.aload_n 1, 1) := by decide +kernel
theorem dL_law_809 : decode cL_law 809 = .ok (.aload_n 0, 1) := by decide +kernel
theorem dL_law_810 : decode cL_law 810 = .ok (.iload_n 3, 1) := by decide +kernel
theorem dL_law_811 : decode cL_law 811 = .ok (.iconst 1, 1) := by decide +kernel
theorem dL_law_812 : decode cL_law 812 = .ok (.iadd, 1) := by decide +kernel
theorem dL_law_813 : decode cL_law 813 = .ok (.iaload, 1) := by decide +kernel
theorem dL_law_814 : decode cL_law 814 = .ok (.invokevirtual 97, 3) := by decide +kernel
theorem dL_law_817 : decode cL_law 817 = .ok (.aload_n 2, 1) := by decide +kernel
theorem dL_law_818 : decode cL_law 818 = .ok (.aload_n 0, 1) := by decide +kernel
theorem dL_law_819 : decode cL_law 819 = .ok (.iload_n 3, 1) := by decide +kernel
theorem dL_law_820 : decode cL_law 820 = .ok (.iconst 1, 1) := by decide +kernel
theorem dL_law_821 : decode cL_law 821 = .ok (.iadd, 1) := by decide +kernel
theorem dL_law_822 : decode cL_law 822 = .ok (.iaload, 1) := by decide +kernel
theorem dL_law_823 : decode cL_law 823 = .ok (.invokevirtual 100, 3) := by decide +kernel
theorem dL_law_826 : decode cL_law 826 = .ok (.if_icmp .eq 5, 3) := by decide +kernel
theorem dL_law_829 : decode cL_law 829 = .ok (.iconst 0, 1) := by decide +kernel
theorem dL_law_830 : decode cL_law 830 = .ok (.ireturn, 1) := by decide +kernel
theorem dL_law_831 : decode cL_law 831 = .ok (.iinc 3 7, 3) := by decide +kernel
theorem dL_law_834 : decode cL_law 834 = .ok (.goto (-816), 3) := by decide +kernel
theorem dL_law_837 : decode cL_law 837 = .ok (.iconst 1, 1) := by decide +kernel
theorem dL_law_838 : decode cL_law 838 = .ok (.ireturn, 1) := by decide +kernel
end
section
/-! ===== the abstract machine: cells by number, a state (ints, longs, references by cell), a row an instruction ===== -/
def TT : List Cond := lw_tbl.filter goodWord
theorem tt_mem {w : Cond} (h : w ∈ lw_tbl) (hg : goodWord w = true) : w ∈ TT := List.mem_filter.mpr ⟨h, hg⟩
theorem tt_good : GoodIn TT TT := fun w h => ⟨h, good_of_word (List.mem_filter.mp h).2⟩
abbrev St : Type := (Nat → Nat → Int32) × (Nat → Nat → Int64) × (Nat → Nat → Nat)
def pI (σ : St) (k j : Nat) (v : Int32) : St := (fun a b => if a = k ∧ b = j then v else σ.1 a b, σ.2)
def pL (σ : St) (k j : Nat) (v : Int64) : St := (σ.1, fun a b => if a = k ∧ b = j then v else σ.2.1 a b, σ.2.2)
def pP (σ : St) (k j : Nat) (v : Nat) : St := (σ.1, σ.2.1, fun a b => if a = k ∧ b = j then v else σ.2.2 a b)
/-- a whole int array becomes another -/
def pA (σ : St) (k : Nat) (f : Nat → Int32) : St := (fun a b => if a = k then f b else σ.1 a b, σ.2)
abbrev Ge : Type := va_G × (Nat → Nat) × (Nat → ClassId)
def cv (g : Ge) : Value → Value
  | .ref k => .ref (g.2.1 k)
  | v => v
theorem cv_cat (g : Ge) (v : Value) : (cv g v).category = v.category := by cases v <;> rfl
def Cls : List vw_C := [(RX0, TX0, 4), (RX2, TX2, 5), (RX3, TX3, 1), (RX4, TX4, 7), (RX5, TX5, 3), (RX6, TX6, 3), (RX7, TX7, 4), (RX8, TX8, 3), (RX9, TX9, 8), (RX10, TX10, 16)]
def ftT : List (List Nat) := [[2, 2, 2, 0], [2, 2, 2, 2, 0], [0], [2, 0, 0, 0, 0, 0, 0], [2, 0, 0], [2, 0, 3], [2, 2, 0, 0], [2, 0, 0], [2, 2, 2, 2, 2, 2, 2, 2], [0, 2, 2, 0, 2, 2, 2, 1, 0, 2, 2, 2, 0, 0, 2, 2]]
def ft (ci j : Nat) : Nat := (ftT.getD ci []).getD j 0
def nf (ci : Nat) : Nat := (ftT.getD ci []).length
def rfT8 : List Nat := [29, 1, 3, 4, 5, 9, 10, 13]
def rfT9 : List Nat := [0, 19, 20, 0, 21, 22, 23, 0, 0, 24, 25, 26, 0, 0, 27, 28]
/-- the cell that a reference field holds, by class, field and cell -/
def rf (ci j k : Nat) : Nat := match ci with
  | 0 => 6 + j
  | 1 => 14 + j
  | 3 => k + 1
  | 4 => 2
  | 5 => 2 * k + 57
  | 6 => 11 + j
  | 7 => k + 1
  | 8 => rfT8.getD j 0
  | _ => rfT9.getD j 0
def fv (σ : St) (ci k j : Nat) : Value := match ft ci j with
  | 1 => .long (σ.2.1 k j)
  | 2 => .ref (rf ci j k)
  | _ => .int (σ.1 k j)
def layT : List (Nat × Nat) := [(0, 8), (0, 4), (5, 16), (0, 5), (0, 5), (0, 0), (1, 20), (1, 20), (1, 20), (0, 2), (0, 6), (1, 61), (1, 61), (0, 1), (1, 4), (1, 4), (2, 4), (2, 4), (0, 9), (1, 338), (1, 5408), (1, 676), (3, 2), (2, 2), (1, 20), (1, 20), (1, 20), (1, 61), (1, 61)]
/-- a cell's kind: 0 an object (of that class), 1 ints, 2 longs, 3 booleans, 4 Grids, 5 Sheets (so many) -/
def lay (k : Nat) : Nat × Nat := if k < 29 then layT.getD k (0, 0) else if k < 67 then (if k % 2 = 1 then (0, 7) else (4, 6)) else (if k % 2 = 1 then (0, 3) else (1, 50))
abbrev Is (k a n : Nat) : Prop := k < 295 ∧ lay k = (a, n)
def wE (g : Ge) (σ : St) (k : Nat) : va_E := match lay k with
  | (0, ci) => .inr (ci, (List.range (nf ci)).map (fun j => cv g (fv σ ci k j)))
  | (1, n) => .inl (g.2.2 0, n, .inl (σ.1 k))
  | (2, n) => .inl (g.2.2 1, n, .inr (.inl (σ.2.1 k)))
  | (3, n) => .inl (g.2.2 2, n, .inl (σ.1 k))
  | (4, n) => .inl (g.2.2 3, n, .inr (.inr (.inr (.inr (fun j => some (g.2.1 (σ.2.2 k j)))))))
  | (_, n) => .inl (g.2.2 4, n, .inr (.inr (.inr (.inr (fun j => some (g.2.1 (31 + 2 * j)))))))
def wld (g : Ge) (σ : St) : va_W := (List.range 295).map (fun k => (g.2.1 k, wE g σ k))
theorem wld_get (g : Ge) (σ : St) {k : Nat} (h : k < 295) : (wld g σ)[k]? = some (g.2.1 k, wE g σ k) := by
  simp [wld, h]
theorem wld_inv {g : Ge} {σ : St} {k : Nat} {q : Nat × va_E} (h : (wld g σ)[k]? = some q) : k < 295 ∧ q = (g.2.1 k, wE g σ k) := by
  have hk : k < 295 := by
    have := (List.getElem?_eq_some_iff.mp h).1
    simpa [wld] using this
  refine ⟨hk, ?_⟩
  rw [wld_get g σ hk] at h
  exact (Option.some.inj h).symm
theorem wE_congr {g : Ge} {σ σ' : St} {k : Nat} (h1 : σ'.1 k = σ.1 k) (h2 : σ'.2.1 k = σ.2.1 k) (h3 : σ'.2.2 k = σ.2.2 k) : wE g σ' k = wE g σ k := by
  unfold wE fv
  rw [h1, h2, h3]
theorem wld_set {g : Ge} {σ σ' : St} {k : Nat} {e : va_E} (he : wE g σ' k = e) (ho : ∀ j, j ≠ k → wE g σ' j = wE g σ j) : (wld g σ).set k (g.2.1 k, e) = wld g σ' := by
  apply List.ext_getElem?
  intro i
  rw [List.getElem?_set]
  by_cases hi : i < 295
  · rw [wld_get g σ' hi]
    by_cases hik : k = i
    · subst hik
      rw [if_pos rfl, if_pos (by simpa [wld] using hi), he]
    · rw [if_neg hik, wld_get g σ hi, ho i (fun h => hik h.symm)]
  · have h1 : (wld g σ)[i]? = none := by rw [List.getElem?_eq_none_iff]; simp [wld]; omega
    have h2 : (wld g σ')[i]? = none := by rw [List.getElem?_eq_none_iff]; simp [wld]; omega
    rw [h1, h2]
    by_cases hki : k = i
    · rw [if_pos hki, if_neg (by simp [wld]; omega)]
    · rw [if_neg hki]
def Fr (g : Ge) : Nat → Prop := fun q => ∃ k, k < 295 ∧ q = g.2.1 k
def Inj (g : Ge) : Prop := ∀ i j, i < 295 → j < 295 → g.2.1 i = g.2.1 j → i = j
def tys (g : Ge) : List (ClassId × FieldType) := [(g.2.2 0, .int), (g.2.2 1, .long), (g.2.2 2, .boolean), (g.2.2 3, .object RX4), (g.2.2 4, .object RX8)]
def nwW : Cond := .methodLinkNest RX7 22 yX9_isPlace RX9
def Kb (g : Ge) (U : State) : Prop := va_K g.1 Cls (tys g) U ∧ Inj g ∧ va_Nw nwW U
theorem Kb.warm {g : Ge} {s t : State} (h : Kb g s) (hW : s.WarmedH t.vm) : Kb g t := ⟨va_K.moved hW.alike h.1, h.2.1, va_Nw.warmM hW h.2.2⟩
theorem wld_D {g : Ge} (h : Inj g) (σ : St) : va_D (Fr g) (wld g σ) := by
  refine ⟨fun i j p q hi hj hpq => ?_, fun k q hk => ?_⟩
  · obtain ⟨i1, rfl⟩ := wld_inv hi
    obtain ⟨j1, rfl⟩ := wld_inv hj
    exact h i j i1 j1 hpq
  · obtain ⟨k1, rfl⟩ := wld_inv hk
    exact ⟨k, k1, rfl⟩
def Hs (g : Ge) (σ : St) (U : State) : Prop := va_P g.1 Cls (wld g σ) U.heap ∧ Kb g U
def Qx (g : Ge) (out : Option Value × St) : Array Value → State → Outcome → State → Prop := fun _ st oc t => oc = .returned (out.1.map (cv g)) ∧ Hs g out.2 t ∧ va_F (Fr g) st t
/-- code, own class, locals, what it returns, room -/
abbrev MD : Type := ByteArray × String × Nat × Option FieldType × Room
def Ct (y : MethodName) (M : MD) (as : List Value) (σ : St) (out : Option Value × St) : Prop := ∀ (l : Launch) (g : Ge), Met l y (.code y M.1 M.2.2.1 M.2.2.2.1 :: TT) M.2.2.2.2 (va_Pc (as.map (cv g)) (Hs g σ)) (Qx g out) 0 0 (Fr g)
def LH (g : Ge) (ls : Array Slot) (nL : Nat) (lv : List (Option Value)) : Prop := ls.size = nL ∧ lv_wf ls ∧ ∀ (i : Nat) (v : Value), lv[i]? = some (some v) → ls[i]? = some (.val (cv g v))
def lvr : List (Option Value) → Nat → Option Value
  | [], _ => none
  | a :: _, 0 => a
  | _ :: l, n + 1 => lvr l n
theorem lvr_get : ∀ (lv : List (Option Value)) (i : Nat) (v : Value), lvr lv i = some v → lv[i]? = some (some v)
  | [], _, _, h => by cases h
  | a :: _, 0, v, h => by simpa [lvr] using h
  | _ :: l, n + 1, v, h => by simpa using lvr_get l n v h
def isL2 : Option Value → Bool
  | some v => v.category == 2
  | none => false
def lv1 : List (Option Value) → Nat → Value → List (Option Value)
  | [], _, _ => []
  | _ :: l, 0, v => some v :: l
  | a :: l, 1, v => (match isL2 a with | true => none | false => a) :: lv1 l 0 v
  | a :: l, n + 2, v => a :: lv1 l (n + 1) v
def lv2 : List (Option Value) → Nat → Value → List (Option Value)
  | [], _, _ => []
  | [_], 0, _ => [none]
  | _ :: _ :: l, 0, v => some v :: none :: l
  | a :: l, 1, v => (match isL2 a with | true => none | false => a) :: lv2 l 0 v
  | a :: l, n + 2, v => a :: lv2 l (n + 1) v
theorem lv1_get : ∀ (lv : List (Option Value)) (i : Nat) (v w : Value) (j : Nat), (lv1 lv i v)[j]? = some (some w) → (j = i ∧ w = v) ∨ (j ≠ i ∧ lv[j]? = some (some w) ∧ ¬ (j + 1 = i ∧ w.category = 2))
  | [], i, v, w, j, h => by simp [lv1] at h
  | a :: l, 0, v, w, j, h => by
    cases j with
    | zero => left; simp [lv1] at h; exact ⟨rfl, h.symm⟩
    | succ j => right; simp [lv1] at h; exact ⟨by omega, by simpa using h, by omega⟩
  | a :: l, 1, v, w, j, h => by
    cases j with
    | zero =>
      right
      simp only [lv1, List.getElem?_cons_zero, Option.some.injEq] at h
      cases ha : isL2 a with
      | true => rw [ha] at h; cases h
      | false =>
        rw [ha] at h
        have h : a = some w := h
        subst h
        refine ⟨by omega, by simp, fun q => ?_⟩
        simp [isL2, q.2] at ha
    | succ j =>
      simp only [lv1, List.getElem?_cons_succ] at h
      rcases lv1_get l 0 v w j h with h | h
      · left; exact ⟨by omega, h.2⟩
      · right; exact ⟨by omega, by simpa using h.2.1, by omega⟩
  | a :: l, n + 2, v, w, j, h => by
    cases j with
    | zero => right; simp [lv1] at h; exact ⟨by omega, by simp [h], by omega⟩
    | succ j =>
      simp only [lv1, List.getElem?_cons_succ] at h
      rcases lv1_get l (n + 1) v w j h with h | h
      · left; exact ⟨by omega, h.2⟩
      · right; exact ⟨by omega, by simpa using h.2.1, by omega⟩
theorem lv2_get : ∀ (lv : List (Option Value)) (i : Nat) (v w : Value) (j : Nat), (lv2 lv i v)[j]? = some (some w) → (j = i ∧ w = v) ∨ (j ≠ i ∧ j ≠ i + 1 ∧ lv[j]? = some (some w) ∧ ¬ (j + 1 = i ∧ w.category = 2))
  | [], i, v, w, j, h => by simp [lv2] at h
  | [a], 0, v, w, j, h => by
    cases j with
    | zero => simp [lv2] at h
    | succ j => simp [lv2] at h
  | a :: b :: l, 0, v, w, j, h => by
    match j, h with
    | 0, h => left; simp [lv2] at h; exact ⟨rfl, h.symm⟩
    | 1, h => simp [lv2] at h
    | j + 2, h => right; simp [lv2] at h; exact ⟨by omega, by omega, by simpa using h, by omega⟩
  | a :: l, 1, v, w, j, h => by
    cases j with
    | zero =>
      right
      simp only [lv2, List.getElem?_cons_zero, Option.some.injEq] at h
      cases ha : isL2 a with
      | true => rw [ha] at h; cases h
      | false =>
        rw [ha] at h
        have h : a = some w := h
        subst h
        refine ⟨by omega, by omega, by simp, fun q => ?_⟩
        simp [isL2, q.2] at ha
    | succ j =>
      simp only [lv2, List.getElem?_cons_succ] at h
      rcases lv2_get l 0 v w j h with h | h
      · left; exact ⟨by omega, h.2⟩
      · right; exact ⟨by omega, by omega, by simpa using h.2.2.1, by omega⟩
  | a :: l, n + 2, v, w, j, h => by
    cases j with
    | zero => right; simp [lv2] at h; exact ⟨by omega, by omega, by simp [h], by omega⟩
    | succ j =>
      simp only [lv2, List.getElem?_cons_succ] at h
      rcases lv2_get l (n + 1) v w j h with h | h
      · left; exact ⟨by omega, h.2⟩
      · right; exact ⟨by omega, by omega, by simpa using h.2.2.1, by omega⟩
/-- the listed locals -/
def lvk (g : Ge) (lv : List (Option Value)) : List (Nat × Value) := (List.range lv.length).filterMap (fun i => (lv[i]?.join).map (fun v => (i, cv g v)))
theorem lvk_mem {g : Ge} {lv : List (Option Value)} {q : Nat × Value} : q ∈ lvk g lv ↔ ∃ v, lv[q.1]? = some (some v) ∧ q.2 = cv g v := by
  unfold lvk
  rw [List.mem_filterMap]
  constructor
  · rintro ⟨i, hi, h⟩
    cases hv : lv[i]? with
    | none => rw [hv] at h; cases h
    | some a =>
      cases a with
      | none => rw [hv] at h; cases h
      | some v =>
        rw [hv] at h
        cases h
        exact ⟨v, hv, rfl⟩
  · rintro ⟨v, hv, h2⟩
    refine ⟨q.1, List.mem_range.mpr (List.getElem?_eq_some_iff.mp hv).1, ?_⟩
    rw [hv]
    show some (q.1, cv g v) = some q
    rw [← h2]
theorem LH.has {g : Ge} {ls : Array Slot} {nL : Nat} {lv : List (Option Value)} (h : LH g ls nL lv) : lv_has ls nL (lvk g lv) := by
  refine ⟨h.1, h.2.1, fun q hq => ?_⟩
  obtain ⟨v, h1, h2⟩ := lvk_mem.mp hq
  rw [h2]
  exact h.2.2 _ _ h1
theorem LH.st1 {g : Ge} {ls : Array Slot} {nL i : Nat} {lv : List (Option Value)} {v : Value} (h : lv_has ls nL ((i, cv g v) :: (lvk g lv).filter (fun q => !(q.1 == i) && !(q.1 + 1 == i && q.2.category == 2)))) : LH g ls nL (lv1 lv i v) := by
  refine ⟨h.1, h.2.1, fun j w hj => ?_⟩
  rcases lv1_get lv i v w j hj with ⟨rfl, rfl⟩ | ⟨h1, h2, h3⟩
  · exact h.2.2 (j, cv g w) List.mem_cons_self
  · refine h.2.2 (j, cv g w) (List.mem_cons_of_mem _ (List.mem_filter.mpr ⟨lvk_mem.mpr ⟨w, h2, rfl⟩, ?_⟩))
    simp only [Bool.and_eq_true, Bool.not_eq_true', beq_eq_false_iff_ne, Bool.and_eq_false_imp, beq_iff_eq, cv_cat]
    exact ⟨h1, fun e => fun e2 => h3 ⟨e, e2⟩⟩
theorem LH.st2 {g : Ge} {ls : Array Slot} {nL i : Nat} {lv : List (Option Value)} {v : Value} (h : lv_has ls nL ((i, cv g v) :: (lvk g lv).filter (fun q => !(q.1 == i) && (!(q.1 == i + 1) && !(q.1 + 1 == i && q.2.category == 2))))) : LH g ls nL (lv2 lv i v) := by
  refine ⟨h.1, h.2.1, fun j w hj => ?_⟩
  rcases lv2_get lv i v w j hj with ⟨rfl, rfl⟩ | ⟨h1, h0, h2, h3⟩
  · exact h.2.2 (j, cv g w) List.mem_cons_self
  · refine h.2.2 (j, cv g w) (List.mem_cons_of_mem _ (List.mem_filter.mpr ⟨lvk_mem.mpr ⟨w, h2, rfl⟩, ?_⟩))
    simp only [Bool.and_eq_true, Bool.not_eq_true', beq_eq_false_iff_ne, Bool.and_eq_false_imp, beq_iff_eq, cv_cat]
    exact ⟨h1, h0, fun e => fun e2 => h3 ⟨e, e2⟩⟩
def Cx (M : MD) (g : Ge) (p : Program) (s : State) (m : MethodId) (args : Array Value) (meth : Method) (c : Code) : Prop :=
  p.tables.exec = Jvm.exec ∧ c.code = M.1 ∧ c.maxLocals = M.2.2.1 ∧ s.vm.findClass M.2.1 = some m.cls ∧ (∀ w ∈ TT, w.before args s = true) ∧ meth.sig.returnType = M.2.2.2.1 ∧ meth.locks = false ∧ Kb g s
/-- from pc, with these locals, stack and state, the method comes to its end with 'out' -/
def Ex (M : MD) (out : Option Value × St) (pc : Nat) (lv : List (Option Value)) (st : List Value) (σ : St) : Prop :=
  ∀ (g : Ge) (p : Program) (l : Launch) (e : Env) (s : State) (m : MethodId) (args : Array Value) (below : List Frame) (meth : Method) (c : Code), Cx M g p s m args meth c →
  ∀ (H : Heap) (locs : List Loc) (ls : Array Slot), va_P g.1 Cls (wld g σ) H → va_S (Fr g) s.heap H locs → LH g ls M.2.2.1 lv →
  W p l e M.2.2.2.2 s m args below meth c H locs 0 0 (MQ below (Qx g out) args s 0 0 (Fr g)) (F0 m pc ls (st.map (cv g)))
def lva : List Value → List (Option Value)
  | [] => []
  | v :: vs => match v.category == 2 with
    | true => some v :: none :: lva vs
    | false => some v :: lva vs
theorem lva_get (g : Ge) : ∀ (vs : List Value) (i j : Nat) (v : Value), (lva vs)[j]? = some (some v) → (i + j, cv g v) ∈ lv_args i (vs.map (cv g))
  | [], i, j, v, h => by simp [lva] at h
  | a :: vs, i, j, v, h => by
    cases hc : (a.category == 2) with
    | true =>
      have hc2 : (cv g a).category = 2 := by rw [cv_cat]; simpa using hc
      simp only [lva, hc] at h
      simp only [List.map_cons, lv_args, hc2, if_pos]
      match j, h with
      | 0, h => simp at h; subst h; simp
      | 1, h => simp at h
      | j + 2, h =>
        have := lva_get g vs (i + 2) j v (by simpa using h)
        rw [show i + (j + 2) = i + 2 + j by omega]
        exact List.mem_cons_of_mem _ this
    | false =>
      have hc2 : ¬ (cv g a).category = 2 := by rw [cv_cat]; simpa using hc
      simp only [lva, hc] at h
      simp only [List.map_cons, lv_args, if_neg hc2]
      match j, h with
      | 0, h => simp at h; subst h; simp
      | j + 1, h =>
        have := lva_get g vs (i + 1) j v (by simpa using h)
        rw [show i + (j + 1) = i + 1 + j by omega]
        exact List.mem_cons_of_mem _ this
theorem lva_len (g : Ge) : ∀ (vs : List Value), (lg_sl (vs.map (cv g))).length = (lva vs).length
  | [] => rfl
  | a :: vs => by
    have ih := lva_len g vs
    cases hc : (a.category == 2) with
    | true =>
      have hc2 : (cv g a).category = 2 := by rw [cv_cat]; simpa using hc
      simp only [lva, hc]
      simp [lg_sl, hc2] at ih ⊢
      omega
    | false =>
      have hc2 : ¬ (cv g a).category = 2 := by rw [cv_cat]; simpa using hc
      simp only [lva, hc]
      simp [lg_sl, hc2] at ih ⊢
      omega
set_option maxHeartbeats 4000000 in
theorem ct_of {y : MethodName} {M : MD} {as : List Value} {σ : St} {out : Option Value × St} {lv : List (Option Value)} {k : Nat} (hy : plainName y.cls = true) (hyc : y.cls = M.2.1) (hlv : lva as ++ List.replicate k none = lv) (hle : (lva as).length ≤ M.2.2.1) (hE : Ex M out 0 lv [] σ) : Ct y M as σ out := by
  intro l g
  refine Met.ofW (cc := M.1) (maxL := M.2.2.1) (ret := M.2.2.2.1) hy rfl ?_
  intro p e s m args below meth c s₁ B hml hv
  obtain ⟨rfl, hP, hK⟩ := hv
  have hts := atoms_spec (ws := .code y M.1 M.2.2.1 M.2.2.2.1 :: TT) B.pre
  have hown : s.vm.findClass M.2.1 = some m.cls := hyc ▸ findClass_of_methodNamed B.named
  have hl := lv_entry (as.map (cv g)) (n := M.2.2.1) (by rw [lva_len]; exact hle)
  rw [lg_entry_eq]
  refine hE g p l e s m _ below meth c ⟨B.exec, B.bytes, hml, hown, fun w hw => hts w (List.mem_cons_of_mem _ hw), B.returns, B.notSynchronized, hK⟩ s.heap [] _ hP va_S.rf ⟨hl.1, hl.2.1, fun i v hi => ?_⟩
  subst hlv
  have hi2 : (lva as)[i]? = some (some v) := by
    by_cases hlt : i < (lva as).length
    · rwa [List.getElem?_append_left hlt] at hi
    · rw [List.getElem?_append_right (by omega)] at hi
      have := List.mem_of_getElem? hi
      simp at this
  have := lva_get g as 0 i v hi2
  rw [Nat.zero_add] at this
  exact hl.2.2 _ this
section XR
variable {M : MD} {out : Option Value × St} {pc pc' tgt : Nat} {lv lv' : List (Option Value)} {st : List Value} {σ : St}

theorem x_iconst {n : Int} {v : Int32} (hv : Int32.ofInt n = v) (hd : decode M.1 pc = .ok (.iconst n, 1)) (hp : pc + 1 = pc') (kk : Ex M out pc' lv (.int v :: st) σ) : Ex M out pc lv (st) σ := by
  subst hp
  exact fun g p l e s m args below meth c C H locs ls hP hS hl => lv_iconst C.1 C.2.1 hd hv (kk g p l e s m args below meth c C H locs ls hP hS hl)
theorem x_bipush {n : Int} {v : Int32} (hv : (Int8.ofInt n).toInt32 = v) (hd : decode M.1 pc = .ok (.bipush n, 2)) (hp : pc + 2 = pc') (kk : Ex M out pc' lv (.int v :: st) σ) : Ex M out pc lv (st) σ := by
  subst hp
  exact fun g p l e s m args below meth c C H locs ls hP hS hl => lv_bipush C.1 C.2.1 hd hv (kk g p l e s m args below meth c C H locs ls hP hS hl)
theorem x_sipush {n : Int} {v : Int32} (hv : (Int16.ofInt n).toInt32 = v) (hd : decode M.1 pc = .ok (.sipush n, 3)) (hp : pc + 3 = pc') (kk : Ex M out pc' lv (.int v :: st) σ) : Ex M out pc lv (st) σ := by
  subst hp
  exact fun g p l e s m args below meth c C H locs ls hP hS hl => lv_sipush C.1 C.2.1 hd hv (kk g p l e s m args below meth c C H locs ls hP hS hl)
theorem x_lconst {n : Fin 2} {v : Int64} (hv : Int64.ofNat (n : Nat) = v) (hd : decode M.1 pc = .ok (.lconst n, 1)) (hp : pc + 1 = pc') (kk : Ex M out pc' lv (.long v :: st) σ) : Ex M out pc lv (st) σ := by
  subst hp
  exact fun g p l e s m args below meth c C H locs ls hP hS hl => lv_lconst C.1 C.2.1 hd hv (kk g p l e s m args below meth c C H locs ls hP hS hl)
theorem x_null  (hd : decode M.1 pc = .ok (.aconst_null, 1)) (hp : pc + 1 = pc') (kk : Ex M out pc' lv (.null :: st) σ) : Ex M out pc lv (st) σ := by
  subst hp
  exact fun g p l e s m args below meth c C H locs ls hP hS hl => lv_null C.1 C.2.1 hd (kk g p l e s m args below meth c C H locs ls hP hS hl)
theorem x_ldc {idx : Nat} {v : Int32} (hk : Cond.constant M.2.1 idx v ∈ TT) (hd : decode M.1 pc = .ok (.ldc idx, 2)) (hp : pc + 2 = pc') (kk : Ex M out pc' lv (.int v :: st) σ) : Ex M out pc lv st σ := by
  subst hp
  exact fun g p l e s m args below meth c C H locs ls hP hS hl => lv_ldc C.1 C.2.1 C.2.2.2.1 (C.2.2.2.2.1 _ hk) hd (kk g p l e s m args below meth c C H locs ls hP hS hl)
theorem x_ldc_w {idx : Nat} {v : Int32} (hk : Cond.constant M.2.1 idx v ∈ TT) (hd : decode M.1 pc = .ok (.ldc_w idx, 3)) (hp : pc + 3 = pc') (kk : Ex M out pc' lv (.int v :: st) σ) : Ex M out pc lv st σ := by
  subst hp
  exact fun g p l e s m args below meth c C H locs ls hP hS hl => lv_ldcw C.1 C.2.1 C.2.2.2.1 (C.2.2.2.2.1 _ hk) hd (kk g p l e s m args below meth c C H locs ls hP hS hl)
theorem x_ldc2 {idx : Nat} {v : Int64} (hk : Cond.constantLong M.2.1 idx v ∈ TT) (hd : decode M.1 pc = .ok (.ldc2_w idx, 3)) (hp : pc + 3 = pc') (kk : Ex M out pc' lv (.long v :: st) σ) : Ex M out pc lv st σ := by
  subst hp
  exact fun g p l e s m args below meth c C H locs ls hP hS hl => lv_ldc2 C.1 C.2.1 C.2.2.2.1 (C.2.2.2.2.1 _ hk) hd (kk g p l e s m args below meth c C H locs ls hP hS hl)
theorem x_iload_n {k : Fin 4} {x : Int32} (hl0 : lvr lv (k : Nat) = some (.int x)) (hd : decode M.1 pc = .ok (.iload_n k, 1)) (hp : pc + 1 = pc') (kk : Ex M out pc' lv (.int x :: st) σ) : Ex M out pc lv st σ := by
  subst hp
  exact fun g p l e s m args below meth c C H locs ls hP hS hl => lv_iload_n C.1 C.2.1 hd rfl (hl.2.2 _ _ (lvr_get _ _ _ hl0)) (kk g p l e s m args below meth c C H locs ls hP hS hl)
theorem x_iload {i : Nat} {x : Int32} (hl0 : lvr lv i = some (.int x)) (hd : decode M.1 pc = .ok (.iload i, 2)) (hp : pc + 2 = pc') (kk : Ex M out pc' lv (.int x :: st) σ) : Ex M out pc lv st σ := by
  subst hp
  exact fun g p l e s m args below meth c C H locs ls hP hS hl => lv_iload C.1 C.2.1 hd (hl.2.2 _ _ (lvr_get _ _ _ hl0)) (kk g p l e s m args below meth c C H locs ls hP hS hl)
theorem x_lload_n {k : Fin 4} {x : Int64} (hl0 : lvr lv (k : Nat) = some (.long x)) (hd : decode M.1 pc = .ok (.lload_n k, 1)) (hp : pc + 1 = pc') (kk : Ex M out pc' lv (.long x :: st) σ) : Ex M out pc lv st σ := by
  subst hp
  exact fun g p l e s m args below meth c C H locs ls hP hS hl => lv_lload_n C.1 C.2.1 hd rfl (hl.2.2 _ _ (lvr_get _ _ _ hl0)) (kk g p l e s m args below meth c C H locs ls hP hS hl)
theorem x_lload {i : Nat} {x : Int64} (hl0 : lvr lv i = some (.long x)) (hd : decode M.1 pc = .ok (.lload i, 2)) (hp : pc + 2 = pc') (kk : Ex M out pc' lv (.long x :: st) σ) : Ex M out pc lv st σ := by
  subst hp
  exact fun g p l e s m args below meth c C H locs ls hP hS hl => lv_lload C.1 C.2.1 hd (hl.2.2 _ _ (lvr_get _ _ _ hl0)) (kk g p l e s m args below meth c C H locs ls hP hS hl)
theorem x_aload_n {k : Fin 4} {x : Nat} (hl0 : lvr lv (k : Nat) = some (.ref x)) (hd : decode M.1 pc = .ok (.aload_n k, 1)) (hp : pc + 1 = pc') (kk : Ex M out pc' lv (.ref x :: st) σ) : Ex M out pc lv st σ := by
  subst hp
  exact fun g p l e s m args below meth c C H locs ls hP hS hl => lv_aload_n C.1 C.2.1 hd rfl (hl.2.2 _ _ (lvr_get _ _ _ hl0)) (kk g p l e s m args below meth c C H locs ls hP hS hl)
theorem x_aload {i : Nat} {x : Nat} (hl0 : lvr lv i = some (.ref x)) (hd : decode M.1 pc = .ok (.aload i, 2)) (hp : pc + 2 = pc') (kk : Ex M out pc' lv (.ref x :: st) σ) : Ex M out pc lv st σ := by
  subst hp
  exact fun g p l e s m args below meth c C H locs ls hP hS hl => lv_aload C.1 C.2.1 hd (hl.2.2 _ _ (lvr_get _ _ _ hl0)) (kk g p l e s m args below meth c C H locs ls hP hS hl)
theorem x_aload_nN {k : Fin 4} (hl0 : lvr lv (k : Nat) = some .null) (hd : decode M.1 pc = .ok (.aload_n k, 1)) (hp : pc + 1 = pc') (kk : Ex M out pc' lv (.null :: st) σ) : Ex M out pc lv st σ := by
  subst hp
  exact fun g p l e s m args below meth c C H locs ls hP hS hl => lv_aload_nN C.1 C.2.1 hd rfl (hl.2.2 _ _ (lvr_get _ _ _ hl0)) (kk g p l e s m args below meth c C H locs ls hP hS hl)
theorem x_aloadN {i : Nat} (hl0 : lvr lv i = some .null) (hd : decode M.1 pc = .ok (.aload i, 2)) (hp : pc + 2 = pc') (kk : Ex M out pc' lv (.null :: st) σ) : Ex M out pc lv st σ := by
  subst hp
  exact fun g p l e s m args below meth c C H locs ls hP hS hl => lv_aloadN C.1 C.2.1 hd (hl.2.2 _ _ (lvr_get _ _ _ hl0)) (kk g p l e s m args below meth c C H locs ls hP hS hl)
theorem x_istore_n {k : Fin 4} {x : Int32} (hn : (k : Nat) < M.2.2.1) (hv : lv1 lv (k : Nat) (.int x) = lv') (hd : decode M.1 pc = .ok (.istore_n k, 1)) (hp : pc + 1 = pc') (kk : Ex M out pc' lv' st σ) : Ex M out pc lv (.int x :: st) σ := by
  subst hp
  subst hv
  exact fun g p l e s m args below meth c C H locs ls hP hS hl => lv_istore_n C.1 C.2.1 hd rfl hl.has hn rfl (fun ls' hl' => kk g p l e s m args below meth c C H locs ls' hP hS (LH.st1 hl'))
theorem x_istore {i : Nat} {x : Int32} (hn : i < M.2.2.1) (hv : lv1 lv i (.int x) = lv') (hd : decode M.1 pc = .ok (.istore i, 2)) (hp : pc + 2 = pc') (kk : Ex M out pc' lv' st σ) : Ex M out pc lv (.int x :: st) σ := by
  subst hp
  subst hv
  exact fun g p l e s m args below meth c C H locs ls hP hS hl => lv_istore C.1 C.2.1 hd hl.has hn rfl (fun ls' hl' => kk g p l e s m args below meth c C H locs ls' hP hS (LH.st1 hl'))
theorem x_lstore_n {k : Fin 4} {x : Int64} (hn : (k : Nat) + 1 < M.2.2.1) (hv : lv2 lv (k : Nat) (.long x) = lv') (hd : decode M.1 pc = .ok (.lstore_n k, 1)) (hp : pc + 1 = pc') (kk : Ex M out pc' lv' st σ) : Ex M out pc lv (.long x :: st) σ := by
  subst hp
  subst hv
  exact fun g p l e s m args below meth c C H locs ls hP hS hl => lv_lstore_n C.1 C.2.1 hd rfl hl.has hn rfl (fun ls' hl' => kk g p l e s m args below meth c C H locs ls' hP hS (LH.st2 hl'))
theorem x_lstore {i : Nat} {x : Int64} (hn : i + 1 < M.2.2.1) (hv : lv2 lv i (.long x) = lv') (hd : decode M.1 pc = .ok (.lstore i, 2)) (hp : pc + 2 = pc') (kk : Ex M out pc' lv' st σ) : Ex M out pc lv (.long x :: st) σ := by
  subst hp
  subst hv
  exact fun g p l e s m args below meth c C H locs ls hP hS hl => lv_lstore C.1 C.2.1 hd hl.has hn rfl (fun ls' hl' => kk g p l e s m args below meth c C H locs ls' hP hS (LH.st2 hl'))
theorem x_astore_n {k : Fin 4} {x : Nat} (hn : (k : Nat) < M.2.2.1) (hv : lv1 lv (k : Nat) (.ref x) = lv') (hd : decode M.1 pc = .ok (.astore_n k, 1)) (hp : pc + 1 = pc') (kk : Ex M out pc' lv' st σ) : Ex M out pc lv (.ref x :: st) σ := by
  subst hp
  subst hv
  exact fun g p l e s m args below meth c C H locs ls hP hS hl => lv_astore_n C.1 C.2.1 hd rfl hl.has hn rfl (fun ls' hl' => kk g p l e s m args below meth c C H locs ls' hP hS (LH.st1 hl'))
theorem x_astore {i : Nat} {x : Nat} (hn : i < M.2.2.1) (hv : lv1 lv i (.ref x) = lv') (hd : decode M.1 pc = .ok (.astore i, 2)) (hp : pc + 2 = pc') (kk : Ex M out pc' lv' st σ) : Ex M out pc lv (.ref x :: st) σ := by
  subst hp
  subst hv
  exact fun g p l e s m args below meth c C H locs ls hP hS hl => lv_astore C.1 C.2.1 hd hl.has hn rfl (fun ls' hl' => kk g p l e s m args below meth c C H locs ls' hP hS (LH.st1 hl'))
theorem x_astore_nN {k : Fin 4}  (hn : (k : Nat) < M.2.2.1) (hv : lv1 lv (k : Nat) (.null) = lv') (hd : decode M.1 pc = .ok (.astore_n k, 1)) (hp : pc + 1 = pc') (kk : Ex M out pc' lv' st σ) : Ex M out pc lv (.null :: st) σ := by
  subst hp
  subst hv
  exact fun g p l e s m args below meth c C H locs ls hP hS hl => lv_astore_nN C.1 C.2.1 hd rfl hl.has hn rfl (fun ls' hl' => kk g p l e s m args below meth c C H locs ls' hP hS (LH.st1 hl'))
theorem x_astoreN {i : Nat}  (hn : i < M.2.2.1) (hv : lv1 lv i (.null) = lv') (hd : decode M.1 pc = .ok (.astore i, 2)) (hp : pc + 2 = pc') (kk : Ex M out pc' lv' st σ) : Ex M out pc lv (.null :: st) σ := by
  subst hp
  subst hv
  exact fun g p l e s m args below meth c C H locs ls hP hS hl => lv_astoreN C.1 C.2.1 hd hl.has hn rfl (fun ls' hl' => kk g p l e s m args below meth c C H locs ls' hP hS (LH.st1 hl'))
theorem x_iinc {i : Nat} {n : Int} {x v : Int32} (hl0 : lvr lv i = some (.int x)) (hx : x + Int32.ofInt n = v) (hn : i < M.2.2.1) (hv : lv1 lv i (.int v) = lv') (hd : decode M.1 pc = .ok (.iinc i n, 3)) (hp : pc + 3 = pc') (kk : Ex M out pc' lv' st σ) : Ex M out pc lv st σ := by
  subst hp
  subst hv
  intro g p l e s m args below meth c C H locs ls hP hS hl
  obtain ⟨k, hk⟩ := List.getElem?_of_mem (lvk_mem.mpr ⟨_, lvr_get _ _ _ hl0, rfl⟩ : (i, cv g (.int x)) ∈ lvk g lv)
  exact lv_iinc C.1 C.2.1 hd hl.has hk hx hn rfl (fun ls' hl' => kk g p l e s m args below meth c C H locs ls' hP hS (LH.st1 hl'))
theorem x_iadd {x y : Int32} (hd : decode M.1 pc = .ok (.iadd, 1)) (hp : pc + 1 = pc') (kk : Ex M out pc' lv (.int (x + y) :: st) σ) : Ex M out pc lv (.int y :: .int x :: st) σ := by
  subst hp
  exact fun g p l e s m args below meth c C H locs ls hP hS hl => lv_iadd C.1 C.2.1 hd (kk g p l e s m args below meth c C H locs ls hP hS hl)
theorem x_isub {x y : Int32} (hd : decode M.1 pc = .ok (.isub, 1)) (hp : pc + 1 = pc') (kk : Ex M out pc' lv (.int (x - y) :: st) σ) : Ex M out pc lv (.int y :: .int x :: st) σ := by
  subst hp
  exact fun g p l e s m args below meth c C H locs ls hP hS hl => lv_isub C.1 C.2.1 hd (kk g p l e s m args below meth c C H locs ls hP hS hl)
theorem x_imul {x y : Int32} (hd : decode M.1 pc = .ok (.imul, 1)) (hp : pc + 1 = pc') (kk : Ex M out pc' lv (.int (x * y) :: st) σ) : Ex M out pc lv (.int y :: .int x :: st) σ := by
  subst hp
  exact fun g p l e s m args below meth c C H locs ls hP hS hl => lv_imul C.1 C.2.1 hd (kk g p l e s m args below meth c C H locs ls hP hS hl)
theorem x_iand {x y : Int32} (hd : decode M.1 pc = .ok (.iand, 1)) (hp : pc + 1 = pc') (kk : Ex M out pc' lv (.int (x &&& y) :: st) σ) : Ex M out pc lv (.int y :: .int x :: st) σ := by
  subst hp
  exact fun g p l e s m args below meth c C H locs ls hP hS hl => lv_iand C.1 C.2.1 hd (kk g p l e s m args below meth c C H locs ls hP hS hl)
theorem x_ixor {x y : Int32} (hd : decode M.1 pc = .ok (.ixor, 1)) (hp : pc + 1 = pc') (kk : Ex M out pc' lv (.int (x ^^^ y) :: st) σ) : Ex M out pc lv (.int y :: .int x :: st) σ := by
  subst hp
  exact fun g p l e s m args below meth c C H locs ls hP hS hl => lv_ixor C.1 C.2.1 hd (kk g p l e s m args below meth c C H locs ls hP hS hl)
theorem x_idiv {x y : Int32} (hne : ¬ y = 0) (hd : decode M.1 pc = .ok (.idiv, 1)) (hp : pc + 1 = pc') (kk : Ex M out pc' lv (.int (x / y) :: st) σ) : Ex M out pc lv (.int y :: .int x :: st) σ := by
  subst hp
  exact fun g p l e s m args below meth c C H locs ls hP hS hl => lv_idiv C.1 C.2.1 hd hne (kk g p l e s m args below meth c C H locs ls hP hS hl)
theorem x_irem {x y : Int32} (hne : ¬ y = 0) (hd : decode M.1 pc = .ok (.irem, 1)) (hp : pc + 1 = pc') (kk : Ex M out pc' lv (.int (x - x / y * y) :: st) σ) : Ex M out pc lv (.int y :: .int x :: st) σ := by
  subst hp
  exact fun g p l e s m args below meth c C H locs ls hP hS hl => lv_irem C.1 C.2.1 hd hne (kk g p l e s m args below meth c C H locs ls hP hS hl)
theorem x_ineg {x : Int32} (hd : decode M.1 pc = .ok (.ineg, 1)) (hp : pc + 1 = pc') (kk : Ex M out pc' lv (.int (-x) :: st) σ) : Ex M out pc lv (.int x :: st) σ := by
  subst hp
  exact fun g p l e s m args below meth c C H locs ls hP hS hl => lv_ineg C.1 C.2.1 hd (kk g p l e s m args below meth c C H locs ls hP hS hl)
theorem x_ladd {x y : Int64} (hd : decode M.1 pc = .ok (.ladd, 1)) (hp : pc + 1 = pc') (kk : Ex M out pc' lv (.long (x + y) :: st) σ) : Ex M out pc lv (.long y :: .long x :: st) σ := by
  subst hp
  exact fun g p l e s m args below meth c C H locs ls hP hS hl => lv_ladd C.1 C.2.1 hd (kk g p l e s m args below meth c C H locs ls hP hS hl)
theorem x_lsub {x y : Int64} (hd : decode M.1 pc = .ok (.lsub, 1)) (hp : pc + 1 = pc') (kk : Ex M out pc' lv (.long (x - y) :: st) σ) : Ex M out pc lv (.long y :: .long x :: st) σ := by
  subst hp
  exact fun g p l e s m args below meth c C H locs ls hP hS hl => lv_lsub C.1 C.2.1 hd (kk g p l e s m args below meth c C H locs ls hP hS hl)
theorem x_lmul {x y : Int64} (hd : decode M.1 pc = .ok (.lmul, 1)) (hp : pc + 1 = pc') (kk : Ex M out pc' lv (.long (x * y) :: st) σ) : Ex M out pc lv (.long y :: .long x :: st) σ := by
  subst hp
  exact fun g p l e s m args below meth c C H locs ls hP hS hl => lv_lmul C.1 C.2.1 hd (kk g p l e s m args below meth c C H locs ls hP hS hl)
theorem x_land {x y : Int64} (hd : decode M.1 pc = .ok (.land, 1)) (hp : pc + 1 = pc') (kk : Ex M out pc' lv (.long (x &&& y) :: st) σ) : Ex M out pc lv (.long y :: .long x :: st) σ := by
  subst hp
  exact fun g p l e s m args below meth c C H locs ls hP hS hl => lv_land C.1 C.2.1 hd (kk g p l e s m args below meth c C H locs ls hP hS hl)
theorem x_lxor {x y : Int64} (hd : decode M.1 pc = .ok (.lxor, 1)) (hp : pc + 1 = pc') (kk : Ex M out pc' lv (.long (x ^^^ y) :: st) σ) : Ex M out pc lv (.long y :: .long x :: st) σ := by
  subst hp
  exact fun g p l e s m args below meth c C H locs ls hP hS hl => lv_lxor C.1 C.2.1 hd (kk g p l e s m args below meth c C H locs ls hP hS hl)
theorem x_ldiv {x y : Int64} (hne : ¬ y = 0) (hd : decode M.1 pc = .ok (.ldiv, 1)) (hp : pc + 1 = pc') (kk : Ex M out pc' lv (.long (x / y) :: st) σ) : Ex M out pc lv (.long y :: .long x :: st) σ := by
  subst hp
  exact fun g p l e s m args below meth c C H locs ls hP hS hl => lv_ldiv C.1 C.2.1 hd hne (kk g p l e s m args below meth c C H locs ls hP hS hl)
theorem x_lrem {x y : Int64} (hne : ¬ y = 0) (hd : decode M.1 pc = .ok (.lrem, 1)) (hp : pc + 1 = pc') (kk : Ex M out pc' lv (.long (x - x / y * y) :: st) σ) : Ex M out pc lv (.long y :: .long x :: st) σ := by
  subst hp
  exact fun g p l e s m args below meth c C H locs ls hP hS hl => lv_lrem C.1 C.2.1 hd hne (kk g p l e s m args below meth c C H locs ls hP hS hl)
theorem x_i2l {x : Int32} (hd : decode M.1 pc = .ok (.i2l, 1)) (hp : pc + 1 = pc') (kk : Ex M out pc' lv (.long x.toInt64 :: st) σ) : Ex M out pc lv (.int x :: st) σ := by
  subst hp
  exact fun g p l e s m args below meth c C H locs ls hP hS hl => lv_i2l C.1 C.2.1 hd rfl (kk g p l e s m args below meth c C H locs ls hP hS hl)
theorem x_l2i {x : Int64} (hd : decode M.1 pc = .ok (.l2i, 1)) (hp : pc + 1 = pc') (kk : Ex M out pc' lv (.int x.toInt32 :: st) σ) : Ex M out pc lv (.long x :: st) σ := by
  subst hp
  exact fun g p l e s m args below meth c C H locs ls hP hS hl => lv_l2i C.1 C.2.1 hd rfl (kk g p l e s m args below meth c C H locs ls hP hS hl)
theorem x_lcmp {x y : Int64} (hd : decode M.1 pc = .ok (.lcmp, 1)) (hp : pc + 1 = pc') (kk : Ex M out pc' lv (.int (lg_cmp x y) :: st) σ) : Ex M out pc lv (.long y :: .long x :: st) σ := by
  subst hp
  exact fun g p l e s m args below meth c C H locs ls hP hS hl => W.lcmp C.1 C.2.1 hd (kk g p l e s m args below meth c C H locs ls hP hS hl)
theorem x_dup {a : Value} (ha : a.category = 1) (hd : decode M.1 pc = .ok (.dup, 1)) (hp : pc + 1 = pc') (kk : Ex M out pc' lv (a :: a :: st) σ) : Ex M out pc lv (a :: st) σ := by
  subst hp
  exact fun g p l e s m args below meth c C H locs ls hP hS hl => lv_dup C.1 C.2.1 hd (by rw [cv_cat]; exact ha) (kk g p l e s m args below meth c C H locs ls hP hS hl)
theorem x_pop {a : Value} (ha : a.category = 1) (hd : decode M.1 pc = .ok (.pop, 1)) (hp : pc + 1 = pc') (kk : Ex M out pc' lv st σ) : Ex M out pc lv (a :: st) σ := by
  subst hp
  exact fun g p l e s m args below meth c C H locs ls hP hS hl => lv_pop C.1 C.2.1 hd (by rw [cv_cat]; exact ha) (kk g p l e s m args below meth c C H locs ls hP hS hl)
theorem x_dup2 {a b : Value} (ha : a.category = 1) (hb : b.category = 1) (hd : decode M.1 pc = .ok (.dup2, 1)) (hp : pc + 1 = pc') (kk : Ex M out pc' lv (a :: b :: a :: b :: st) σ) : Ex M out pc lv (a :: b :: st) σ := by
  subst hp
  exact fun g p l e s m args below meth c C H locs ls hP hS hl => lv_dup2_11 C.1 C.2.1 hd (by rw [cv_cat]; exact ha) (by rw [cv_cat]; exact hb) (kk g p l e s m args below meth c C H locs ls hP hS hl)
theorem x_if_eq {x : Int32} {off : Int} (ht : (pc : Int) + off = (tgt : Int)) (hd : decode M.1 pc = .ok (.ifCond .eq off, 3)) (hp : pc + 3 = pc') (kt : x = 0 → Ex M out tgt lv st σ) (kf : ¬ x = 0 → Ex M out pc' lv st σ) : Ex M out pc lv (.int x :: st) σ := by
  subst hp
  exact fun g p l e s m args below meth c C H locs ls hP hS hl => lv_if_eq C.1 C.2.1 hd ht (fun q => kt q g p l e s m args below meth c C H locs ls hP hS hl) (fun q => kf q g p l e s m args below meth c C H locs ls hP hS hl)
theorem x_icmp_eq {x y : Int32} {off : Int} (ht : (pc : Int) + off = (tgt : Int)) (hd : decode M.1 pc = .ok (.if_icmp .eq off, 3)) (hp : pc + 3 = pc') (kt : x = y → Ex M out tgt lv st σ) (kf : ¬ x = y → Ex M out pc' lv st σ) : Ex M out pc lv (.int y :: .int x :: st) σ := by
  subst hp
  exact fun g p l e s m args below meth c C H locs ls hP hS hl => lv_icmp_eq C.1 C.2.1 hd ht (fun q => kt q g p l e s m args below meth c C H locs ls hP hS hl) (fun q => kf q g p l e s m args below meth c C H locs ls hP hS hl)
theorem x_if_ne {x : Int32} {off : Int} (ht : (pc : Int) + off = (tgt : Int)) (hd : decode M.1 pc = .ok (.ifCond .ne off, 3)) (hp : pc + 3 = pc') (kt : ¬ x = 0 → Ex M out tgt lv st σ) (kf : x = 0 → Ex M out pc' lv st σ) : Ex M out pc lv (.int x :: st) σ := by
  subst hp
  exact fun g p l e s m args below meth c C H locs ls hP hS hl => lv_if_ne C.1 C.2.1 hd ht (fun q => kt q g p l e s m args below meth c C H locs ls hP hS hl) (fun q => kf q g p l e s m args below meth c C H locs ls hP hS hl)
theorem x_icmp_ne {x y : Int32} {off : Int} (ht : (pc : Int) + off = (tgt : Int)) (hd : decode M.1 pc = .ok (.if_icmp .ne off, 3)) (hp : pc + 3 = pc') (kt : ¬ x = y → Ex M out tgt lv st σ) (kf : x = y → Ex M out pc' lv st σ) : Ex M out pc lv (.int y :: .int x :: st) σ := by
  subst hp
  exact fun g p l e s m args below meth c C H locs ls hP hS hl => lv_icmp_ne C.1 C.2.1 hd ht (fun q => kt q g p l e s m args below meth c C H locs ls hP hS hl) (fun q => kf q g p l e s m args below meth c C H locs ls hP hS hl)
theorem x_if_lt {x : Int32} {off : Int} (ht : (pc : Int) + off = (tgt : Int)) (hd : decode M.1 pc = .ok (.ifCond .lt off, 3)) (hp : pc + 3 = pc') (kt : x < 0 → Ex M out tgt lv st σ) (kf : ¬ x < 0 → Ex M out pc' lv st σ) : Ex M out pc lv (.int x :: st) σ := by
  subst hp
  exact fun g p l e s m args below meth c C H locs ls hP hS hl => lv_if_lt C.1 C.2.1 hd ht (fun q => kt q g p l e s m args below meth c C H locs ls hP hS hl) (fun q => kf q g p l e s m args below meth c C H locs ls hP hS hl)
theorem x_icmp_lt {x y : Int32} {off : Int} (ht : (pc : Int) + off = (tgt : Int)) (hd : decode M.1 pc = .ok (.if_icmp .lt off, 3)) (hp : pc + 3 = pc') (kt : x < y → Ex M out tgt lv st σ) (kf : ¬ x < y → Ex M out pc' lv st σ) : Ex M out pc lv (.int y :: .int x :: st) σ := by
  subst hp
  exact fun g p l e s m args below meth c C H locs ls hP hS hl => lv_icmp_lt C.1 C.2.1 hd ht (fun q => kt q g p l e s m args below meth c C H locs ls hP hS hl) (fun q => kf q g p l e s m args below meth c C H locs ls hP hS hl)
theorem x_if_ge {x : Int32} {off : Int} (ht : (pc : Int) + off = (tgt : Int)) (hd : decode M.1 pc = .ok (.ifCond .ge off, 3)) (hp : pc + 3 = pc') (kt : 0 ≤ x → Ex M out tgt lv st σ) (kf : ¬ 0 ≤ x → Ex M out pc' lv st σ) : Ex M out pc lv (.int x :: st) σ := by
  subst hp
  exact fun g p l e s m args below meth c C H locs ls hP hS hl => lv_if_ge C.1 C.2.1 hd ht (fun q => kt q g p l e s m args below meth c C H locs ls hP hS hl) (fun q => kf q g p l e s m args below meth c C H locs ls hP hS hl)
theorem x_icmp_ge {x y : Int32} {off : Int} (ht : (pc : Int) + off = (tgt : Int)) (hd : decode M.1 pc = .ok (.if_icmp .ge off, 3)) (hp : pc + 3 = pc') (kt : y ≤ x → Ex M out tgt lv st σ) (kf : ¬ y ≤ x → Ex M out pc' lv st σ) : Ex M out pc lv (.int y :: .int x :: st) σ := by
  subst hp
  exact fun g p l e s m args below meth c C H locs ls hP hS hl => lv_icmp_ge C.1 C.2.1 hd ht (fun q => kt q g p l e s m args below meth c C H locs ls hP hS hl) (fun q => kf q g p l e s m args below meth c C H locs ls hP hS hl)
theorem x_if_gt {x : Int32} {off : Int} (ht : (pc : Int) + off = (tgt : Int)) (hd : decode M.1 pc = .ok (.ifCond .gt off, 3)) (hp : pc + 3 = pc') (kt : 0 < x → Ex M out tgt lv st σ) (kf : ¬ 0 < x → Ex M out pc' lv st σ) : Ex M out pc lv (.int x :: st) σ := by
  subst hp
  exact fun g p l e s m args below meth c C H locs ls hP hS hl => lv_if_gt C.1 C.2.1 hd ht (fun q => kt q g p l e s m args below meth c C H locs ls hP hS hl) (fun q => kf q g p l e s m args below meth c C H locs ls hP hS hl)
theorem x_icmp_gt {x y : Int32} {off : Int} (ht : (pc : Int) + off = (tgt : Int)) (hd : decode M.1 pc = .ok (.if_icmp .gt off, 3)) (hp : pc + 3 = pc') (kt : y < x → Ex M out tgt lv st σ) (kf : ¬ y < x → Ex M out pc' lv st σ) : Ex M out pc lv (.int y :: .int x :: st) σ := by
  subst hp
  exact fun g p l e s m args below meth c C H locs ls hP hS hl => lv_icmp_gt C.1 C.2.1 hd ht (fun q => kt q g p l e s m args below meth c C H locs ls hP hS hl) (fun q => kf q g p l e s m args below meth c C H locs ls hP hS hl)
theorem x_if_le {x : Int32} {off : Int} (ht : (pc : Int) + off = (tgt : Int)) (hd : decode M.1 pc = .ok (.ifCond .le off, 3)) (hp : pc + 3 = pc') (kt : x ≤ 0 → Ex M out tgt lv st σ) (kf : ¬ x ≤ 0 → Ex M out pc' lv st σ) : Ex M out pc lv (.int x :: st) σ := by
  subst hp
  exact fun g p l e s m args below meth c C H locs ls hP hS hl => lv_if_le C.1 C.2.1 hd ht (fun q => kt q g p l e s m args below meth c C H locs ls hP hS hl) (fun q => kf q g p l e s m args below meth c C H locs ls hP hS hl)
theorem x_icmp_le {x y : Int32} {off : Int} (ht : (pc : Int) + off = (tgt : Int)) (hd : decode M.1 pc = .ok (.if_icmp .le off, 3)) (hp : pc + 3 = pc') (kt : x ≤ y → Ex M out tgt lv st σ) (kf : ¬ x ≤ y → Ex M out pc' lv st σ) : Ex M out pc lv (.int y :: .int x :: st) σ := by
  subst hp
  exact fun g p l e s m args below meth c C H locs ls hP hS hl => lv_icmp_le C.1 C.2.1 hd ht (fun q => kt q g p l e s m args below meth c C H locs ls hP hS hl) (fun q => kf q g p l e s m args below meth c C H locs ls hP hS hl)
theorem x_goto {off : Int} (ht : (pc : Int) + off = (tgt : Int)) (hd : decode M.1 pc = .ok (.goto off, 3)) (kk : Ex M out tgt lv st σ) : Ex M out pc lv st σ :=
  fun g p l e s m args below meth c C H locs ls hP hS hl => lv_goto C.1 C.2.1 hd ht (kk g p l e s m args below meth c C H locs ls hP hS hl)
theorem x_ifnull {x : Nat} {off : Int} (hd : decode M.1 pc = .ok (.ifnull off, 3)) (hp : pc + 3 = pc') (kk : Ex M out pc' lv st σ) : Ex M out pc lv (.ref x :: st) σ := by
  subst hp
  exact fun g p l e s m args below meth c C H locs ls hP hS hl => lv_ifnull C.1 C.2.1 hd (kk g p l e s m args below meth c C H locs ls hP hS hl)
theorem x_ifnullN {off : Int} (ht : (pc : Int) + off = (tgt : Int)) (hd : decode M.1 pc = .ok (.ifnull off, 3)) (kk : Ex M out tgt lv st σ) : Ex M out pc lv (.null :: st) σ :=
  fun g p l e s m args below meth c C H locs ls hP hS hl => lv_ifnullN C.1 C.2.1 hd ht (kk g p l e s m args below meth c C H locs ls hP hS hl)
theorem x_ifnonnull {x : Nat} {off : Int} (ht : (pc : Int) + off = (tgt : Int)) (hd : decode M.1 pc = .ok (.ifnonnull off, 3)) (kk : Ex M out tgt lv st σ) : Ex M out pc lv (.ref x :: st) σ :=
  fun g p l e s m args below meth c C H locs ls hP hS hl => lv_ifnonnull C.1 C.2.1 hd ht (kk g p l e s m args below meth c C H locs ls hP hS hl)
theorem x_ifnonnullN {off : Int} (hd : decode M.1 pc = .ok (.ifnonnull off, 3)) (hp : pc + 3 = pc') (kk : Ex M out pc' lv st σ) : Ex M out pc lv (.null :: st) σ := by
  subst hp
  exact fun g p l e s m args below meth c C H locs ls hP hS hl => lv_ifnonnullN C.1 C.2.1 hd (kk g p l e s m args below meth c C H locs ls hP hS hl)
theorem x_tswIn {dflt lo hi : Int} {offs : Array Int} {len : Nat} {x : Int32} {off : Int} (h1 : ¬ x.toInt < lo) (h2 : ¬ hi < x.toInt) (ho : offs[(x.toInt - lo).toNat]? = some off) (ht : (pc : Int) + off = (tgt : Int)) (hd : decode M.1 pc = .ok (.tableswitch dflt lo hi offs, len)) (kk : Ex M out tgt lv st σ) : Ex M out pc lv (.int x :: st) σ :=
  fun g p l e s m args below meth c C H locs ls hP hS hl => lv_tableIn C.1 C.2.1 hd h1 h2 ho ht (kk g p l e s m args below meth c C H locs ls hP hS hl)
theorem x_tswOut {dflt lo hi : Int} {offs : Array Int} {len : Nat} {x : Int32} (h : x.toInt < lo ∨ hi < x.toInt) (ht : (pc : Int) + dflt = (tgt : Int)) (hd : decode M.1 pc = .ok (.tableswitch dflt lo hi offs, len)) (kk : Ex M out tgt lv st σ) : Ex M out pc lv (.int x :: st) σ :=
  fun g p l e s m args below meth c C H locs ls hP hS hl => lv_tableOut C.1 C.2.1 hd h ht (kk g p l e s m args below meth c C H locs ls hP hS hl)
theorem qx_of {g : Ge} {out : Option Value × St} {r : Option Value} {s t : State} {H : Heap} {locs : List Loc} {args : Array Value} (ho : (r, σ) = out) (hK : Kb g s) (hP : va_P g.1 Cls (wld g σ) H) (hS : va_S (Fr g) s.heap H locs) (ht : t.heap = H) (hW : s.WarmedH t.vm) : Qx g out args s (.returned (r.map (cv g))) t := by
  subst ho
  exact ⟨rfl, ⟨by rw [ht]; exact hP, hK.warm hW⟩, hS.F ht⟩
theorem x_iret {v : Int32} (hr : M.2.2.2.1 = some .int) (hd : decode M.1 pc = .ok (.ireturn, 1)) (ho : (some (.int v), σ) = out) : Ex M out pc lv [.int v] σ :=
  fun g p l e s m args below meth c C H locs ls hP hS hl => W.iret (v := v) C.1 C.2.1 (C.2.2.2.2.2.1.trans hr) (fun t ht hW => qx_of ho C.2.2.2.2.2.2.2 hP hS ht hW) hS.2.2 hd C.2.2.2.2.2.2.1
theorem x_zret {v : Int32} (hr : M.2.2.2.1 = some .boolean) (hn : narrow .boolean (.int v) = .int v) (hd : decode M.1 pc = .ok (.ireturn, 1)) (ho : (some (.int v), σ) = out) : Ex M out pc lv [.int v] σ :=
  fun g p l e s m args below meth c C H locs ls hP hS hl => W.zret (v := v) C.1 C.2.1 (C.2.2.2.2.2.1.trans hr) hn (fun t ht hW => qx_of ho C.2.2.2.2.2.2.2 hP hS ht hW) hS.2.2 hd C.2.2.2.2.2.2.1
theorem x_lret {v : Int64} (hr : M.2.2.2.1 = some .long) (hd : decode M.1 pc = .ok (.lreturn, 1)) (ho : (some (.long v), σ) = out) : Ex M out pc lv [.long v] σ :=
  fun g p l e s m args below meth c C H locs ls hP hS hl => W.lret (v := v) C.1 C.2.1 (C.2.2.2.2.2.1.trans hr) (fun t ht hW => qx_of ho C.2.2.2.2.2.2.2 hP hS ht hW) hS.2.2 hd C.2.2.2.2.2.2.1
theorem x_vret (hr : M.2.2.2.1 = none) (hd : decode M.1 pc = .ok (.return_, 1)) (ho : (none, σ) = out) : Ex M out pc lv [] σ :=
  fun g p l e s m args below meth c C H locs ls hP hS hl => W.vret C.1 C.2.1 (C.2.2.2.2.2.1.trans hr) (fun t ht hW => qx_of ho C.2.2.2.2.2.2.2 hP hS ht hW) hS.2.2 hd C.2.2.2.2.2.2.1
theorem x_aret {v : Value} {C0 : String} (hv : v = .null ∨ ∃ k, v = .ref k) (hr : M.2.2.2.1 = some (.object C0)) (hd : decode M.1 pc = .ok (.areturn, 1)) (ho : (some v, σ) = out) : Ex M out pc lv [v] σ :=
  fun g p l e s m args below meth c C H locs ls hP hS hl => W.aret (v := cv g v) C.1 C.2.1 (C.2.2.2.2.2.1.trans hr) (Or.inl ⟨_, rfl⟩) (hv.elim (fun q => Or.inl (by rw [q]; rfl)) (fun ⟨k, q⟩ => Or.inr ⟨g.2.1 k, by rw [q]; rfl⟩)) (fun t ht hW => qx_of ho C.2.2.2.2.2.2.2 hP hS ht hW) hS.2.2 hd C.2.2.2.2.2.2.1
end XR
end
section
theorem wE_0 {g : Ge} {σ : St} {k ci : Nat} (h : lay k = (0, ci)) : wE g σ k = .inr (ci, (List.range (nf ci)).map (fun j => cv g (fv σ ci k j))) := by
  simp only [wE, h]
theorem wE_1 {g : Ge} {σ : St} {k n : Nat} (h : lay k = (1, n)) : wE g σ k = .inl (g.2.2 0, n, .inl (σ.1 k)) := by
  simp only [wE, h]
theorem wE_2 {g : Ge} {σ : St} {k n : Nat} (h : lay k = (2, n)) : wE g σ k = .inl (g.2.2 1, n, .inr (.inl (σ.2.1 k))) := by
  simp only [wE, h]
theorem wE_3 {g : Ge} {σ : St} {k n : Nat} (h : lay k = (3, n)) : wE g σ k = .inl (g.2.2 2, n, .inl (σ.1 k)) := by
  simp only [wE, h]
theorem wE_4 {g : Ge} {σ : St} {k n : Nat} (h : lay k = (4, n)) : wE g σ k = .inl (g.2.2 3, n, .inr (.inr (.inr (.inr (fun j => some (g.2.1 (σ.2.2 k j))))))) := by
  simp only [wE, h]
theorem wE_5 {g : Ge} {σ : St} {k n : Nat} (h : lay k = (5, n)) : wE g σ k = .inl (g.2.2 4, n, .inr (.inr (.inr (.inr (fun j => some (g.2.1 (31 + 2 * j))))))) := by
  simp only [wE, h]
theorem pI_ne {σ : St} {k j a : Nat} {v : Int32} (h : a ≠ k) : (pI σ k j v).1 a = σ.1 a := by
  funext b
  show (if a = k ∧ b = j then v else σ.1 a b) = σ.1 a b
  rw [if_neg (fun q => h q.1)]
theorem pL_ne {σ : St} {k j a : Nat} {v : Int64} (h : a ≠ k) : (pL σ k j v).2.1 a = σ.2.1 a := by
  funext b
  show (if a = k ∧ b = j then v else σ.2.1 a b) = σ.2.1 a b
  rw [if_neg (fun q => h q.1)]
theorem pP_ne {σ : St} {k j a v : Nat} (h : a ≠ k) : (pP σ k j v).2.2 a = σ.2.2 a := by
  funext b
  show (if a = k ∧ b = j then v else σ.2.2 a b) = σ.2.2 a b
  rw [if_neg (fun q => h q.1)]
theorem pA_ne {σ : St} {k a : Nat} {f : Nat → Int32} (h : a ≠ k) : (pA σ k f).1 a = σ.1 a := by
  funext b
  show (if a = k then f b else σ.1 a b) = σ.1 a b
  rw [if_neg h]
theorem fv_pI {σ : St} {ci k j b : Nat} {v : Int32} (h : ft ci j = 0 ∨ ft ci j = 3) : fv (pI σ k j v) ci k b = if b = j then .int v else fv σ ci k b := by
  by_cases hb : b = j
  · subst hb
    rw [if_pos rfl]
    rcases h with h | h <;> simp [fv, h, pI]
  · rw [if_neg hb]
    unfold fv
    have e : (pI σ k j v).1 k b = σ.1 k b := by
      show (if k = k ∧ b = j then v else σ.1 k b) = σ.1 k b
      rw [if_neg (fun q => hb q.2)]
    rw [e]
    rfl
theorem fv_pL {σ : St} {ci k j b : Nat} {v : Int64} (h : ft ci j = 1) : fv (pL σ k j v) ci k b = if b = j then .long v else fv σ ci k b := by
  by_cases hb : b = j
  · subst hb
    rw [if_pos rfl]
    simp [fv, h, pL]
  · rw [if_neg hb]
    unfold fv
    have e : (pL σ k j v).2.1 k b = σ.2.1 k b := by
      show (if k = k ∧ b = j then v else σ.2.1 k b) = σ.2.1 k b
      rw [if_neg (fun q => hb q.2)]
    rw [e]
    rfl
theorem fs_set {g : Ge} {n j : Nat} {f f' : Nat → Value} {v : Value} (h : ∀ b, f' b = if b = j then v else f b) (hv : cv g v = v) : ((List.range n).map (fun b => cv g (f b))).set j v = (List.range n).map (fun b => cv g (f' b)) := by
  apply List.ext_getElem?
  intro i
  rw [List.getElem?_set]
  by_cases hi : i < n
  · by_cases hij : j = i
    · subst hij
      simp [hi, h, hv]
    · rw [if_neg hij]
      have e0 : f' i = f i := by rw [h i, if_neg (fun q => hij q.symm)]
      simp [hi, e0]
  · by_cases hij : j = i
    · subst hij
      simp [hi]
    · rw [if_neg hij]
      simp [hi]
/-- a field of the pool: own class, entry, class, field -/
def FK (own : String) (idx ci j : Nat) : Prop := ∃ (C : String) (T : u_T), Cls[ci]? = some (C, T, nf ci) ∧ j < nf ci ∧ (∀ w ∈ u_ws C T (nf ci), w ∈ TT) ∧ Cond.fieldLink own idx (T j).1 (T j).2.1 (T j).2.2.1 ∈ TT
/-- a field that may be written -/
def PK (ci j : Nat) (ty : FieldType) : Prop := ∃ (C : String) (T : u_T) (tf : Nat → FieldType), Cls[ci]? = some (C, T, nf ci) ∧ (∀ k, k < nf ci → parseFieldDescriptor (T k).2.2.1 = some (tf k)) ∧ (∀ a, a < nf ci → ∀ b, b < nf ci → a ≠ b → (T a).2.1 ≠ (T b).2.1) ∧ (T j).2.2.2 = false ∧ parseFieldDescriptor (T j).2.2.1 = some ty
def VK (own : String) (idx : Nat) (y : MethodName) : Prop := Cond.methodLink own idx y ∈ TT ∧ Cond.instanceMethod y ∈ TT ∧ Cond.selects y.cls y y ∈ TT ∧ Cond.initialized y.cls ∈ TT
def SK (own : String) (idx : Nat) (y : MethodName) : Prop := Cond.methodLink own idx y ∈ TT ∧ Cond.static y ∈ TT ∧ Cond.initialized y.cls ∈ TT
def MK (y : MethodName) (M : MD) (n : Nat) : Prop := Cond.code y M.1 M.2.2.1 M.2.2.2.1 ∈ TT ∧ M.2.2.2.2.cells = 0 ∧ M.2.2.2.2.slots = 0 ∧ (y.cls ≠ "java/lang/invoke/MethodHandle" ∧ y.cls ≠ "java/lang/invoke/VarHandle" ∧ (parseMethodDescriptor y.desc).map (fun d => d.parameters.length) = some n)
abbrev RM (M M' : MD) : Prop := M'.2.2.2.2.frames + 1 ≤ M.2.2.2.2.frames ∧ 8 + (M'.2.2.1 + 11) + M'.2.2.2.2.locals ≤ M.2.2.2.2.locals
section XH
variable {M : MD} {out : Option Value × St} {pc pc' tgt : Nat} {lv lv' : List (Option Value)} {st : List Value} {σ : St}
theorem x_get {k idx ci j : Nat} (hF : FK M.2.1 idx ci j) (hk : Is k 0 ci) {v : Value} (hv : fv σ ci k j = v) (hd : decode M.1 pc = .ok (.getfield idx, 3)) (hp : pc + 3 = pc') (kk : Ex M out pc' lv (v :: st) σ) : Ex M out pc lv (.ref k :: st) σ := by
  subst hp
  subst hv
  intro g p l e s m args below meth c C H locs ls hP hS hl
  obtain ⟨Cn, T, h1, h2, h3, h4⟩ := hF
  have he := wld_get g σ hk.1
  rw [wE_0 hk.2] at he
  exact va_get (D := g.1) (cl := Cls) C.1 C.2.1 C.2.2.2.2.1 h3 C.2.2.2.1 C.2.2.2.2.2.2.2.1 hP k he h1 j h2 (C.2.2.2.2.1 _ h4) (fun _ h9 => h9) (v := cv g (fv σ ci k j)) (by simp [h2]) hd (kk g p l e s m args below meth c C H locs ls hP hS hl)
theorem x_puti {k idx ci j : Nat} {x : Int32} (hF : FK M.2.1 idx ci j) (hT : PK ci j .int) (hf : ft ci j = 0) (hk : Is k 0 ci) (hd : decode M.1 pc = .ok (.putfield idx, 3)) (hp : pc + 3 = pc') (kk : Ex M out pc' lv st (pI σ k j x)) : Ex M out pc lv (.int x :: .ref k :: st) σ := by
  subst hp
  intro g p l e s m args below meth c C H locs ls hP hS hl
  obtain ⟨Cn, T, h1, h2, h3, h4⟩ := hF
  obtain ⟨Cn', T', tf, g1, g2, g3, g4, g5⟩ := hT
  obtain ⟨rfl, hh⟩ := Prod.mk.inj (Option.some.inj (h1.symm.trans g1))
  obtain ⟨rfl, -⟩ := Prod.mk.inj hh
  have he := wld_get g σ hk.1
  rw [wE_0 hk.2] at he
  refine va_put (D := g.1) (cl := Cls) (A := Fr g) (H0 := s.heap) C.1 C.2.1 C.2.2.2.2.1 h3 tf g2 g3 C.2.2.2.1 C.2.2.2.2.2.2.2.1 hP (wld_D C.2.2.2.2.2.2.2.2.1 σ) hS k he h1 j h2 (C.2.2.2.2.1 _ h4) (fun _ h9 => h9) g4 (v := .int x) g5 rfl rfl (by simpa using h2) hd (fun H1 locs1 hP1 hD1 hS1 => ?_)
  rw [fs_set (f' := fun b => fv (pI σ k j x) ci k b) (fun b => fv_pI (Or.inl hf)) rfl, wld_set (g := g) (σ := σ) (σ' := pI σ k j x) (wE_0 hk.2) (fun i hi => wE_congr (pI_ne hi) rfl rfl)] at hP1
  exact kk g p l e s m args below meth c C H1 locs1 ls hP1 hS1 hl
theorem x_putz {k idx ci j : Nat} {x : Int32} (hF : FK M.2.1 idx ci j) (hT : PK ci j .boolean) (hf : ft ci j = 3) (hk : Is k 0 ci) (hx : narrow .boolean (.int x) = .int x) (hx2 : fits .boolean (.int x) = true) (hd : decode M.1 pc = .ok (.putfield idx, 3)) (hp : pc + 3 = pc') (kk : Ex M out pc' lv st (pI σ k j x)) : Ex M out pc lv (.int x :: .ref k :: st) σ := by
  subst hp
  intro g p l e s m args below meth c C H locs ls hP hS hl
  obtain ⟨Cn, T, h1, h2, h3, h4⟩ := hF
  obtain ⟨Cn', T', tf, g1, g2, g3, g4, g5⟩ := hT
  obtain ⟨rfl, hh⟩ := Prod.mk.inj (Option.some.inj (h1.symm.trans g1))
  obtain ⟨rfl, -⟩ := Prod.mk.inj hh
  have he := wld_get g σ hk.1
  rw [wE_0 hk.2] at he
  refine va_put (D := g.1) (cl := Cls) (A := Fr g) (H0 := s.heap) C.1 C.2.1 C.2.2.2.2.1 h3 tf g2 g3 C.2.2.2.1 C.2.2.2.2.2.2.2.1 hP (wld_D C.2.2.2.2.2.2.2.2.1 σ) hS k he h1 j h2 (C.2.2.2.2.1 _ h4) (fun _ h9 => h9) g4 (v := .int x) g5 hx hx2 (by simpa using h2) hd (fun H1 locs1 hP1 hD1 hS1 => ?_)
  rw [fs_set (f' := fun b => fv (pI σ k j x) ci k b) (fun b => fv_pI (Or.inr hf)) rfl, wld_set (g := g) (σ := σ) (σ' := pI σ k j x) (wE_0 hk.2) (fun i hi => wE_congr (pI_ne hi) rfl rfl)] at hP1
  exact kk g p l e s m args below meth c C H1 locs1 ls hP1 hS1 hl
theorem x_putl {k idx ci j : Nat} {x : Int64} (hF : FK M.2.1 idx ci j) (hT : PK ci j .long) (hf : ft ci j = 1) (hk : Is k 0 ci) (hd : decode M.1 pc = .ok (.putfield idx, 3)) (hp : pc + 3 = pc') (kk : Ex M out pc' lv st (pL σ k j x)) : Ex M out pc lv (.long x :: .ref k :: st) σ := by
  subst hp
  intro g p l e s m args below meth c C H locs ls hP hS hl
  obtain ⟨Cn, T, h1, h2, h3, h4⟩ := hF
  obtain ⟨Cn', T', tf, g1, g2, g3, g4, g5⟩ := hT
  obtain ⟨rfl, hh⟩ := Prod.mk.inj (Option.some.inj (h1.symm.trans g1))
  obtain ⟨rfl, -⟩ := Prod.mk.inj hh
  have he := wld_get g σ hk.1
  rw [wE_0 hk.2] at he
  refine va_put (D := g.1) (cl := Cls) (A := Fr g) (H0 := s.heap) C.1 C.2.1 C.2.2.2.2.1 h3 tf g2 g3 C.2.2.2.1 C.2.2.2.2.2.2.2.1 hP (wld_D C.2.2.2.2.2.2.2.2.1 σ) hS k he h1 j h2 (C.2.2.2.2.1 _ h4) (fun _ h9 => h9) g4 (v := .long x) g5 rfl rfl (by simpa using h2) hd (fun H1 locs1 hP1 hD1 hS1 => ?_)
  rw [fs_set (f' := fun b => fv (pL σ k j x) ci k b) (fun b => fv_pL hf) rfl, wld_set (g := g) (σ := σ) (σ' := pL σ k j x) (wE_0 hk.2) (fun i hi => wE_congr rfl (pL_ne hi) rfl)] at hP1
  exact kk g p l e s m args below meth c C H1 locs1 ls hP1 hS1 hl
theorem x_iald {k n : Nat} {i : Int32} (hk : Is k 1 n) (hi : vp_in i n) (hd : decode M.1 pc = .ok (.iaload, 1)) (hp : pc + 1 = pc') (kk : Ex M out pc' lv (.int (σ.1 k i.toNatClampNeg) :: st) σ) : Ex M out pc lv (.int i :: .ref k :: st) σ := by
  subst hp
  intro g p l e s m args below meth c C H locs ls hP hS hl
  have he := wld_get g σ hk.1
  rw [wE_1 hk.2] at he
  exact va_iald C.1 C.2.1 C.2.2.2.2.2.2.2.1 hP k 0 he rfl hi hd (kk g p l e s m args below meth c C H locs ls hP hS hl)
theorem x_zald {k n : Nat} {i : Int32} (hk : Is k 3 n) (hi : vp_in i n) (hd : decode M.1 pc = .ok (.baload, 1)) (hp : pc + 1 = pc') (kk : Ex M out pc' lv (.int (σ.1 k i.toNatClampNeg) :: st) σ) : Ex M out pc lv (.int i :: .ref k :: st) σ := by
  subst hp
  intro g p l e s m args below meth c C H locs ls hP hS hl
  have he := wld_get g σ hk.1
  rw [wE_3 hk.2] at he
  exact va_zald C.1 C.2.1 C.2.2.2.2.2.2.2.1 hP k 2 he rfl hi hd (kk g p l e s m args below meth c C H locs ls hP hS hl)
theorem x_lald {k n : Nat} {i : Int32} (hk : Is k 2 n) (hi : vp_in i n) (hd : decode M.1 pc = .ok (.laload, 1)) (hp : pc + 1 = pc') (kk : Ex M out pc' lv (.long (σ.2.1 k i.toNatClampNeg) :: st) σ) : Ex M out pc lv (.int i :: .ref k :: st) σ := by
  subst hp
  intro g p l e s m args below meth c C H locs ls hP hS hl
  have he := wld_get g σ hk.1
  rw [wE_2 hk.2] at he
  exact va_lald C.1 C.2.1 C.2.2.2.2.2.2.2.1 hP k 1 he rfl hi hd (kk g p l e s m args below meth c C H locs ls hP hS hl)
theorem x_aaldG {k n : Nat} {i : Int32} (hk : Is k 4 n) (hi : vp_in i n) (hd : decode M.1 pc = .ok (.aaload, 1)) (hp : pc + 1 = pc') (kk : Ex M out pc' lv (.ref (σ.2.2 k i.toNatClampNeg) :: st) σ) : Ex M out pc lv (.int i :: .ref k :: st) σ := by
  subst hp
  intro g p l e s m args below meth c C H locs ls hP hS hl
  have he := wld_get g σ hk.1
  rw [wE_4 hk.2] at he
  exact va_aldq C.1 C.2.1 C.2.2.2.2.2.2.2.1 hP k 3 he rfl hi hd (kk g p l e s m args below meth c C H locs ls hP hS hl)
theorem x_aaldS {k n : Nat} {i : Int32} (hk : Is k 5 n) (hi : vp_in i n) (hd : decode M.1 pc = .ok (.aaload, 1)) (hp : pc + 1 = pc') (kk : Ex M out pc' lv (.ref (31 + 2 * i.toNatClampNeg) :: st) σ) : Ex M out pc lv (.int i :: .ref k :: st) σ := by
  subst hp
  intro g p l e s m args below meth c C H locs ls hP hS hl
  have he := wld_get g σ hk.1
  rw [wE_5 hk.2] at he
  exact va_aldq C.1 C.2.1 C.2.2.2.2.2.2.2.1 hP k 4 he rfl hi hd (kk g p l e s m args below meth c C H locs ls hP hS hl)
theorem x_alen {k a n : Nat} {v : Int32} (ha : a = 1 ∨ a = 4) (hk : Is k a n) (hv : Int32.ofNat n = v) (hd : decode M.1 pc = .ok (.arraylength, 1)) (hp : pc + 1 = pc') (kk : Ex M out pc' lv (.int v :: st) σ) : Ex M out pc lv (.ref k :: st) σ := by
  subst hp
  intro g p l e s m args below meth c C H locs ls hP hS hl
  have he := wld_get g σ hk.1
  rcases ha with rfl | rfl
  · rw [wE_1 hk.2] at he
    exact va_alen C.1 C.2.1 C.2.2.2.2.2.2.2.1 hP k 0 he rfl hv hd (kk g p l e s m args below meth c C H locs ls hP hS hl)
  · rw [wE_4 hk.2] at he
    exact va_alen C.1 C.2.1 C.2.2.2.2.2.2.2.1 hP k 3 he rfl hv hd (kk g p l e s m args below meth c C H locs ls hP hS hl)
theorem pI_at (σ : St) (k j : Nat) (v : Int32) : (pI σ k j v).1 k = upd (σ.1 k) j v := by
  funext b
  show (if k = k ∧ b = j then v else σ.1 k b) = upd (σ.1 k) j v b
  by_cases h : b = j
  · subst h; rw [if_pos ⟨rfl, rfl⟩]; simp [upd]
  · rw [if_neg (fun q => h q.2)]; simp [upd, h]
theorem pL_at (σ : St) (k j : Nat) (v : Int64) : (pL σ k j v).2.1 k = vp_updL (σ.2.1 k) j v := by
  funext b
  show (if k = k ∧ b = j then v else σ.2.1 k b) = vp_updL (σ.2.1 k) j v b
  by_cases h : b = j
  · subst h; rw [if_pos ⟨rfl, rfl⟩]; simp [vp_updL]
  · rw [if_neg (fun q => h q.2)]; simp [vp_updL, h]
theorem x_iast {k n : Nat} {i x : Int32} (hk : Is k 1 n) (hi : vp_in i n) (hd : decode M.1 pc = .ok (.iastore, 1)) (hp : pc + 1 = pc') (kk : Ex M out pc' lv st (pI σ k i.toNatClampNeg x)) : Ex M out pc lv (.int x :: .int i :: .ref k :: st) σ := by
  subst hp
  intro g p l e s m args below meth c C H locs ls hP hS hl
  have he := wld_get g σ hk.1
  rw [wE_1 hk.2] at he
  refine va_iast (A := Fr g) (H0 := s.heap) C.1 C.2.1 C.2.2.2.2.2.2.2.1 hP (wld_D C.2.2.2.2.2.2.2.2.1 σ) hS k 0 he rfl hi hd (fun H1 locs1 hP1 hD1 hS1 => ?_)
  rw [wld_set (g := g) (σ := σ) (σ' := pI σ k i.toNatClampNeg x) (by rw [wE_1 hk.2, pI_at]) (fun i hi => wE_congr (pI_ne hi) rfl rfl)] at hP1
  exact kk g p l e s m args below meth c C H1 locs1 ls hP1 hS1 hl
theorem x_zast {k n : Nat} {i x : Int32} (hk : Is k 3 n) (hi : vp_in i n) (hx : vp_nar .boolean x = x) (hd : decode M.1 pc = .ok (.bastore, 1)) (hp : pc + 1 = pc') (kk : Ex M out pc' lv st (pI σ k i.toNatClampNeg x)) : Ex M out pc lv (.int x :: .int i :: .ref k :: st) σ := by
  subst hp
  intro g p l e s m args below meth c C H locs ls hP hS hl
  have he := wld_get g σ hk.1
  rw [wE_3 hk.2] at he
  refine va_zast (A := Fr g) (H0 := s.heap) C.1 C.2.1 C.2.2.2.2.2.2.2.1 hP (wld_D C.2.2.2.2.2.2.2.2.1 σ) hS k 2 he rfl hi hd (fun H1 locs1 hP1 hD1 hS1 => ?_)
  rw [hx, wld_set (g := g) (σ := σ) (σ' := pI σ k i.toNatClampNeg x) (by rw [wE_3 hk.2, pI_at]) (fun i hi => wE_congr (pI_ne hi) rfl rfl)] at hP1
  exact kk g p l e s m args below meth c C H1 locs1 ls hP1 hS1 hl
theorem x_last {k n : Nat} {i : Int32} {x : Int64} (hk : Is k 2 n) (hi : vp_in i n) (hd : decode M.1 pc = .ok (.lastore, 1)) (hp : pc + 1 = pc') (kk : Ex M out pc' lv st (pL σ k i.toNatClampNeg x)) : Ex M out pc lv (.long x :: .int i :: .ref k :: st) σ := by
  subst hp
  intro g p l e s m args below meth c C H locs ls hP hS hl
  have he := wld_get g σ hk.1
  rw [wE_2 hk.2] at he
  refine va_last (A := Fr g) (H0 := s.heap) C.1 C.2.1 C.2.2.2.2.2.2.2.1 hP (wld_D C.2.2.2.2.2.2.2.2.1 σ) hS k 1 he rfl hi hd (fun H1 locs1 hP1 hD1 hS1 => ?_)
  rw [wld_set (g := g) (σ := σ) (σ' := pL σ k i.toNatClampNeg x) (by rw [wE_2 hk.2, pL_at]) (fun i hi => wE_congr rfl (pL_ne hi) rfl)] at hP1
  exact kk g p l e s m args below meth c C H1 locs1 ls hP1 hS1 hl
theorem x_aastG {k n q : Nat} {i : Int32} (hk : Is k 4 n) (hq : Is q 0 3) (hi : vp_in i n) (hd : decode M.1 pc = .ok (.aastore, 1)) (hp : pc + 1 = pc') (kk : Ex M out pc' lv st (pP σ k i.toNatClampNeg q)) : Ex M out pc lv (.ref q :: .int i :: .ref k :: st) σ := by
  subst hp
  intro g p l e s m args below meth c C H locs ls hP hS hl
  have he := wld_get g σ hk.1
  rw [wE_4 hk.2] at he
  have hv := wld_get g σ hq.1
  rw [wE_0 hq.2] at hv
  refine va_astq (A := Fr g) (H0 := s.heap) (r := (RX4, TX4, 7)) C.1 C.2.1 C.2.2.2.2.2.2.2.1 hP (wld_D C.2.2.2.2.2.2.2.2.1 σ) hS k 3 q 3 he rfl hv rfl hi hd (fun H1 locs1 hP1 hD1 hS1 => ?_)
  have e1 : (fun j => some (g.2.1 ((pP σ k i.toNatClampNeg q).2.2 k j))) = va_up (fun j => some (g.2.1 (σ.2.2 k j))) i.toNatClampNeg (some (g.2.1 q)) := by
    funext b
    show some (g.2.1 (if k = k ∧ b = i.toNatClampNeg then q else σ.2.2 k b)) = _
    by_cases h : b = i.toNatClampNeg
    · rw [if_pos ⟨rfl, h⟩]; simp [va_up, h]
    · rw [if_neg (fun q => h q.2)]; simp [va_up, h]
  rw [wld_set (g := g) (σ := σ) (σ' := pP σ k i.toNatClampNeg q) (by rw [wE_4 hk.2, e1]) (fun i hi => wE_congr rfl rfl (pP_ne hi))] at hP1
  exact kk g p l e s m args below meth c C H1 locs1 ls hP1 hS1 hl
/-- System.arraycopy of a whole int array into another -/
theorem x_copy {k k2 n idx : Nat} {N : Int32} (hk : Is k 1 n) (hk2 : Is k2 1 n) (hN : nI n = N) (hn : n < 2 ^ 31) (hl1 : Cond.methodLink M.2.1 idx arraycopyName ∈ TT) (hl2 : Cond.native arraycopyName ∈ TT) (hl3 : Cond.static arraycopyName ∈ TT) (hl4 : Cond.initialized "java/lang/System" ∈ TT) (hf : 1 ≤ M.2.2.2.2.frames) (hloc : nativeFrameWords "java/lang/System" "arraycopy" 5 + 11 ≤ M.2.2.2.2.locals) (hd : decode M.1 pc = .ok (.invokestatic idx, 3)) (hp : pc + 3 = pc') (kk : Ex M out pc' lv [] (pA σ k2 (va_cpy (σ.1 k) (σ.1 k2) 0 0 n))) : Ex M out pc lv [.int N, .int 0, .ref k2, .int 0, .ref k] σ := by
  subst hp
  subst hN
  intro g p l e s m args below meth c C H locs ls hP hS hl
  have he := wld_get g σ hk.1
  rw [wE_1 hk.2] at he
  have he2 := wld_get g σ hk2.1
  rw [wE_1 hk2.2] at he2
  have c0 : (0 : Int32).toNatClampNeg = 0 := rfl
  have cn := nI_clamp hn
  refine va_copyi (A := Fr g) (H0 := s.heap) (a := g.2.1 k2) (a0 := g.2.1 k) (rest := []) (ty := .int) C.1 C.2.1 (C.2.2.1.trans hl.1.symm) C.2.2.2.1 (C.2.2.2.2.1 _ hl1) (C.2.2.2.2.1 _ hl2) (C.2.2.2.2.1 _ hl3) (C.2.2.2.2.1 _ hl4) C.2.2.2.2.2.2.2.1 hP (wld_D C.2.2.2.2.2.2.2.2.1 σ) hS k k2 0 0 he he2 rfl rfl rfl (by decide) (by decide) (nI_pos hn) (by rw [c0, cn]; omega) (by rw [c0, cn]; omega) (fun _ _ => rfl) hf (by simpa using hloc) hd (fun H1 locs1 hP1 hD1 hS1 => ?_)
  rw [c0, cn] at hP1
  have e1 : (pA σ k2 (va_cpy (σ.1 k) (σ.1 k2) 0 0 n)).1 k2 = va_cpy (σ.1 k) (σ.1 k2) 0 0 n := by
    funext b
    show (if k2 = k2 then _ else _) = _
    rw [if_pos rfl]
  rw [wld_set (g := g) (σ := σ) (σ' := pA σ k2 (va_cpy (σ.1 k) (σ.1 k2) 0 0 n)) (by rw [wE_1 hk2.2, e1]) (fun i hi => wE_congr (pA_ne hi) rfl rfl)] at hP1
  exact kk g p l e s m args below meth c C H1 locs1 ls hP1 hS1 hl
theorem blind {g : Ge} {as : List Value} {σ : St} : FrameBlind (va_Pc (as.map (cv g)) (Hs g σ)) := by
  intro a U g' mk h
  obtain ⟨h1, h2, h3, h4, h5⟩ := h
  exact ⟨h1, h2, va_K.moved (u := U) (U := U.calling g' mk a) (Vm.Alike.refl U.vm) h3, h4, va_Nw.same rfl rfl h5⟩
/-- behind a call -/
theorem W_ret {p : Program} {l : Launch} {e : Env} {R : Room} {s : State} {m : MethodId} {args : Array Value} {below : List Frame} {meth : Method} {c : Code} {H : Heap} {locs : List Loc} {Q : State → Prop} {g : Ge} {r : Option Value} {σ' : St} {ls : Array Slot} {stk rest : List Value} {a : Array Value}
    (hr : va_Run p l e R s m args below meth c H locs 0 0 0 0 (F0 m pc ls stk) rest (Qx g (r, σ') a) (Fr g)) (hS : va_S (Fr g) s.heap H locs)
    (kk : ∀ (H1 : Heap) (locs1 : List Loc), va_P g.1 Cls (wld g σ') H1 → va_S (Fr g) s.heap H1 locs1 → W p l e R s m args below meth c H1 locs1 0 0 Q (F0 m (pc + 3) ls ((r.map (cv g)).toList ++ rest))) : W p l e R s m args below meth c H locs 0 0 Q (F0 m pc ls stk) := by
  intro T hT X
  obtain ⟨v, st₀, t, T', L, h0, X', hL, e1, -, ⟨hv, hP1, hF⟩, st⟩ := hr T hT X
  cases hv
  have hS1 : va_S (Fr g) s.heap t.heap (locs ++ L) := by
    refine ⟨Nat.le_trans hS.1 (by rw [← h0]; exact hF.1), fun q h1 h2 => ?_, fun x hx => ?_⟩
    · rw [hF.2 q (by rw [h0]; exact Nat.lt_of_lt_of_le h1 hS.1) h2, h0]
      exact hS.2.1 q h1 h2
    · rcases List.mem_append.mp hx with h | h
      · exact hS.2.2 x h
      · exact hL x h
  obtain ⟨t2, a1, b1⟩ := kk t.heap _ hP1.1 hS1 T' e1 X'
  exact ⟨t2, st t2 a1, b1⟩
theorem cat_map (g : Ge) (st : List Value) : ((st.map (cv g)).map fun v => v.category) = st.map fun v => v.category := by
  rw [List.map_map]
  exact List.map_congr_left (fun v _ => cv_cat g v)
theorem callb {M' : MD} {y : MethodName} {n idx : Nat} {R : Room} {s : State} {args : Array Value} {own : String} (ht : ∀ w ∈ TT, w.before args s = true) (hm : MK y M' n) (hR : M'.2.2.2.2.frames + 1 ≤ R.frames ∧ 8 + (M'.2.2.1 + 11) + M'.2.2.2.2.locals ≤ R.locals) (h1 : Cond.initialized y.cls ∈ TT) (h2 : Cond.methodLink own idx y ∈ TT) :
    CallB R s args own idx y M'.1 M'.2.2.1 M'.2.2.2.1 (.code y M'.1 M'.2.2.1 M'.2.2.2.1 :: TT) M'.2.2.2.2 0 0 n :=
  callB_of n ht (fun w hw => (List.mem_cons.mp hw).elim (fun q => q ▸ tt_good _ hm.1) (fun q => tt_good w q)) rfl hm.2.1 hm.2.2.1 (ht _ h1) (ht _ h2) hm.2.2.2 hR
theorem runV {p : Program} {l : Launch} {e : Env} {R : Room} {s : State} {m : MethodId} {args : Array Value} {below : List Frame} {meth : Method} {c : Code} {cc : ByteArray} {nL : Nat} {own : String} {H : Heap} {locs : List Loc} {g : Ge} {ls : Array Slot} {M' : MD} {y : MethodName} {n idx b ci : Nat} {As rest : List Value} {r : Option Value} {σ' : St}
    (S : CallFix p m c cc nL s args TT own) (hK : Kb g s) (hP : va_P g.1 Cls (wld g σ) H) (hv : VK own idx y) (hm : MK y M' n) (hR : M'.2.2.2.2.frames + 1 ≤ R.frames ∧ 8 + (M'.2.2.1 + 11) + M'.2.2.2.2.locals ≤ R.locals) (hc : Ct y M' (.ref b :: As) σ (r, σ')) (hb : Is b 0 ci) (hcl : (Cls[ci]?).map (fun q => q.1) = some y.cls) (hn : As.length = n) (hls : ls.size = nL) (hw : (rest.map fun v => v.category).sum ≤ 8) {stk : List Value} (hs : stk = (As.map (cv g)).reverse ++ .ref (g.2.1 b) :: rest.map (cv g)) (hd : decode cc pc = .ok (.invokevirtual idx, 3)) :
    va_Run p l e R s m args below meth c H locs 0 0 0 0 (F0 m pc ls stk) (rest.map (cv g)) (Qx g (r, σ') ((.ref b :: As).map (cv g)).toArray) (Fr g) := by
  obtain ⟨v1, v2, v3, v4⟩ := hv
  have ht := S.2.2.2.2
  have he := wld_get g σ hb.1
  rw [wE_0 hb.2] at he
  cases hq : Cls[ci]? with
  | none => rw [hq] at hcl; cases hcl
  | some q =>
    rw [hq] at hcl
    have hcl : q.1 = y.cls := Option.some.inj hcl
    have hrecv := va_recv hK.1 hP hq he
    rw [hcl] at hrecv
    subst hs
    exact va_runV (As := As.map (cv g)) (C := y.cls) S (hc l g) ⟨callb ht hm hR v4 v1, ht _ v2, ht _ v3⟩ ⟨blind, hrecv, fun U hU hW => ⟨rfl, by rw [hU]; exact hP, hK.warm hW⟩⟩ rfl (by rw [List.length_map]; exact hn) hls rfl (lv_room (by rw [cat_map]; exact hw)) hd ⟨Nat.zero_le _, Nat.zero_le _⟩
theorem runS {p : Program} {l : Launch} {e : Env} {R : Room} {s : State} {m : MethodId} {args : Array Value} {below : List Frame} {meth : Method} {c : Code} {cc : ByteArray} {nL : Nat} {own : String} {H : Heap} {locs : List Loc} {g : Ge} {ls : Array Slot} {M' : MD} {y : MethodName} {n idx : Nat} {As rest : List Value} {r : Option Value} {σ' : St}
    (S : CallFix p m c cc nL s args TT own) (hK : Kb g s) (hP : va_P g.1 Cls (wld g σ) H) (hv : SK own idx y) (hm : MK y M' n) (hR : M'.2.2.2.2.frames + 1 ≤ R.frames ∧ 8 + (M'.2.2.1 + 11) + M'.2.2.2.2.locals ≤ R.locals) (hc : Ct y M' As σ (r, σ')) (hn : As.length = n) (hls : ls.size = nL) (hw : (rest.map fun v => v.category).sum ≤ 8) {stk : List Value} (hs : stk = (As.map (cv g)).reverse ++ rest.map (cv g)) (hd : decode cc pc = .ok (.invokestatic idx, 3)) :
    va_Run p l e R s m args below meth c H locs 0 0 0 0 (F0 m pc ls stk) (rest.map (cv g)) (Qx g (r, σ') (As.map (cv g)).toArray) (Fr g) := by
  obtain ⟨v1, v2, v4⟩ := hv
  have ht := S.2.2.2.2
  subst hs
  exact va_runS (As := As.map (cv g)) S (hc l g) ⟨callb ht hm hR v4 v1, ht _ v2⟩ ⟨blind, fun U hU hW => ⟨rfl, by rw [hU]; exact hP, hK.warm hW⟩⟩ rfl (by rw [List.length_map]; exact hn) hls rfl (lv_room (by rw [cat_map]; exact hw)) hd ⟨Nat.zero_le _, Nat.zero_le _⟩

theorem x_callVi {M' : MD} {y : MethodName} {n idx b ci : Nat} {As rest : List Value} {v : Value} {σ' : St} (hs : st = As.reverse ++ .ref b :: rest) (hv : VK M.2.1 idx y) (hm : MK y M' n) (hR : RM M M') (hb : Is b 0 ci) (hcl : (Cls[ci]?).map (fun q => q.1) = some y.cls) (hn : As.length = n) (hw : (rest.map fun v => v.category).sum ≤ 8) (hd : decode M.1 pc = .ok (.invokevirtual idx, 3)) (hp : pc + 3 = pc') (hc : Ct y M' (.ref b :: As) σ (some v, σ')) (kk : Ex M out pc' lv (v :: rest) σ') : Ex M out pc lv st σ := by
  subst hp
  subst hs
  intro g p l e s m args below meth c C H locs ls hP hS hl
  exact W_ret (runV (nL := M.2.2.1) ⟨C.1, C.2.1, C.2.2.1, C.2.2.2.1, C.2.2.2.2.1⟩ C.2.2.2.2.2.2.2 hP hv hm hR hc hb hcl hn hl.1 hw (by simp [cv]) hd) hS (fun H1 locs1 hP1 hS1 => kk g p l e s m args below meth c C H1 locs1 ls hP1 hS1 hl)
theorem x_callSi {M' : MD} {y : MethodName} {n idx : Nat} {As rest : List Value} {v : Value} {σ' : St} (hs : st = As.reverse ++ rest) (hv : SK M.2.1 idx y) (hm : MK y M' n) (hR : RM M M') (hn : As.length = n) (hw : (rest.map fun v => v.category).sum ≤ 8) (hd : decode M.1 pc = .ok (.invokestatic idx, 3)) (hp : pc + 3 = pc') (hc : Ct y M' As σ (some v, σ')) (kk : Ex M out pc' lv (v :: rest) σ') : Ex M out pc lv st σ := by
  subst hp
  subst hs
  intro g p l e s m args below meth c C H locs ls hP hS hl
  exact W_ret (runS (nL := M.2.2.1) ⟨C.1, C.2.1, C.2.2.1, C.2.2.2.1, C.2.2.2.2.1⟩ C.2.2.2.2.2.2.2 hP hv hm hR hc hn hl.1 hw (by simp) hd) hS (fun H1 locs1 hP1 hS1 => kk g p l e s m args below meth c C H1 locs1 ls hP1 hS1 hl)
theorem x_callVv {M' : MD} {y : MethodName} {n idx b ci : Nat} {As rest : List Value} {σ' : St} (hs : st = As.reverse ++ .ref b :: rest) (hv : VK M.2.1 idx y) (hm : MK y M' n) (hR : RM M M') (hb : Is b 0 ci) (hcl : (Cls[ci]?).map (fun q => q.1) = some y.cls) (hn : As.length = n) (hw : (rest.map fun v => v.category).sum ≤ 8) (hd : decode M.1 pc = .ok (.invokevirtual idx, 3)) (hp : pc + 3 = pc') (hc : Ct y M' (.ref b :: As) σ (none, σ')) (kk : Ex M out pc' lv (rest) σ') : Ex M out pc lv st σ := by
  subst hp
  subst hs
  intro g p l e s m args below meth c C H locs ls hP hS hl
  exact W_ret (runV (nL := M.2.2.1) ⟨C.1, C.2.1, C.2.2.1, C.2.2.2.1, C.2.2.2.2.1⟩ C.2.2.2.2.2.2.2 hP hv hm hR hc hb hcl hn hl.1 hw (by simp [cv]) hd) hS (fun H1 locs1 hP1 hS1 => kk g p l e s m args below meth c C H1 locs1 ls hP1 hS1 hl)
theorem x_callSv {M' : MD} {y : MethodName} {n idx : Nat} {As rest : List Value} {σ' : St} (hs : st = As.reverse ++ rest) (hv : SK M.2.1 idx y) (hm : MK y M' n) (hR : RM M M') (hn : As.length = n) (hw : (rest.map fun v => v.category).sum ≤ 8) (hd : decode M.1 pc = .ok (.invokestatic idx, 3)) (hp : pc + 3 = pc') (hc : Ct y M' As σ (none, σ')) (kk : Ex M out pc' lv (rest) σ') : Ex M out pc lv st σ := by
  subst hp
  subst hs
  intro g p l e s m args below meth c C H locs ls hP hS hl
  exact W_ret (runS (nL := M.2.2.1) ⟨C.1, C.2.1, C.2.2.1, C.2.2.2.1, C.2.2.2.2.1⟩ C.2.2.2.2.2.2.2 hP hv hm hR hc hn hl.1 hw (by simp) hd) hS (fun H1 locs1 hP1 hS1 => kk g p l e s m args below meth c C H1 locs1 ls hP1 hS1 hl)
/-- Search's call of ShiftGrids.isPlace, a private method of its nest mate -/
theorem x_callN {M' : MD} {n : Nat} {As rest : List Value} {v : Value} {σ' : St} (hown : M.2.1 = RX7) (hs : st = As.reverse ++ rest) (hst : Cond.static yX9_isPlace ∈ TT) (hini : Cond.initialized yX9_isPlace.cls ∈ TT) (hm : MK yX9_isPlace M' n) (hR : RM M M') (hn : As.length = n) (hw : (rest.map fun v => v.category).sum ≤ 8) (hd : decode M.1 pc = .ok (.invokestatic 22, 3)) (hp : pc + 3 = pc') (hc : Ct yX9_isPlace M' As σ (some v, σ')) (kk : Ex M out pc' lv (v :: rest) σ') : Ex M out pc lv st σ := by
  subst hp
  subst hs
  intro g p l e s m args below meth c C H locs ls hP hS hl
  have ht := C.2.2.2.2.1
  have hK := C.2.2.2.2.2.2.2
  refine W_ret (rest := rest.map (cv g)) (r := some v) (σ' := σ') (a := (As.map (cv g)).toArray) ?_ hS (fun H1 locs1 hP1 hS1 => kk g p l e s m args below meth c C H1 locs1 ls hP1 hS1 hl)
  rw [List.map_append, List.map_reverse]
  exact va_runSN (As := As.map (cv g)) (own := M.2.1) (host := RX9) ⟨C.1, C.2.1, C.2.2.1, C.2.2.2.1, C.2.2.2.2.1⟩ (hc l g) ⟨va_cnB n ht (fun w hw => (List.mem_cons.mp hw).elim (fun q => q ▸ tt_good _ hm.1) (fun q => tt_good w q)) rfl hm.2.1 hm.2.2.1 (by rw [hown]; exact hK.2.2) (ht _ hini) hm.2.2.2 hR, ht _ hst, trivial⟩ ⟨blind, fun U hU hW => ⟨rfl, by rw [hU]; exact hP, hK.warm hW⟩⟩ rfl (by rw [List.length_map]; exact hn) hl.1 rfl (lv_room (by rw [cat_map]; exact hw)) hd ⟨Nat.zero_le _, Nat.zero_le _⟩
end XH
end
section
set_option maxRecDepth 100000 in
theorem uw_0 : ∀ w ∈ u_ws RX0 TX0 (nf 0), w ∈ TT := by
  have h : ∀ k, k < 4 → u_lay RX0 TX0 k ∈ TT := by
    intro k hk
    match k, hk with
    | 0, _ => exact tt_mem (List.mem_of_getElem? (i := 177) rfl) rfl
    | 1, _ => exact tt_mem (List.mem_of_getElem? (i := 179) rfl) rfl
    | 2, _ => exact tt_mem (List.mem_of_getElem? (i := 181) rfl) rfl
    | 3, _ => exact tt_mem (List.mem_of_getElem? (i := 183) rfl) rfl
    | k + 4, hk => exact absurd hk (by omega)
  intro w hw
  obtain ⟨k, hk, rfl⟩ := List.mem_map.mp hw
  exact h k (List.mem_range.mp hk)
set_option maxRecDepth 100000 in
theorem uw_1 : ∀ w ∈ u_ws RX2 TX2 (nf 1), w ∈ TT := by
  have h : ∀ k, k < 5 → u_lay RX2 TX2 k ∈ TT := by
    intro k hk
    match k, hk with
    | 0, _ => exact tt_mem (List.mem_of_getElem? (i := 226) rfl) rfl
    | 1, _ => exact tt_mem (List.mem_of_getElem? (i := 228) rfl) rfl
    | 2, _ => exact tt_mem (List.mem_of_getElem? (i := 230) rfl) rfl
    | 3, _ => exact tt_mem (List.mem_of_getElem? (i := 232) rfl) rfl
    | 4, _ => exact tt_mem (List.mem_of_getElem? (i := 234) rfl) rfl
    | k + 5, hk => exact absurd hk (by omega)
  intro w hw
  obtain ⟨k, hk, rfl⟩ := List.mem_map.mp hw
  exact h k (List.mem_range.mp hk)
set_option maxRecDepth 100000 in
theorem uw_2 : ∀ w ∈ u_ws RX3 TX3 (nf 2), w ∈ TT := by
  have h : ∀ k, k < 1 → u_lay RX3 TX3 k ∈ TT := by
    intro k hk
    match k, hk with
    | 0, _ => exact tt_mem (List.mem_of_getElem? (i := 193) rfl) rfl
    | k + 1, hk => exact absurd hk (by omega)
  intro w hw
  obtain ⟨k, hk, rfl⟩ := List.mem_map.mp hw
  exact h k (List.mem_range.mp hk)
set_option maxRecDepth 100000 in
theorem uw_3 : ∀ w ∈ u_ws RX4 TX4 (nf 3), w ∈ TT := by
  have h : ∀ k, k < 7 → u_lay RX4 TX4 k ∈ TT := by
    intro k hk
    match k, hk with
    | 0, _ => exact tt_mem (List.mem_of_getElem? (i := 104) rfl) rfl
    | 1, _ => exact tt_mem (List.mem_of_getElem? (i := 106) rfl) rfl
    | 2, _ => exact tt_mem (List.mem_of_getElem? (i := 108) rfl) rfl
    | 3, _ => exact tt_mem (List.mem_of_getElem? (i := 110) rfl) rfl
    | 4, _ => exact tt_mem (List.mem_of_getElem? (i := 112) rfl) rfl
    | 5, _ => exact tt_mem (List.mem_of_getElem? (i := 114) rfl) rfl
    | 6, _ => exact tt_mem (List.mem_of_getElem? (i := 116) rfl) rfl
    | k + 7, hk => exact absurd hk (by omega)
  intro w hw
  obtain ⟨k, hk, rfl⟩ := List.mem_map.mp hw
  exact h k (List.mem_range.mp hk)
set_option maxRecDepth 100000 in
theorem uw_4 : ∀ w ∈ u_ws RX5 TX5 (nf 4), w ∈ TT := by
  have h : ∀ k, k < 3 → u_lay RX5 TX5 k ∈ TT := by
    intro k hk
    match k, hk with
    | 0, _ => exact tt_mem (List.mem_of_getElem? (i := 142) rfl) rfl
    | 1, _ => exact tt_mem (List.mem_of_getElem? (i := 144) rfl) rfl
    | 2, _ => exact tt_mem (List.mem_of_getElem? (i := 146) rfl) rfl
    | k + 3, hk => exact absurd hk (by omega)
  intro w hw
  obtain ⟨k, hk, rfl⟩ := List.mem_map.mp hw
  exact h k (List.mem_range.mp hk)
set_option maxRecDepth 100000 in
theorem uw_5 : ∀ w ∈ u_ws RX6 TX6 (nf 5), w ∈ TT := by
  have h : ∀ k, k < 3 → u_lay RX6 TX6 k ∈ TT := by
    intro k hk
    match k, hk with
    | 0, _ => exact tt_mem (List.mem_of_getElem? (i := 160) rfl) rfl
    | 1, _ => exact tt_mem (List.mem_of_getElem? (i := 162) rfl) rfl
    | 2, _ => exact tt_mem (List.mem_of_getElem? (i := 164) rfl) rfl
    | k + 3, hk => exact absurd hk (by omega)
  intro w hw
  obtain ⟨k, hk, rfl⟩ := List.mem_map.mp hw
  exact h k (List.mem_range.mp hk)
set_option maxRecDepth 100000 in
theorem uw_6 : ∀ w ∈ u_ws RX7 TX7 (nf 6), w ∈ TT := by
  have h : ∀ k, k < 4 → u_lay RX7 TX7 k ∈ TT := by
    intro k hk
    match k, hk with
    | 0, _ => exact tt_mem (List.mem_of_getElem? (i := 206) rfl) rfl
    | 1, _ => exact tt_mem (List.mem_of_getElem? (i := 208) rfl) rfl
    | 2, _ => exact tt_mem (List.mem_of_getElem? (i := 210) rfl) rfl
    | 3, _ => exact tt_mem (List.mem_of_getElem? (i := 212) rfl) rfl
    | k + 4, hk => exact absurd hk (by omega)
  intro w hw
  obtain ⟨k, hk, rfl⟩ := List.mem_map.mp hw
  exact h k (List.mem_range.mp hk)
set_option maxRecDepth 100000 in
theorem uw_7 : ∀ w ∈ u_ws RX8 TX8 (nf 7), w ∈ TT := by
  have h : ∀ k, k < 3 → u_lay RX8 TX8 k ∈ TT := by
    intro k hk
    match k, hk with
    | 0, _ => exact tt_mem (List.mem_of_getElem? (i := 123) rfl) rfl
    | 1, _ => exact tt_mem (List.mem_of_getElem? (i := 125) rfl) rfl
    | 2, _ => exact tt_mem (List.mem_of_getElem? (i := 127) rfl) rfl
    | k + 3, hk => exact absurd hk (by omega)
  intro w hw
  obtain ⟨k, hk, rfl⟩ := List.mem_map.mp hw
  exact h k (List.mem_range.mp hk)
set_option maxRecDepth 100000 in
theorem uw_8 : ∀ w ∈ u_ws RX9 TX9 (nf 8), w ∈ TT := by
  have h : ∀ k, k < 8 → u_lay RX9 TX9 k ∈ TT := by
    intro k hk
    match k, hk with
    | 0, _ => exact tt_mem (List.mem_of_getElem? (i := 246) rfl) rfl
    | 1, _ => exact tt_mem (List.mem_of_getElem? (i := 248) rfl) rfl
    | 2, _ => exact tt_mem (List.mem_of_getElem? (i := 250) rfl) rfl
    | 3, _ => exact tt_mem (List.mem_of_getElem? (i := 252) rfl) rfl
    | 4, _ => exact tt_mem (List.mem_of_getElem? (i := 254) rfl) rfl
    | 5, _ => exact tt_mem (List.mem_of_getElem? (i := 256) rfl) rfl
    | 6, _ => exact tt_mem (List.mem_of_getElem? (i := 258) rfl) rfl
    | 7, _ => exact tt_mem (List.mem_of_getElem? (i := 260) rfl) rfl
    | k + 8, hk => exact absurd hk (by omega)
  intro w hw
  obtain ⟨k, hk, rfl⟩ := List.mem_map.mp hw
  exact h k (List.mem_range.mp hk)
set_option maxRecDepth 100000 in
theorem uw_9 : ∀ w ∈ u_ws RX10 TX10 (nf 9), w ∈ TT := by
  have h : ∀ k, k < 16 → u_lay RX10 TX10 k ∈ TT := by
    intro k hk
    match k, hk with
    | 0, _ => exact tt_mem (List.mem_of_getElem? (i := 731) rfl) rfl
    | 1, _ => exact tt_mem (List.mem_of_getElem? (i := 733) rfl) rfl
    | 2, _ => exact tt_mem (List.mem_of_getElem? (i := 735) rfl) rfl
    | 3, _ => exact tt_mem (List.mem_of_getElem? (i := 737) rfl) rfl
    | 4, _ => exact tt_mem (List.mem_of_getElem? (i := 739) rfl) rfl
    | 5, _ => exact tt_mem (List.mem_of_getElem? (i := 741) rfl) rfl
    | 6, _ => exact tt_mem (List.mem_of_getElem? (i := 743) rfl) rfl
    | 7, _ => exact tt_mem (List.mem_of_getElem? (i := 745) rfl) rfl
    | 8, _ => exact tt_mem (List.mem_of_getElem? (i := 747) rfl) rfl
    | 9, _ => exact tt_mem (List.mem_of_getElem? (i := 749) rfl) rfl
    | 10, _ => exact tt_mem (List.mem_of_getElem? (i := 751) rfl) rfl
    | 11, _ => exact tt_mem (List.mem_of_getElem? (i := 753) rfl) rfl
    | 12, _ => exact tt_mem (List.mem_of_getElem? (i := 755) rfl) rfl
    | 13, _ => exact tt_mem (List.mem_of_getElem? (i := 757) rfl) rfl
    | 14, _ => exact tt_mem (List.mem_of_getElem? (i := 759) rfl) rfl
    | 15, _ => exact tt_mem (List.mem_of_getElem? (i := 761) rfl) rfl
    | k + 16, hk => exact absurd hk (by omega)
  intro w hw
  obtain ⟨k, hk, rfl⟩ := List.mem_map.mp hw
  exact h k (List.mem_range.mp hk)
set_option maxRecDepth 100000 in
theorem fk_X0_9 : FK RX0 9 0 0 := ⟨_, _, rfl, by decide, uw_0, tt_mem (List.mem_of_getElem? (i := 173) rfl) rfl⟩
set_option maxRecDepth 100000 in
theorem fk_X0_15 : FK RX0 15 0 1 := ⟨_, _, rfl, by decide, uw_0, tt_mem (List.mem_of_getElem? (i := 174) rfl) rfl⟩
set_option maxRecDepth 100000 in
theorem fk_X0_18 : FK RX0 18 0 2 := ⟨_, _, rfl, by decide, uw_0, tt_mem (List.mem_of_getElem? (i := 175) rfl) rfl⟩
set_option maxRecDepth 100000 in
theorem fk_X0_21 : FK RX0 21 0 3 := ⟨_, _, rfl, by decide, uw_0, tt_mem (List.mem_of_getElem? (i := 176) rfl) rfl⟩
set_option maxRecDepth 100000 in
theorem fk_X1_39 : FK RX1 39 3 1 := ⟨_, _, rfl, by decide, uw_3, tt_mem (List.mem_of_getElem? (i := 84) rfl) rfl⟩
set_option maxRecDepth 100000 in
theorem fk_X1_49 : FK RX1 49 3 6 := ⟨_, _, rfl, by decide, uw_3, tt_mem (List.mem_of_getElem? (i := 101) rfl) rfl⟩
set_option maxRecDepth 100000 in
theorem fk_X1_52 : FK RX1 52 3 5 := ⟨_, _, rfl, by decide, uw_3, tt_mem (List.mem_of_getElem? (i := 97) rfl) rfl⟩
set_option maxRecDepth 100000 in
theorem fk_X10_7 : FK RX10 7 9 1 := ⟨_, _, rfl, by decide, uw_9, tt_mem (List.mem_of_getElem? (i := 716) rfl) rfl⟩
set_option maxRecDepth 100000 in
theorem fk_X10_13 : FK RX10 13 9 2 := ⟨_, _, rfl, by decide, uw_9, tt_mem (List.mem_of_getElem? (i := 717) rfl) rfl⟩
set_option maxRecDepth 100000 in
theorem fk_X10_16 : FK RX10 16 9 4 := ⟨_, _, rfl, by decide, uw_9, tt_mem (List.mem_of_getElem? (i := 719) rfl) rfl⟩
set_option maxRecDepth 100000 in
theorem fk_X10_19 : FK RX10 19 9 5 := ⟨_, _, rfl, by decide, uw_9, tt_mem (List.mem_of_getElem? (i := 720) rfl) rfl⟩
set_option maxRecDepth 100000 in
theorem fk_X10_23 : FK RX10 23 9 6 := ⟨_, _, rfl, by decide, uw_9, tt_mem (List.mem_of_getElem? (i := 721) rfl) rfl⟩
set_option maxRecDepth 100000 in
theorem fk_X10_27 : FK RX10 27 9 9 := ⟨_, _, rfl, by decide, uw_9, tt_mem (List.mem_of_getElem? (i := 724) rfl) rfl⟩
set_option maxRecDepth 100000 in
theorem fk_X10_30 : FK RX10 30 9 10 := ⟨_, _, rfl, by decide, uw_9, tt_mem (List.mem_of_getElem? (i := 725) rfl) rfl⟩
set_option maxRecDepth 100000 in
theorem fk_X10_33 : FK RX10 33 9 11 := ⟨_, _, rfl, by decide, uw_9, tt_mem (List.mem_of_getElem? (i := 726) rfl) rfl⟩
set_option maxRecDepth 100000 in
theorem fk_X10_36 : FK RX10 36 9 14 := ⟨_, _, rfl, by decide, uw_9, tt_mem (List.mem_of_getElem? (i := 729) rfl) rfl⟩
set_option maxRecDepth 100000 in
theorem fk_X10_39 : FK RX10 39 9 15 := ⟨_, _, rfl, by decide, uw_9, tt_mem (List.mem_of_getElem? (i := 730) rfl) rfl⟩
set_option maxRecDepth 100000 in
theorem fk_X10_42 : FK RX10 42 9 7 := ⟨_, _, rfl, by decide, uw_9, tt_mem (List.mem_of_getElem? (i := 722) rfl) rfl⟩
set_option maxRecDepth 100000 in
theorem fk_X10_46 : FK RX10 46 9 0 := ⟨_, _, rfl, by decide, uw_9, tt_mem (List.mem_of_getElem? (i := 715) rfl) rfl⟩
set_option maxRecDepth 100000 in
theorem fk_X10_111 : FK RX10 111 9 12 := ⟨_, _, rfl, by decide, uw_9, tt_mem (List.mem_of_getElem? (i := 727) rfl) rfl⟩
set_option maxRecDepth 100000 in
theorem fk_X10_114 : FK RX10 114 9 13 := ⟨_, _, rfl, by decide, uw_9, tt_mem (List.mem_of_getElem? (i := 728) rfl) rfl⟩
set_option maxRecDepth 100000 in
theorem fk_X10_142 : FK RX10 142 9 8 := ⟨_, _, rfl, by decide, uw_9, tt_mem (List.mem_of_getElem? (i := 723) rfl) rfl⟩
set_option maxRecDepth 100000 in
theorem fk_X10_166 : FK RX10 166 9 3 := ⟨_, _, rfl, by decide, uw_9, tt_mem (List.mem_of_getElem? (i := 718) rfl) rfl⟩
set_option maxRecDepth 100000 in
theorem fk_X2_11 : FK RX2 11 1 0 := ⟨_, _, rfl, by decide, uw_1, tt_mem (List.mem_of_getElem? (i := 221) rfl) rfl⟩
set_option maxRecDepth 100000 in
theorem fk_X2_15 : FK RX2 15 1 1 := ⟨_, _, rfl, by decide, uw_1, tt_mem (List.mem_of_getElem? (i := 222) rfl) rfl⟩
set_option maxRecDepth 100000 in
theorem fk_X2_18 : FK RX2 18 1 2 := ⟨_, _, rfl, by decide, uw_1, tt_mem (List.mem_of_getElem? (i := 223) rfl) rfl⟩
set_option maxRecDepth 100000 in
theorem fk_X2_22 : FK RX2 22 1 3 := ⟨_, _, rfl, by decide, uw_1, tt_mem (List.mem_of_getElem? (i := 224) rfl) rfl⟩
set_option maxRecDepth 100000 in
theorem fk_X2_31 : FK RX2 31 1 4 := ⟨_, _, rfl, by decide, uw_1, tt_mem (List.mem_of_getElem? (i := 225) rfl) rfl⟩
set_option maxRecDepth 100000 in
theorem fk_X3_7 : FK RX3 7 2 0 := ⟨_, _, rfl, by decide, uw_2, tt_mem (List.mem_of_getElem? (i := 192) rfl) rfl⟩
set_option maxRecDepth 100000 in
theorem fk_X3_34 : FK RX3 34 3 5 := ⟨_, _, rfl, by decide, uw_3, tt_mem (List.mem_of_getElem? (i := 99) rfl) rfl⟩
set_option maxRecDepth 100000 in
theorem fk_X3_39 : FK RX3 39 3 6 := ⟨_, _, rfl, by decide, uw_3, tt_mem (List.mem_of_getElem? (i := 103) rfl) rfl⟩
set_option maxRecDepth 100000 in
theorem fk_X4_9 : FK RX4 9 3 0 := ⟨_, _, rfl, by decide, uw_3, tt_mem (List.mem_of_getElem? (i := 82) rfl) rfl⟩
set_option maxRecDepth 100000 in
theorem fk_X4_15 : FK RX4 15 3 1 := ⟨_, _, rfl, by decide, uw_3, tt_mem (List.mem_of_getElem? (i := 83) rfl) rfl⟩
set_option maxRecDepth 100000 in
theorem fk_X4_19 : FK RX4 19 3 2 := ⟨_, _, rfl, by decide, uw_3, tt_mem (List.mem_of_getElem? (i := 87) rfl) rfl⟩
set_option maxRecDepth 100000 in
theorem fk_X4_22 : FK RX4 22 3 3 := ⟨_, _, rfl, by decide, uw_3, tt_mem (List.mem_of_getElem? (i := 90) rfl) rfl⟩
set_option maxRecDepth 100000 in
theorem fk_X4_25 : FK RX4 25 3 4 := ⟨_, _, rfl, by decide, uw_3, tt_mem (List.mem_of_getElem? (i := 93) rfl) rfl⟩
set_option maxRecDepth 100000 in
theorem fk_X4_28 : FK RX4 28 3 5 := ⟨_, _, rfl, by decide, uw_3, tt_mem (List.mem_of_getElem? (i := 96) rfl) rfl⟩
set_option maxRecDepth 100000 in
theorem fk_X4_31 : FK RX4 31 3 6 := ⟨_, _, rfl, by decide, uw_3, tt_mem (List.mem_of_getElem? (i := 100) rfl) rfl⟩
set_option maxRecDepth 100000 in
theorem fk_X5_11 : FK RX5 11 4 0 := ⟨_, _, rfl, by decide, uw_4, tt_mem (List.mem_of_getElem? (i := 139) rfl) rfl⟩
set_option maxRecDepth 100000 in
theorem fk_X5_18 : FK RX5 18 4 2 := ⟨_, _, rfl, by decide, uw_4, tt_mem (List.mem_of_getElem? (i := 141) rfl) rfl⟩
set_option maxRecDepth 100000 in
theorem fk_X5_22 : FK RX5 22 4 1 := ⟨_, _, rfl, by decide, uw_4, tt_mem (List.mem_of_getElem? (i := 140) rfl) rfl⟩
set_option maxRecDepth 100000 in
theorem fk_X6_10 : FK RX6 10 5 0 := ⟨_, _, rfl, by decide, uw_5, tt_mem (List.mem_of_getElem? (i := 157) rfl) rfl⟩
set_option maxRecDepth 100000 in
theorem fk_X6_16 : FK RX6 16 5 2 := ⟨_, _, rfl, by decide, uw_5, tt_mem (List.mem_of_getElem? (i := 159) rfl) rfl⟩
set_option maxRecDepth 100000 in
theorem fk_X6_30 : FK RX6 30 5 1 := ⟨_, _, rfl, by decide, uw_5, tt_mem (List.mem_of_getElem? (i := 158) rfl) rfl⟩
set_option maxRecDepth 100000 in
theorem fk_X7_9 : FK RX7 9 6 0 := ⟨_, _, rfl, by decide, uw_6, tt_mem (List.mem_of_getElem? (i := 202) rfl) rfl⟩
set_option maxRecDepth 100000 in
theorem fk_X7_15 : FK RX7 15 6 1 := ⟨_, _, rfl, by decide, uw_6, tt_mem (List.mem_of_getElem? (i := 203) rfl) rfl⟩
set_option maxRecDepth 100000 in
theorem fk_X7_18 : FK RX7 18 6 3 := ⟨_, _, rfl, by decide, uw_6, tt_mem (List.mem_of_getElem? (i := 205) rfl) rfl⟩
set_option maxRecDepth 100000 in
theorem fk_X7_26 : FK RX7 26 6 2 := ⟨_, _, rfl, by decide, uw_6, tt_mem (List.mem_of_getElem? (i := 204) rfl) rfl⟩
set_option maxRecDepth 100000 in
theorem fk_X8_11 : FK RX8 11 7 0 := ⟨_, _, rfl, by decide, uw_7, tt_mem (List.mem_of_getElem? (i := 120) rfl) rfl⟩
set_option maxRecDepth 100000 in
theorem fk_X8_18 : FK RX8 18 7 1 := ⟨_, _, rfl, by decide, uw_7, tt_mem (List.mem_of_getElem? (i := 121) rfl) rfl⟩
set_option maxRecDepth 100000 in
theorem fk_X8_22 : FK RX8 22 7 2 := ⟨_, _, rfl, by decide, uw_7, tt_mem (List.mem_of_getElem? (i := 122) rfl) rfl⟩
set_option maxRecDepth 100000 in
theorem fk_X8_33 : FK RX8 33 3 4 := ⟨_, _, rfl, by decide, uw_3, tt_mem (List.mem_of_getElem? (i := 95) rfl) rfl⟩
set_option maxRecDepth 100000 in
theorem fk_X8_36 : FK RX8 36 3 2 := ⟨_, _, rfl, by decide, uw_3, tt_mem (List.mem_of_getElem? (i := 89) rfl) rfl⟩
set_option maxRecDepth 100000 in
theorem fk_X8_43 : FK RX8 43 3 3 := ⟨_, _, rfl, by decide, uw_3, tt_mem (List.mem_of_getElem? (i := 92) rfl) rfl⟩
set_option maxRecDepth 100000 in
theorem fk_X8_49 : FK RX8 49 3 1 := ⟨_, _, rfl, by decide, uw_3, tt_mem (List.mem_of_getElem? (i := 86) rfl) rfl⟩
set_option maxRecDepth 100000 in
theorem fk_X9_12 : FK RX9 12 8 0 := ⟨_, _, rfl, by decide, uw_8, tt_mem (List.mem_of_getElem? (i := 238) rfl) rfl⟩
set_option maxRecDepth 100000 in
theorem fk_X9_19 : FK RX9 19 8 1 := ⟨_, _, rfl, by decide, uw_8, tt_mem (List.mem_of_getElem? (i := 239) rfl) rfl⟩
set_option maxRecDepth 100000 in
theorem fk_X9_26 : FK RX9 26 8 2 := ⟨_, _, rfl, by decide, uw_8, tt_mem (List.mem_of_getElem? (i := 240) rfl) rfl⟩
set_option maxRecDepth 100000 in
theorem fk_X9_30 : FK RX9 30 8 3 := ⟨_, _, rfl, by decide, uw_8, tt_mem (List.mem_of_getElem? (i := 241) rfl) rfl⟩
set_option maxRecDepth 100000 in
theorem fk_X9_36 : FK RX9 36 8 4 := ⟨_, _, rfl, by decide, uw_8, tt_mem (List.mem_of_getElem? (i := 242) rfl) rfl⟩
set_option maxRecDepth 100000 in
theorem fk_X9_43 : FK RX9 43 8 5 := ⟨_, _, rfl, by decide, uw_8, tt_mem (List.mem_of_getElem? (i := 243) rfl) rfl⟩
set_option maxRecDepth 100000 in
theorem fk_X9_50 : FK RX9 50 8 6 := ⟨_, _, rfl, by decide, uw_8, tt_mem (List.mem_of_getElem? (i := 244) rfl) rfl⟩
set_option maxRecDepth 100000 in
theorem fk_X9_57 : FK RX9 57 8 7 := ⟨_, _, rfl, by decide, uw_8, tt_mem (List.mem_of_getElem? (i := 245) rfl) rfl⟩
set_option maxRecDepth 100000 in
theorem fk_X9_104 : FK RX9 104 3 1 := ⟨_, _, rfl, by decide, uw_3, tt_mem (List.mem_of_getElem? (i := 85) rfl) rfl⟩
set_option maxRecDepth 100000 in
theorem fk_X9_110 : FK RX9 110 3 2 := ⟨_, _, rfl, by decide, uw_3, tt_mem (List.mem_of_getElem? (i := 88) rfl) rfl⟩
set_option maxRecDepth 100000 in
theorem fk_X9_113 : FK RX9 113 3 3 := ⟨_, _, rfl, by decide, uw_3, tt_mem (List.mem_of_getElem? (i := 91) rfl) rfl⟩
set_option maxRecDepth 100000 in
theorem fk_X9_116 : FK RX9 116 3 4 := ⟨_, _, rfl, by decide, uw_3, tt_mem (List.mem_of_getElem? (i := 94) rfl) rfl⟩
set_option maxRecDepth 100000 in
theorem fk_X9_119 : FK RX9 119 3 5 := ⟨_, _, rfl, by decide, uw_3, tt_mem (List.mem_of_getElem? (i := 98) rfl) rfl⟩
set_option maxRecDepth 100000 in
theorem fk_X9_122 : FK RX9 122 3 6 := ⟨_, _, rfl, by decide, uw_3, tt_mem (List.mem_of_getElem? (i := 102) rfl) rfl⟩
set_option maxRecDepth 100000 in
theorem pk_0_3 : PK 0 3 .int := ⟨_, _, tyX0, rfl, tyX0_ok, nmX0, rfl, by decide +kernel⟩
set_option maxRecDepth 100000 in
theorem pk_1_4 : PK 1 4 .int := ⟨_, _, tyX2, rfl, tyX2_ok, nmX2, rfl, by decide +kernel⟩
set_option maxRecDepth 100000 in
theorem pk_2_0 : PK 2 0 .int := ⟨_, _, tyX3, rfl, tyX3_ok, nmX3, rfl, by decide +kernel⟩
set_option maxRecDepth 100000 in
theorem pk_3_1 : PK 3 1 .int := ⟨_, _, tyX4, rfl, tyX4_ok, nmX4, rfl, by decide +kernel⟩
set_option maxRecDepth 100000 in
theorem pk_3_2 : PK 3 2 .int := ⟨_, _, tyX4, rfl, tyX4_ok, nmX4, rfl, by decide +kernel⟩
set_option maxRecDepth 100000 in
theorem pk_3_3 : PK 3 3 .int := ⟨_, _, tyX4, rfl, tyX4_ok, nmX4, rfl, by decide +kernel⟩
set_option maxRecDepth 100000 in
theorem pk_3_4 : PK 3 4 .int := ⟨_, _, tyX4, rfl, tyX4_ok, nmX4, rfl, by decide +kernel⟩
set_option maxRecDepth 100000 in
theorem pk_3_5 : PK 3 5 .int := ⟨_, _, tyX4, rfl, tyX4_ok, nmX4, rfl, by decide +kernel⟩
set_option maxRecDepth 100000 in
theorem pk_3_6 : PK 3 6 .int := ⟨_, _, tyX4, rfl, tyX4_ok, nmX4, rfl, by decide +kernel⟩
set_option maxRecDepth 100000 in
theorem pk_4_1 : PK 4 1 .int := ⟨_, _, tyX5, rfl, tyX5_ok, nmX5, rfl, by decide +kernel⟩
set_option maxRecDepth 100000 in
theorem pk_4_2 : PK 4 2 .int := ⟨_, _, tyX5, rfl, tyX5_ok, nmX5, rfl, by decide +kernel⟩
set_option maxRecDepth 100000 in
theorem pk_5_1 : PK 5 1 .int := ⟨_, _, tyX6, rfl, tyX6_ok, nmX6, rfl, by decide +kernel⟩
set_option maxRecDepth 100000 in
theorem pk_5_2 : PK 5 2 .boolean := ⟨_, _, tyX6, rfl, tyX6_ok, nmX6, rfl, by decide +kernel⟩
set_option maxRecDepth 100000 in
theorem pk_6_2 : PK 6 2 .int := ⟨_, _, tyX7, rfl, tyX7_ok, nmX7, rfl, by decide +kernel⟩
set_option maxRecDepth 100000 in
theorem pk_6_3 : PK 6 3 .int := ⟨_, _, tyX7, rfl, tyX7_ok, nmX7, rfl, by decide +kernel⟩
set_option maxRecDepth 100000 in
theorem pk_7_1 : PK 7 1 .int := ⟨_, _, tyX8, rfl, tyX8_ok, nmX8, rfl, by decide +kernel⟩
set_option maxRecDepth 100000 in
theorem pk_7_2 : PK 7 2 .int := ⟨_, _, tyX8, rfl, tyX8_ok, nmX8, rfl, by decide +kernel⟩
set_option maxRecDepth 100000 in
theorem pk_9_0 : PK 9 0 .int := ⟨_, _, tyX10, rfl, tyX10_ok, nmX10, rfl, by decide +kernel⟩
set_option maxRecDepth 100000 in
theorem pk_9_3 : PK 9 3 .int := ⟨_, _, tyX10, rfl, tyX10_ok, nmX10, rfl, by decide +kernel⟩
set_option maxRecDepth 100000 in
theorem pk_9_7 : PK 9 7 .long := ⟨_, _, tyX10, rfl, tyX10_ok, nmX10, rfl, by decide +kernel⟩
set_option maxRecDepth 100000 in
theorem pk_9_8 : PK 9 8 .int := ⟨_, _, tyX10, rfl, tyX10_ok, nmX10, rfl, by decide +kernel⟩
set_option maxRecDepth 100000 in
theorem pk_9_12 : PK 9 12 .int := ⟨_, _, tyX10, rfl, tyX10_ok, nmX10, rfl, by decide +kernel⟩
set_option maxRecDepth 100000 in
theorem pk_9_13 : PK 9 13 .int := ⟨_, _, tyX10, rfl, tyX10_ok, nmX10, rfl, by decide +kernel⟩
set_option maxRecDepth 100000 in
theorem kc_X10_169 : Cond.constant RX10 169 (-1000000002) ∈ TT := tt_mem (List.mem_of_getElem? (i := 881) rfl) rfl
set_option maxRecDepth 100000 in
theorem kc_X10_170 : Cond.constant RX10 170 (-1000000001) ∈ TT := tt_mem (List.mem_of_getElem? (i := 890) rfl) rfl
set_option maxRecDepth 100000 in
theorem kc_X10_184 : Cond.constant RX10 184 (1000000) ∈ TT := tt_mem (List.mem_of_getElem? (i := 909) rfl) rfl
set_option maxRecDepth 100000 in
theorem kc_X10_221 : Cond.constant RX10 221 (-1000000003) ∈ TT := tt_mem (List.mem_of_getElem? (i := 961) rfl) rfl
set_option maxRecDepth 100000 in
theorem kc_X10_222 : Cond.constant RX10 222 (-1000000004) ∈ TT := tt_mem (List.mem_of_getElem? (i := 962) rfl) rfl
set_option maxRecDepth 100000 in
theorem kc_X3_19 : Cond.constant RX3 19 (65536) ∈ TT := tt_mem (List.mem_of_getElem? (i := 642) rfl) rfl
set_option maxRecDepth 100000 in
theorem kc_X8_52 : Cond.constant RX8 52 (-1000000004) ∈ TT := tt_mem (List.mem_of_getElem? (i := 575) rfl) rfl
set_option maxRecDepth 100000 in
theorem kc_X9_102 : Cond.constant RX9 102 (-1000000002) ∈ TT := tt_mem (List.mem_of_getElem? (i := 438) rfl) rfl
set_option maxRecDepth 100000 in
theorem kc_X9_103 : Cond.constant RX9 103 (-1000000001) ∈ TT := tt_mem (List.mem_of_getElem? (i := 443) rfl) rfl
set_option maxRecDepth 100000 in
theorem kc_X9_151 : Cond.constant RX9 151 (1000000) ∈ TT := tt_mem (List.mem_of_getElem? (i := 464) rfl) rfl
set_option maxRecDepth 100000 in
theorem kc_X9_227 : Cond.constant RX9 227 (-1000000003) ∈ TT := tt_mem (List.mem_of_getElem? (i := 548) rfl) rfl
set_option maxRecDepth 100000 in
theorem kc_X9_228 : Cond.constant RX9 228 (-1000000004) ∈ TT := tt_mem (List.mem_of_getElem? (i := 549) rfl) rfl
set_option maxRecDepth 100000 in
theorem kc_X9_288 : Cond.constant RX9 288 (64000) ∈ TT := tt_mem (List.mem_of_getElem? (i := 490) rfl) rfl
set_option maxRecDepth 100000 in
theorem kc_X9_289 : Cond.constant RX9 289 (80000) ∈ TT := tt_mem (List.mem_of_getElem? (i := 504) rfl) rfl
set_option maxRecDepth 100000 in
theorem kl_X10_72 : Cond.constantLong RX10 72 (64000) ∈ TT := tt_mem (List.mem_of_getElem? (i := 931) rfl) rfl
set_option maxRecDepth 100000 in
theorem kl_X10_81 : Cond.constantLong RX10 81 (2) ∈ TT := tt_mem (List.mem_of_getElem? (i := 819) rfl) rfl
set_option maxRecDepth 100000 in
theorem kl_X10_171 : Cond.constantLong RX10 171 (10) ∈ TT := tt_mem (List.mem_of_getElem? (i := 891) rfl) rfl
set_option maxRecDepth 100000 in
theorem kl_X10_182 : Cond.constantLong RX10 182 (3) ∈ TT := tt_mem (List.mem_of_getElem? (i := 908) rfl) rfl
set_option maxRecDepth 100000 in
theorem kl_X10_188 : Cond.constantLong RX10 188 (-1000000001) ∈ TT := tt_mem (List.mem_of_getElem? (i := 918) rfl) rfl
set_option maxRecDepth 100000 in
theorem kl_X10_194 : Cond.constantLong RX10 194 (-1000000002) ∈ TT := tt_mem (List.mem_of_getElem? (i := 923) rfl) rfl
set_option maxRecDepth 100000 in
theorem kl_X10_200 : Cond.constantLong RX10 200 (-10000) ∈ TT := tt_mem (List.mem_of_getElem? (i := 940) rfl) rfl
set_option maxRecDepth 100000 in
theorem kl_X10_202 : Cond.constantLong RX10 202 (80000) ∈ TT := tt_mem (List.mem_of_getElem? (i := 941) rfl) rfl
set_option maxRecDepth 100000 in
theorem kl_X10_211 : Cond.constantLong RX10 211 (1000) ∈ TT := tt_mem (List.mem_of_getElem? (i := 950) rfl) rfl
set_option maxRecDepth 100000 in
theorem kl_X10_213 : Cond.constantLong RX10 213 (64) ∈ TT := tt_mem (List.mem_of_getElem? (i := 951) rfl) rfl
set_option maxRecDepth 100000 in
theorem kl_X10_215 : Cond.constantLong RX10 215 (5) ∈ TT := tt_mem (List.mem_of_getElem? (i := 952) rfl) rfl
set_option maxRecDepth 100000 in
theorem kl_X10_226 : Cond.constantLong RX10 226 (-999) ∈ TT := tt_mem (List.mem_of_getElem? (i := 974) rfl) rfl
set_option maxRecDepth 100000 in
theorem kl_X10_228 : Cond.constantLong RX10 228 (999) ∈ TT := tt_mem (List.mem_of_getElem? (i := 975) rfl) rfl
set_option maxRecDepth 100000 in
theorem kl_X10_237 : Cond.constantLong RX10 237 (1103515245) ∈ TT := tt_mem (List.mem_of_getElem? (i := 1005) rfl) rfl
set_option maxRecDepth 100000 in
theorem kl_X10_239 : Cond.constantLong RX10 239 (12345) ∈ TT := tt_mem (List.mem_of_getElem? (i := 1006) rfl) rfl
set_option maxRecDepth 100000 in
theorem kl_X10_241 : Cond.constantLong RX10 241 (2147483647) ∈ TT := tt_mem (List.mem_of_getElem? (i := 1007) rfl) rfl
set_option maxRecDepth 100000 in
theorem kl_X10_243 : Cond.constantLong RX10 243 (65536) ∈ TT := tt_mem (List.mem_of_getElem? (i := 1008) rfl) rfl
set_option maxRecDepth 100000 in
theorem kl_X10_245 : Cond.constantLong RX10 245 (12) ∈ TT := tt_mem (List.mem_of_getElem? (i := 1000) rfl) rfl
set_option maxRecDepth 100000 in
theorem kl_X10_250 : Cond.constantLong RX10 250 (16) ∈ TT := tt_mem (List.mem_of_getElem? (i := 1013) rfl) rfl
set_option maxRecDepth 100000 in
theorem kl_X3_13 : Cond.constantLong RX3 13 (1103515245) ∈ TT := tt_mem (List.mem_of_getElem? (i := 639) rfl) rfl
set_option maxRecDepth 100000 in
theorem kl_X3_15 : Cond.constantLong RX3 15 (12345) ∈ TT := tt_mem (List.mem_of_getElem? (i := 640) rfl) rfl
set_option maxRecDepth 100000 in
theorem kl_X3_17 : Cond.constantLong RX3 17 (2147483647) ∈ TT := tt_mem (List.mem_of_getElem? (i := 641) rfl) rfl
set_option maxRecDepth 100000 in
theorem kl_X4_82 : Cond.constantLong RX4 82 (2) ∈ TT := tt_mem (List.mem_of_getElem? (i := 388) rfl) rfl
set_option maxRecDepth 100000 in
theorem kl_X9_165 : Cond.constantLong RX9 165 (-1000000001) ∈ TT := tt_mem (List.mem_of_getElem? (i := 476) rfl) rfl
set_option maxRecDepth 100000 in
theorem kl_X9_185 : Cond.constantLong RX9 185 (-1000000002) ∈ TT := tt_mem (List.mem_of_getElem? (i := 482) rfl) rfl
def M_X9_told : MD := (cX9_told, RX9, 2, (some .int), { frames := 6, cells := 0, slots := 0, locals := 163 })
set_option maxRecDepth 100000 in
theorem mk_X9_told : MK yX9_told M_X9_told 1 := ⟨tt_mem (List.mem_of_getElem? (i := 266) rfl) rfl, rfl, rfl, by decide +kernel⟩
def M_X8_size : MD := (cX8_size, RX8, 1, (some .int), { frames := 0, cells := 0, slots := 0, locals := 0 })
set_option maxRecDepth 100000 in
theorem mk_X8_size : MK yX8_size M_X8_size 0 := ⟨tt_mem (List.mem_of_getElem? (i := 270) rfl) rfl, rfl, rfl, by decide +kernel⟩
def M_X8_ruleNow : MD := (cX8_ruleNow, RX8, 1, (some .int), { frames := 0, cells := 0, slots := 0, locals := 0 })
set_option maxRecDepth 100000 in
theorem mk_X8_ruleNow : MK yX8_ruleNow M_X8_ruleNow 0 := ⟨tt_mem (List.mem_of_getElem? (i := 274) rfl) rfl, rfl, rfl, by decide +kernel⟩
def M_X8_shiftedNodes : MD := (cX8_shiftedNodes, RX8, 4, (some .int), { frames := 2, cells := 0, slots := 0, locals := 47 })
set_option maxRecDepth 100000 in
theorem mk_X8_shiftedNodes : MK yX8_shiftedNodes M_X8_shiftedNodes 0 := ⟨tt_mem (List.mem_of_getElem? (i := 278) rfl) rfl, rfl, rfl, by decide +kernel⟩
def M_X8_at : MD := (cX8_at, RX8, 2, (some (.object "ShiftGrids$Grid")), { frames := 0, cells := 0, slots := 0, locals := 0 })
set_option maxRecDepth 100000 in
theorem mk_X8_at : MK yX8_at M_X8_at 1 := ⟨tt_mem (List.mem_of_getElem? (i := 282) rfl) rfl, rfl, rfl, by decide +kernel⟩
def M_X4_shiftedNodes : MD := (cX4_shiftedNodes, RX4, 4, (some .int), { frames := 1, cells := 0, slots := 0, locals := 24 })
set_option maxRecDepth 100000 in
theorem mk_X4_shiftedNodes : MK yX4_shiftedNodes M_X4_shiftedNodes 0 := ⟨tt_mem (List.mem_of_getElem? (i := 286) rfl) rfl, rfl, rfl, by decide +kernel⟩
def M_X4_offset : MD := (cX4_offset, RX4, 5, (some .int), { frames := 0, cells := 0, slots := 0, locals := 0 })
set_option maxRecDepth 100000 in
theorem mk_X4_offset : MK yX4_offset M_X4_offset 3 := ⟨tt_mem (List.mem_of_getElem? (i := 290) rfl) rfl, rfl, rfl, by decide +kernel⟩
def M_X9_unsureCellsOfAll : MD := (cX9_unsureCellsOfAll, RX9, 3, (some .int), { frames := 5, cells := 0, slots := 0, locals := 107 })
set_option maxRecDepth 100000 in
theorem mk_X9_unsureCellsOfAll : MK yX9_unsureCellsOfAll M_X9_unsureCellsOfAll 0 := ⟨tt_mem (List.mem_of_getElem? (i := 294) rfl) rfl, rfl, rfl, by decide +kernel⟩
def M_X9_unsureCells : MD := (cX9_unsureCells, RX9, 5, (some .int), { frames := 4, cells := 0, slots := 0, locals := 83 })
set_option maxRecDepth 100000 in
theorem mk_X9_unsureCells : MK yX9_unsureCells M_X9_unsureCells 1 := ⟨tt_mem (List.mem_of_getElem? (i := 299) rfl) rfl, rfl, rfl, by decide +kernel⟩
def M_X2_look : MD := (cX2_look, RX2, 7, none, { frames := 1, cells := 0, slots := 0, locals := 24 })
set_option maxRecDepth 100000 in
theorem mk_X2_look : MK yX2_look M_X2_look 3 := ⟨tt_mem (List.mem_of_getElem? (i := 303) rfl) rfl, rfl, rfl, by decide +kernel⟩
def M_X4_side : MD := (cX4_side, RX4, 1, (some .int), { frames := 0, cells := 0, slots := 0, locals := 0 })
set_option maxRecDepth 100000 in
theorem mk_X4_side : MK yX4_side M_X4_side 0 := ⟨tt_mem (List.mem_of_getElem? (i := 307) rfl) rfl, rfl, rfl, by decide +kernel⟩
def M_X4_columnPlace : MD := (cX4_columnPlace, RX4, 2, (some .int), { frames := 0, cells := 0, slots := 0, locals := 0 })
set_option maxRecDepth 100000 in
theorem mk_X4_columnPlace : MK yX4_columnPlace M_X4_columnPlace 1 := ⟨tt_mem (List.mem_of_getElem? (i := 312) rfl) rfl, rfl, rfl, by decide +kernel⟩
def M_X4_rowPlace : MD := (cX4_rowPlace, RX4, 2, (some .int), { frames := 0, cells := 0, slots := 0, locals := 0 })
set_option maxRecDepth 100000 in
theorem mk_X4_rowPlace : MK yX4_rowPlace M_X4_rowPlace 1 := ⟨tt_mem (List.mem_of_getElem? (i := 316) rfl) rfl, rfl, rfl, by decide +kernel⟩
def M_X2_isSure : MD := (cX2_isSure, RX2, 1, (some .boolean), { frames := 3, cells := 0, slots := 0, locals := 63 })
set_option maxRecDepth 100000 in
theorem mk_X2_isSure : MK yX2_isSure M_X2_isSure 0 := ⟨tt_mem (List.mem_of_getElem? (i := 320) rfl) rfl, rfl, rfl, by decide +kernel⟩
def M_X2_steepness : MD := (cX2_steepness, RX2, 1, (some .int), { frames := 2, cells := 0, slots := 0, locals := 43 })
set_option maxRecDepth 100000 in
theorem mk_X2_steepness : MK yX2_steepness M_X2_steepness 0 := ⟨tt_mem (List.mem_of_getElem? (i := 324) rfl) rfl, rfl, rfl, by decide +kernel⟩
def M_X2_steepnessOf : MD := (cX2_steepnessOf, RX2, 3, (some .int), { frames := 1, cells := 0, slots := 0, locals := 21 })
set_option maxRecDepth 100000 in
theorem mk_X2_steepnessOf : MK yX2_steepnessOf M_X2_steepnessOf 1 := ⟨tt_mem (List.mem_of_getElem? (i := 327) rfl) rfl, rfl, rfl, by decide +kernel⟩
def M_J9_abs_0f7a4 : MD := (cJ9_abs_0f7a4, RJ9, 1, (some .int), { frames := 0, cells := 0, slots := 0, locals := 0 })
set_option maxRecDepth 100000 in
theorem mk_J9_abs_0f7a4 : MK yJ9_abs_0f7a4 M_J9_abs_0f7a4 1 := ⟨tt_mem (List.mem_of_getElem? (i := 330) rfl) rfl, rfl, rfl, by decide +kernel⟩
def M_J9_max_7cf53 : MD := (cJ9_max_7cf53, RJ9, 2, (some .int), { frames := 0, cells := 0, slots := 0, locals := 0 })
set_option maxRecDepth 100000 in
theorem mk_J9_max_7cf53 : MK yJ9_max_7cf53 M_J9_max_7cf53 2 := ⟨tt_mem (List.mem_of_getElem? (i := 333) rfl) rfl, rfl, rfl, by decide +kernel⟩
def M_X9_foldedCellsOfAll : MD := (cX9_foldedCellsOfAll, RX9, 3, (some .int), { frames := 4, cells := 0, slots := 0, locals := 91 })
set_option maxRecDepth 100000 in
theorem mk_X9_foldedCellsOfAll : MK yX9_foldedCellsOfAll M_X9_foldedCellsOfAll 0 := ⟨tt_mem (List.mem_of_getElem? (i := 337) rfl) rfl, rfl, rfl, by decide +kernel⟩
def M_X9_foldedCells : MD := (cX9_foldedCells, RX9, 5, (some .int), { frames := 3, cells := 0, slots := 0, locals := 67 })
set_option maxRecDepth 100000 in
theorem mk_X9_foldedCells : MK yX9_foldedCells M_X9_foldedCells 1 := ⟨tt_mem (List.mem_of_getElem? (i := 341) rfl) rfl, rfl, rfl, by decide +kernel⟩
def M_X2_isFolded : MD := (cX2_isFolded, RX2, 2, (some .boolean), { frames := 2, cells := 0, slots := 0, locals := 46 })
set_option maxRecDepth 100000 in
theorem mk_X2_isFolded : MK yX2_isFolded M_X2_isFolded 0 := ⟨tt_mem (List.mem_of_getElem? (i := 345) rfl) rfl, rfl, rfl, by decide +kernel⟩
def M_X2_crossed : MD := (cX2_crossed, RX2, 5, (some .long), { frames := 1, cells := 0, slots := 0, locals := 22 })
set_option maxRecDepth 100000 in
theorem mk_X2_crossed : MK yX2_crossed M_X2_crossed 2 := ⟨tt_mem (List.mem_of_getElem? (i := 349) rfl) rfl, rfl, rfl, by decide +kernel⟩
def M_J9_floorMod_7cf53 : MD := (cJ9_floorMod_7cf53, RJ9, 3, (some .int), { frames := 0, cells := 0, slots := 0, locals := 0 })
set_option maxRecDepth 100000 in
theorem mk_J9_floorMod_7cf53 : MK yJ9_floorMod_7cf53 M_J9_floorMod_7cf53 2 := ⟨tt_mem (List.mem_of_getElem? (i := 352) rfl) rfl, rfl, rfl, by decide +kernel⟩
def M_X9_gapsOfAll : MD := (cX9_gapsOfAll, RX9, 3, (some .int), { frames := 5, cells := 0, slots := 0, locals := 139 })
set_option maxRecDepth 100000 in
theorem mk_X9_gapsOfAll : MK yX9_gapsOfAll M_X9_gapsOfAll 0 := ⟨tt_mem (List.mem_of_getElem? (i := 356) rfl) rfl, rfl, rfl, by decide +kernel⟩
def M_X1_gaps : MD := (cX1_gaps, RX1, 6, (some .int), { frames := 4, cells := 0, slots := 0, locals := 114 })
set_option maxRecDepth 100000 in
theorem mk_X1_gaps : MK yX1_gaps M_X1_gaps 2 := ⟨tt_mem (List.mem_of_getElem? (i := 359) rfl) rfl, rfl, rfl, by decide +kernel⟩
def M_X1_gap : MD := (cX1_gap, RX1, 9, (some .int), { frames := 3, cells := 0, slots := 0, locals := 86 })
set_option maxRecDepth 100000 in
theorem mk_X1_gap : MK yX1_gap M_X1_gap 5 := ⟨tt_mem (List.mem_of_getElem? (i := 364) rfl) rfl, rfl, rfl, by decide +kernel⟩
def M_X4_isOnBorder : MD := (cX4_isOnBorder, RX4, 3, (some .boolean), { frames := 0, cells := 0, slots := 0, locals := 0 })
set_option maxRecDepth 100000 in
theorem mk_X4_isOnBorder : MK yX4_isOnBorder M_X4_isOnBorder 2 := ⟨tt_mem (List.mem_of_getElem? (i := 368) rfl) rfl, rfl, rfl, by decide +kernel⟩
def M_X4_offsetBy : MD := (cX4_offsetBy, RX4, 19, (some .int), { frames := 2, cells := 0, slots := 0, locals := 48 })
set_option maxRecDepth 100000 in
theorem mk_X4_offsetBy : MK yX4_offsetBy M_X4_offsetBy 4 := ⟨tt_mem (List.mem_of_getElem? (i := 375) rfl) rfl, rfl, rfl, by decide +kernel⟩
def M_X4_cellAhead : MD := (cX4_cellAhead, RX4, 3, (some .int), { frames := 1, cells := 0, slots := 0, locals := 21 })
set_option maxRecDepth 100000 in
theorem mk_X4_cellAhead : MK yX4_cellAhead M_X4_cellAhead 3 := ⟨tt_mem (List.mem_of_getElem? (i := 380) rfl) rfl, rfl, rfl, by decide +kernel⟩
def M_J9_min_7cf53 : MD := (cJ9_min_7cf53, RJ9, 2, (some .int), { frames := 0, cells := 0, slots := 0, locals := 0 })
set_option maxRecDepth 100000 in
theorem mk_J9_min_7cf53 : MK yJ9_min_7cf53 M_J9_min_7cf53 2 := ⟨tt_mem (List.mem_of_getElem? (i := 383) rfl) rfl, rfl, rfl, by decide +kernel⟩
def M_X4_rounded : MD := (cX4_rounded, RX4, 4, (some .int), { frames := 1, cells := 0, slots := 0, locals := 25 })
set_option maxRecDepth 100000 in
theorem mk_X4_rounded : MK yX4_rounded M_X4_rounded 2 := ⟨tt_mem (List.mem_of_getElem? (i := 387) rfl) rfl, rfl, rfl, by decide +kernel⟩
def M_J9_floorDiv_f86c9 : MD := (cJ9_floorDiv_f86c9, RJ9, 6, (some .long), { frames := 0, cells := 0, slots := 0, locals := 0 })
set_option maxRecDepth 100000 in
theorem mk_J9_floorDiv_f86c9 : MK yJ9_floorDiv_f86c9 M_J9_floorDiv_f86c9 2 := ⟨tt_mem (List.mem_of_getElem? (i := 391) rfl) rfl, rfl, rfl, by decide +kernel⟩
def M_X9_firstWithGreatestGap : MD := (cX9_firstWithGreatestGap, RX9, 5, (some .int), { frames := 5, cells := 0, slots := 0, locals := 139 })
set_option maxRecDepth 100000 in
theorem mk_X9_firstWithGreatestGap : MK yX9_firstWithGreatestGap M_X9_firstWithGreatestGap 0 := ⟨tt_mem (List.mem_of_getElem? (i := 397) rfl) rfl, rfl, rfl, by decide +kernel⟩
def M_X1_greatestGap : MD := (cX1_greatestGap, RX1, 6, (some .int), { frames := 4, cells := 0, slots := 0, locals := 114 })
set_option maxRecDepth 100000 in
theorem mk_X1_greatestGap : MK yX1_greatestGap M_X1_greatestGap 2 := ⟨tt_mem (List.mem_of_getElem? (i := 400) rfl) rfl, rfl, rfl, by decide +kernel⟩
def M_X0_size : MD := (cX0_size, RX0, 1, (some .int), { frames := 0, cells := 0, slots := 0, locals := 0 })
set_option maxRecDepth 100000 in
theorem mk_X0_size : MK yX0_size M_X0_size 0 := ⟨tt_mem (List.mem_of_getElem? (i := 404) rfl) rfl, rfl, rfl, by decide +kernel⟩
def M_X0_firstWrong : MD := (cX0_firstWrong, RX0, 3, (some .int), { frames := 4, cells := 0, slots := 0, locals := 110 })
set_option maxRecDepth 100000 in
theorem mk_X0_firstWrong : MK yX0_firstWrong M_X0_firstWrong 1 := ⟨tt_mem (List.mem_of_getElem? (i := 408) rfl) rfl, rfl, rfl, by decide +kernel⟩
def M_X8_placeOffset : MD := (cX8_placeOffset, RX8, 5, (some .int), { frames := 3, cells := 0, slots := 0, locals := 86 })
set_option maxRecDepth 100000 in
theorem mk_X8_placeOffset : MK yX8_placeOffset M_X8_placeOffset 3 := ⟨tt_mem (List.mem_of_getElem? (i := 412) rfl) rfl, rfl, rfl, by decide +kernel⟩
def M_X8_owner : MD := (cX8_owner, RX8, 6, (some .int), { frames := 2, cells := 0, slots := 0, locals := 42 })
set_option maxRecDepth 100000 in
theorem mk_X8_owner : MK yX8_owner M_X8_owner 2 := ⟨tt_mem (List.mem_of_getElem? (i := 416) rfl) rfl, rfl, rfl, by decide +kernel⟩
def M_X4_isOnGround : MD := (cX4_isOnGround, RX4, 3, (some .boolean), { frames := 1, cells := 0, slots := 0, locals := 20 })
set_option maxRecDepth 100000 in
theorem mk_X4_isOnGround : MK yX4_isOnGround M_X4_isOnGround 2 := ⟨tt_mem (List.mem_of_getElem? (i := 420) rfl) rfl, rfl, rfl, by decide +kernel⟩
def M_X4_right : MD := (cX4_right, RX4, 1, (some .int), { frames := 0, cells := 0, slots := 0, locals := 0 })
set_option maxRecDepth 100000 in
theorem mk_X4_right : MK yX4_right M_X4_right 0 := ⟨tt_mem (List.mem_of_getElem? (i := 424) rfl) rfl, rfl, rfl, by decide +kernel⟩
def M_X4_bottom : MD := (cX4_bottom, RX4, 1, (some .int), { frames := 0, cells := 0, slots := 0, locals := 0 })
set_option maxRecDepth 100000 in
theorem mk_X4_bottom : MK yX4_bottom M_X4_bottom 0 := ⟨tt_mem (List.mem_of_getElem? (i := 428) rfl) rfl, rfl, rfl, by decide +kernel⟩
def M_X5_size : MD := (cX5_size, RX5, 1, (some .int), { frames := 0, cells := 0, slots := 0, locals := 0 })
set_option maxRecDepth 100000 in
theorem mk_X5_size : MK yX5_size M_X5_size 0 := ⟨tt_mem (List.mem_of_getElem? (i := 433) rfl) rfl, rfl, rfl, by decide +kernel⟩
def M_X3_seedNow : MD := (cX3_seedNow, RX3, 1, (some .int), { frames := 0, cells := 0, slots := 0, locals := 0 })
set_option maxRecDepth 100000 in
theorem mk_X3_seedNow : MK yX3_seedNow M_X3_seedNow 0 := ⟨tt_mem (List.mem_of_getElem? (i := 437) rfl) rfl, rfl, rfl, by decide +kernel⟩
def M_X9_gridAt : MD := (cX9_gridAt, RX9, 4, (some .int), { frames := 5, cells := 0, slots := 0, locals := 139 })
set_option maxRecDepth 100000 in
theorem mk_X9_gridAt : MK yX9_gridAt M_X9_gridAt 2 := ⟨tt_mem (List.mem_of_getElem? (i := 442) rfl) rfl, rfl, rfl, by decide +kernel⟩
def M_X8_children : MD := (cX8_children, RX8, 5, (some .int), { frames := 1, cells := 0, slots := 0, locals := 21 })
set_option maxRecDepth 100000 in
theorem mk_X8_children : MK yX8_children M_X8_children 1 := ⟨tt_mem (List.mem_of_getElem? (i := 447) rfl) rfl, rfl, rfl, by decide +kernel⟩
def M_X8_parentsAbove : MD := (cX8_parentsAbove, RX8, 6, (some .int), { frames := 1, cells := 0, slots := 0, locals := 21 })
set_option maxRecDepth 100000 in
theorem mk_X8_parentsAbove : MK yX8_parentsAbove M_X8_parentsAbove 1 := ⟨tt_mem (List.mem_of_getElem? (i := 451) rfl) rfl, rfl, rfl, by decide +kernel⟩
def M_X9_nodeAt : MD := (cX9_nodeAt, RX9, 7, (some .int), { frames := 3, cells := 0, slots := 0, locals := 86 })
set_option maxRecDepth 100000 in
theorem mk_X9_nodeAt : MK yX9_nodeAt M_X9_nodeAt 4 := ⟨tt_mem (List.mem_of_getElem? (i := 455) rfl) rfl, rfl, rfl, by decide +kernel⟩
def M_X4_hasNode : MD := (cX4_hasNode, RX4, 3, (some .boolean), { frames := 0, cells := 0, slots := 0, locals := 0 })
set_option maxRecDepth 100000 in
theorem mk_X4_hasNode : MK yX4_hasNode M_X4_hasNode 2 := ⟨tt_mem (List.mem_of_getElem? (i := 459) rfl) rfl, rfl, rfl, by decide +kernel⟩
def M_X9_isWithin : MD := (cX9_isWithin, RX9, 3, (some .boolean), { frames := 0, cells := 0, slots := 0, locals := 0 })
set_option maxRecDepth 100000 in
theorem mk_X9_isWithin : MK yX9_isWithin M_X9_isWithin 3 := ⟨tt_mem (List.mem_of_getElem? (i := 462) rfl) rfl, rfl, rfl, by decide +kernel⟩
def M_X9_cellAt : MD := (cX9_cellAt, RX9, 6, (some .long), { frames := 4, cells := 0, slots := 0, locals := 83 })
set_option maxRecDepth 100000 in
theorem mk_X9_cellAt : MK yX9_cellAt M_X9_cellAt 4 := ⟨tt_mem (List.mem_of_getElem? (i := 471) rfl) rfl, rfl, rfl, by decide +kernel⟩
def M_X4_hasCell : MD := (cX4_hasCell, RX4, 3, (some .boolean), { frames := 0, cells := 0, slots := 0, locals := 0 })
set_option maxRecDepth 100000 in
theorem mk_X4_hasCell : MK yX4_hasCell M_X4_hasCell 2 := ⟨tt_mem (List.mem_of_getElem? (i := 475) rfl) rfl, rfl, rfl, by decide +kernel⟩
def M_X2_area : MD := (cX2_area, RX2, 4, (some .long), { frames := 2, cells := 0, slots := 0, locals := 46 })
set_option maxRecDepth 100000 in
theorem mk_X2_area : MK yX2_area M_X2_area 0 := ⟨tt_mem (List.mem_of_getElem? (i := 481) rfl) rfl, rfl, rfl, by decide +kernel⟩
def M_X9_which : MD := (cX9_which, RX9, 3, (some .int), { frames := 3, cells := 0, slots := 0, locals := 67 })
set_option maxRecDepth 100000 in
theorem mk_X9_which : MK yX9_which M_X9_which 2 := ⟨tt_mem (List.mem_of_getElem? (i := 486) rfl) rfl, rfl, rfl, by decide +kernel⟩
def M_X9_isPlace : MD := (cX9_isPlace, RX9, 2, (some .boolean), { frames := 1, cells := 0, slots := 0, locals := 22 })
set_option maxRecDepth 100000 in
theorem mk_X9_isPlace : MK yX9_isPlace M_X9_isPlace 2 := ⟨tt_mem (List.mem_of_getElem? (i := 489) rfl) rfl, rfl, rfl, by decide +kernel⟩
def M_X9_moved : MD := (cX9_moved, RX9, 4, (some .int), { frames := 4, cells := 0, slots := 0, locals := 110 })
set_option maxRecDepth 100000 in
theorem mk_X9_moved : MK yX9_moved M_X9_moved 3 := ⟨tt_mem (List.mem_of_getElem? (i := 495) rfl) rfl, rfl, rfl, by decide +kernel⟩
def M_X9_back : MD := (cX9_back, RX9, 4, (some .int), { frames := 5, cells := 0, slots := 0, locals := 136 })
set_option maxRecDepth 100000 in
theorem mk_X9_back : MK yX9_back M_X9_back 3 := ⟨tt_mem (List.mem_of_getElem? (i := 500) rfl) rfl, rfl, rfl, by decide +kernel⟩
def M_X9_isNewPlace : MD := (cX9_isNewPlace, RX9, 2, (some .boolean), { frames := 1, cells := 0, slots := 0, locals := 22 })
set_option maxRecDepth 100000 in
theorem mk_X9_isNewPlace : MK yX9_isNewPlace M_X9_isNewPlace 2 := ⟨tt_mem (List.mem_of_getElem? (i := 503) rfl) rfl, rfl, rfl, by decide +kernel⟩
def M_X7_run : MD := (cX7_run, RX7, 7, none, { frames := 4, cells := 0, slots := 0, locals := 110 })
set_option maxRecDepth 100000 in
theorem mk_X7_run : MK yX7_run M_X7_run 3 := ⟨tt_mem (List.mem_of_getElem? (i := 508) rfl) rfl, rfl, rfl, by decide +kernel⟩
def M_X7_kindOf : MD := (cX7_kindOf, RX7, 5, (some .int), { frames := 2, cells := 0, slots := 0, locals := 43 })
set_option maxRecDepth 100000 in
theorem mk_X7_kindOf : MK yX7_kindOf M_X7_kindOf 1 := ⟨tt_mem (List.mem_of_getElem? (i := 514) rfl) rfl, rfl, rfl, by decide +kernel⟩
def M_X7_kindNow : MD := (cX7_kindNow, RX7, 1, (some .int), { frames := 0, cells := 0, slots := 0, locals := 0 })
set_option maxRecDepth 100000 in
theorem mk_X7_kindNow : MK yX7_kindNow M_X7_kindNow 0 := ⟨tt_mem (List.mem_of_getElem? (i := 518) rfl) rfl, rfl, rfl, by decide +kernel⟩
def M_X7_rounds : MD := (cX7_rounds, RX7, 1, (some .int), { frames := 0, cells := 0, slots := 0, locals := 0 })
set_option maxRecDepth 100000 in
theorem mk_X7_rounds : MK yX7_rounds M_X7_rounds 0 := ⟨tt_mem (List.mem_of_getElem? (i := 522) rfl) rfl, rfl, rfl, by decide +kernel⟩
def M_X7_lastX : MD := (cX7_lastX, RX7, 1, (some .int), { frames := 0, cells := 0, slots := 0, locals := 0 })
set_option maxRecDepth 100000 in
theorem mk_X7_lastX : MK yX7_lastX M_X7_lastX 0 := ⟨tt_mem (List.mem_of_getElem? (i := 526) rfl) rfl, rfl, rfl, by decide +kernel⟩
def M_X7_lastY : MD := (cX7_lastY, RX7, 1, (some .int), { frames := 0, cells := 0, slots := 0, locals := 0 })
set_option maxRecDepth 100000 in
theorem mk_X7_lastY : MK yX7_lastY M_X7_lastY 0 := ⟨tt_mem (List.mem_of_getElem? (i := 530) rfl) rfl, rfl, rfl, by decide +kernel⟩
def M_X9_grid : MD := (cX9_grid, RX9, 9, (some .int), { frames := 4, cells := 0, slots := 0, locals := 105 })
set_option maxRecDepth 100000 in
theorem mk_X9_grid : MK yX9_grid M_X9_grid 6 := ⟨tt_mem (List.mem_of_getElem? (i := 534) rfl) rfl, rfl, rfl, by decide +kernel⟩
def M_X9_isGridWithin : MD := (cX9_isGridWithin, RX9, 5, (some .boolean), { frames := 1, cells := 0, slots := 0, locals := 22 })
set_option maxRecDepth 100000 in
theorem mk_X9_isGridWithin : MK yX9_isGridWithin M_X9_isGridWithin 5 := ⟨tt_mem (List.mem_of_getElem? (i := 537) rfl) rfl, rfl, rfl, by decide +kernel⟩
def M_X8_fitsParent : MD := (cX8_fitsParent, RX8, 8, (some .boolean), { frames := 1, cells := 0, slots := 0, locals := 21 })
set_option maxRecDepth 100000 in
theorem mk_X8_fitsParent : MK yX8_fitsParent M_X8_fitsParent 6 := ⟨tt_mem (List.mem_of_getElem? (i := 541) rfl) rfl, rfl, rfl, by decide +kernel⟩
def M_X8_isApart : MD := (cX8_isApart, RX8, 8, (some .boolean), { frames := 1, cells := 0, slots := 0, locals := 21 })
set_option maxRecDepth 100000 in
theorem mk_X8_isApart : MK yX8_isApart M_X8_isApart 5 := ⟨tt_mem (List.mem_of_getElem? (i := 547) rfl) rfl, rfl, rfl, by decide +kernel⟩
def M_X5_push : MD := (cX5_push, RX5, 2, none, { frames := 3, cells := 0, slots := 0, locals := 84 })
set_option maxRecDepth 100000 in
theorem mk_X5_push : MK yX5_push M_X5_push 1 := ⟨tt_mem (List.mem_of_getElem? (i := 553) rfl) rfl, rfl, rfl, by decide +kernel⟩
def M_X8_copyFrom : MD := (cX8_copyFrom, RX8, 4, none, { frames := 2, cells := 0, slots := 0, locals := 61 })
set_option maxRecDepth 100000 in
theorem mk_X8_copyFrom : MK yX8_copyFrom M_X8_copyFrom 1 := ⟨tt_mem (List.mem_of_getElem? (i := 558) rfl) rfl, rfl, rfl, by decide +kernel⟩
def M_X4_copyFrom : MD := (cX4_copyFrom, RX4, 2, none, { frames := 1, cells := 0, slots := 0, locals := 40 })
set_option maxRecDepth 100000 in
theorem mk_X4_copyFrom : MK yX4_copyFrom M_X4_copyFrom 1 := ⟨tt_mem (List.mem_of_getElem? (i := 562) rfl) rfl, rfl, rfl, by decide +kernel⟩
def M_X4_place : MD := (cX4_place, RX4, 7, none, { frames := 0, cells := 0, slots := 0, locals := 0 })
set_option maxRecDepth 100000 in
theorem mk_X4_place : MK yX4_place M_X4_place 6 := ⟨tt_mem (List.mem_of_getElem? (i := 566) rfl) rfl, rfl, rfl, by decide +kernel⟩
def M_X8_add : MD := (cX8_add, RX8, 8, (some .int), { frames := 2, cells := 0, slots := 0, locals := 51 })
set_option maxRecDepth 100000 in
theorem mk_X8_add : MK yX8_add M_X8_add 6 := ⟨tt_mem (List.mem_of_getElem? (i := 574) rfl) rfl, rfl, rfl, by decide +kernel⟩
def M_X4_setOffsets : MD := (cX4_setOffsets, RX4, 6, (some .int), { frames := 1, cells := 0, slots := 0, locals := 26 })
set_option maxRecDepth 100000 in
theorem mk_X4_setOffsets : MK yX4_setOffsets M_X4_setOffsets 2 := ⟨tt_mem (List.mem_of_getElem? (i := 580) rfl) rfl, rfl, rfl, by decide +kernel⟩
def M_X4_setOffset : MD := (cX4_setOffset, RX4, 7, (some .boolean), { frames := 0, cells := 0, slots := 0, locals := 0 })
set_option maxRecDepth 100000 in
theorem mk_X4_setOffset : MK yX4_setOffset M_X4_setOffset 4 := ⟨tt_mem (List.mem_of_getElem? (i := 584) rfl) rfl, rfl, rfl, by decide +kernel⟩
def M_X9_node : MD := (cX9_node, RX9, 7, (some .int), { frames := 4, cells := 0, slots := 0, locals := 105 })
set_option maxRecDepth 100000 in
theorem mk_X9_node : MK yX9_node M_X9_node 5 := ⟨tt_mem (List.mem_of_getElem? (i := 588) rfl) rfl, rfl, rfl, by decide +kernel⟩
def M_X9_isOffset : MD := (cX9_isOffset, RX9, 2, (some .boolean), { frames := 1, cells := 0, slots := 0, locals := 22 })
set_option maxRecDepth 100000 in
theorem mk_X9_isOffset : MK yX9_isOffset M_X9_isOffset 2 := ⟨tt_mem (List.mem_of_getElem? (i := 591) rfl) rfl, rfl, rfl, by decide +kernel⟩
def M_X9_fill : MD := (cX9_fill, RX9, 5, (some .int), { frames := 4, cells := 0, slots := 0, locals := 105 })
set_option maxRecDepth 100000 in
theorem mk_X9_fill : MK yX9_fill M_X9_fill 3 := ⟨tt_mem (List.mem_of_getElem? (i := 596) rfl) rfl, rfl, rfl, by decide +kernel⟩
def M_X9_fit : MD := (cX9_fit, RX9, 4, (some .int), { frames := 5, cells := 0, slots := 0, locals := 139 })
set_option maxRecDepth 100000 in
theorem mk_X9_fit : MK yX9_fit M_X9_fit 1 := ⟨tt_mem (List.mem_of_getElem? (i := 601) rfl) rfl, rfl, rfl, by decide +kernel⟩
def M_X1_meet : MD := (cX1_meet, RX1, 7, none, { frames := 3, cells := 0, slots := 0, locals := 86 })
set_option maxRecDepth 100000 in
theorem mk_X1_meet : MK yX1_meet M_X1_meet 2 := ⟨tt_mem (List.mem_of_getElem? (i := 604) rfl) rfl, rfl, rfl, by decide +kernel⟩
def M_X9_drop : MD := (cX9_drop, RX9, 2, (some .int), { frames := 4, cells := 0, slots := 0, locals := 105 })
set_option maxRecDepth 100000 in
theorem mk_X9_drop : MK yX9_drop M_X9_drop 1 := ⟨tt_mem (List.mem_of_getElem? (i := 609) rfl) rfl, rfl, rfl, by decide +kernel⟩
def M_X8_remove : MD := (cX8_remove, RX8, 5, none, { frames := 2, cells := 0, slots := 0, locals := 44 })
set_option maxRecDepth 100000 in
theorem mk_X8_remove : MK yX8_remove M_X8_remove 1 := ⟨tt_mem (List.mem_of_getElem? (i := 613) rfl) rfl, rfl, rfl, by decide +kernel⟩
def M_X8_lowerParentsBehind : MD := (cX8_lowerParentsBehind, RX8, 4, none, { frames := 1, cells := 0, slots := 0, locals := 21 })
set_option maxRecDepth 100000 in
theorem mk_X8_lowerParentsBehind : MK yX8_lowerParentsBehind M_X8_lowerParentsBehind 1 := ⟨tt_mem (List.mem_of_getElem? (i := 617) rfl) rfl, rfl, rfl, by decide +kernel⟩
def M_X9_rule : MD := (cX9_rule, RX9, 3, (some .int), { frames := 4, cells := 0, slots := 0, locals := 105 })
set_option maxRecDepth 100000 in
theorem mk_X9_rule : MK yX9_rule M_X9_rule 1 := ⟨tt_mem (List.mem_of_getElem? (i := 621) rfl) rfl, rfl, rfl, by decide +kernel⟩
def M_X8_setRule : MD := (cX8_setRule, RX8, 2, none, { frames := 0, cells := 0, slots := 0, locals := 0 })
set_option maxRecDepth 100000 in
theorem mk_X8_setRule : MK yX8_setRule M_X8_setRule 1 := ⟨tt_mem (List.mem_of_getElem? (i := 625) rfl) rfl, rfl, rfl, by decide +kernel⟩
def M_X9_drift : MD := (cX9_drift, RX9, 3, (some .int), { frames := 4, cells := 0, slots := 0, locals := 105 })
set_option maxRecDepth 100000 in
theorem mk_X9_drift : MK yX9_drift M_X9_drift 1 := ⟨tt_mem (List.mem_of_getElem? (i := 629) rfl) rfl, rfl, rfl, by decide +kernel⟩
def M_X3_shiftNode : MD := (cX3_shiftNode, RX3, 7, none, { frames := 1, cells := 0, slots := 0, locals := 26 })
set_option maxRecDepth 100000 in
theorem mk_X3_shiftNode : MK yX3_shiftNode M_X3_shiftNode 1 := ⟨tt_mem (List.mem_of_getElem? (i := 633) rfl) rfl, rfl, rfl, by decide +kernel⟩
def M_X3_draw : MD := (cX3_draw, RX3, 2, (some .int), { frames := 0, cells := 0, slots := 0, locals := 0 })
set_option maxRecDepth 100000 in
theorem mk_X3_draw : MK yX3_draw M_X3_draw 1 := ⟨tt_mem (List.mem_of_getElem? (i := 638) rfl) rfl, rfl, rfl, by decide +kernel⟩
def M_X9_undo : MD := (cX9_undo, RX9, 2, (some .int), { frames := 4, cells := 0, slots := 0, locals := 106 })
set_option maxRecDepth 100000 in
theorem mk_X9_undo : MK yX9_undo M_X9_undo 1 := ⟨tt_mem (List.mem_of_getElem? (i := 648) rfl) rfl, rfl, rfl, by decide +kernel⟩
def M_X5_takeBack : MD := (cX5_takeBack, RX5, 3, none, { frames := 3, cells := 0, slots := 0, locals := 84 })
set_option maxRecDepth 100000 in
theorem mk_X5_takeBack : MK yX5_takeBack M_X5_takeBack 2 := ⟨tt_mem (List.mem_of_getElem? (i := 652) rfl) rfl, rfl, rfl, by decide +kernel⟩
def M_X9_write : MD := (cX9_write, RX9, 4, (some .int), { frames := 2, cells := 0, slots := 0, locals := 43 })
set_option maxRecDepth 100000 in
theorem mk_X9_write : MK yX9_write M_X9_write 3 := ⟨tt_mem (List.mem_of_getElem? (i := 657) rfl) rfl, rfl, rfl, by decide +kernel⟩
def M_X0_add : MD := (cX0_add, RX0, 4, (some .boolean), { frames := 0, cells := 0, slots := 0, locals := 0 })
set_option maxRecDepth 100000 in
theorem mk_X0_add : MK yX0_add M_X0_add 3 := ⟨tt_mem (List.mem_of_getElem? (i := 661) rfl) rfl, rfl, rfl, by decide +kernel⟩
def M_X9_tear : MD := (cX9_tear, RX9, 2, (some .int), { frames := 1, cells := 0, slots := 0, locals := 20 })
set_option maxRecDepth 100000 in
theorem mk_X9_tear : MK yX9_tear M_X9_tear 0 := ⟨tt_mem (List.mem_of_getElem? (i := 665) rfl) rfl, rfl, rfl, by decide +kernel⟩
def M_X0_clear : MD := (cX0_clear, RX0, 1, none, { frames := 0, cells := 0, slots := 0, locals := 0 })
set_option maxRecDepth 100000 in
theorem mk_X0_clear : MK yX0_clear M_X0_clear 0 := ⟨tt_mem (List.mem_of_getElem? (i := 669) rfl) rfl, rfl, rfl, by decide +kernel⟩
def M_X9_seed : MD := (cX9_seed, RX9, 3, (some .int), { frames := 1, cells := 0, slots := 0, locals := 21 })
set_option maxRecDepth 100000 in
theorem mk_X9_seed : MK yX9_seed M_X9_seed 1 := ⟨tt_mem (List.mem_of_getElem? (i := 673) rfl) rfl, rfl, rfl, by decide +kernel⟩
def M_X3_setSeed : MD := (cX3_setSeed, RX3, 2, none, { frames := 0, cells := 0, slots := 0, locals := 0 })
set_option maxRecDepth 100000 in
theorem mk_X3_setSeed : MK yX3_setSeed M_X3_setSeed 1 := ⟨tt_mem (List.mem_of_getElem? (i := 677) rfl) rfl, rfl, rfl, by decide +kernel⟩
def M_X9_keep : MD := (cX9_keep, RX9, 3, (some .int), { frames := 4, cells := 0, slots := 0, locals := 106 })
set_option maxRecDepth 100000 in
theorem mk_X9_keep : MK yX9_keep M_X9_keep 1 := ⟨tt_mem (List.mem_of_getElem? (i := 681) rfl) rfl, rfl, rfl, by decide +kernel⟩
def M_X9_imageOf : MD := (cX9_imageOf, RX9, 2, (some (.object "ShiftGrids$Image")), { frames := 0, cells := 0, slots := 0, locals := 0 })
set_option maxRecDepth 100000 in
theorem mk_X9_imageOf : MK yX9_imageOf M_X9_imageOf 1 := ⟨tt_mem (List.mem_of_getElem? (i := 685) rfl) rfl, rfl, rfl, by decide +kernel⟩
def M_X6_take : MD := (cX6_take, RX6, 3, none, { frames := 3, cells := 0, slots := 0, locals := 84 })
set_option maxRecDepth 100000 in
theorem mk_X6_take : MK yX6_take M_X6_take 2 := ⟨tt_mem (List.mem_of_getElem? (i := 689) rfl) rfl, rfl, rfl, by decide +kernel⟩
def M_X5_clear : MD := (cX5_clear, RX5, 1, none, { frames := 0, cells := 0, slots := 0, locals := 0 })
set_option maxRecDepth 100000 in
theorem mk_X5_clear : MK yX5_clear M_X5_clear 0 := ⟨tt_mem (List.mem_of_getElem? (i := 695) rfl) rfl, rfl, rfl, by decide +kernel⟩
def M_X9_goBack : MD := (cX9_goBack, RX9, 3, (some .int), { frames := 4, cells := 0, slots := 0, locals := 106 })
set_option maxRecDepth 100000 in
theorem mk_X9_goBack : MK yX9_goBack M_X9_goBack 1 := ⟨tt_mem (List.mem_of_getElem? (i := 699) rfl) rfl, rfl, rfl, by decide +kernel⟩
def M_X6_wasTaken : MD := (cX6_wasTaken, RX6, 1, (some .boolean), { frames := 0, cells := 0, slots := 0, locals := 0 })
set_option maxRecDepth 100000 in
theorem mk_X6_wasTaken : MK yX6_wasTaken M_X6_wasTaken 0 := ⟨tt_mem (List.mem_of_getElem? (i := 703) rfl) rfl, rfl, rfl, by decide +kernel⟩
def M_X6_give : MD := (cX6_give, RX6, 3, none, { frames := 3, cells := 0, slots := 0, locals := 84 })
set_option maxRecDepth 100000 in
theorem mk_X6_give : MK yX6_give M_X6_give 2 := ⟨tt_mem (List.mem_of_getElem? (i := 707) rfl) rfl, rfl, rfl, by decide +kernel⟩
def M_X10_told : MD := (cX10_told, RX10, 2, (some .int), { frames := 8, cells := 0, slots := 0, locals := 185 })
set_option maxRecDepth 100000 in
theorem mk_X10_told : MK yX10_told M_X10_told 1 := ⟨tt_mem (List.mem_of_getElem? (i := 768) rfl) rfl, rfl, rfl, by decide +kernel⟩
def M_X10_nodesMoved : MD := (cX10_nodesMoved, RX10, 6, (some .int), { frames := 2, cells := 0, slots := 0, locals := 46 })
set_option maxRecDepth 100000 in
theorem mk_X10_nodesMoved : MK yX10_nodesMoved M_X10_nodesMoved 0 := ⟨tt_mem (List.mem_of_getElem? (i := 772) rfl) rfl, rfl, rfl, by decide +kernel⟩
def M_X10_its : MD := (cX10_its, RX10, 3, (some .int), { frames := 0, cells := 0, slots := 0, locals := 0 })
set_option maxRecDepth 100000 in
theorem mk_X10_its : MK yX10_its M_X10_its 2 := ⟨tt_mem (List.mem_of_getElem? (i := 776) rfl) rfl, rfl, rfl, by decide +kernel⟩
def M_X10_off : MD := (cX10_off, RX10, 5, (some .int), { frames := 1, cells := 0, slots := 0, locals := 22 })
set_option maxRecDepth 100000 in
theorem mk_X10_off : MK yX10_off M_X10_off 4 := ⟨tt_mem (List.mem_of_getElem? (i := 780) rfl) rfl, rfl, rfl, by decide +kernel⟩
def M_X10_at : MD := (cX10_at, RX10, 3, (some .int), { frames := 0, cells := 0, slots := 0, locals := 0 })
set_option maxRecDepth 100000 in
theorem mk_X10_at : MK yX10_at M_X10_at 3 := ⟨tt_mem (List.mem_of_getElem? (i := 783) rfl) rfl, rfl, rfl, by decide +kernel⟩
def M_X10_tally : MD := (cX10_tally, RX10, 6, (some .int), { frames := 6, cells := 0, slots := 0, locals := 160 })
set_option maxRecDepth 100000 in
theorem mk_X10_tally : MK yX10_tally M_X10_tally 1 := ⟨tt_mem (List.mem_of_getElem? (i := 787) rfl) rfl, rfl, rfl, by decide +kernel⟩
def M_X10_gaps : MD := (cX10_gaps, RX10, 5, none, { frames := 5, cells := 0, slots := 0, locals := 136 })
set_option maxRecDepth 100000 in
theorem mk_X10_gaps : MK yX10_gaps M_X10_gaps 1 := ⟨tt_mem (List.mem_of_getElem? (i := 791) rfl) rfl, rfl, rfl, by decide +kernel⟩
def M_X10_isBorder : MD := (cX10_isBorder, RX10, 4, (some .boolean), { frames := 1, cells := 0, slots := 0, locals := 22 })
set_option maxRecDepth 100000 in
theorem mk_X10_isBorder : MK yX10_isBorder M_X10_isBorder 3 := ⟨tt_mem (List.mem_of_getElem? (i := 795) rfl) rfl, rfl, rfl, by decide +kernel⟩
def M_X10_gapAt : MD := (cX10_gapAt, RX10, 5, (some .int), { frames := 4, cells := 0, slots := 0, locals := 112 })
set_option maxRecDepth 100000 in
theorem mk_X10_gapAt : MK yX10_gapAt M_X10_gapAt 3 := ⟨tt_mem (List.mem_of_getElem? (i := 799) rfl) rfl, rfl, rfl, by decide +kernel⟩
def M_X10_ofParent : MD := (cX10_ofParent, RX10, 5, (some .int), { frames := 3, cells := 0, slots := 0, locals := 88 })
set_option maxRecDepth 100000 in
theorem mk_X10_ofParent : MK yX10_ofParent M_X10_ofParent 4 := ⟨tt_mem (List.mem_of_getElem? (i := 803) rfl) rfl, rfl, rfl, by decide +kernel⟩
def M_X10_stands : MD := (cX10_stands, RX10, 4, (some .int), { frames := 1, cells := 0, slots := 0, locals := 22 })
set_option maxRecDepth 100000 in
theorem mk_X10_stands : MK yX10_stands M_X10_stands 3 := ⟨tt_mem (List.mem_of_getElem? (i := 807) rfl) rfl, rfl, rfl, by decide +kernel⟩
def M_X10_offset : MD := (cX10_offset, RX10, 10, (some .int), { frames := 2, cells := 0, slots := 0, locals := 59 })
set_option maxRecDepth 100000 in
theorem mk_X10_offset : MK yX10_offset M_X10_offset 4 := ⟨tt_mem (List.mem_of_getElem? (i := 811) rfl) rfl, rfl, rfl, by decide +kernel⟩
def M_X10_between : MD := (cX10_between, RX10, 13, (some .int), { frames := 1, cells := 0, slots := 0, locals := 27 })
set_option maxRecDepth 100000 in
theorem mk_X10_between : MK yX10_between M_X10_between 7 := ⟨tt_mem (List.mem_of_getElem? (i := 815) rfl) rfl, rfl, rfl, by decide +kernel⟩
def M_X10_rounded : MD := (cX10_rounded, RX10, 8, (some .long), { frames := 0, cells := 0, slots := 0, locals := 0 })
set_option maxRecDepth 100000 in
theorem mk_X10_rounded : MK yX10_rounded M_X10_rounded 2 := ⟨tt_mem (List.mem_of_getElem? (i := 818) rfl) rfl, rfl, rfl, by decide +kernel⟩
def M_X10_size : MD := (cX10_size, RX10, 1, (some .int), { frames := 0, cells := 0, slots := 0, locals := 0 })
set_option maxRecDepth 100000 in
theorem mk_X10_size : MK yX10_size M_X10_size 1 := ⟨tt_mem (List.mem_of_getElem? (i := 822) rfl) rfl, rfl, rfl, by decide +kernel⟩
def M_X10_larger : MD := (cX10_larger, RX10, 2, (some .int), { frames := 0, cells := 0, slots := 0, locals := 0 })
set_option maxRecDepth 100000 in
theorem mk_X10_larger : MK yX10_larger M_X10_larger 2 := ⟨tt_mem (List.mem_of_getElem? (i := 825) rfl) rfl, rfl, rfl, by decide +kernel⟩
def M_X10_cells : MD := (cX10_cells, RX10, 6, (some .int), { frames := 5, cells := 0, slots := 0, locals := 123 })
set_option maxRecDepth 100000 in
theorem mk_X10_cells : MK yX10_cells M_X10_cells 2 := ⟨tt_mem (List.mem_of_getElem? (i := 829) rfl) rfl, rfl, rfl, by decide +kernel⟩
def M_X10_isFolded : MD := (cX10_isFolded, RX10, 6, (some .boolean), { frames := 4, cells := 0, slots := 0, locals := 98 })
set_option maxRecDepth 100000 in
theorem mk_X10_isFolded : MK yX10_isFolded M_X10_isFolded 3 := ⟨tt_mem (List.mem_of_getElem? (i := 833) rfl) rfl, rfl, rfl, by decide +kernel⟩
def M_X10_cross : MD := (cX10_cross, RX10, 6, (some .long), { frames := 3, cells := 0, slots := 0, locals := 73 })
set_option maxRecDepth 100000 in
theorem mk_X10_cross : MK yX10_cross M_X10_cross 5 := ⟨tt_mem (List.mem_of_getElem? (i := 837) rfl) rfl, rfl, rfl, by decide +kernel⟩
def M_X10_corner : MD := (cX10_corner, RX10, 8, (some .long), { frames := 2, cells := 0, slots := 0, locals := 46 })
set_option maxRecDepth 100000 in
theorem mk_X10_corner : MK yX10_corner M_X10_corner 5 := ⟨tt_mem (List.mem_of_getElem? (i := 841) rfl) rfl, rfl, rfl, by decide +kernel⟩
def M_X10_isSure : MD := (cX10_isSure, RX10, 4, (some .boolean), { frames := 4, cells := 0, slots := 0, locals := 97 })
set_option maxRecDepth 100000 in
theorem mk_X10_isSure : MK yX10_isSure M_X10_isSure 3 := ⟨tt_mem (List.mem_of_getElem? (i := 845) rfl) rfl, rfl, rfl, by decide +kernel⟩
def M_X10_steep : MD := (cX10_steep, RX10, 4, (some .int), { frames := 3, cells := 0, slots := 0, locals := 74 })
set_option maxRecDepth 100000 in
theorem mk_X10_steep : MK yX10_steep M_X10_steep 3 := ⟨tt_mem (List.mem_of_getElem? (i := 849) rfl) rfl, rfl, rfl, by decide +kernel⟩
def M_X10_steepIn : MD := (cX10_steepIn, RX10, 9, (some .int), { frames := 2, cells := 0, slots := 0, locals := 46 })
set_option maxRecDepth 100000 in
theorem mk_X10_steepIn : MK yX10_steepIn M_X10_steepIn 4 := ⟨tt_mem (List.mem_of_getElem? (i := 853) rfl) rfl, rfl, rfl, by decide +kernel⟩
def M_X10_wrong : MD := (cX10_wrong, RX10, 2, (some .int), { frames := 7, cells := 0, slots := 0, locals := 162 })
set_option maxRecDepth 100000 in
theorem mk_X10_wrong : MK yX10_wrong M_X10_wrong 0 := ⟨tt_mem (List.mem_of_getElem? (i := 857) rfl) rfl, rfl, rfl, by decide +kernel⟩
def M_X10_movedBy : MD := (cX10_movedBy, RX10, 5, (some .int), { frames := 6, cells := 0, slots := 0, locals := 138 })
set_option maxRecDepth 100000 in
theorem mk_X10_movedBy : MK yX10_movedBy M_X10_movedBy 3 := ⟨tt_mem (List.mem_of_getElem? (i := 861) rfl) rfl, rfl, rfl, by decide +kernel⟩
def M_X10_belongs : MD := (cX10_belongs, RX10, 5, (some .int), { frames := 5, cells := 0, slots := 0, locals := 114 })
set_option maxRecDepth 100000 in
theorem mk_X10_belongs : MK yX10_belongs M_X10_belongs 2 := ⟨tt_mem (List.mem_of_getElem? (i := 865) rfl) rfl, rfl, rfl, by decide +kernel⟩
def M_X10_child : MD := (cX10_child, RX10, 5, (some .int), { frames := 4, cells := 0, slots := 0, locals := 90 })
set_option maxRecDepth 100000 in
theorem mk_X10_child : MK yX10_child M_X10_child 3 := ⟨tt_mem (List.mem_of_getElem? (i := 869) rfl) rfl, rfl, rfl, by decide +kernel⟩
def M_X10_isOn : MD := (cX10_isOn, RX10, 4, (some .boolean), { frames := 3, cells := 0, slots := 0, locals := 67 })
set_option maxRecDepth 100000 in
theorem mk_X10_isOn : MK yX10_isOn M_X10_isOn 3 := ⟨tt_mem (List.mem_of_getElem? (i := 873) rfl) rfl, rfl, rfl, by decide +kernel⟩
def M_X10_last : MD := (cX10_last, RX10, 3, (some .int), { frames := 2, cells := 0, slots := 0, locals := 45 })
set_option maxRecDepth 100000 in
theorem mk_X10_last : MK yX10_last M_X10_last 2 := ⟨tt_mem (List.mem_of_getElem? (i := 877) rfl) rfl, rfl, rfl, by decide +kernel⟩
def M_X10_in : MD := (cX10_in, RX10, 6, (some .boolean), { frames := 0, cells := 0, slots := 0, locals := 0 })
set_option maxRecDepth 100000 in
theorem mk_X10_in : MK yX10_in M_X10_in 3 := ⟨tt_mem (List.mem_of_getElem? (i := 880) rfl) rfl, rfl, rfl, by decide +kernel⟩
def M_X10_gridAt : MD := (cX10_gridAt, RX10, 3, (some .int), { frames := 6, cells := 0, slots := 0, locals := 160 })
set_option maxRecDepth 100000 in
theorem mk_X10_gridAt : MK yX10_gridAt M_X10_gridAt 2 := ⟨tt_mem (List.mem_of_getElem? (i := 885) rfl) rfl, rfl, rfl, by decide +kernel⟩
def M_X10_isGrid : MD := (cX10_isGrid, RX10, 2, (some .boolean), { frames := 1, cells := 0, slots := 0, locals := 25 })
set_option maxRecDepth 100000 in
theorem mk_X10_isGrid : MK yX10_isGrid M_X10_isGrid 1 := ⟨tt_mem (List.mem_of_getElem? (i := 889) rfl) rfl, rfl, rfl, by decide +kernel⟩
def M_X10_children : MD := (cX10_children, RX10, 4, (some .int), { frames := 1, cells := 0, slots := 0, locals := 22 })
set_option maxRecDepth 100000 in
theorem mk_X10_children : MK yX10_children M_X10_children 1 := ⟨tt_mem (List.mem_of_getElem? (i := 895) rfl) rfl, rfl, rfl, by decide +kernel⟩
def M_X10_depth : MD := (cX10_depth, RX10, 4, (some .int), { frames := 1, cells := 0, slots := 0, locals := 22 })
set_option maxRecDepth 100000 in
theorem mk_X10_depth : MK yX10_depth M_X10_depth 1 := ⟨tt_mem (List.mem_of_getElem? (i := 899) rfl) rfl, rfl, rfl, by decide +kernel⟩
def M_X10_nodeAt : MD := (cX10_nodeAt, RX10, 5, (some .int), { frames := 4, cells := 0, slots := 0, locals := 112 })
set_option maxRecDepth 100000 in
theorem mk_X10_nodeAt : MK yX10_nodeAt M_X10_nodeAt 4 := ⟨tt_mem (List.mem_of_getElem? (i := 903) rfl) rfl, rfl, rfl, by decide +kernel⟩
def M_X10_isNode : MD := (cX10_isNode, RX10, 4, (some .boolean), { frames := 2, cells := 0, slots := 0, locals := 46 })
set_option maxRecDepth 100000 in
theorem mk_X10_isNode : MK yX10_isNode M_X10_isNode 3 := ⟨tt_mem (List.mem_of_getElem? (i := 907) rfl) rfl, rfl, rfl, by decide +kernel⟩
def M_X10_cellAt : MD := (cX10_cellAt, RX10, 5, (some .long), { frames := 5, cells := 0, slots := 0, locals := 123 })
set_option maxRecDepth 100000 in
theorem mk_X10_cellAt : MK yX10_cellAt M_X10_cellAt 4 := ⟨tt_mem (List.mem_of_getElem? (i := 913) rfl) rfl, rfl, rfl, by decide +kernel⟩
def M_X10_isCell : MD := (cX10_isCell, RX10, 4, (some .boolean), { frames := 2, cells := 0, slots := 0, locals := 46 })
set_option maxRecDepth 100000 in
theorem mk_X10_isCell : MK yX10_isCell M_X10_isCell 3 := ⟨tt_mem (List.mem_of_getElem? (i := 917) rfl) rfl, rfl, rfl, by decide +kernel⟩
def M_X10_area : MD := (cX10_area, RX10, 4, (some .long), { frames := 4, cells := 0, slots := 0, locals := 98 })
set_option maxRecDepth 100000 in
theorem mk_X10_area : MK yX10_area M_X10_area 3 := ⟨tt_mem (List.mem_of_getElem? (i := 922) rfl) rfl, rfl, rfl, by decide +kernel⟩
def M_X10_which : MD := (cX10_which, RX10, 3, (some .int), { frames := 6, cells := 0, slots := 0, locals := 138 })
set_option maxRecDepth 100000 in
theorem mk_X10_which : MK yX10_which M_X10_which 2 := ⟨tt_mem (List.mem_of_getElem? (i := 927) rfl) rfl, rfl, rfl, by decide +kernel⟩
def M_X10_isPlace : MD := (cX10_isPlace, RX10, 2, (some .boolean), { frames := 1, cells := 0, slots := 0, locals := 25 })
set_option maxRecDepth 100000 in
theorem mk_X10_isPlace : MK yX10_isPlace M_X10_isPlace 2 := ⟨tt_mem (List.mem_of_getElem? (i := 930) rfl) rfl, rfl, rfl, by decide +kernel⟩
def M_X10_moved : MD := (cX10_moved, RX10, 4, (some .int), { frames := 7, cells := 0, slots := 0, locals := 162 })
set_option maxRecDepth 100000 in
theorem mk_X10_moved : MK yX10_moved M_X10_moved 3 := ⟨tt_mem (List.mem_of_getElem? (i := 935) rfl) rfl, rfl, rfl, by decide +kernel⟩
def M_X10_back : MD := (cX10_back, RX10, 7, (some .int), { frames := 7, cells := 0, slots := 0, locals := 162 })
set_option maxRecDepth 100000 in
theorem mk_X10_back : MK yX10_back M_X10_back 3 := ⟨tt_mem (List.mem_of_getElem? (i := 939) rfl) rfl, rfl, rfl, by decide +kernel⟩
def M_X10_wasThere : MD := (cX10_wasThere, RX10, 3, (some .boolean), { frames := 0, cells := 0, slots := 0, locals := 0 })
set_option maxRecDepth 100000 in
theorem mk_X10_wasThere : MK yX10_wasThere M_X10_wasThere 1 := ⟨tt_mem (List.mem_of_getElem? (i := 945) rfl) rfl, rfl, rfl, by decide +kernel⟩
def M_X10_grid : MD := (cX10_grid, RX10, 11, (some .int), { frames := 5, cells := 0, slots := 0, locals := 117 })
set_option maxRecDepth 100000 in
theorem mk_X10_grid : MK yX10_grid M_X10_grid 6 := ⟨tt_mem (List.mem_of_getElem? (i := 949) rfl) rfl, rfl, rfl, by decide +kernel⟩
def M_X10_mayBe : MD := (cX10_mayBe, RX10, 8, (some .boolean), { frames := 4, cells := 0, slots := 0, locals := 90 })
set_option maxRecDepth 100000 in
theorem mk_X10_mayBe : MK yX10_mayBe M_X10_mayBe 6 := ⟨tt_mem (List.mem_of_getElem? (i := 956) rfl) rfl, rfl, rfl, by decide +kernel⟩
def M_X10_overlaps : MD := (cX10_overlaps, RX10, 8, (some .boolean), { frames := 1, cells := 0, slots := 0, locals := 22 })
set_option maxRecDepth 100000 in
theorem mk_X10_overlaps : MK yX10_overlaps M_X10_overlaps 5 := ⟨tt_mem (List.mem_of_getElem? (i := 960) rfl) rfl, rfl, rfl, by decide +kernel⟩
def M_X10_notes : MD := (cX10_notes, RX10, 2, none, { frames := 0, cells := 0, slots := 0, locals := 0 })
set_option maxRecDepth 100000 in
theorem mk_X10_notes : MK yX10_notes M_X10_notes 0 := ⟨tt_mem (List.mem_of_getElem? (i := 966) rfl) rfl, rfl, rfl, by decide +kernel⟩
def M_X10_node : MD := (cX10_node, RX10, 6, (some .int), { frames := 3, cells := 0, slots := 0, locals := 69 })
set_option maxRecDepth 100000 in
theorem mk_X10_node : MK yX10_node M_X10_node 5 := ⟨tt_mem (List.mem_of_getElem? (i := 970) rfl) rfl, rfl, rfl, by decide +kernel⟩
def M_X10_isOffset : MD := (cX10_isOffset, RX10, 2, (some .boolean), { frames := 1, cells := 0, slots := 0, locals := 25 })
set_option maxRecDepth 100000 in
theorem mk_X10_isOffset : MK yX10_isOffset M_X10_isOffset 2 := ⟨tt_mem (List.mem_of_getElem? (i := 973) rfl) rfl, rfl, rfl, by decide +kernel⟩
def M_X10_sets : MD := (cX10_sets, RX10, 8, (some .int), { frames := 1, cells := 0, slots := 0, locals := 22 })
set_option maxRecDepth 100000 in
theorem mk_X10_sets : MK yX10_sets M_X10_sets 5 := ⟨tt_mem (List.mem_of_getElem? (i := 979) rfl) rfl, rfl, rfl, by decide +kernel⟩
def M_X10_fill : MD := (cX10_fill, RX10, 6, (some .int), { frames := 2, cells := 0, slots := 0, locals := 49 })
set_option maxRecDepth 100000 in
theorem mk_X10_fill : MK yX10_fill M_X10_fill 3 := ⟨tt_mem (List.mem_of_getElem? (i := 983) rfl) rfl, rfl, rfl, by decide +kernel⟩
def M_X10_fit : MD := (cX10_fit, RX10, 6, (some .int), { frames := 4, cells := 0, slots := 0, locals := 112 })
set_option maxRecDepth 100000 in
theorem mk_X10_fit : MK yX10_fit M_X10_fit 1 := ⟨tt_mem (List.mem_of_getElem? (i := 987) rfl) rfl, rfl, rfl, by decide +kernel⟩
def M_X10_drop : MD := (cX10_drop, RX10, 4, (some .int), { frames := 2, cells := 0, slots := 0, locals := 46 })
set_option maxRecDepth 100000 in
theorem mk_X10_drop : MK yX10_drop M_X10_drop 1 := ⟨tt_mem (List.mem_of_getElem? (i := 991) rfl) rfl, rfl, rfl, by decide +kernel⟩
def M_X10_rule : MD := (cX10_rule, RX10, 3, (some .int), { frames := 1, cells := 0, slots := 0, locals := 25 })
set_option maxRecDepth 100000 in
theorem mk_X10_rule : MK yX10_rule M_X10_rule 1 := ⟨tt_mem (List.mem_of_getElem? (i := 995) rfl) rfl, rfl, rfl, by decide +kernel⟩
def M_X10_drift : MD := (cX10_drift, RX10, 7, (some .int), { frames := 3, cells := 0, slots := 0, locals := 71 })
set_option maxRecDepth 100000 in
theorem mk_X10_drift : MK yX10_drift M_X10_drift 1 := ⟨tt_mem (List.mem_of_getElem? (i := 999) rfl) rfl, rfl, rfl, by decide +kernel⟩
def M_X10_draw : MD := (cX10_draw, RX10, 2, (some .int), { frames := 0, cells := 0, slots := 0, locals := 0 })
set_option maxRecDepth 100000 in
theorem mk_X10_draw : MK yX10_draw M_X10_draw 1 := ⟨tt_mem (List.mem_of_getElem? (i := 1004) rfl) rfl, rfl, rfl, by decide +kernel⟩
def M_X10_undo : MD := (cX10_undo, RX10, 3, (some .int), { frames := 1, cells := 0, slots := 0, locals := 25 })
set_option maxRecDepth 100000 in
theorem mk_X10_undo : MK yX10_undo M_X10_undo 1 := ⟨tt_mem (List.mem_of_getElem? (i := 1012) rfl) rfl, rfl, rfl, by decide +kernel⟩
def M_X10_write : MD := (cX10_write, RX10, 4, (some .int), { frames := 2, cells := 0, slots := 0, locals := 46 })
set_option maxRecDepth 100000 in
theorem mk_X10_write : MK yX10_write M_X10_write 3 := ⟨tt_mem (List.mem_of_getElem? (i := 1017) rfl) rfl, rfl, rfl, by decide +kernel⟩
def M_X10_tear : MD := (cX10_tear, RX10, 2, (some .int), { frames := 0, cells := 0, slots := 0, locals := 0 })
set_option maxRecDepth 100000 in
theorem mk_X10_tear : MK yX10_tear M_X10_tear 0 := ⟨tt_mem (List.mem_of_getElem? (i := 1021) rfl) rfl, rfl, rfl, by decide +kernel⟩
def M_X10_seed : MD := (cX10_seed, RX10, 3, (some .int), { frames := 0, cells := 0, slots := 0, locals := 0 })
set_option maxRecDepth 100000 in
theorem mk_X10_seed : MK yX10_seed M_X10_seed 1 := ⟨tt_mem (List.mem_of_getElem? (i := 1025) rfl) rfl, rfl, rfl, by decide +kernel⟩
def M_X10_keep : MD := (cX10_keep, RX10, 3, (some .int), { frames := 1, cells := 0, slots := 0, locals := 25 })
set_option maxRecDepth 100000 in
theorem mk_X10_keep : MK yX10_keep M_X10_keep 1 := ⟨tt_mem (List.mem_of_getElem? (i := 1029) rfl) rfl, rfl, rfl, by decide +kernel⟩
def M_X10_goBack : MD := (cX10_goBack, RX10, 3, (some .int), { frames := 1, cells := 0, slots := 0, locals := 25 })
set_option maxRecDepth 100000 in
theorem mk_X10_goBack : MK yX10_goBack M_X10_goBack 1 := ⟨tt_mem (List.mem_of_getElem? (i := 1033) rfl) rfl, rfl, rfl, by decide +kernel⟩
set_option maxRecDepth 100000 in
theorem vk_X0_25 : VK RX0 25 yX8_placeOffset := ⟨tt_mem (List.mem_of_getElem? (i := 409) rfl) rfl, tt_mem (List.mem_of_getElem? (i := 410) rfl) rfl, tt_mem (List.mem_of_getElem? (i := 411) rfl) rfl, tt_mem (List.mem_of_getElem? (i := 49) rfl) rfl⟩
set_option maxRecDepth 100000 in
theorem vk_X1_9 : VK RX1 9 yX4_isOnBorder := ⟨tt_mem (List.mem_of_getElem? (i := 365) rfl) rfl, tt_mem (List.mem_of_getElem? (i := 366) rfl) rfl, tt_mem (List.mem_of_getElem? (i := 367) rfl) rfl, tt_mem (List.mem_of_getElem? (i := 50) rfl) rfl⟩
set_option maxRecDepth 100000 in
theorem vk_X1_15 : VK RX1 15 yX4_columnPlace := ⟨tt_mem (List.mem_of_getElem? (i := 369) rfl) rfl, tt_mem (List.mem_of_getElem? (i := 310) rfl) rfl, tt_mem (List.mem_of_getElem? (i := 311) rfl) rfl, tt_mem (List.mem_of_getElem? (i := 50) rfl) rfl⟩
set_option maxRecDepth 100000 in
theorem vk_X1_19 : VK RX1 19 yX4_rowPlace := ⟨tt_mem (List.mem_of_getElem? (i := 370) rfl) rfl, tt_mem (List.mem_of_getElem? (i := 314) rfl) rfl, tt_mem (List.mem_of_getElem? (i := 315) rfl) rfl, tt_mem (List.mem_of_getElem? (i := 50) rfl) rfl⟩
set_option maxRecDepth 100000 in
theorem vk_X1_22 : VK RX1 22 yX4_offset := ⟨tt_mem (List.mem_of_getElem? (i := 371) rfl) rfl, tt_mem (List.mem_of_getElem? (i := 288) rfl) rfl, tt_mem (List.mem_of_getElem? (i := 289) rfl) rfl, tt_mem (List.mem_of_getElem? (i := 50) rfl) rfl⟩
set_option maxRecDepth 100000 in
theorem vk_X1_26 : VK RX1 26 yX4_offsetBy := ⟨tt_mem (List.mem_of_getElem? (i := 372) rfl) rfl, tt_mem (List.mem_of_getElem? (i := 373) rfl) rfl, tt_mem (List.mem_of_getElem? (i := 374) rfl) rfl, tt_mem (List.mem_of_getElem? (i := 50) rfl) rfl⟩
set_option maxRecDepth 100000 in
theorem sk_X1_30 : SK RX1 30 yJ9_abs_0f7a4 := ⟨tt_mem (List.mem_of_getElem? (i := 392) rfl) rfl, tt_mem (List.mem_of_getElem? (i := 329) rfl) rfl, tt_mem (List.mem_of_getElem? (i := 58) rfl) rfl⟩
set_option maxRecDepth 100000 in
theorem sk_X1_35 : SK RX1 35 yJ9_max_7cf53 := ⟨tt_mem (List.mem_of_getElem? (i := 393) rfl) rfl, tt_mem (List.mem_of_getElem? (i := 332) rfl) rfl, tt_mem (List.mem_of_getElem? (i := 58) rfl) rfl⟩
set_option maxRecDepth 100000 in
theorem vk_X1_43 : VK RX1 43 yX8_at := ⟨tt_mem (List.mem_of_getElem? (i := 360) rfl) rfl, tt_mem (List.mem_of_getElem? (i := 280) rfl) rfl, tt_mem (List.mem_of_getElem? (i := 281) rfl) rfl, tt_mem (List.mem_of_getElem? (i := 49) rfl) rfl⟩
set_option maxRecDepth 100000 in
theorem vk_X1_55 : VK RX1 55 yX8_ruleNow := ⟨tt_mem (List.mem_of_getElem? (i := 361) rfl) rfl, tt_mem (List.mem_of_getElem? (i := 272) rfl) rfl, tt_mem (List.mem_of_getElem? (i := 273) rfl) rfl, tt_mem (List.mem_of_getElem? (i := 49) rfl) rfl⟩
set_option maxRecDepth 100000 in
theorem sk_X1_59 : SK RX1 59 yX1_gap := ⟨tt_mem (List.mem_of_getElem? (i := 362) rfl) rfl, tt_mem (List.mem_of_getElem? (i := 363) rfl) rfl, tt_mem (List.mem_of_getElem? (i := 59) rfl) rfl⟩
set_option maxRecDepth 100000 in
theorem vk_X1_65 : VK RX1 65 yX4_setOffset := ⟨tt_mem (List.mem_of_getElem? (i := 605) rfl) rfl, tt_mem (List.mem_of_getElem? (i := 582) rfl) rfl, tt_mem (List.mem_of_getElem? (i := 583) rfl) rfl, tt_mem (List.mem_of_getElem? (i := 50) rfl) rfl⟩
set_option maxRecDepth 100000 in
theorem vk_X2_25 : VK RX2 25 yX4_side := ⟨tt_mem (List.mem_of_getElem? (i := 304) rfl) rfl, tt_mem (List.mem_of_getElem? (i := 305) rfl) rfl, tt_mem (List.mem_of_getElem? (i := 306) rfl) rfl, tt_mem (List.mem_of_getElem? (i := 50) rfl) rfl⟩
set_option maxRecDepth 100000 in
theorem vk_X2_34 : VK RX2 34 yX4_offset := ⟨tt_mem (List.mem_of_getElem? (i := 308) rfl) rfl, tt_mem (List.mem_of_getElem? (i := 288) rfl) rfl, tt_mem (List.mem_of_getElem? (i := 289) rfl) rfl, tt_mem (List.mem_of_getElem? (i := 50) rfl) rfl⟩
set_option maxRecDepth 100000 in
theorem vk_X2_38 : VK RX2 38 yX4_columnPlace := ⟨tt_mem (List.mem_of_getElem? (i := 309) rfl) rfl, tt_mem (List.mem_of_getElem? (i := 310) rfl) rfl, tt_mem (List.mem_of_getElem? (i := 311) rfl) rfl, tt_mem (List.mem_of_getElem? (i := 50) rfl) rfl⟩
set_option maxRecDepth 100000 in
theorem vk_X2_42 : VK RX2 42 yX4_rowPlace := ⟨tt_mem (List.mem_of_getElem? (i := 313) rfl) rfl, tt_mem (List.mem_of_getElem? (i := 314) rfl) rfl, tt_mem (List.mem_of_getElem? (i := 315) rfl) rfl, tt_mem (List.mem_of_getElem? (i := 50) rfl) rfl⟩
set_option maxRecDepth 100000 in
theorem sk_X2_45 : SK RX2 45 yJ9_abs_0f7a4 := ⟨tt_mem (List.mem_of_getElem? (i := 328) rfl) rfl, tt_mem (List.mem_of_getElem? (i := 329) rfl) rfl, tt_mem (List.mem_of_getElem? (i := 58) rfl) rfl⟩
set_option maxRecDepth 100000 in
theorem sk_X2_50 : SK RX2 50 yJ9_max_7cf53 := ⟨tt_mem (List.mem_of_getElem? (i := 331) rfl) rfl, tt_mem (List.mem_of_getElem? (i := 332) rfl) rfl, tt_mem (List.mem_of_getElem? (i := 58) rfl) rfl⟩
set_option maxRecDepth 100000 in
theorem sk_X2_54 : SK RX2 54 yX2_steepnessOf := ⟨tt_mem (List.mem_of_getElem? (i := 325) rfl) rfl, tt_mem (List.mem_of_getElem? (i := 326) rfl) rfl, tt_mem (List.mem_of_getElem? (i := 56) rfl) rfl⟩
set_option maxRecDepth 100000 in
theorem vk_X2_58 : VK RX2 58 yX2_steepness := ⟨tt_mem (List.mem_of_getElem? (i := 321) rfl) rfl, tt_mem (List.mem_of_getElem? (i := 322) rfl) rfl, tt_mem (List.mem_of_getElem? (i := 323) rfl) rfl, tt_mem (List.mem_of_getElem? (i := 56) rfl) rfl⟩
set_option maxRecDepth 100000 in
theorem sk_X2_61 : SK RX2 61 yJ9_floorMod_7cf53 := ⟨tt_mem (List.mem_of_getElem? (i := 350) rfl) rfl, tt_mem (List.mem_of_getElem? (i := 351) rfl) rfl, tt_mem (List.mem_of_getElem? (i := 58) rfl) rfl⟩
set_option maxRecDepth 100000 in
theorem vk_X2_64 : VK RX2 64 yX2_crossed := ⟨tt_mem (List.mem_of_getElem? (i := 346) rfl) rfl, tt_mem (List.mem_of_getElem? (i := 348) rfl) rfl, tt_mem (List.mem_of_getElem? (i := 4) rfl) rfl, tt_mem (List.mem_of_getElem? (i := 56) rfl) rfl⟩
set_option maxRecDepth 100000 in
theorem vk_X3_20 : VK RX3 20 yX8_size := ⟨tt_mem (List.mem_of_getElem? (i := 634) rfl) rfl, tt_mem (List.mem_of_getElem? (i := 268) rfl) rfl, tt_mem (List.mem_of_getElem? (i := 269) rfl) rfl, tt_mem (List.mem_of_getElem? (i := 49) rfl) rfl⟩
set_option maxRecDepth 100000 in
theorem vk_X3_26 : VK RX3 26 yX3_draw := ⟨tt_mem (List.mem_of_getElem? (i := 635) rfl) rfl, tt_mem (List.mem_of_getElem? (i := 637) rfl) rfl, tt_mem (List.mem_of_getElem? (i := 9) rfl) rfl, tt_mem (List.mem_of_getElem? (i := 54) rfl) rfl⟩
set_option maxRecDepth 100000 in
theorem vk_X3_30 : VK RX3 30 yX8_at := ⟨tt_mem (List.mem_of_getElem? (i := 643) rfl) rfl, tt_mem (List.mem_of_getElem? (i := 280) rfl) rfl, tt_mem (List.mem_of_getElem? (i := 281) rfl) rfl, tt_mem (List.mem_of_getElem? (i := 49) rfl) rfl⟩
set_option maxRecDepth 100000 in
theorem vk_X3_42 : VK RX3 42 yX4_setOffset := ⟨tt_mem (List.mem_of_getElem? (i := 644) rfl) rfl, tt_mem (List.mem_of_getElem? (i := 582) rfl) rfl, tt_mem (List.mem_of_getElem? (i := 583) rfl) rfl, tt_mem (List.mem_of_getElem? (i := 50) rfl) rfl⟩
set_option maxRecDepth 100000 in
theorem vk_X4_34 : VK RX4 34 yX4_place := ⟨tt_mem (List.mem_of_getElem? (i := 563) rfl) rfl, tt_mem (List.mem_of_getElem? (i := 564) rfl) rfl, tt_mem (List.mem_of_getElem? (i := 565) rfl) rfl, tt_mem (List.mem_of_getElem? (i := 50) rfl) rfl⟩
set_option maxRecDepth 100000 in
theorem cp_X4_38 : Cond.methodLink RX4 38 arraycopyName ∈ TT := tt_mem (List.mem_of_getElem? (i := 567) rfl) rfl
set_option maxRecDepth 100000 in
theorem cp_nat : Cond.native arraycopyName ∈ TT := tt_mem (List.mem_of_getElem? (i := 569) rfl) rfl
set_option maxRecDepth 100000 in
theorem cp_sta : Cond.static arraycopyName ∈ TT := tt_mem (List.mem_of_getElem? (i := 568) rfl) rfl
set_option maxRecDepth 100000 in
theorem cp_ini : Cond.initialized "java/lang/System" ∈ TT := tt_mem (List.mem_of_getElem? (i := 60) rfl) rfl
set_option maxRecDepth 100000 in
theorem vk_X4_44 : VK RX4 44 yX4_right := ⟨tt_mem (List.mem_of_getElem? (i := 421) rfl) rfl, tt_mem (List.mem_of_getElem? (i := 422) rfl) rfl, tt_mem (List.mem_of_getElem? (i := 423) rfl) rfl, tt_mem (List.mem_of_getElem? (i := 50) rfl) rfl⟩
set_option maxRecDepth 100000 in
theorem vk_X4_48 : VK RX4 48 yX4_bottom := ⟨tt_mem (List.mem_of_getElem? (i := 425) rfl) rfl, tt_mem (List.mem_of_getElem? (i := 426) rfl) rfl, tt_mem (List.mem_of_getElem? (i := 427) rfl) rfl, tt_mem (List.mem_of_getElem? (i := 50) rfl) rfl⟩
set_option maxRecDepth 100000 in
theorem vk_X4_51 : VK RX4 51 yX4_setOffset := ⟨tt_mem (List.mem_of_getElem? (i := 581) rfl) rfl, tt_mem (List.mem_of_getElem? (i := 582) rfl) rfl, tt_mem (List.mem_of_getElem? (i := 583) rfl) rfl, tt_mem (List.mem_of_getElem? (i := 50) rfl) rfl⟩
set_option maxRecDepth 100000 in
theorem vk_X4_55 : VK RX4 55 yX4_offset := ⟨tt_mem (List.mem_of_getElem? (i := 287) rfl) rfl, tt_mem (List.mem_of_getElem? (i := 288) rfl) rfl, tt_mem (List.mem_of_getElem? (i := 289) rfl) rfl, tt_mem (List.mem_of_getElem? (i := 50) rfl) rfl⟩
set_option maxRecDepth 100000 in
theorem sk_X4_59 : SK RX4 59 yJ9_min_7cf53 := ⟨tt_mem (List.mem_of_getElem? (i := 381) rfl) rfl, tt_mem (List.mem_of_getElem? (i := 382) rfl) rfl, tt_mem (List.mem_of_getElem? (i := 58) rfl) rfl⟩
set_option maxRecDepth 100000 in
theorem vk_X4_65 : VK RX4 65 yX4_columnPlace := ⟨tt_mem (List.mem_of_getElem? (i := 376) rfl) rfl, tt_mem (List.mem_of_getElem? (i := 310) rfl) rfl, tt_mem (List.mem_of_getElem? (i := 311) rfl) rfl, tt_mem (List.mem_of_getElem? (i := 50) rfl) rfl⟩
set_option maxRecDepth 100000 in
theorem vk_X4_69 : VK RX4 69 yX4_side := ⟨tt_mem (List.mem_of_getElem? (i := 377) rfl) rfl, tt_mem (List.mem_of_getElem? (i := 305) rfl) rfl, tt_mem (List.mem_of_getElem? (i := 306) rfl) rfl, tt_mem (List.mem_of_getElem? (i := 50) rfl) rfl⟩
set_option maxRecDepth 100000 in
theorem sk_X4_72 : SK RX4 72 yX4_cellAhead := ⟨tt_mem (List.mem_of_getElem? (i := 378) rfl) rfl, tt_mem (List.mem_of_getElem? (i := 379) rfl) rfl, tt_mem (List.mem_of_getElem? (i := 50) rfl) rfl⟩
set_option maxRecDepth 100000 in
theorem vk_X4_75 : VK RX4 75 yX4_rowPlace := ⟨tt_mem (List.mem_of_getElem? (i := 384) rfl) rfl, tt_mem (List.mem_of_getElem? (i := 314) rfl) rfl, tt_mem (List.mem_of_getElem? (i := 315) rfl) rfl, tt_mem (List.mem_of_getElem? (i := 50) rfl) rfl⟩
set_option maxRecDepth 100000 in
theorem sk_X4_78 : SK RX4 78 yX4_rounded := ⟨tt_mem (List.mem_of_getElem? (i := 385) rfl) rfl, tt_mem (List.mem_of_getElem? (i := 386) rfl) rfl, tt_mem (List.mem_of_getElem? (i := 50) rfl) rfl⟩
set_option maxRecDepth 100000 in
theorem sk_X4_84 : SK RX4 84 yJ9_floorDiv_f86c9 := ⟨tt_mem (List.mem_of_getElem? (i := 389) rfl) rfl, tt_mem (List.mem_of_getElem? (i := 390) rfl) rfl, tt_mem (List.mem_of_getElem? (i := 58) rfl) rfl⟩
set_option maxRecDepth 100000 in
theorem sk_X5_25 : SK RX5 25 yJ9_floorMod_7cf53 := ⟨tt_mem (List.mem_of_getElem? (i := 554) rfl) rfl, tt_mem (List.mem_of_getElem? (i := 351) rfl) rfl, tt_mem (List.mem_of_getElem? (i := 58) rfl) rfl⟩
set_option maxRecDepth 100000 in
theorem vk_X5_31 : VK RX5 31 yX8_copyFrom := ⟨tt_mem (List.mem_of_getElem? (i := 555) rfl) rfl, tt_mem (List.mem_of_getElem? (i := 556) rfl) rfl, tt_mem (List.mem_of_getElem? (i := 557) rfl) rfl, tt_mem (List.mem_of_getElem? (i := 49) rfl) rfl⟩
set_option maxRecDepth 100000 in
theorem sk_X5_35 : SK RX5 35 yJ9_min_7cf53 := ⟨tt_mem (List.mem_of_getElem? (i := 570) rfl) rfl, tt_mem (List.mem_of_getElem? (i := 382) rfl) rfl, tt_mem (List.mem_of_getElem? (i := 58) rfl) rfl⟩
set_option maxRecDepth 100000 in
theorem sk_X5_38 : SK RX5 38 yJ9_max_7cf53 := ⟨tt_mem (List.mem_of_getElem? (i := 653) rfl) rfl, tt_mem (List.mem_of_getElem? (i := 332) rfl) rfl, tt_mem (List.mem_of_getElem? (i := 58) rfl) rfl⟩
set_option maxRecDepth 100000 in
theorem vk_X6_20 : VK RX6 20 yX8_copyFrom := ⟨tt_mem (List.mem_of_getElem? (i := 690) rfl) rfl, tt_mem (List.mem_of_getElem? (i := 556) rfl) rfl, tt_mem (List.mem_of_getElem? (i := 557) rfl) rfl, tt_mem (List.mem_of_getElem? (i := 49) rfl) rfl⟩
set_option maxRecDepth 100000 in
theorem vk_X6_24 : VK RX6 24 yX3_seedNow := ⟨tt_mem (List.mem_of_getElem? (i := 691) rfl) rfl, tt_mem (List.mem_of_getElem? (i := 435) rfl) rfl, tt_mem (List.mem_of_getElem? (i := 436) rfl) rfl, tt_mem (List.mem_of_getElem? (i := 54) rfl) rfl⟩
set_option maxRecDepth 100000 in
theorem vk_X6_34 : VK RX6 34 yX3_setSeed := ⟨tt_mem (List.mem_of_getElem? (i := 708) rfl) rfl, tt_mem (List.mem_of_getElem? (i := 675) rfl) rfl, tt_mem (List.mem_of_getElem? (i := 676) rfl) rfl, tt_mem (List.mem_of_getElem? (i := 54) rfl) rfl⟩
set_option maxRecDepth 100000 in
theorem vk_X7_29 : VK RX7 29 yX8_placeOffset := ⟨tt_mem (List.mem_of_getElem? (i := 510) rfl) rfl, tt_mem (List.mem_of_getElem? (i := 410) rfl) rfl, tt_mem (List.mem_of_getElem? (i := 411) rfl) rfl, tt_mem (List.mem_of_getElem? (i := 49) rfl) rfl⟩
set_option maxRecDepth 100000 in
theorem vk_X7_35 : VK RX7 35 yX7_kindOf := ⟨tt_mem (List.mem_of_getElem? (i := 511) rfl) rfl, tt_mem (List.mem_of_getElem? (i := 513) rfl) rfl, tt_mem (List.mem_of_getElem? (i := 7) rfl) rfl, tt_mem (List.mem_of_getElem? (i := 55) rfl) rfl⟩
set_option maxRecDepth 100000 in
theorem vk_X8_25 : VK RX8 25 yX8_at := ⟨tt_mem (List.mem_of_getElem? (i := 279) rfl) rfl, tt_mem (List.mem_of_getElem? (i := 280) rfl) rfl, tt_mem (List.mem_of_getElem? (i := 281) rfl) rfl, tt_mem (List.mem_of_getElem? (i := 49) rfl) rfl⟩
set_option maxRecDepth 100000 in
theorem vk_X8_29 : VK RX8 29 yX4_copyFrom := ⟨tt_mem (List.mem_of_getElem? (i := 559) rfl) rfl, tt_mem (List.mem_of_getElem? (i := 560) rfl) rfl, tt_mem (List.mem_of_getElem? (i := 561) rfl) rfl, tt_mem (List.mem_of_getElem? (i := 50) rfl) rfl⟩
set_option maxRecDepth 100000 in
theorem vk_X8_39 : VK RX8 39 yX4_right := ⟨tt_mem (List.mem_of_getElem? (i := 542) rfl) rfl, tt_mem (List.mem_of_getElem? (i := 422) rfl) rfl, tt_mem (List.mem_of_getElem? (i := 423) rfl) rfl, tt_mem (List.mem_of_getElem? (i := 50) rfl) rfl⟩
set_option maxRecDepth 100000 in
theorem vk_X8_46 : VK RX8 46 yX4_bottom := ⟨tt_mem (List.mem_of_getElem? (i := 543) rfl) rfl, tt_mem (List.mem_of_getElem? (i := 426) rfl) rfl, tt_mem (List.mem_of_getElem? (i := 427) rfl) rfl, tt_mem (List.mem_of_getElem? (i := 50) rfl) rfl⟩
set_option maxRecDepth 100000 in
theorem vk_X8_53 : VK RX8 53 yX4_place := ⟨tt_mem (List.mem_of_getElem? (i := 576) rfl) rfl, tt_mem (List.mem_of_getElem? (i := 564) rfl) rfl, tt_mem (List.mem_of_getElem? (i := 565) rfl) rfl, tt_mem (List.mem_of_getElem? (i := 50) rfl) rfl⟩
set_option maxRecDepth 100000 in
theorem vk_X8_57 : VK RX8 57 yX4_setOffsets := ⟨tt_mem (List.mem_of_getElem? (i := 577) rfl) rfl, tt_mem (List.mem_of_getElem? (i := 578) rfl) rfl, tt_mem (List.mem_of_getElem? (i := 579) rfl) rfl, tt_mem (List.mem_of_getElem? (i := 50) rfl) rfl⟩
set_option maxRecDepth 100000 in
theorem vk_X8_61 : VK RX8 61 yX8_lowerParentsBehind := ⟨tt_mem (List.mem_of_getElem? (i := 614) rfl) rfl, tt_mem (List.mem_of_getElem? (i := 616) rfl) rfl, tt_mem (List.mem_of_getElem? (i := 8) rfl) rfl, tt_mem (List.mem_of_getElem? (i := 49) rfl) rfl⟩
set_option maxRecDepth 100000 in
theorem vk_X8_65 : VK RX8 65 yX4_shiftedNodes := ⟨tt_mem (List.mem_of_getElem? (i := 283) rfl) rfl, tt_mem (List.mem_of_getElem? (i := 284) rfl) rfl, tt_mem (List.mem_of_getElem? (i := 285) rfl) rfl, tt_mem (List.mem_of_getElem? (i := 50) rfl) rfl⟩
set_option maxRecDepth 100000 in
theorem vk_X8_68 : VK RX8 68 yX4_isOnGround := ⟨tt_mem (List.mem_of_getElem? (i := 417) rfl) rfl, tt_mem (List.mem_of_getElem? (i := 418) rfl) rfl, tt_mem (List.mem_of_getElem? (i := 419) rfl) rfl, tt_mem (List.mem_of_getElem? (i := 50) rfl) rfl⟩
set_option maxRecDepth 100000 in
theorem vk_X8_72 : VK RX8 72 yX8_owner := ⟨tt_mem (List.mem_of_getElem? (i := 413) rfl) rfl, tt_mem (List.mem_of_getElem? (i := 414) rfl) rfl, tt_mem (List.mem_of_getElem? (i := 415) rfl) rfl, tt_mem (List.mem_of_getElem? (i := 49) rfl) rfl⟩
set_option maxRecDepth 100000 in
theorem vk_X8_75 : VK RX8 75 yX4_offsetBy := ⟨tt_mem (List.mem_of_getElem? (i := 429) rfl) rfl, tt_mem (List.mem_of_getElem? (i := 373) rfl) rfl, tt_mem (List.mem_of_getElem? (i := 374) rfl) rfl, tt_mem (List.mem_of_getElem? (i := 50) rfl) rfl⟩
set_option maxRecDepth 100000 in
theorem vk_X9_61 : VK RX9 61 yX8_size := ⟨tt_mem (List.mem_of_getElem? (i := 267) rfl) rfl, tt_mem (List.mem_of_getElem? (i := 268) rfl) rfl, tt_mem (List.mem_of_getElem? (i := 269) rfl) rfl, tt_mem (List.mem_of_getElem? (i := 49) rfl) rfl⟩
set_option maxRecDepth 100000 in
theorem vk_X9_65 : VK RX9 65 yX8_ruleNow := ⟨tt_mem (List.mem_of_getElem? (i := 271) rfl) rfl, tt_mem (List.mem_of_getElem? (i := 272) rfl) rfl, tt_mem (List.mem_of_getElem? (i := 273) rfl) rfl, tt_mem (List.mem_of_getElem? (i := 49) rfl) rfl⟩
set_option maxRecDepth 100000 in
theorem vk_X9_68 : VK RX9 68 yX8_shiftedNodes := ⟨tt_mem (List.mem_of_getElem? (i := 275) rfl) rfl, tt_mem (List.mem_of_getElem? (i := 276) rfl) rfl, tt_mem (List.mem_of_getElem? (i := 277) rfl) rfl, tt_mem (List.mem_of_getElem? (i := 49) rfl) rfl⟩
set_option maxRecDepth 100000 in
theorem vk_X9_71 : VK RX9 71 yX9_unsureCellsOfAll := ⟨tt_mem (List.mem_of_getElem? (i := 291) rfl) rfl, tt_mem (List.mem_of_getElem? (i := 293) rfl) rfl, tt_mem (List.mem_of_getElem? (i := 0) rfl) rfl, tt_mem (List.mem_of_getElem? (i := 48) rfl) rfl⟩
set_option maxRecDepth 100000 in
theorem vk_X9_74 : VK RX9 74 yX9_foldedCellsOfAll := ⟨tt_mem (List.mem_of_getElem? (i := 334) rfl) rfl, tt_mem (List.mem_of_getElem? (i := 336) rfl) rfl, tt_mem (List.mem_of_getElem? (i := 2) rfl) rfl, tt_mem (List.mem_of_getElem? (i := 48) rfl) rfl⟩
set_option maxRecDepth 100000 in
theorem vk_X9_77 : VK RX9 77 yX9_gapsOfAll := ⟨tt_mem (List.mem_of_getElem? (i := 353) rfl) rfl, tt_mem (List.mem_of_getElem? (i := 355) rfl) rfl, tt_mem (List.mem_of_getElem? (i := 5) rfl) rfl, tt_mem (List.mem_of_getElem? (i := 48) rfl) rfl⟩
set_option maxRecDepth 100000 in
theorem vk_X9_80 : VK RX9 80 yX9_firstWithGreatestGap := ⟨tt_mem (List.mem_of_getElem? (i := 394) rfl) rfl, tt_mem (List.mem_of_getElem? (i := 396) rfl) rfl, tt_mem (List.mem_of_getElem? (i := 6) rfl) rfl, tt_mem (List.mem_of_getElem? (i := 48) rfl) rfl⟩
set_option maxRecDepth 100000 in
theorem vk_X9_83 : VK RX9 83 yX8_at := ⟨tt_mem (List.mem_of_getElem? (i := 295) rfl) rfl, tt_mem (List.mem_of_getElem? (i := 280) rfl) rfl, tt_mem (List.mem_of_getElem? (i := 281) rfl) rfl, tt_mem (List.mem_of_getElem? (i := 49) rfl) rfl⟩
set_option maxRecDepth 100000 in
theorem sk_X9_87 : SK RX9 87 yX1_greatestGap := ⟨tt_mem (List.mem_of_getElem? (i := 398) rfl) rfl, tt_mem (List.mem_of_getElem? (i := 399) rfl) rfl, tt_mem (List.mem_of_getElem? (i := 59) rfl) rfl⟩
set_option maxRecDepth 100000 in
theorem vk_X9_93 : VK RX9 93 yX0_size := ⟨tt_mem (List.mem_of_getElem? (i := 401) rfl) rfl, tt_mem (List.mem_of_getElem? (i := 402) rfl) rfl, tt_mem (List.mem_of_getElem? (i := 403) rfl) rfl, tt_mem (List.mem_of_getElem? (i := 53) rfl) rfl⟩
set_option maxRecDepth 100000 in
theorem vk_X9_94 : VK RX9 94 yX0_firstWrong := ⟨tt_mem (List.mem_of_getElem? (i := 405) rfl) rfl, tt_mem (List.mem_of_getElem? (i := 406) rfl) rfl, tt_mem (List.mem_of_getElem? (i := 407) rfl) rfl, tt_mem (List.mem_of_getElem? (i := 53) rfl) rfl⟩
set_option maxRecDepth 100000 in
theorem vk_X9_98 : VK RX9 98 yX5_size := ⟨tt_mem (List.mem_of_getElem? (i := 430) rfl) rfl, tt_mem (List.mem_of_getElem? (i := 431) rfl) rfl, tt_mem (List.mem_of_getElem? (i := 432) rfl) rfl, tt_mem (List.mem_of_getElem? (i := 51) rfl) rfl⟩
set_option maxRecDepth 100000 in
theorem vk_X9_99 : VK RX9 99 yX3_seedNow := ⟨tt_mem (List.mem_of_getElem? (i := 434) rfl) rfl, tt_mem (List.mem_of_getElem? (i := 435) rfl) rfl, tt_mem (List.mem_of_getElem? (i := 436) rfl) rfl, tt_mem (List.mem_of_getElem? (i := 54) rfl) rfl⟩
set_option maxRecDepth 100000 in
theorem vk_X9_125 : VK RX9 125 yX8_children := ⟨tt_mem (List.mem_of_getElem? (i := 444) rfl) rfl, tt_mem (List.mem_of_getElem? (i := 445) rfl) rfl, tt_mem (List.mem_of_getElem? (i := 446) rfl) rfl, tt_mem (List.mem_of_getElem? (i := 49) rfl) rfl⟩
set_option maxRecDepth 100000 in
theorem vk_X9_129 : VK RX9 129 yX8_parentsAbove := ⟨tt_mem (List.mem_of_getElem? (i := 448) rfl) rfl, tt_mem (List.mem_of_getElem? (i := 449) rfl) rfl, tt_mem (List.mem_of_getElem? (i := 450) rfl) rfl, tt_mem (List.mem_of_getElem? (i := 49) rfl) rfl⟩
set_option maxRecDepth 100000 in
theorem sk_X9_132 : SK RX9 132 yX1_gaps := ⟨tt_mem (List.mem_of_getElem? (i := 357) rfl) rfl, tt_mem (List.mem_of_getElem? (i := 358) rfl) rfl, tt_mem (List.mem_of_getElem? (i := 59) rfl) rfl⟩
set_option maxRecDepth 100000 in
theorem vk_X9_135 : VK RX9 135 yX9_foldedCells := ⟨tt_mem (List.mem_of_getElem? (i := 338) rfl) rfl, tt_mem (List.mem_of_getElem? (i := 340) rfl) rfl, tt_mem (List.mem_of_getElem? (i := 3) rfl) rfl, tt_mem (List.mem_of_getElem? (i := 48) rfl) rfl⟩
set_option maxRecDepth 100000 in
theorem vk_X9_139 : VK RX9 139 yX4_hasNode := ⟨tt_mem (List.mem_of_getElem? (i := 456) rfl) rfl, tt_mem (List.mem_of_getElem? (i := 457) rfl) rfl, tt_mem (List.mem_of_getElem? (i := 458) rfl) rfl, tt_mem (List.mem_of_getElem? (i := 50) rfl) rfl⟩
set_option maxRecDepth 100000 in
theorem sk_X9_143 : SK RX9 143 yX9_isWithin := ⟨tt_mem (List.mem_of_getElem? (i := 460) rfl) rfl, tt_mem (List.mem_of_getElem? (i := 461) rfl) rfl, tt_mem (List.mem_of_getElem? (i := 48) rfl) rfl⟩
set_option maxRecDepth 100000 in
theorem vk_X9_147 : VK RX9 147 yX4_offset := ⟨tt_mem (List.mem_of_getElem? (i := 463) rfl) rfl, tt_mem (List.mem_of_getElem? (i := 288) rfl) rfl, tt_mem (List.mem_of_getElem? (i := 289) rfl) rfl, tt_mem (List.mem_of_getElem? (i := 50) rfl) rfl⟩
set_option maxRecDepth 100000 in
theorem vk_X9_152 : VK RX9 152 yX4_columnPlace := ⟨tt_mem (List.mem_of_getElem? (i := 465) rfl) rfl, tt_mem (List.mem_of_getElem? (i := 310) rfl) rfl, tt_mem (List.mem_of_getElem? (i := 311) rfl) rfl, tt_mem (List.mem_of_getElem? (i := 50) rfl) rfl⟩
set_option maxRecDepth 100000 in
theorem vk_X9_155 : VK RX9 155 yX4_rowPlace := ⟨tt_mem (List.mem_of_getElem? (i := 466) rfl) rfl, tt_mem (List.mem_of_getElem? (i := 314) rfl) rfl, tt_mem (List.mem_of_getElem? (i := 315) rfl) rfl, tt_mem (List.mem_of_getElem? (i := 50) rfl) rfl⟩
set_option maxRecDepth 100000 in
theorem vk_X9_158 : VK RX9 158 yX4_offsetBy := ⟨tt_mem (List.mem_of_getElem? (i := 467) rfl) rfl, tt_mem (List.mem_of_getElem? (i := 373) rfl) rfl, tt_mem (List.mem_of_getElem? (i := 374) rfl) rfl, tt_mem (List.mem_of_getElem? (i := 50) rfl) rfl⟩
set_option maxRecDepth 100000 in
theorem vk_X9_162 : VK RX9 162 yX4_hasCell := ⟨tt_mem (List.mem_of_getElem? (i := 472) rfl) rfl, tt_mem (List.mem_of_getElem? (i := 473) rfl) rfl, tt_mem (List.mem_of_getElem? (i := 474) rfl) rfl, tt_mem (List.mem_of_getElem? (i := 50) rfl) rfl⟩
set_option maxRecDepth 100000 in
theorem vk_X9_167 : VK RX9 167 yX2_look := ⟨tt_mem (List.mem_of_getElem? (i := 300) rfl) rfl, tt_mem (List.mem_of_getElem? (i := 301) rfl) rfl, tt_mem (List.mem_of_getElem? (i := 302) rfl) rfl, tt_mem (List.mem_of_getElem? (i := 56) rfl) rfl⟩
set_option maxRecDepth 100000 in
theorem vk_X9_171 : VK RX9 171 yX2_steepness := ⟨tt_mem (List.mem_of_getElem? (i := 477) rfl) rfl, tt_mem (List.mem_of_getElem? (i := 322) rfl) rfl, tt_mem (List.mem_of_getElem? (i := 323) rfl) rfl, tt_mem (List.mem_of_getElem? (i := 56) rfl) rfl⟩
set_option maxRecDepth 100000 in
theorem vk_X9_174 : VK RX9 174 yX2_isSure := ⟨tt_mem (List.mem_of_getElem? (i := 317) rfl) rfl, tt_mem (List.mem_of_getElem? (i := 318) rfl) rfl, tt_mem (List.mem_of_getElem? (i := 319) rfl) rfl, tt_mem (List.mem_of_getElem? (i := 56) rfl) rfl⟩
set_option maxRecDepth 100000 in
theorem vk_X9_178 : VK RX9 178 yX2_isFolded := ⟨tt_mem (List.mem_of_getElem? (i := 342) rfl) rfl, tt_mem (List.mem_of_getElem? (i := 343) rfl) rfl, tt_mem (List.mem_of_getElem? (i := 344) rfl) rfl, tt_mem (List.mem_of_getElem? (i := 56) rfl) rfl⟩
set_option maxRecDepth 100000 in
theorem vk_X9_181 : VK RX9 181 yX2_area := ⟨tt_mem (List.mem_of_getElem? (i := 478) rfl) rfl, tt_mem (List.mem_of_getElem? (i := 479) rfl) rfl, tt_mem (List.mem_of_getElem? (i := 480) rfl) rfl, tt_mem (List.mem_of_getElem? (i := 56) rfl) rfl⟩
set_option maxRecDepth 100000 in
theorem sk_X9_187 : SK RX9 187 yX9_isPlace := ⟨tt_mem (List.mem_of_getElem? (i := 487) rfl) rfl, tt_mem (List.mem_of_getElem? (i := 488) rfl) rfl, tt_mem (List.mem_of_getElem? (i := 48) rfl) rfl⟩
set_option maxRecDepth 100000 in
theorem vk_X9_190 : VK RX9 190 yX8_owner := ⟨tt_mem (List.mem_of_getElem? (i := 491) rfl) rfl, tt_mem (List.mem_of_getElem? (i := 414) rfl) rfl, tt_mem (List.mem_of_getElem? (i := 415) rfl) rfl, tt_mem (List.mem_of_getElem? (i := 49) rfl) rfl⟩
set_option maxRecDepth 100000 in
theorem vk_X9_194 : VK RX9 194 yX8_placeOffset := ⟨tt_mem (List.mem_of_getElem? (i := 496) rfl) rfl, tt_mem (List.mem_of_getElem? (i := 410) rfl) rfl, tt_mem (List.mem_of_getElem? (i := 411) rfl) rfl, tt_mem (List.mem_of_getElem? (i := 49) rfl) rfl⟩
set_option maxRecDepth 100000 in
theorem sk_X9_197 : SK RX9 197 yX9_isNewPlace := ⟨tt_mem (List.mem_of_getElem? (i := 501) rfl) rfl, tt_mem (List.mem_of_getElem? (i := 502) rfl) rfl, tt_mem (List.mem_of_getElem? (i := 48) rfl) rfl⟩
set_option maxRecDepth 100000 in
theorem vk_X9_200 : VK RX9 200 yX7_run := ⟨tt_mem (List.mem_of_getElem? (i := 505) rfl) rfl, tt_mem (List.mem_of_getElem? (i := 506) rfl) rfl, tt_mem (List.mem_of_getElem? (i := 507) rfl) rfl, tt_mem (List.mem_of_getElem? (i := 55) rfl) rfl⟩
set_option maxRecDepth 100000 in
theorem vk_X9_204 : VK RX9 204 yX7_kindNow := ⟨tt_mem (List.mem_of_getElem? (i := 515) rfl) rfl, tt_mem (List.mem_of_getElem? (i := 516) rfl) rfl, tt_mem (List.mem_of_getElem? (i := 517) rfl) rfl, tt_mem (List.mem_of_getElem? (i := 55) rfl) rfl⟩
set_option maxRecDepth 100000 in
theorem vk_X9_207 : VK RX9 207 yX7_rounds := ⟨tt_mem (List.mem_of_getElem? (i := 519) rfl) rfl, tt_mem (List.mem_of_getElem? (i := 520) rfl) rfl, tt_mem (List.mem_of_getElem? (i := 521) rfl) rfl, tt_mem (List.mem_of_getElem? (i := 55) rfl) rfl⟩
set_option maxRecDepth 100000 in
theorem vk_X9_210 : VK RX9 210 yX7_lastX := ⟨tt_mem (List.mem_of_getElem? (i := 523) rfl) rfl, tt_mem (List.mem_of_getElem? (i := 524) rfl) rfl, tt_mem (List.mem_of_getElem? (i := 525) rfl) rfl, tt_mem (List.mem_of_getElem? (i := 55) rfl) rfl⟩
set_option maxRecDepth 100000 in
theorem vk_X9_213 : VK RX9 213 yX7_lastY := ⟨tt_mem (List.mem_of_getElem? (i := 527) rfl) rfl, tt_mem (List.mem_of_getElem? (i := 528) rfl) rfl, tt_mem (List.mem_of_getElem? (i := 529) rfl) rfl, tt_mem (List.mem_of_getElem? (i := 55) rfl) rfl⟩
set_option maxRecDepth 100000 in
theorem sk_X9_216 : SK RX9 216 yX9_isGridWithin := ⟨tt_mem (List.mem_of_getElem? (i := 535) rfl) rfl, tt_mem (List.mem_of_getElem? (i := 536) rfl) rfl, tt_mem (List.mem_of_getElem? (i := 48) rfl) rfl⟩
set_option maxRecDepth 100000 in
theorem vk_X9_220 : VK RX9 220 yX8_fitsParent := ⟨tt_mem (List.mem_of_getElem? (i := 538) rfl) rfl, tt_mem (List.mem_of_getElem? (i := 539) rfl) rfl, tt_mem (List.mem_of_getElem? (i := 540) rfl) rfl, tt_mem (List.mem_of_getElem? (i := 49) rfl) rfl⟩
set_option maxRecDepth 100000 in
theorem vk_X9_224 : VK RX9 224 yX8_isApart := ⟨tt_mem (List.mem_of_getElem? (i := 544) rfl) rfl, tt_mem (List.mem_of_getElem? (i := 545) rfl) rfl, tt_mem (List.mem_of_getElem? (i := 546) rfl) rfl, tt_mem (List.mem_of_getElem? (i := 49) rfl) rfl⟩
set_option maxRecDepth 100000 in
theorem vk_X9_229 : VK RX9 229 yX5_push := ⟨tt_mem (List.mem_of_getElem? (i := 550) rfl) rfl, tt_mem (List.mem_of_getElem? (i := 551) rfl) rfl, tt_mem (List.mem_of_getElem? (i := 552) rfl) rfl, tt_mem (List.mem_of_getElem? (i := 51) rfl) rfl⟩
set_option maxRecDepth 100000 in
theorem vk_X9_233 : VK RX9 233 yX8_add := ⟨tt_mem (List.mem_of_getElem? (i := 571) rfl) rfl, tt_mem (List.mem_of_getElem? (i := 572) rfl) rfl, tt_mem (List.mem_of_getElem? (i := 573) rfl) rfl, tt_mem (List.mem_of_getElem? (i := 49) rfl) rfl⟩
set_option maxRecDepth 100000 in
theorem sk_X9_237 : SK RX9 237 yX9_isOffset := ⟨tt_mem (List.mem_of_getElem? (i := 589) rfl) rfl, tt_mem (List.mem_of_getElem? (i := 590) rfl) rfl, tt_mem (List.mem_of_getElem? (i := 48) rfl) rfl⟩
set_option maxRecDepth 100000 in
theorem vk_X9_240 : VK RX9 240 yX4_setOffset := ⟨tt_mem (List.mem_of_getElem? (i := 592) rfl) rfl, tt_mem (List.mem_of_getElem? (i := 582) rfl) rfl, tt_mem (List.mem_of_getElem? (i := 583) rfl) rfl, tt_mem (List.mem_of_getElem? (i := 50) rfl) rfl⟩
set_option maxRecDepth 100000 in
theorem vk_X9_244 : VK RX9 244 yX4_setOffsets := ⟨tt_mem (List.mem_of_getElem? (i := 597) rfl) rfl, tt_mem (List.mem_of_getElem? (i := 578) rfl) rfl, tt_mem (List.mem_of_getElem? (i := 579) rfl) rfl, tt_mem (List.mem_of_getElem? (i := 50) rfl) rfl⟩
set_option maxRecDepth 100000 in
theorem sk_X9_247 : SK RX9 247 yX1_meet := ⟨tt_mem (List.mem_of_getElem? (i := 602) rfl) rfl, tt_mem (List.mem_of_getElem? (i := 603) rfl) rfl, tt_mem (List.mem_of_getElem? (i := 59) rfl) rfl⟩
set_option maxRecDepth 100000 in
theorem vk_X9_251 : VK RX9 251 yX8_remove := ⟨tt_mem (List.mem_of_getElem? (i := 610) rfl) rfl, tt_mem (List.mem_of_getElem? (i := 611) rfl) rfl, tt_mem (List.mem_of_getElem? (i := 612) rfl) rfl, tt_mem (List.mem_of_getElem? (i := 49) rfl) rfl⟩
set_option maxRecDepth 100000 in
theorem vk_X9_255 : VK RX9 255 yX8_setRule := ⟨tt_mem (List.mem_of_getElem? (i := 622) rfl) rfl, tt_mem (List.mem_of_getElem? (i := 623) rfl) rfl, tt_mem (List.mem_of_getElem? (i := 624) rfl) rfl, tt_mem (List.mem_of_getElem? (i := 49) rfl) rfl⟩
set_option maxRecDepth 100000 in
theorem vk_X9_258 : VK RX9 258 yX3_shiftNode := ⟨tt_mem (List.mem_of_getElem? (i := 630) rfl) rfl, tt_mem (List.mem_of_getElem? (i := 631) rfl) rfl, tt_mem (List.mem_of_getElem? (i := 632) rfl) rfl, tt_mem (List.mem_of_getElem? (i := 54) rfl) rfl⟩
set_option maxRecDepth 100000 in
theorem vk_X9_261 : VK RX9 261 yX5_takeBack := ⟨tt_mem (List.mem_of_getElem? (i := 649) rfl) rfl, tt_mem (List.mem_of_getElem? (i := 650) rfl) rfl, tt_mem (List.mem_of_getElem? (i := 651) rfl) rfl, tt_mem (List.mem_of_getElem? (i := 51) rfl) rfl⟩
set_option maxRecDepth 100000 in
theorem vk_X9_265 : VK RX9 265 yX0_add := ⟨tt_mem (List.mem_of_getElem? (i := 658) rfl) rfl, tt_mem (List.mem_of_getElem? (i := 659) rfl) rfl, tt_mem (List.mem_of_getElem? (i := 660) rfl) rfl, tt_mem (List.mem_of_getElem? (i := 53) rfl) rfl⟩
set_option maxRecDepth 100000 in
theorem vk_X9_267 : VK RX9 267 yX0_clear := ⟨tt_mem (List.mem_of_getElem? (i := 666) rfl) rfl, tt_mem (List.mem_of_getElem? (i := 667) rfl) rfl, tt_mem (List.mem_of_getElem? (i := 668) rfl) rfl, tt_mem (List.mem_of_getElem? (i := 53) rfl) rfl⟩
set_option maxRecDepth 100000 in
theorem vk_X9_270 : VK RX9 270 yX3_setSeed := ⟨tt_mem (List.mem_of_getElem? (i := 674) rfl) rfl, tt_mem (List.mem_of_getElem? (i := 675) rfl) rfl, tt_mem (List.mem_of_getElem? (i := 676) rfl) rfl, tt_mem (List.mem_of_getElem? (i := 54) rfl) rfl⟩
set_option maxRecDepth 100000 in
theorem vk_X9_273 : VK RX9 273 yX9_imageOf := ⟨tt_mem (List.mem_of_getElem? (i := 682) rfl) rfl, tt_mem (List.mem_of_getElem? (i := 684) rfl) rfl, tt_mem (List.mem_of_getElem? (i := 10) rfl) rfl, tt_mem (List.mem_of_getElem? (i := 48) rfl) rfl⟩
set_option maxRecDepth 100000 in
theorem vk_X9_277 : VK RX9 277 yX6_take := ⟨tt_mem (List.mem_of_getElem? (i := 686) rfl) rfl, tt_mem (List.mem_of_getElem? (i := 687) rfl) rfl, tt_mem (List.mem_of_getElem? (i := 688) rfl) rfl, tt_mem (List.mem_of_getElem? (i := 52) rfl) rfl⟩
set_option maxRecDepth 100000 in
theorem vk_X9_281 : VK RX9 281 yX5_clear := ⟨tt_mem (List.mem_of_getElem? (i := 692) rfl) rfl, tt_mem (List.mem_of_getElem? (i := 693) rfl) rfl, tt_mem (List.mem_of_getElem? (i := 694) rfl) rfl, tt_mem (List.mem_of_getElem? (i := 51) rfl) rfl⟩
set_option maxRecDepth 100000 in
theorem vk_X9_282 : VK RX9 282 yX6_wasTaken := ⟨tt_mem (List.mem_of_getElem? (i := 700) rfl) rfl, tt_mem (List.mem_of_getElem? (i := 701) rfl) rfl, tt_mem (List.mem_of_getElem? (i := 702) rfl) rfl, tt_mem (List.mem_of_getElem? (i := 52) rfl) rfl⟩
set_option maxRecDepth 100000 in
theorem vk_X9_285 : VK RX9 285 yX6_give := ⟨tt_mem (List.mem_of_getElem? (i := 704) rfl) rfl, tt_mem (List.mem_of_getElem? (i := 705) rfl) rfl, tt_mem (List.mem_of_getElem? (i := 706) rfl) rfl, tt_mem (List.mem_of_getElem? (i := 52) rfl) rfl⟩
set_option maxRecDepth 100000 in
theorem vk_X9_290 : VK RX9 290 yX9_unsureCells := ⟨tt_mem (List.mem_of_getElem? (i := 296) rfl) rfl, tt_mem (List.mem_of_getElem? (i := 298) rfl) rfl, tt_mem (List.mem_of_getElem? (i := 1) rfl) rfl, tt_mem (List.mem_of_getElem? (i := 48) rfl) rfl⟩
set_option maxRecDepth 100000 in
theorem sk_X10_50 : SK RX10 50 yX10_in := ⟨tt_mem (List.mem_of_getElem? (i := 878) rfl) rfl, tt_mem (List.mem_of_getElem? (i := 879) rfl) rfl, tt_mem (List.mem_of_getElem? (i := 57) rfl) rfl⟩
set_option maxRecDepth 100000 in
theorem vk_X10_54 : VK RX10 54 yX10_isGrid := ⟨tt_mem (List.mem_of_getElem? (i := 886) rfl) rfl, tt_mem (List.mem_of_getElem? (i := 888) rfl) rfl, tt_mem (List.mem_of_getElem? (i := 35) rfl) rfl, tt_mem (List.mem_of_getElem? (i := 57) rfl) rfl⟩
set_option maxRecDepth 100000 in
theorem vk_X10_58 : VK RX10 58 yX10_its := ⟨tt_mem (List.mem_of_getElem? (i := 773) rfl) rfl, tt_mem (List.mem_of_getElem? (i := 775) rfl) rfl, tt_mem (List.mem_of_getElem? (i := 12) rfl) rfl, tt_mem (List.mem_of_getElem? (i := 57) rfl) rfl⟩
set_option maxRecDepth 100000 in
theorem sk_X10_62 : SK RX10 62 yX10_at := ⟨tt_mem (List.mem_of_getElem? (i := 781) rfl) rfl, tt_mem (List.mem_of_getElem? (i := 782) rfl) rfl, tt_mem (List.mem_of_getElem? (i := 57) rfl) rfl⟩
set_option maxRecDepth 100000 in
theorem vk_X10_66 : VK RX10 66 yX10_stands := ⟨tt_mem (List.mem_of_getElem? (i := 804) rfl) rfl, tt_mem (List.mem_of_getElem? (i := 806) rfl) rfl, tt_mem (List.mem_of_getElem? (i := 19) rfl) rfl, tt_mem (List.mem_of_getElem? (i := 57) rfl) rfl⟩
set_option maxRecDepth 100000 in
theorem vk_X10_69 : VK RX10 69 yX10_last := ⟨tt_mem (List.mem_of_getElem? (i := 874) rfl) rfl, tt_mem (List.mem_of_getElem? (i := 876) rfl) rfl, tt_mem (List.mem_of_getElem? (i := 34) rfl) rfl, tt_mem (List.mem_of_getElem? (i := 57) rfl) rfl⟩
set_option maxRecDepth 100000 in
theorem vk_X10_74 : VK RX10 74 yX10_isOn := ⟨tt_mem (List.mem_of_getElem? (i := 870) rfl) rfl, tt_mem (List.mem_of_getElem? (i := 872) rfl) rfl, tt_mem (List.mem_of_getElem? (i := 33) rfl) rfl, tt_mem (List.mem_of_getElem? (i := 57) rfl) rfl⟩
set_option maxRecDepth 100000 in
theorem vk_X10_78 : VK RX10 78 yX10_child := ⟨tt_mem (List.mem_of_getElem? (i := 866) rfl) rfl, tt_mem (List.mem_of_getElem? (i := 868) rfl) rfl, tt_mem (List.mem_of_getElem? (i := 32) rfl) rfl, tt_mem (List.mem_of_getElem? (i := 57) rfl) rfl⟩
set_option maxRecDepth 100000 in
theorem sk_X10_83 : SK RX10 83 yX10_rounded := ⟨tt_mem (List.mem_of_getElem? (i := 816) rfl) rfl, tt_mem (List.mem_of_getElem? (i := 817) rfl) rfl, tt_mem (List.mem_of_getElem? (i := 57) rfl) rfl⟩
set_option maxRecDepth 100000 in
theorem vk_X10_87 : VK RX10 87 yX10_off := ⟨tt_mem (List.mem_of_getElem? (i := 777) rfl) rfl, tt_mem (List.mem_of_getElem? (i := 779) rfl) rfl, tt_mem (List.mem_of_getElem? (i := 13) rfl) rfl, tt_mem (List.mem_of_getElem? (i := 57) rfl) rfl⟩
set_option maxRecDepth 100000 in
theorem vk_X10_91 : VK RX10 91 yX10_between := ⟨tt_mem (List.mem_of_getElem? (i := 812) rfl) rfl, tt_mem (List.mem_of_getElem? (i := 814) rfl) rfl, tt_mem (List.mem_of_getElem? (i := 21) rfl) rfl, tt_mem (List.mem_of_getElem? (i := 57) rfl) rfl⟩
set_option maxRecDepth 100000 in
theorem vk_X10_95 : VK RX10 95 yX10_belongs := ⟨tt_mem (List.mem_of_getElem? (i := 862) rfl) rfl, tt_mem (List.mem_of_getElem? (i := 864) rfl) rfl, tt_mem (List.mem_of_getElem? (i := 31) rfl) rfl, tt_mem (List.mem_of_getElem? (i := 57) rfl) rfl⟩
set_option maxRecDepth 100000 in
theorem vk_X10_98 : VK RX10 98 yX10_offset := ⟨tt_mem (List.mem_of_getElem? (i := 808) rfl) rfl, tt_mem (List.mem_of_getElem? (i := 810) rfl) rfl, tt_mem (List.mem_of_getElem? (i := 20) rfl) rfl, tt_mem (List.mem_of_getElem? (i := 57) rfl) rfl⟩
set_option maxRecDepth 100000 in
theorem vk_X10_101 : VK RX10 101 yX10_ofParent := ⟨tt_mem (List.mem_of_getElem? (i := 800) rfl) rfl, tt_mem (List.mem_of_getElem? (i := 802) rfl) rfl, tt_mem (List.mem_of_getElem? (i := 18) rfl) rfl, tt_mem (List.mem_of_getElem? (i := 57) rfl) rfl⟩
set_option maxRecDepth 100000 in
theorem sk_X10_104 : SK RX10 104 yX10_size := ⟨tt_mem (List.mem_of_getElem? (i := 820) rfl) rfl, tt_mem (List.mem_of_getElem? (i := 821) rfl) rfl, tt_mem (List.mem_of_getElem? (i := 57) rfl) rfl⟩
set_option maxRecDepth 100000 in
theorem sk_X10_108 : SK RX10 108 yX10_larger := ⟨tt_mem (List.mem_of_getElem? (i := 823) rfl) rfl, tt_mem (List.mem_of_getElem? (i := 824) rfl) rfl, tt_mem (List.mem_of_getElem? (i := 57) rfl) rfl⟩
set_option maxRecDepth 100000 in
theorem vk_X10_117 : VK RX10 117 yX10_isBorder := ⟨tt_mem (List.mem_of_getElem? (i := 792) rfl) rfl, tt_mem (List.mem_of_getElem? (i := 794) rfl) rfl, tt_mem (List.mem_of_getElem? (i := 16) rfl) rfl, tt_mem (List.mem_of_getElem? (i := 57) rfl) rfl⟩
set_option maxRecDepth 100000 in
theorem vk_X10_120 : VK RX10 120 yX10_gapAt := ⟨tt_mem (List.mem_of_getElem? (i := 796) rfl) rfl, tt_mem (List.mem_of_getElem? (i := 798) rfl) rfl, tt_mem (List.mem_of_getElem? (i := 17) rfl) rfl, tt_mem (List.mem_of_getElem? (i := 57) rfl) rfl⟩
set_option maxRecDepth 100000 in
theorem vk_X10_123 : VK RX10 123 yX10_steepIn := ⟨tt_mem (List.mem_of_getElem? (i := 850) rfl) rfl, tt_mem (List.mem_of_getElem? (i := 852) rfl) rfl, tt_mem (List.mem_of_getElem? (i := 28) rfl) rfl, tt_mem (List.mem_of_getElem? (i := 57) rfl) rfl⟩
set_option maxRecDepth 100000 in
theorem vk_X10_126 : VK RX10 126 yX10_steep := ⟨tt_mem (List.mem_of_getElem? (i := 846) rfl) rfl, tt_mem (List.mem_of_getElem? (i := 848) rfl) rfl, tt_mem (List.mem_of_getElem? (i := 27) rfl) rfl, tt_mem (List.mem_of_getElem? (i := 57) rfl) rfl⟩
set_option maxRecDepth 100000 in
theorem vk_X10_129 : VK RX10 129 yX10_corner := ⟨tt_mem (List.mem_of_getElem? (i := 838) rfl) rfl, tt_mem (List.mem_of_getElem? (i := 840) rfl) rfl, tt_mem (List.mem_of_getElem? (i := 25) rfl) rfl, tt_mem (List.mem_of_getElem? (i := 57) rfl) rfl⟩
set_option maxRecDepth 100000 in
theorem vk_X10_133 : VK RX10 133 yX10_cross := ⟨tt_mem (List.mem_of_getElem? (i := 834) rfl) rfl, tt_mem (List.mem_of_getElem? (i := 836) rfl) rfl, tt_mem (List.mem_of_getElem? (i := 24) rfl) rfl, tt_mem (List.mem_of_getElem? (i := 57) rfl) rfl⟩
set_option maxRecDepth 100000 in
theorem vk_X10_136 : VK RX10 136 yX10_isFolded := ⟨tt_mem (List.mem_of_getElem? (i := 830) rfl) rfl, tt_mem (List.mem_of_getElem? (i := 832) rfl) rfl, tt_mem (List.mem_of_getElem? (i := 23) rfl) rfl, tt_mem (List.mem_of_getElem? (i := 57) rfl) rfl⟩
set_option maxRecDepth 100000 in
theorem vk_X10_139 : VK RX10 139 yX10_isSure := ⟨tt_mem (List.mem_of_getElem? (i := 842) rfl) rfl, tt_mem (List.mem_of_getElem? (i := 844) rfl) rfl, tt_mem (List.mem_of_getElem? (i := 26) rfl) rfl, tt_mem (List.mem_of_getElem? (i := 57) rfl) rfl⟩
set_option maxRecDepth 100000 in
theorem vk_X10_145 : VK RX10 145 yX10_movedBy := ⟨tt_mem (List.mem_of_getElem? (i := 858) rfl) rfl, tt_mem (List.mem_of_getElem? (i := 860) rfl) rfl, tt_mem (List.mem_of_getElem? (i := 30) rfl) rfl, tt_mem (List.mem_of_getElem? (i := 57) rfl) rfl⟩
set_option maxRecDepth 100000 in
theorem vk_X10_148 : VK RX10 148 yX10_gaps := ⟨tt_mem (List.mem_of_getElem? (i := 788) rfl) rfl, tt_mem (List.mem_of_getElem? (i := 790) rfl) rfl, tt_mem (List.mem_of_getElem? (i := 15) rfl) rfl, tt_mem (List.mem_of_getElem? (i := 57) rfl) rfl⟩
set_option maxRecDepth 100000 in
theorem vk_X10_152 : VK RX10 152 yX10_cells := ⟨tt_mem (List.mem_of_getElem? (i := 826) rfl) rfl, tt_mem (List.mem_of_getElem? (i := 828) rfl) rfl, tt_mem (List.mem_of_getElem? (i := 22) rfl) rfl, tt_mem (List.mem_of_getElem? (i := 57) rfl) rfl⟩
set_option maxRecDepth 100000 in
theorem vk_X10_156 : VK RX10 156 yX10_nodesMoved := ⟨tt_mem (List.mem_of_getElem? (i := 769) rfl) rfl, tt_mem (List.mem_of_getElem? (i := 771) rfl) rfl, tt_mem (List.mem_of_getElem? (i := 11) rfl) rfl, tt_mem (List.mem_of_getElem? (i := 57) rfl) rfl⟩
set_option maxRecDepth 100000 in
theorem vk_X10_160 : VK RX10 160 yX10_tally := ⟨tt_mem (List.mem_of_getElem? (i := 784) rfl) rfl, tt_mem (List.mem_of_getElem? (i := 786) rfl) rfl, tt_mem (List.mem_of_getElem? (i := 14) rfl) rfl, tt_mem (List.mem_of_getElem? (i := 57) rfl) rfl⟩
set_option maxRecDepth 100000 in
theorem vk_X10_163 : VK RX10 163 yX10_wrong := ⟨tt_mem (List.mem_of_getElem? (i := 854) rfl) rfl, tt_mem (List.mem_of_getElem? (i := 856) rfl) rfl, tt_mem (List.mem_of_getElem? (i := 29) rfl) rfl, tt_mem (List.mem_of_getElem? (i := 57) rfl) rfl⟩
set_option maxRecDepth 100000 in
theorem vk_X10_173 : VK RX10 173 yX10_children := ⟨tt_mem (List.mem_of_getElem? (i := 892) rfl) rfl, tt_mem (List.mem_of_getElem? (i := 894) rfl) rfl, tt_mem (List.mem_of_getElem? (i := 36) rfl) rfl, tt_mem (List.mem_of_getElem? (i := 57) rfl) rfl⟩
set_option maxRecDepth 100000 in
theorem vk_X10_176 : VK RX10 176 yX10_depth := ⟨tt_mem (List.mem_of_getElem? (i := 896) rfl) rfl, tt_mem (List.mem_of_getElem? (i := 898) rfl) rfl, tt_mem (List.mem_of_getElem? (i := 37) rfl) rfl, tt_mem (List.mem_of_getElem? (i := 57) rfl) rfl⟩
set_option maxRecDepth 100000 in
theorem vk_X10_179 : VK RX10 179 yX10_isNode := ⟨tt_mem (List.mem_of_getElem? (i := 904) rfl) rfl, tt_mem (List.mem_of_getElem? (i := 906) rfl) rfl, tt_mem (List.mem_of_getElem? (i := 38) rfl) rfl, tt_mem (List.mem_of_getElem? (i := 57) rfl) rfl⟩
set_option maxRecDepth 100000 in
theorem vk_X10_185 : VK RX10 185 yX10_isCell := ⟨tt_mem (List.mem_of_getElem? (i := 914) rfl) rfl, tt_mem (List.mem_of_getElem? (i := 916) rfl) rfl, tt_mem (List.mem_of_getElem? (i := 39) rfl) rfl, tt_mem (List.mem_of_getElem? (i := 57) rfl) rfl⟩
set_option maxRecDepth 100000 in
theorem vk_X10_190 : VK RX10 190 yX10_area := ⟨tt_mem (List.mem_of_getElem? (i := 919) rfl) rfl, tt_mem (List.mem_of_getElem? (i := 921) rfl) rfl, tt_mem (List.mem_of_getElem? (i := 40) rfl) rfl, tt_mem (List.mem_of_getElem? (i := 57) rfl) rfl⟩
set_option maxRecDepth 100000 in
theorem sk_X10_196 : SK RX10 196 yX10_isPlace := ⟨tt_mem (List.mem_of_getElem? (i := 928) rfl) rfl, tt_mem (List.mem_of_getElem? (i := 929) rfl) rfl, tt_mem (List.mem_of_getElem? (i := 57) rfl) rfl⟩
set_option maxRecDepth 100000 in
theorem vk_X10_204 : VK RX10 204 yX10_wasThere := ⟨tt_mem (List.mem_of_getElem? (i := 942) rfl) rfl, tt_mem (List.mem_of_getElem? (i := 944) rfl) rfl, tt_mem (List.mem_of_getElem? (i := 41) rfl) rfl, tt_mem (List.mem_of_getElem? (i := 57) rfl) rfl⟩
set_option maxRecDepth 100000 in
theorem vk_X10_207 : VK RX10 207 yX10_overlaps := ⟨tt_mem (List.mem_of_getElem? (i := 957) rfl) rfl, tt_mem (List.mem_of_getElem? (i := 959) rfl) rfl, tt_mem (List.mem_of_getElem? (i := 43) rfl) rfl, tt_mem (List.mem_of_getElem? (i := 57) rfl) rfl⟩
set_option maxRecDepth 100000 in
theorem vk_X10_217 : VK RX10 217 yX10_mayBe := ⟨tt_mem (List.mem_of_getElem? (i := 953) rfl) rfl, tt_mem (List.mem_of_getElem? (i := 955) rfl) rfl, tt_mem (List.mem_of_getElem? (i := 42) rfl) rfl, tt_mem (List.mem_of_getElem? (i := 57) rfl) rfl⟩
set_option maxRecDepth 100000 in
theorem vk_X10_223 : VK RX10 223 yX10_notes := ⟨tt_mem (List.mem_of_getElem? (i := 963) rfl) rfl, tt_mem (List.mem_of_getElem? (i := 965) rfl) rfl, tt_mem (List.mem_of_getElem? (i := 44) rfl) rfl, tt_mem (List.mem_of_getElem? (i := 57) rfl) rfl⟩
set_option maxRecDepth 100000 in
theorem sk_X10_230 : SK RX10 230 yX10_isOffset := ⟨tt_mem (List.mem_of_getElem? (i := 971) rfl) rfl, tt_mem (List.mem_of_getElem? (i := 972) rfl) rfl, tt_mem (List.mem_of_getElem? (i := 57) rfl) rfl⟩
set_option maxRecDepth 100000 in
theorem vk_X10_233 : VK RX10 233 yX10_sets := ⟨tt_mem (List.mem_of_getElem? (i := 976) rfl) rfl, tt_mem (List.mem_of_getElem? (i := 978) rfl) rfl, tt_mem (List.mem_of_getElem? (i := 45) rfl) rfl, tt_mem (List.mem_of_getElem? (i := 57) rfl) rfl⟩
set_option maxRecDepth 100000 in
theorem vk_X10_247 : VK RX10 247 yX10_draw := ⟨tt_mem (List.mem_of_getElem? (i := 1001) rfl) rfl, tt_mem (List.mem_of_getElem? (i := 1003) rfl) rfl, tt_mem (List.mem_of_getElem? (i := 46) rfl) rfl, tt_mem (List.mem_of_getElem? (i := 57) rfl) rfl⟩
set_option maxRecDepth 100000 in
theorem vk_L_13 : VK RL 13 yX9_told := ⟨tt_mem (List.mem_of_getElem? (i := 263) rfl) rfl, tt_mem (List.mem_of_getElem? (i := 264) rfl) rfl, tt_mem (List.mem_of_getElem? (i := 265) rfl) rfl, tt_mem (List.mem_of_getElem? (i := 48) rfl) rfl⟩
set_option maxRecDepth 100000 in
theorem vk_L_17 : VK RL 17 yX10_told := ⟨tt_mem (List.mem_of_getElem? (i := 765) rfl) rfl, tt_mem (List.mem_of_getElem? (i := 766) rfl) rfl, tt_mem (List.mem_of_getElem? (i := 767) rfl) rfl, tt_mem (List.mem_of_getElem? (i := 57) rfl) rfl⟩
set_option maxRecDepth 100000 in
theorem vk_L_18 : VK RL 18 yX9_gridAt := ⟨tt_mem (List.mem_of_getElem? (i := 439) rfl) rfl, tt_mem (List.mem_of_getElem? (i := 440) rfl) rfl, tt_mem (List.mem_of_getElem? (i := 441) rfl) rfl, tt_mem (List.mem_of_getElem? (i := 48) rfl) rfl⟩
set_option maxRecDepth 100000 in
theorem vk_L_22 : VK RL 22 yX10_gridAt := ⟨tt_mem (List.mem_of_getElem? (i := 882) rfl) rfl, tt_mem (List.mem_of_getElem? (i := 883) rfl) rfl, tt_mem (List.mem_of_getElem? (i := 884) rfl) rfl, tt_mem (List.mem_of_getElem? (i := 57) rfl) rfl⟩
set_option maxRecDepth 100000 in
theorem vk_L_23 : VK RL 23 yX9_nodeAt := ⟨tt_mem (List.mem_of_getElem? (i := 452) rfl) rfl, tt_mem (List.mem_of_getElem? (i := 453) rfl) rfl, tt_mem (List.mem_of_getElem? (i := 454) rfl) rfl, tt_mem (List.mem_of_getElem? (i := 48) rfl) rfl⟩
set_option maxRecDepth 100000 in
theorem vk_L_27 : VK RL 27 yX10_nodeAt := ⟨tt_mem (List.mem_of_getElem? (i := 900) rfl) rfl, tt_mem (List.mem_of_getElem? (i := 901) rfl) rfl, tt_mem (List.mem_of_getElem? (i := 902) rfl) rfl, tt_mem (List.mem_of_getElem? (i := 57) rfl) rfl⟩
set_option maxRecDepth 100000 in
theorem vk_L_28 : VK RL 28 yX9_cellAt := ⟨tt_mem (List.mem_of_getElem? (i := 468) rfl) rfl, tt_mem (List.mem_of_getElem? (i := 469) rfl) rfl, tt_mem (List.mem_of_getElem? (i := 470) rfl) rfl, tt_mem (List.mem_of_getElem? (i := 48) rfl) rfl⟩
set_option maxRecDepth 100000 in
theorem vk_L_32 : VK RL 32 yX10_cellAt := ⟨tt_mem (List.mem_of_getElem? (i := 910) rfl) rfl, tt_mem (List.mem_of_getElem? (i := 911) rfl) rfl, tt_mem (List.mem_of_getElem? (i := 912) rfl) rfl, tt_mem (List.mem_of_getElem? (i := 57) rfl) rfl⟩
set_option maxRecDepth 100000 in
theorem vk_L_33 : VK RL 33 yX9_which := ⟨tt_mem (List.mem_of_getElem? (i := 483) rfl) rfl, tt_mem (List.mem_of_getElem? (i := 484) rfl) rfl, tt_mem (List.mem_of_getElem? (i := 485) rfl) rfl, tt_mem (List.mem_of_getElem? (i := 48) rfl) rfl⟩
set_option maxRecDepth 100000 in
theorem vk_L_36 : VK RL 36 yX10_which := ⟨tt_mem (List.mem_of_getElem? (i := 924) rfl) rfl, tt_mem (List.mem_of_getElem? (i := 925) rfl) rfl, tt_mem (List.mem_of_getElem? (i := 926) rfl) rfl, tt_mem (List.mem_of_getElem? (i := 57) rfl) rfl⟩
set_option maxRecDepth 100000 in
theorem vk_L_37 : VK RL 37 yX9_moved := ⟨tt_mem (List.mem_of_getElem? (i := 492) rfl) rfl, tt_mem (List.mem_of_getElem? (i := 493) rfl) rfl, tt_mem (List.mem_of_getElem? (i := 494) rfl) rfl, tt_mem (List.mem_of_getElem? (i := 48) rfl) rfl⟩
set_option maxRecDepth 100000 in
theorem vk_L_41 : VK RL 41 yX10_moved := ⟨tt_mem (List.mem_of_getElem? (i := 932) rfl) rfl, tt_mem (List.mem_of_getElem? (i := 933) rfl) rfl, tt_mem (List.mem_of_getElem? (i := 934) rfl) rfl, tt_mem (List.mem_of_getElem? (i := 57) rfl) rfl⟩
set_option maxRecDepth 100000 in
theorem vk_L_42 : VK RL 42 yX9_back := ⟨tt_mem (List.mem_of_getElem? (i := 497) rfl) rfl, tt_mem (List.mem_of_getElem? (i := 498) rfl) rfl, tt_mem (List.mem_of_getElem? (i := 499) rfl) rfl, tt_mem (List.mem_of_getElem? (i := 48) rfl) rfl⟩
set_option maxRecDepth 100000 in
theorem vk_L_45 : VK RL 45 yX10_back := ⟨tt_mem (List.mem_of_getElem? (i := 936) rfl) rfl, tt_mem (List.mem_of_getElem? (i := 937) rfl) rfl, tt_mem (List.mem_of_getElem? (i := 938) rfl) rfl, tt_mem (List.mem_of_getElem? (i := 57) rfl) rfl⟩
set_option maxRecDepth 100000 in
theorem vk_L_46 : VK RL 46 yX9_grid := ⟨tt_mem (List.mem_of_getElem? (i := 531) rfl) rfl, tt_mem (List.mem_of_getElem? (i := 532) rfl) rfl, tt_mem (List.mem_of_getElem? (i := 533) rfl) rfl, tt_mem (List.mem_of_getElem? (i := 48) rfl) rfl⟩
set_option maxRecDepth 100000 in
theorem vk_L_50 : VK RL 50 yX10_grid := ⟨tt_mem (List.mem_of_getElem? (i := 946) rfl) rfl, tt_mem (List.mem_of_getElem? (i := 947) rfl) rfl, tt_mem (List.mem_of_getElem? (i := 948) rfl) rfl, tt_mem (List.mem_of_getElem? (i := 57) rfl) rfl⟩
set_option maxRecDepth 100000 in
theorem vk_L_51 : VK RL 51 yX9_node := ⟨tt_mem (List.mem_of_getElem? (i := 585) rfl) rfl, tt_mem (List.mem_of_getElem? (i := 586) rfl) rfl, tt_mem (List.mem_of_getElem? (i := 587) rfl) rfl, tt_mem (List.mem_of_getElem? (i := 48) rfl) rfl⟩
set_option maxRecDepth 100000 in
theorem vk_L_55 : VK RL 55 yX10_node := ⟨tt_mem (List.mem_of_getElem? (i := 967) rfl) rfl, tt_mem (List.mem_of_getElem? (i := 968) rfl) rfl, tt_mem (List.mem_of_getElem? (i := 969) rfl) rfl, tt_mem (List.mem_of_getElem? (i := 57) rfl) rfl⟩
set_option maxRecDepth 100000 in
theorem vk_L_56 : VK RL 56 yX9_fill := ⟨tt_mem (List.mem_of_getElem? (i := 593) rfl) rfl, tt_mem (List.mem_of_getElem? (i := 594) rfl) rfl, tt_mem (List.mem_of_getElem? (i := 595) rfl) rfl, tt_mem (List.mem_of_getElem? (i := 48) rfl) rfl⟩
set_option maxRecDepth 100000 in
theorem vk_L_59 : VK RL 59 yX10_fill := ⟨tt_mem (List.mem_of_getElem? (i := 980) rfl) rfl, tt_mem (List.mem_of_getElem? (i := 981) rfl) rfl, tt_mem (List.mem_of_getElem? (i := 982) rfl) rfl, tt_mem (List.mem_of_getElem? (i := 57) rfl) rfl⟩
set_option maxRecDepth 100000 in
theorem vk_L_60 : VK RL 60 yX9_fit := ⟨tt_mem (List.mem_of_getElem? (i := 598) rfl) rfl, tt_mem (List.mem_of_getElem? (i := 599) rfl) rfl, tt_mem (List.mem_of_getElem? (i := 600) rfl) rfl, tt_mem (List.mem_of_getElem? (i := 48) rfl) rfl⟩
set_option maxRecDepth 100000 in
theorem vk_L_63 : VK RL 63 yX10_fit := ⟨tt_mem (List.mem_of_getElem? (i := 984) rfl) rfl, tt_mem (List.mem_of_getElem? (i := 985) rfl) rfl, tt_mem (List.mem_of_getElem? (i := 986) rfl) rfl, tt_mem (List.mem_of_getElem? (i := 57) rfl) rfl⟩
set_option maxRecDepth 100000 in
theorem vk_L_64 : VK RL 64 yX9_drop := ⟨tt_mem (List.mem_of_getElem? (i := 606) rfl) rfl, tt_mem (List.mem_of_getElem? (i := 607) rfl) rfl, tt_mem (List.mem_of_getElem? (i := 608) rfl) rfl, tt_mem (List.mem_of_getElem? (i := 48) rfl) rfl⟩
set_option maxRecDepth 100000 in
theorem vk_L_67 : VK RL 67 yX10_drop := ⟨tt_mem (List.mem_of_getElem? (i := 988) rfl) rfl, tt_mem (List.mem_of_getElem? (i := 989) rfl) rfl, tt_mem (List.mem_of_getElem? (i := 990) rfl) rfl, tt_mem (List.mem_of_getElem? (i := 57) rfl) rfl⟩
set_option maxRecDepth 100000 in
theorem vk_L_68 : VK RL 68 yX9_rule := ⟨tt_mem (List.mem_of_getElem? (i := 618) rfl) rfl, tt_mem (List.mem_of_getElem? (i := 619) rfl) rfl, tt_mem (List.mem_of_getElem? (i := 620) rfl) rfl, tt_mem (List.mem_of_getElem? (i := 48) rfl) rfl⟩
set_option maxRecDepth 100000 in
theorem vk_L_71 : VK RL 71 yX10_rule := ⟨tt_mem (List.mem_of_getElem? (i := 992) rfl) rfl, tt_mem (List.mem_of_getElem? (i := 993) rfl) rfl, tt_mem (List.mem_of_getElem? (i := 994) rfl) rfl, tt_mem (List.mem_of_getElem? (i := 57) rfl) rfl⟩
set_option maxRecDepth 100000 in
theorem vk_L_72 : VK RL 72 yX9_drift := ⟨tt_mem (List.mem_of_getElem? (i := 626) rfl) rfl, tt_mem (List.mem_of_getElem? (i := 627) rfl) rfl, tt_mem (List.mem_of_getElem? (i := 628) rfl) rfl, tt_mem (List.mem_of_getElem? (i := 48) rfl) rfl⟩
set_option maxRecDepth 100000 in
theorem vk_L_75 : VK RL 75 yX10_drift := ⟨tt_mem (List.mem_of_getElem? (i := 996) rfl) rfl, tt_mem (List.mem_of_getElem? (i := 997) rfl) rfl, tt_mem (List.mem_of_getElem? (i := 998) rfl) rfl, tt_mem (List.mem_of_getElem? (i := 57) rfl) rfl⟩
set_option maxRecDepth 100000 in
theorem vk_L_76 : VK RL 76 yX9_undo := ⟨tt_mem (List.mem_of_getElem? (i := 645) rfl) rfl, tt_mem (List.mem_of_getElem? (i := 646) rfl) rfl, tt_mem (List.mem_of_getElem? (i := 647) rfl) rfl, tt_mem (List.mem_of_getElem? (i := 48) rfl) rfl⟩
set_option maxRecDepth 100000 in
theorem vk_L_79 : VK RL 79 yX10_undo := ⟨tt_mem (List.mem_of_getElem? (i := 1009) rfl) rfl, tt_mem (List.mem_of_getElem? (i := 1010) rfl) rfl, tt_mem (List.mem_of_getElem? (i := 1011) rfl) rfl, tt_mem (List.mem_of_getElem? (i := 57) rfl) rfl⟩
set_option maxRecDepth 100000 in
theorem vk_L_80 : VK RL 80 yX9_write := ⟨tt_mem (List.mem_of_getElem? (i := 654) rfl) rfl, tt_mem (List.mem_of_getElem? (i := 655) rfl) rfl, tt_mem (List.mem_of_getElem? (i := 656) rfl) rfl, tt_mem (List.mem_of_getElem? (i := 48) rfl) rfl⟩
set_option maxRecDepth 100000 in
theorem vk_L_83 : VK RL 83 yX10_write := ⟨tt_mem (List.mem_of_getElem? (i := 1014) rfl) rfl, tt_mem (List.mem_of_getElem? (i := 1015) rfl) rfl, tt_mem (List.mem_of_getElem? (i := 1016) rfl) rfl, tt_mem (List.mem_of_getElem? (i := 57) rfl) rfl⟩
set_option maxRecDepth 100000 in
theorem vk_L_84 : VK RL 84 yX9_tear := ⟨tt_mem (List.mem_of_getElem? (i := 662) rfl) rfl, tt_mem (List.mem_of_getElem? (i := 663) rfl) rfl, tt_mem (List.mem_of_getElem? (i := 664) rfl) rfl, tt_mem (List.mem_of_getElem? (i := 48) rfl) rfl⟩
set_option maxRecDepth 100000 in
theorem vk_L_88 : VK RL 88 yX10_tear := ⟨tt_mem (List.mem_of_getElem? (i := 1018) rfl) rfl, tt_mem (List.mem_of_getElem? (i := 1019) rfl) rfl, tt_mem (List.mem_of_getElem? (i := 1020) rfl) rfl, tt_mem (List.mem_of_getElem? (i := 57) rfl) rfl⟩
set_option maxRecDepth 100000 in
theorem vk_L_89 : VK RL 89 yX9_seed := ⟨tt_mem (List.mem_of_getElem? (i := 670) rfl) rfl, tt_mem (List.mem_of_getElem? (i := 671) rfl) rfl, tt_mem (List.mem_of_getElem? (i := 672) rfl) rfl, tt_mem (List.mem_of_getElem? (i := 48) rfl) rfl⟩
set_option maxRecDepth 100000 in
theorem vk_L_92 : VK RL 92 yX10_seed := ⟨tt_mem (List.mem_of_getElem? (i := 1022) rfl) rfl, tt_mem (List.mem_of_getElem? (i := 1023) rfl) rfl, tt_mem (List.mem_of_getElem? (i := 1024) rfl) rfl, tt_mem (List.mem_of_getElem? (i := 57) rfl) rfl⟩
set_option maxRecDepth 100000 in
theorem vk_L_93 : VK RL 93 yX9_keep := ⟨tt_mem (List.mem_of_getElem? (i := 678) rfl) rfl, tt_mem (List.mem_of_getElem? (i := 679) rfl) rfl, tt_mem (List.mem_of_getElem? (i := 680) rfl) rfl, tt_mem (List.mem_of_getElem? (i := 48) rfl) rfl⟩
set_option maxRecDepth 100000 in
theorem vk_L_96 : VK RL 96 yX10_keep := ⟨tt_mem (List.mem_of_getElem? (i := 1026) rfl) rfl, tt_mem (List.mem_of_getElem? (i := 1027) rfl) rfl, tt_mem (List.mem_of_getElem? (i := 1028) rfl) rfl, tt_mem (List.mem_of_getElem? (i := 57) rfl) rfl⟩
set_option maxRecDepth 100000 in
theorem vk_L_97 : VK RL 97 yX9_goBack := ⟨tt_mem (List.mem_of_getElem? (i := 696) rfl) rfl, tt_mem (List.mem_of_getElem? (i := 697) rfl) rfl, tt_mem (List.mem_of_getElem? (i := 698) rfl) rfl, tt_mem (List.mem_of_getElem? (i := 48) rfl) rfl⟩
set_option maxRecDepth 100000 in
theorem vk_L_100 : VK RL 100 yX10_goBack := ⟨tt_mem (List.mem_of_getElem? (i := 1030) rfl) rfl, tt_mem (List.mem_of_getElem? (i := 1031) rfl) rfl, tt_mem (List.mem_of_getElem? (i := 1032) rfl) rfl, tt_mem (List.mem_of_getElem? (i := 57) rfl) rfl⟩
set_option maxRecDepth 100000 in
theorem np_sta : Cond.static yX9_isPlace ∈ TT := tt_mem (List.mem_of_getElem? (i := 488) rfl) rfl
set_option maxRecDepth 100000 in
theorem np_ini : Cond.initialized yX9_isPlace.cls ∈ TT := tt_mem (List.mem_of_getElem? (i := 48) rfl) rfl
end
section
/-! ===== numbers, and what a sheet's row says (v: the flat row of 338) ===== -/
def b01 (P : Prop) [Decidable P] : Int32 := if P then 1 else 0
theorem b1 {P : Prop} [Decidable P] (h : P) : b01 P = 1 := if_pos h
theorem b0 {P : Prop} [Decidable P] (h : ¬ P) : b01 P = 0 := if_neg h
theorem b01_0 {P : Prop} [Decidable P] : b01 P = 0 ↔ ¬ P := by
  unfold b01
  by_cases h : P
  · simp [h]
  · simp [h]
theorem b01_c {P Q : Prop} [Decidable P] [Decidable Q] (h : P ↔ Q) : b01 P = b01 Q := by
  unfold b01
  by_cases hp : P
  · rw [if_pos hp, if_pos (h.mp hp)]
  · rw [if_neg hp, if_neg (fun q => hp (h.mpr q))]
theorem lit32 (n : Nat) : (OfNat.ofNat n : Int32) = nI n := rfl
theorem litL (n : Nat) : (OfNat.ofNat n : Int64) = lN n := rfl
theorem sI_lt (a b : Int32) : a < b ↔ a.toInt < b.toInt := Int32.lt_iff_toInt_lt
theorem sI_le (a b : Int32) : a ≤ b ↔ a.toInt ≤ b.toInt := Int32.le_iff_toInt_le
theorem sI_eq (a b : Int32) : a = b ↔ a.toInt = b.toInt := Int32.toInt_inj.symm
theorem sL_lt (a b : Int64) : a < b ↔ a.toInt < b.toInt := Int64.lt_iff_toInt_lt
theorem sL_le (a b : Int64) : a ≤ b ↔ a.toInt ≤ b.toInt := Int64.le_iff_toInt_le
theorem sL_eq (a b : Int64) : a = b ↔ a.toInt = b.toInt := Int64.toInt_inj.symm
theorem wide_lt (a b : Int32) : a.toInt64 < b.toInt64 ↔ a < b := by rw [sL_lt, sI_lt, Int32.toInt_toInt64, Int32.toInt_toInt64]
theorem wide_le (a b : Int32) : a.toInt64 ≤ b.toInt64 ↔ a ≤ b := by rw [sL_le, sI_le, Int32.toInt_toInt64, Int32.toInt_toInt64]
theorem i_nlt {a b : Int32} : ¬ a < b ↔ b ≤ a := by rw [sI_lt, sI_le]; omega
theorem i_nle {a b : Int32} : ¬ a ≤ b ↔ b < a := by rw [sI_lt, sI_le]; omega
theorem l_nlt {a b : Int64} : ¬ a < b ↔ b ≤ a := by rw [sL_lt, sL_le]; omega
theorem l_nle {a b : Int64} : ¬ a ≤ b ↔ b < a := by rw [sL_lt, sL_le]; omega
/-- a number from 0 below n -/
theorem i_in {x : Int32} {n : Nat} (hn : n < 2 ^ 31) (h0 : 0 ≤ x) (h : x < nI n) : ∃ j : Nat, j < n ∧ x = nI j := by
  obtain ⟨j, hj, rfl⟩ := nI_of (i_nlt.mpr h0)
  exact ⟨j, (nI_ltI hj hn).mp h, rfl⟩
theorem m1_ne (n : Nat) (h : n < 2 ^ 31) : ¬ (-1 : Int32) = nI n := by
  rw [sI_eq, nI_toInt h]
  have : (-1 : Int32).toInt = -1 := by decide
  omega
theorem ni_inj {a b : Nat} (ha : a < 2 ^ 31) (hb : b < 2 ^ 31) (h : nI a = nI b) : a = b := (nI_eq ha hb).mp h
def sumN (f : Nat → Nat) : Nat → Nat
  | 0 => 0
  | n + 1 => sumN f n + f n
theorem sumN_c {f f' : Nat → Nat} : ∀ n, (∀ k, k < n → f k = f' k) → sumN f n = sumN f' n
  | 0, _ => rfl
  | n + 1, h => by rw [sumN, sumN, sumN_c n (fun k hk => h k (by omega)), h n (by omega)]
theorem sumN_le {f : Nat → Nat} {b : Nat} : ∀ n, (∀ k, k < n → f k ≤ b) → sumN f n ≤ n * b
  | 0, _ => by simp [sumN]
  | n + 1, h => by
    have h1 := sumN_le n (fun k hk => h k (by omega))
    have h2 := h n (by omega)
    rw [sumN, Nat.succ_mul]
    omega
theorem sumN_add {f : Nat → Nat} (n : Nat) : ∀ m, sumN f (n + m) = sumN f n + sumN (fun k => f (n + k)) m
  | 0 => rfl
  | m + 1 => by
    rw [← Nat.add_assoc, sumN, sumN_add n m, sumN]
    omega
/-- rows and columns counted in one walk -/
theorem sumN_rc {f : Nat → Nat → Nat} {C : Nat} (hC : 0 < C) : ∀ R, sumN (fun k => f (k / C) (k % C)) (C * R) = sumN (fun r => sumN (fun c => f r c) C) R
  | 0 => rfl
  | R + 1 => by
    rw [Nat.mul_succ, sumN_add, sumN_rc hC R, sumN]
    congr 1
    apply sumN_c
    intro k hk
    have e1 : (C * R + k) / C = R := by
      rw [Nat.mul_add_div hC, Nat.div_eq_of_lt hk, Nat.add_zero]
    have e2 : (C * R + k) % C = k := by
      rw [Nat.mul_add_mod, Nat.mod_eq_of_lt hk]
    simp only [e1, e2]
theorem sumN_plus {f h : Nat → Nat} : ∀ n, sumN (fun k => f k + h k) n = sumN f n + sumN h n
  | 0 => rfl
  | n + 1 => by
    rw [sumN, sumN_plus n, sumN, sumN]
    omega
theorem sumN_0 : ∀ n, sumN (fun _ => 0) n = 0
  | 0 => rfl
  | n + 1 => by rw [sumN, sumN_0 n]
theorem sumN_swap {f : Nat → Nat → Nat} (C : Nat) : ∀ R, sumN (fun r => sumN (fun c => f r c) C) R = sumN (fun c => sumN (fun r => f r c) R) C
  | 0 => (sumN_0 C).symm
  | R + 1 => by
    rw [sumN, sumN_swap C R, ← sumN_plus]
    rfl
/-- Math.max, Math.abs, and the reference's own -/
def mx (a b : Int32) : Int32 := if b < a then a else b
def ab (a : Int32) : Int32 := if a < 0 then -a else a
theorem mx_alt (a b : Int32) : (if a < b then b else a) = mx a b := by
  unfold mx
  by_cases h1 : a < b
  · rw [if_pos h1, if_neg (fun h2 => by rw [sI_lt] at h1 h2; omega)]
  · rw [if_neg h1]
    by_cases h2 : b < a
    · rw [if_pos h2]
    · rw [if_neg h2, sI_eq]
      rw [sI_lt] at h1 h2
      omega
theorem mx_ge0 {a b : Int32} (h : 0 ≤ a) : 0 ≤ mx a b := by
  unfold mx
  by_cases h2 : b < a
  · rw [if_pos h2]; exact h
  · rw [if_neg h2]
    rw [sI_lt] at h2
    rw [sI_le] at h ⊢
    omega
theorem mx_0 {a : Int32} (h : 0 ≤ a) : mx a 0 = a := by
  unfold mx
  by_cases h2 : 0 < a
  · rw [if_pos h2]
  · rw [if_neg h2, sI_eq]
    rw [sI_lt] at h2
    rw [sI_le] at h
    omega
def maxN (f : Nat → Int32) : Nat → Int32
  | 0 => 0
  | n + 1 => mx (maxN f n) (f n)
theorem maxN_ge0 (f : Nat → Int32) : ∀ n, 0 ≤ maxN f n
  | 0 => show (0 : Int32) ≤ 0 by decide
  | n + 1 => mx_ge0 (maxN_ge0 f n)
/-! the row's words -/
def fN (v : Nat → Int32) (g e : Nat) : Nat := (v (2 + 6 * g + e)).toNatClampNeg
def cN (v : Nat → Int32) : Nat := (v 0).toNatClampNeg
def rN (v : Nat → Int32) : Nat := (v 1).toNatClampNeg
def oV (v : Nat → Int32) (g c r w : Nat) : Int32 := v (38 + 50 * g + 2 * (5 * r + c) + w)
/-- the parent's ground holds the grid's -/
def Ins (v : Nat → Int32) (g j : Nat) : Prop := fN v j 1 ≤ fN v g 1 ∧ fN v g 1 + (fN v g 4 - 1) * fN v g 3 ≤ fN v j 1 + (fN v j 4 - 1) * fN v j 3 ∧ fN v j 2 ≤ fN v g 2 ∧ fN v g 2 + (fN v g 5 - 1) * fN v g 3 ≤ fN v j 2 + (fN v j 5 - 1) * fN v j 3
def OkP (v : Nat → Int32) (g : Nat) : Prop := v (2 + 6 * g) = -1 ∨ ∃ j, j < g ∧ v (2 + 6 * g) = nI j ∧ Ins v g j
def OkF (v : Nat → Int32) (g : Nat) : Prop := (∀ e, 1 ≤ e → e < 6 → v (2 + 6 * g + e) = nI (fN v g e)) ∧ 1 ≤ fN v g 3 ∧ fN v g 3 ≤ 64 ∧ 2 ≤ fN v g 4 ∧ fN v g 4 ≤ 5 ∧ 2 ≤ fN v g 5 ∧ fN v g 5 ≤ 5 ∧ fN v g 1 + (fN v g 4 - 1) * fN v g 3 ≤ 1000 ∧ fN v g 2 + (fN v g 5 - 1) * fN v g 3 ≤ 1000
def Sm (x : Int32) : Prop := -999 ≤ x.toInt ∧ x.toInt ≤ 999
def OkO (v : Nat → Int32) (g : Nat) : Prop := ∀ c r w, c < fN v g 4 → r < fN v g 5 → w < 2 → Sm (oV v g c r w)
def OkG (v : Nat → Int32) (g : Nat) : Prop := OkP v g ∧ OkF v g ∧ OkO v g
def Ok (v : Nat → Int32) : Prop := v 0 = nI (cN v) ∧ cN v ≤ 6 ∧ v 1 = nI (rN v) ∧ rN v ≤ 2 ∧ ∀ g, g < cN v → OkG v g
end
section
/-! array rows whose index is a natural number -/
section XN
variable {M : MD} {out : Option Value × St} {pc pc' : Nat} {lv : List (Option Value)} {st : List Value} {σ : St}
theorem nin {i : Int32} {n N : Nat} (hx : i = nI n) (hn : n < N) (hN : N < 2 ^ 31) : vp_in i N ∧ i.toNatClampNeg = n := by
  subst hx
  exact ⟨vp_in_nI hn hN, nI_clamp (by omega)⟩
theorem x_ialdn {k n N : Nat} {i : Int32} (hk : Is k 1 N) (hN : N < 2 ^ 31) (hx : i = nI n) (hn : n < N) (hd : decode M.1 pc = .ok (.iaload, 1)) (hp : pc + 1 = pc') (kk : Ex M out pc' lv (.int (σ.1 k n) :: st) σ) : Ex M out pc lv (.int i :: .ref k :: st) σ :=
  x_iald hk (nin hx hn hN).1 hd hp (by rw [(nin hx hn hN).2]; exact kk)
theorem x_zaldn {k n N : Nat} {i : Int32} (hk : Is k 3 N) (hN : N < 2 ^ 31) (hx : i = nI n) (hn : n < N) (hd : decode M.1 pc = .ok (.baload, 1)) (hp : pc + 1 = pc') (kk : Ex M out pc' lv (.int (σ.1 k n) :: st) σ) : Ex M out pc lv (.int i :: .ref k :: st) σ :=
  x_zald hk (nin hx hn hN).1 hd hp (by rw [(nin hx hn hN).2]; exact kk)
theorem x_laldn {k n N : Nat} {i : Int32} (hk : Is k 2 N) (hN : N < 2 ^ 31) (hx : i = nI n) (hn : n < N) (hd : decode M.1 pc = .ok (.laload, 1)) (hp : pc + 1 = pc') (kk : Ex M out pc' lv (.long (σ.2.1 k n) :: st) σ) : Ex M out pc lv (.int i :: .ref k :: st) σ :=
  x_lald hk (nin hx hn hN).1 hd hp (by rw [(nin hx hn hN).2]; exact kk)
theorem x_aaldGn {k n N : Nat} {i : Int32} (hk : Is k 4 N) (hN : N < 2 ^ 31) (hx : i = nI n) (hn : n < N) (hd : decode M.1 pc = .ok (.aaload, 1)) (hp : pc + 1 = pc') (kk : Ex M out pc' lv (.ref (σ.2.2 k n) :: st) σ) : Ex M out pc lv (.int i :: .ref k :: st) σ :=
  x_aaldG hk (nin hx hn hN).1 hd hp (by rw [(nin hx hn hN).2]; exact kk)
theorem x_aaldSn {k n N : Nat} {i : Int32} (hk : Is k 5 N) (hN : N < 2 ^ 31) (hx : i = nI n) (hn : n < N) (hd : decode M.1 pc = .ok (.aaload, 1)) (hp : pc + 1 = pc') (kk : Ex M out pc' lv (.ref (31 + 2 * n) :: st) σ) : Ex M out pc lv (.int i :: .ref k :: st) σ :=
  x_aaldS hk (nin hx hn hN).1 hd hp (by rw [(nin hx hn hN).2]; exact kk)
theorem x_iastn {k n N : Nat} {i x : Int32} (hk : Is k 1 N) (hN : N < 2 ^ 31) (hx : i = nI n) (hn : n < N) (hd : decode M.1 pc = .ok (.iastore, 1)) (hp : pc + 1 = pc') (kk : Ex M out pc' lv st (pI σ k n x)) : Ex M out pc lv (.int x :: .int i :: .ref k :: st) σ :=
  x_iast hk (nin hx hn hN).1 hd hp (by rw [(nin hx hn hN).2]; exact kk)
theorem x_zastn {k n N : Nat} {i x : Int32} (hk : Is k 3 N) (hN : N < 2 ^ 31) (hx : i = nI n) (hn : n < N) (hx2 : vp_nar .boolean x = x) (hd : decode M.1 pc = .ok (.bastore, 1)) (hp : pc + 1 = pc') (kk : Ex M out pc' lv st (pI σ k n x)) : Ex M out pc lv (.int x :: .int i :: .ref k :: st) σ :=
  x_zast hk (nin hx hn hN).1 hx2 hd hp (by rw [(nin hx hn hN).2]; exact kk)
theorem x_lastn {k n N : Nat} {i : Int32} {x : Int64} (hk : Is k 2 N) (hN : N < 2 ^ 31) (hx : i = nI n) (hn : n < N) (hd : decode M.1 pc = .ok (.lastore, 1)) (hp : pc + 1 = pc') (kk : Ex M out pc' lv st (pL σ k n x)) : Ex M out pc lv (.long x :: .int i :: .ref k :: st) σ :=
  x_last hk (nin hx hn hN).1 hd hp (by rw [(nin hx hn hN).2]; exact kk)
theorem x_aastGn {k n N q : Nat} {i : Int32} (hk : Is k 4 N) (hq : Is q 0 3) (hN : N < 2 ^ 31) (hx : i = nI n) (hn : n < N) (hd : decode M.1 pc = .ok (.aastore, 1)) (hp : pc + 1 = pc') (kk : Ex M out pc' lv st (pP σ k n q)) : Ex M out pc lv (.ref q :: .int i :: .ref k :: st) σ :=
  x_aastG hk hq (nin hx hn hN).1 hd hp (by rw [(nin hx hn hN).2]; exact kk)
theorem x_top {x y : Int32} (h : x = y) (kk : Ex M out pc lv (.int y :: st) σ) : Ex M out pc lv (.int x :: st) σ := by rw [h]; exact kk
theorem x_topl {x y : Int64} (h : x = y) (kk : Ex M out pc lv (.long y :: st) σ) : Ex M out pc lv (.long x :: st) σ := by rw [h]; exact kk
theorem x_topr {x y : Nat} (h : x = y) (kk : Ex M out pc lv (.ref y :: st) σ) : Ex M out pc lv (.ref x :: st) σ := by rw [h]; exact kk
theorem x_st {σ' : St} (h : σ = σ') (kk : Ex M out pc lv st σ') : Ex M out pc lv st σ := by rw [h]; exact kk
end XN
end
section
theorem b01_nar (P : Prop) [Decidable P] : narrow .boolean (.int (b01 P)) = .int (b01 P) := by
  unfold b01
  by_cases h : P
  · rw [if_pos h]; rfl
  · rw [if_neg h]; rfl
theorem ret_i {x y : Int32} {σ : St} (h : x = y) : ((some (Value.int x), σ) : Option Value × St) = (some (.int y), σ) := by rw [h]
theorem ret_l {x y : Int64} {σ : St} (h : x = y) : ((some (Value.long x), σ) : Option Value × St) = (some (.long y), σ) := by rw [h]
theorem ald {f : Nat → Int32} {x : Int32} {n : Nat} (hx : x = nI n) (hn : n < 2 ^ 31) : f x.toNatClampNeg = f n := by rw [hx, nI_clamp hn]
theorem ix_in {x : Int32} {n N : Nat} (hx : x = nI n) (h : n < N) (hN : N < 2 ^ 31) : vp_in x N := by rw [hx]; exact vp_in_nI h hN
theorem in_n (g : Int32) {N : Nat} (h : N < 2 ^ 30) : (0 ≤ g.toInt64 ∧ g.toInt64 ≤ (nI N - 1).toInt64) ↔ (0 ≤ g ∧ g < nI N) := by
  rw [sL_le, sL_le, sI_le, sI_lt, Int32.toInt_toInt64, Int32.toInt_toInt64, nI_toInt (by omega), show (nI N - 1).toInt = (N : Int) - 1 from pk_sub_toInt (b := 1) h (by decide)]
  have h0 : (0 : Int64).toInt = 0 := rfl
  have h1 : (0 : Int32).toInt = 0 := rfl
  omega
theorem in_c (x a b : Int32) {A B : Int64} (hA : A = a.toInt64) (hB : B = b.toInt64) : (A ≤ x.toInt64 ∧ x.toInt64 ≤ B) ↔ (a ≤ x ∧ x ≤ b) := by
  rw [hA, hB, wide_le, wide_le]
set_option maxRecDepth 100000 in
set_option maxHeartbeats 4000000 in
theorem c_X10_in {σ : St} {x a b : Int64} : Ct yX10_in M_X10_in [.long x, .long a, .long b] σ (some (.int (b01 (a ≤ x ∧ x ≤ b))), σ) := by
  refine ct_of (k := 0) rfl rfl rfl (Nat.le_of_ble_eq_true rfl) ?_
  refine x_lload_n (pc' := 1) rfl dX10_in_0 rfl ?_
  refine x_lload_n (pc' := 2) rfl dX10_in_1 rfl ?_
  refine x_lcmp (pc' := 3) dX10_in_2 rfl ?_
  refine x_if_lt (tgt := 17) (pc' := 6) (by decide) dX10_in_3 rfl (fun c3 => ?_) (fun c3 => ?_)
  · refine x_iconst (v := 0) (pc' := 18) (by decide) dX10_in_17 rfl ?_
    exact x_zret rfl (by first | rfl | exact b01_nar _) dX10_in_18 (by rw [b0 (fun h => (l_nle.mpr ((lg_cmp_lt x a).mp c3)) h.1)])
  · refine x_lload_n (pc' := 7) rfl dX10_in_6 rfl ?_
    refine x_lload (pc' := 9) rfl dX10_in_7 rfl ?_
    refine x_lcmp (pc' := 10) dX10_in_9 rfl ?_
    refine x_if_gt (tgt := 17) (pc' := 13) (by decide) dX10_in_10 rfl (fun c10 => ?_) (fun c10 => ?_)
    · refine x_iconst (v := 0) (pc' := 18) (by decide) dX10_in_17 rfl ?_
      exact x_zret rfl (by first | rfl | exact b01_nar _) dX10_in_18 (by rw [b0 (fun h => (l_nle.mpr ((lg_cmp_gt x b).mp c10)) h.2)])
    · refine x_iconst (v := 1) (pc' := 14) (by decide) dX10_in_13 rfl ?_
      refine x_goto (tgt := 18) (by decide) dX10_in_14 ?_
      exact x_zret rfl (by first | rfl | exact b01_nar _) dX10_in_18 (by rw [b1 ⟨l_nlt.mp (fun h => c3 ((lg_cmp_lt x a).mpr h)), l_nlt.mp (fun h => c10 ((lg_cmp_gt x b).mpr h))⟩])
set_option maxRecDepth 100000 in
set_option maxHeartbeats 4000000 in
theorem c_X10_size {σ : St} {x : Int32} : Ct yX10_size M_X10_size [.int x] σ (some (.int (ab x)), σ) := by
  refine ct_of (k := 0) rfl rfl rfl (Nat.le_of_ble_eq_true rfl) ?_
  refine x_iload_n (pc' := 1) rfl dX10_size_0 rfl ?_
  refine x_if_ge (tgt := 9) (pc' := 4) (by decide) dX10_size_1 rfl (fun c1 => ?_) (fun c1 => ?_)
  · refine x_iload_n (pc' := 10) rfl dX10_size_9 rfl ?_
    exact x_iret rfl dX10_size_10 (by rw [ab, if_neg (i_nlt.mpr c1)])
  · refine x_iload_n (pc' := 5) rfl dX10_size_4 rfl ?_
    refine x_ineg (pc' := 6) dX10_size_5 rfl ?_
    refine x_goto (tgt := 10) (by decide) dX10_size_6 ?_
    exact x_iret rfl dX10_size_10 (by rw [ab, if_pos (i_nle.mp c1)])
set_option maxRecDepth 100000 in
set_option maxHeartbeats 4000000 in
theorem c_X10_larger {σ : St} {x y : Int32} : Ct yX10_larger M_X10_larger [.int x, .int y] σ (some (.int (mx x y)), σ) := by
  refine ct_of (k := 0) rfl rfl rfl (Nat.le_of_ble_eq_true rfl) ?_
  refine x_iload_n (pc' := 1) rfl dX10_larger_0 rfl ?_
  refine x_iload_n (pc' := 2) rfl dX10_larger_1 rfl ?_
  refine x_icmp_le (tgt := 9) (pc' := 5) (by decide) dX10_larger_2 rfl (fun c2 => ?_) (fun c2 => ?_)
  · refine x_iload_n (pc' := 10) rfl dX10_larger_9 rfl ?_
    exact x_iret rfl dX10_larger_10 (by rw [mx, if_neg (i_nlt.mpr c2)])
  · refine x_iload_n (pc' := 6) rfl dX10_larger_5 rfl ?_
    refine x_goto (tgt := 10) (by decide) dX10_larger_6 ?_
    exact x_iret rfl dX10_larger_10 (by rw [mx, if_pos (i_nle.mp c2)])
set_option maxRecDepth 100000 in
set_option maxHeartbeats 4000000 in
theorem c_X10_its {σ : St} {g e : Int32} {G E : Nat} (hg : g = nI G) (he : e = nI E) (h : 2 + 6 * G + E < 338) : Ct yX10_its M_X10_its [.ref 18, .int g, .int e] σ (some (.int (σ.1 19 (2 + 6 * G + E))), σ) := by
  have hx : 2 + 6 * g + e = nI (2 + 6 * G + E) := by rw [hg, he]; simp only [lit32, nI_add, pk_mul]
  refine ct_of (k := 0) rfl rfl rfl (Nat.le_of_ble_eq_true rfl) ?_
  refine x_aload_n (pc' := 1) rfl dX10_its_0 rfl ?_
  refine x_get (v := .ref 19) (pc' := 4) fk_X10_7 (by first | assumption | exact ⟨by decide, rfl⟩) rfl dX10_its_1 rfl ?_
  refine x_iconst (v := 2) (pc' := 5) (by decide) dX10_its_4 rfl ?_
  refine x_bipush (v := 6) (pc' := 7) (by decide) dX10_its_5 rfl ?_
  refine x_iload_n (pc' := 8) rfl dX10_its_7 rfl ?_
  refine x_imul (pc' := 9) dX10_its_8 rfl ?_
  refine x_iadd (pc' := 10) dX10_its_9 rfl ?_
  refine x_iload_n (pc' := 11) rfl dX10_its_10 rfl ?_
  refine x_iadd (pc' := 12) dX10_its_11 rfl ?_
  refine x_ialdn (N := 338) (n := 2 + 6 * G + E) (pc' := 13) (by first | assumption | exact ⟨by decide, rfl⟩) (by decide) hx h dX10_its_12 rfl ?_
  exact x_iret rfl dX10_its_13 rfl
set_option maxRecDepth 100000 in
set_option maxHeartbeats 4000000 in
theorem v_X10_its {σ : St} {v0 : Nat → Int32} (hs : σ.1 19 = v0) {g e : Int32} {G E : Nat} (hg : g = nI G) (he : e = nI E) (h : 2 + 6 * G + E < 338) : Ct yX10_its M_X10_its [.ref 18, .int g, .int e] σ (some (.int (v0 (2 + 6 * G + E))), σ) := by
  subst hs
  exact c_X10_its hg he h
set_option maxRecDepth 100000 in
set_option maxHeartbeats 4000000 in
theorem c_X10_isGrid {σ : St} {g : Int32} {N : Nat} (hN : σ.1 19 0 = nI N) (h : N ≤ 6) : Ct yX10_isGrid M_X10_isGrid [.ref 18, .int g] σ (some (.int (b01 (0 ≤ g ∧ g < nI N))), σ) := by
  refine ct_of (k := 0) rfl rfl rfl (Nat.le_of_ble_eq_true rfl) ?_
  refine x_iload_n (pc' := 1) rfl dX10_isGrid_0 rfl ?_
  refine x_i2l (pc' := 2) dX10_isGrid_1 rfl ?_
  refine x_lconst (v := 0) (pc' := 3) (by decide) dX10_isGrid_2 rfl ?_
  refine x_aload_n (pc' := 4) rfl dX10_isGrid_3 rfl ?_
  refine x_get (v := .ref 19) (pc' := 7) fk_X10_7 (by first | assumption | exact ⟨by decide, rfl⟩) rfl dX10_isGrid_4 rfl ?_
  refine x_iconst (v := 0) (pc' := 8) (by decide) dX10_isGrid_7 rfl ?_
  refine x_ialdn (N := 338) (n := 0) (pc' := 9) (by first | assumption | exact ⟨by decide, rfl⟩) (by decide) rfl (by decide) dX10_isGrid_8 rfl ?_
  refine x_iconst (v := 1) (pc' := 10) (by decide) dX10_isGrid_9 rfl ?_
  refine x_isub (pc' := 11) dX10_isGrid_10 rfl ?_
  refine x_i2l (pc' := 12) dX10_isGrid_11 rfl ?_
  refine x_callSi (As := [.long _, .long _, .long _]) (rest := []) (pc' := 15) rfl sk_X10_50 mk_X10_in (by decide) rfl (Nat.le_of_ble_eq_true rfl) dX10_isGrid_12 rfl c_X10_in ?_
  exact x_zret rfl (by first | rfl | exact b01_nar _) dX10_isGrid_15 (ret_i (b01_c (by show (0 ≤ g.toInt64 ∧ g.toInt64 ≤ (σ.1 19 0 - 1).toInt64) ↔ _; rw [hN]; exact in_n g (by omega))))
set_option maxRecDepth 100000 in
set_option maxHeartbeats 4000000 in
theorem v_X10_isGrid {σ : St} {v0 : Nat → Int32} (hs : σ.1 19 = v0) {g : Int32} {N : Nat} (hN : v0 0 = nI N) (h : N ≤ 6) : Ct yX10_isGrid M_X10_isGrid [.ref 18, .int g] σ (some (.int (b01 (0 ≤ g ∧ g < nI N))), σ) := by
  subst hs
  exact c_X10_isGrid hN h
set_option maxRecDepth 100000 in
set_option maxHeartbeats 4000000 in
theorem c_X10_at {σ : St} {g c r : Int32} : Ct yX10_at M_X10_at [.int g, .int c, .int r] σ (some (.int (38 + 50 * g + 2 * (5 * r + c))), σ) := by
  refine ct_of (k := 0) rfl rfl rfl (Nat.le_of_ble_eq_true rfl) ?_
  refine x_bipush (v := 38) (pc' := 2) (by decide) dX10_at_0 rfl ?_
  refine x_bipush (v := 50) (pc' := 4) (by decide) dX10_at_2 rfl ?_
  refine x_iload_n (pc' := 5) rfl dX10_at_4 rfl ?_
  refine x_imul (pc' := 6) dX10_at_5 rfl ?_
  refine x_iadd (pc' := 7) dX10_at_6 rfl ?_
  refine x_iconst (v := 2) (pc' := 8) (by decide) dX10_at_7 rfl ?_
  refine x_iconst (v := 5) (pc' := 9) (by decide) dX10_at_8 rfl ?_
  refine x_iload_n (pc' := 10) rfl dX10_at_9 rfl ?_
  refine x_imul (pc' := 11) dX10_at_10 rfl ?_
  refine x_iload_n (pc' := 12) rfl dX10_at_11 rfl ?_
  refine x_iadd (pc' := 13) dX10_at_12 rfl ?_
  refine x_imul (pc' := 14) dX10_at_13 rfl ?_
  refine x_iadd (pc' := 15) dX10_at_14 rfl ?_
  exact x_iret rfl dX10_at_15 rfl
set_option maxRecDepth 100000 in
set_option maxHeartbeats 4000000 in
theorem c_X10_off {σ : St} {g c r w : Int32} {G K R W : Nat} (hg : g = nI G) (hc : c = nI K) (hr : r = nI R) (hw : w = nI W) (h : 38 + 50 * G + 2 * (5 * R + K) + W < 338) : Ct yX10_off M_X10_off [.ref 18, .int g, .int c, .int r, .int w] σ (some (.int (oV (σ.1 19) G K R W)), σ) := by
  have hx : 38 + 50 * g + 2 * (5 * r + c) + w = nI (38 + 50 * G + 2 * (5 * R + K) + W) := by rw [hg, hc, hr, hw]; simp only [lit32, nI_add, pk_mul]
  refine ct_of (k := 0) rfl rfl rfl (Nat.le_of_ble_eq_true rfl) ?_
  refine x_aload_n (pc' := 1) rfl dX10_off_0 rfl ?_
  refine x_get (v := .ref 19) (pc' := 4) fk_X10_7 (by first | assumption | exact ⟨by decide, rfl⟩) rfl dX10_off_1 rfl ?_
  refine x_iload_n (pc' := 5) rfl dX10_off_4 rfl ?_
  refine x_iload_n (pc' := 6) rfl dX10_off_5 rfl ?_
  refine x_iload_n (pc' := 7) rfl dX10_off_6 rfl ?_
  refine x_callSi (As := [.int _, .int _, .int _]) (rest := [.ref _]) (pc' := 10) rfl sk_X10_62 mk_X10_at (by decide) rfl (Nat.le_of_ble_eq_true rfl) dX10_off_7 rfl c_X10_at ?_
  refine x_iload (pc' := 12) rfl dX10_off_10 rfl ?_
  refine x_iadd (pc' := 13) dX10_off_12 rfl ?_
  refine x_ialdn (N := 338) (n := 38 + 50 * G + 2 * (5 * R + K) + W) (pc' := 14) (by first | assumption | exact ⟨by decide, rfl⟩) (by decide) hx h dX10_off_13 rfl ?_
  exact x_iret rfl dX10_off_14 rfl
set_option maxRecDepth 100000 in
set_option maxHeartbeats 4000000 in
theorem v_X10_off {σ : St} {v0 : Nat → Int32} (hs : σ.1 19 = v0) {g c r w : Int32} {G K R W : Nat} (hg : g = nI G) (hc : c = nI K) (hr : r = nI R) (hw : w = nI W) (h : 38 + 50 * G + 2 * (5 * R + K) + W < 338) : Ct yX10_off M_X10_off [.ref 18, .int g, .int c, .int r, .int w] σ (some (.int (oV v0 G K R W)), σ) := by
  subst hs
  exact c_X10_off hg hc hr hw h
end
section
def stS (v : Nat → Int32) (g k w : Nat) : Nat := 64 * (fN v g (1 + w) + k * fN v g 3)
def onS (v : Nat → Int32) (g px py : Nat) : Prop := (stS v g 0 0 ≤ px ∧ px ≤ stS v g (fN v g 4 - 1) 0) ∧ stS v g 0 1 ≤ py ∧ py ≤ stS v g (fN v g 5 - 1) 1
noncomputable def pb (P : Prop) : Int32 := @b01 P (Classical.propDecidable P)
theorem pb_1 {P : Prop} (h : P) : pb P = 1 := @b1 _ (Classical.propDecidable P) h
theorem pb_0 {P : Prop} (h : ¬ P) : pb P = 0 := @b0 _ (Classical.propDecidable P) h
theorem pb_iff {P : Prop} : pb P = 0 ↔ ¬ P := @b01_0 _ (Classical.propDecidable P)
theorem pb_n {P : Prop} (h : ¬ pb P = 0) : P := Classical.not_not.mp (fun q => h (pb_iff.mpr q))
theorem pb_nar (P : Prop) : narrow .boolean (.int (pb P)) = .int (pb P) := @b01_nar _ (Classical.propDecidable P)
theorem pb_c {P Q : Prop} (h : P ↔ Q) : pb P = pb Q := by rw [propext h]
theorem b01_pb {P Q : Prop} [Decidable P] (h : P ↔ Q) : b01 P = pb Q := by
  by_cases hp : P
  · rw [b1 hp, pb_1 (h.mp hp)]
  · rw [b0 hp, pb_0 (fun q => hp (h.mpr q))]
theorem OkF.at {v : Nat → Int32} {g e : Nat} (h : OkF v g) (h1 : 1 ≤ e) (h6 : e < 6) : v (2 + 6 * g + e) = nI (fN v g e) := h.1 e h1 h6
theorem stS_le {v : Nat → Int32} {g : Nat} (h : OkF v g) {k w : Nat} (hw : w < 2) (hk : k < fN v g (4 + w)) : stS v g k w ≤ 64000 := by
  obtain ⟨-, -, -, -, -, -, -, h1, h2⟩ := h
  have hm : k * fN v g 3 ≤ (fN v g (4 + w) - 1) * fN v g 3 := Nat.mul_le_mul_right _ (by omega)
  unfold stS
  match w, hw with
  | 0, _ => have e : fN v g (4 + 0) = fN v g 4 := rfl
            have e1 : fN v g (1 + 0) = fN v g 1 := rfl
            rw [e] at hm; rw [e1]; omega
  | 1, _ => have e : fN v g (4 + 1) = fN v g 5 := rfl
            have e1 : fN v g (1 + 1) = fN v g 2 := rfl
            rw [e] at hm; rw [e1]; omega

set_option maxRecDepth 100000 in
set_option maxHeartbeats 4000000 in
theorem c_X10_stands {σ : St} {g k w : Int32} {G K W : Nat} (hf : OkF (σ.1 19) G) (hg : g = nI G) (hk : k = nI K) (hw : w = nI W) (hG : G < 6) (hW : W < 2) : Ct yX10_stands M_X10_stands [.ref 18, .int g, .int k, .int w] σ (some (.int (nI (stS (σ.1 19) G K W))), σ) := by
  refine ct_of (k := 0) rfl rfl rfl (Nat.le_of_ble_eq_true rfl) ?_
  refine x_bipush (v := 64) (pc' := 2) (by decide) dX10_stands_0 rfl ?_
  refine x_aload_n (pc' := 3) rfl dX10_stands_2 rfl ?_
  refine x_iload_n (pc' := 4) rfl dX10_stands_3 rfl ?_
  refine x_iconst (v := 1) (pc' := 5) (by decide) dX10_stands_4 rfl ?_
  refine x_iload_n (pc' := 6) rfl dX10_stands_5 rfl ?_
  refine x_iadd (pc' := 7) dX10_stands_6 rfl ?_
  refine x_callVi (As := [.int _, .int _]) (rest := [.int _]) (ci := 9) (pc' := 10) rfl vk_X10_58 mk_X10_its (by decide) (by first | assumption | exact ⟨by decide, rfl⟩) (by decide) rfl (Nat.le_of_ble_eq_true rfl) dX10_stands_7 rfl (c_X10_its (E := 1 + W) hg (by rw [hw]; simp only [lit32, nI_add]) (by omega)) ?_
  refine x_iload_n (pc' := 11) rfl dX10_stands_10 rfl ?_
  refine x_aload_n (pc' := 12) rfl dX10_stands_11 rfl ?_
  refine x_iload_n (pc' := 13) rfl dX10_stands_12 rfl ?_
  refine x_iconst (v := 3) (pc' := 14) (by decide) dX10_stands_13 rfl ?_
  refine x_callVi (As := [.int _, .int _]) (rest := [.int _, .int _, .int _]) (ci := 9) (pc' := 17) rfl vk_X10_58 mk_X10_its (by decide) (by first | assumption | exact ⟨by decide, rfl⟩) (by decide) rfl (Nat.le_of_ble_eq_true rfl) dX10_stands_14 rfl (c_X10_its (E := 3) hg rfl (by omega)) ?_
  refine x_imul (pc' := 18) dX10_stands_17 rfl ?_
  refine x_iadd (pc' := 19) dX10_stands_18 rfl ?_
  refine x_imul (pc' := 20) dX10_stands_19 rfl ?_
  exact x_iret rfl dX10_stands_20 (ret_i (by rw [hf.at (by omega) (by omega), hf.at (by omega) (by omega), hk, stS]; simp only [lit32, nI_add, pk_mul]))
set_option maxRecDepth 100000 in
set_option maxHeartbeats 4000000 in
theorem v_X10_stands {σ : St} {v0 : Nat → Int32} (hs : σ.1 19 = v0) {g k w : Int32} {G K W : Nat} (hf : OkF v0 G) (hg : g = nI G) (hk : k = nI K) (hw : w = nI W) (hG : G < 6) (hW : W < 2) : Ct yX10_stands M_X10_stands [.ref 18, .int g, .int k, .int w] σ (some (.int (nI (stS v0 G K W))), σ) := by
  subst hs
  exact c_X10_stands hf hg hk hw hG hW
set_option maxRecDepth 100000 in
set_option maxHeartbeats 4000000 in
theorem c_X10_last {σ : St} {g w : Int32} {G W : Nat} (hf : OkF (σ.1 19) G) (hg : g = nI G) (hw : w = nI W) (hG : G < 6) (hW : W < 2) : Ct yX10_last M_X10_last [.ref 18, .int g, .int w] σ (some (.int (nI (stS (σ.1 19) G (fN (σ.1 19) G (4 + W) - 1) W))), σ) := by
  have hge : 1 ≤ fN (σ.1 19) G (4 + W) := by
    obtain ⟨-, -, -, h4, -, h5, -, -, -⟩ := hf
    match W, hW with
    | 0, _ => exact Nat.le_trans (by decide) h4
    | 1, _ => exact Nat.le_trans (by decide) h5
  refine ct_of (k := 0) rfl rfl rfl (Nat.le_of_ble_eq_true rfl) ?_
  refine x_aload_n (pc' := 1) rfl dX10_last_0 rfl ?_
  refine x_iload_n (pc' := 2) rfl dX10_last_1 rfl ?_
  refine x_aload_n (pc' := 3) rfl dX10_last_2 rfl ?_
  refine x_iload_n (pc' := 4) rfl dX10_last_3 rfl ?_
  refine x_iconst (v := 4) (pc' := 5) (by decide) dX10_last_4 rfl ?_
  refine x_iload_n (pc' := 6) rfl dX10_last_5 rfl ?_
  refine x_iadd (pc' := 7) dX10_last_6 rfl ?_
  refine x_callVi (As := [.int _, .int _]) (rest := [.int _, .ref _]) (ci := 9) (pc' := 10) rfl vk_X10_58 mk_X10_its (by decide) (by first | assumption | exact ⟨by decide, rfl⟩) (by decide) rfl (Nat.le_of_ble_eq_true rfl) dX10_last_7 rfl (c_X10_its (E := 4 + W) hg (by rw [hw]; simp only [lit32, nI_add]) (by omega)) ?_
  refine x_iconst (v := 1) (pc' := 11) (by decide) dX10_last_10 rfl ?_
  refine x_isub (pc' := 12) dX10_last_11 rfl ?_
  refine x_iload_n (pc' := 13) rfl dX10_last_12 rfl ?_
  refine x_callVi (As := [.int _, .int _, .int _]) (rest := []) (ci := 9) (pc' := 16) rfl vk_X10_66 mk_X10_stands (by decide) (by first | assumption | exact ⟨by decide, rfl⟩) (by decide) rfl (Nat.le_of_ble_eq_true rfl) dX10_last_13 rfl (c_X10_stands hf hg (K := fN (σ.1 19) G (4 + W) - 1) (by rw [hf.at (by omega) (by omega)]; exact pk_sub (b := 1) hge) hw hG hW) ?_
  exact x_iret rfl dX10_last_16 rfl
set_option maxRecDepth 100000 in
set_option maxHeartbeats 4000000 in
theorem v_X10_last {σ : St} {v0 : Nat → Int32} (hs : σ.1 19 = v0) {g w : Int32} {G W : Nat} (hf : OkF v0 G) (hg : g = nI G) (hw : w = nI W) (hG : G < 6) (hW : W < 2) : Ct yX10_last M_X10_last [.ref 18, .int g, .int w] σ (some (.int (nI (stS v0 G (fN v0 G (4 + W) - 1) W))), σ) := by
  subst hs
  exact c_X10_last hf hg hw hG hW
theorem in_nn {a p b : Nat} (ha : a < 2 ^ 31) (hp : p < 2 ^ 31) (hb : b < 2 ^ 31) : ((nI a).toInt64 ≤ (nI p).toInt64 ∧ (nI p).toInt64 ≤ (nI b).toInt64) ↔ (a ≤ p ∧ p ≤ b) := by
  rw [wide_le, wide_le, nI_leI ha hp, nI_leI hp hb]
theorem onS_b {v : Nat → Int32} {g : Nat} (h : OkF v g) : stS v g 0 0 ≤ 64000 ∧ stS v g (fN v g 4 - 1) 0 ≤ 64000 ∧ stS v g 0 1 ≤ 64000 ∧ stS v g (fN v g 5 - 1) 1 ≤ 64000 := by
  have h4 := h.2.2.2.1
  have h5 := h.2.2.2.2.2.1
  exact ⟨stS_le h (by decide) (by show 0 < fN v g 4; omega), stS_le h (by decide) (by show _ < fN v g 4; omega), stS_le h (by decide) (by show 0 < fN v g 5; omega), stS_le h (by decide) (by show _ < fN v g 5; omega)⟩
/-- if, over any statement -/
noncomputable def pif {α : Type} (P : Prop) (a b : α) : α := @ite α P (Classical.propDecidable P) a b
theorem pif_t {α : Type} {P : Prop} {a b : α} (h : P) : pif P a b = a := @if_pos P (Classical.propDecidable P) h α a b
theorem pif_f {α : Type} {P : Prop} {a b : α} (h : ¬ P) : pif P a b = b := @if_neg P (Classical.propDecidable P) h α a b
set_option maxRecDepth 100000 in
set_option maxHeartbeats 4000000 in
theorem c_X10_isOn {σ : St} {g x y : Int32} {G px py : Nat} (hf : OkF (σ.1 19) G) (hg : g = nI G) (hx : x = nI px) (hy : y = nI py) (hG : G < 6) (hpx : px < 2 ^ 31) (hpy : py < 2 ^ 31) : Ct yX10_isOn M_X10_isOn [.ref 18, .int g, .int x, .int y] σ (some (.int (pb (onS (σ.1 19) G px py))), σ) := by
  subst hx
  subst hy
  obtain ⟨o1, o2, o3, o4⟩ := onS_b hf
  have e1 := in_nn (a := stS (σ.1 19) G 0 0) (p := px) (b := stS (σ.1 19) G (fN (σ.1 19) G 4 - 1) 0) (by omega) hpx (by omega)
  have e2 := in_nn (a := stS (σ.1 19) G 0 1) (p := py) (b := stS (σ.1 19) G (fN (σ.1 19) G 5 - 1) 1) (by omega) hpy (by omega)
  refine ct_of (k := 0) rfl rfl rfl (Nat.le_of_ble_eq_true rfl) ?_
  refine x_iload_n (pc' := 1) rfl dX10_isOn_0 rfl ?_
  refine x_i2l (pc' := 2) dX10_isOn_1 rfl ?_
  refine x_aload_n (pc' := 3) rfl dX10_isOn_2 rfl ?_
  refine x_iload_n (pc' := 4) rfl dX10_isOn_3 rfl ?_
  refine x_iconst (v := 0) (pc' := 5) (by decide) dX10_isOn_4 rfl ?_
  refine x_iconst (v := 0) (pc' := 6) (by decide) dX10_isOn_5 rfl ?_
  refine x_callVi (As := [.int _, .int _, .int _]) (rest := [.long _]) (ci := 9) (pc' := 9) rfl vk_X10_66 mk_X10_stands (by decide) (by first | assumption | exact ⟨by decide, rfl⟩) (by decide) rfl (Nat.le_of_ble_eq_true rfl) dX10_isOn_6 rfl (c_X10_stands hf hg (K := 0) (W := 0) rfl rfl hG (by decide)) ?_
  refine x_i2l (pc' := 10) dX10_isOn_9 rfl ?_
  refine x_aload_n (pc' := 11) rfl dX10_isOn_10 rfl ?_
  refine x_iload_n (pc' := 12) rfl dX10_isOn_11 rfl ?_
  refine x_iconst (v := 0) (pc' := 13) (by decide) dX10_isOn_12 rfl ?_
  refine x_callVi (As := [.int _, .int _]) (rest := [.long _, .long _]) (ci := 9) (pc' := 16) rfl vk_X10_69 mk_X10_last (by decide) (by first | assumption | exact ⟨by decide, rfl⟩) (by decide) rfl (Nat.le_of_ble_eq_true rfl) dX10_isOn_13 rfl (c_X10_last hf hg (W := 0) rfl hG (by decide)) ?_
  refine x_i2l (pc' := 17) dX10_isOn_16 rfl ?_
  refine x_callSi (As := [.long _, .long _, .long _]) (rest := []) (pc' := 20) rfl sk_X10_50 mk_X10_in (by decide) rfl (Nat.le_of_ble_eq_true rfl) dX10_isOn_17 rfl c_X10_in ?_
  refine x_if_eq (tgt := 50) (pc' := 23) (by decide) dX10_isOn_20 rfl (fun c20 => ?_) (fun c20 => ?_)
  · refine x_iconst (v := 0) (pc' := 51) (by decide) dX10_isOn_50 rfl ?_
    exact x_zret rfl (by first | rfl | exact b01_nar _ | exact pb_nar _) dX10_isOn_51 (ret_i (pb_0 (fun h => b01_0.mp c20 (e1.mpr h.1))).symm)
  · refine x_iload_n (pc' := 24) rfl dX10_isOn_23 rfl ?_
    refine x_i2l (pc' := 25) dX10_isOn_24 rfl ?_
    refine x_aload_n (pc' := 26) rfl dX10_isOn_25 rfl ?_
    refine x_iload_n (pc' := 27) rfl dX10_isOn_26 rfl ?_
    refine x_iconst (v := 0) (pc' := 28) (by decide) dX10_isOn_27 rfl ?_
    refine x_iconst (v := 1) (pc' := 29) (by decide) dX10_isOn_28 rfl ?_
    refine x_callVi (As := [.int _, .int _, .int _]) (rest := [.long _]) (ci := 9) (pc' := 32) rfl vk_X10_66 mk_X10_stands (by decide) (by first | assumption | exact ⟨by decide, rfl⟩) (by decide) rfl (Nat.le_of_ble_eq_true rfl) dX10_isOn_29 rfl (c_X10_stands hf hg (K := 0) (W := 1) rfl rfl hG (by decide)) ?_
    refine x_i2l (pc' := 33) dX10_isOn_32 rfl ?_
    refine x_aload_n (pc' := 34) rfl dX10_isOn_33 rfl ?_
    refine x_iload_n (pc' := 35) rfl dX10_isOn_34 rfl ?_
    refine x_iconst (v := 1) (pc' := 36) (by decide) dX10_isOn_35 rfl ?_
    refine x_callVi (As := [.int _, .int _]) (rest := [.long _, .long _]) (ci := 9) (pc' := 39) rfl vk_X10_69 mk_X10_last (by decide) (by first | assumption | exact ⟨by decide, rfl⟩) (by decide) rfl (Nat.le_of_ble_eq_true rfl) dX10_isOn_36 rfl (c_X10_last hf hg (W := 1) rfl hG (by decide)) ?_
    refine x_i2l (pc' := 40) dX10_isOn_39 rfl ?_
    refine x_callSi (As := [.long _, .long _, .long _]) (rest := []) (pc' := 43) rfl sk_X10_50 mk_X10_in (by decide) rfl (Nat.le_of_ble_eq_true rfl) dX10_isOn_40 rfl c_X10_in ?_
    refine x_if_eq (tgt := 50) (pc' := 46) (by decide) dX10_isOn_43 rfl (fun c43 => ?_) (fun c43 => ?_)
    · refine x_iconst (v := 0) (pc' := 51) (by decide) dX10_isOn_50 rfl ?_
      exact x_zret rfl (by first | rfl | exact b01_nar _ | exact pb_nar _) dX10_isOn_51 (ret_i (pb_0 (fun h => b01_0.mp c43 (e2.mpr h.2))).symm)
    · refine x_iconst (v := 1) (pc' := 47) (by decide) dX10_isOn_46 rfl ?_
      refine x_goto (tgt := 51) (by decide) dX10_isOn_47 ?_
      exact x_zret rfl (by first | rfl | exact b01_nar _ | exact pb_nar _) dX10_isOn_51 (ret_i (pb_1 ⟨e1.mp (Classical.not_not.mp (fun h => c20 (b01_0.mpr h))), e2.mp (Classical.not_not.mp (fun h => c43 (b01_0.mpr h)))⟩).symm)
set_option maxRecDepth 100000 in
set_option maxHeartbeats 4000000 in
theorem v_X10_isOn {σ : St} {v0 : Nat → Int32} (hs : σ.1 19 = v0) {g x y : Int32} {G px py : Nat} (hf : OkF v0 G) (hg : g = nI G) (hx : x = nI px) (hy : y = nI py) (hG : G < 6) (hpx : px < 2 ^ 31) (hpy : py < 2 ^ 31) : Ct yX10_isOn M_X10_isOn [.ref 18, .int g, .int x, .int y] σ (some (.int (pb (onS v0 G px py))), σ) := by
  subst hs
  exact c_X10_isOn hf hg hx hy hG hpx hpy
def plc (x y : Int32) : Prop := (0 ≤ x ∧ x ≤ 64000) ∧ 0 ≤ y ∧ y ≤ 64000
theorem in_64 (x : Int32) : ((0 : Int64) ≤ x.toInt64 ∧ x.toInt64 ≤ 64000) ↔ (0 ≤ x ∧ x ≤ 64000) := in_c x 0 64000 (by decide) (by decide)
theorem plc_nat {x y : Int32} (h : plc x y) : ∃ px py : Nat, px ≤ 64000 ∧ py ≤ 64000 ∧ x = nI px ∧ y = nI py := by
  obtain ⟨px, h1, e1⟩ := nI_of2 (n := 64000) (by decide) (i_nlt.mpr h.1.1) h.1.2
  obtain ⟨py, h2, e2⟩ := nI_of2 (n := 64000) (by decide) (i_nlt.mpr h.2.1) h.2.2
  exact ⟨px, py, h1, h2, e1, e2⟩
theorem plc_of {px py : Nat} (h1 : px ≤ 64000) (h2 : py ≤ 64000) : plc (nI px) (nI py) :=
  ⟨⟨nI_pos' (by omega), (nI_leI (b := 64000) (by omega) (by decide)).mpr h1⟩, nI_pos' (by omega), (nI_leI (b := 64000) (by omega) (by decide)).mpr h2⟩

set_option maxRecDepth 100000 in
set_option maxHeartbeats 4000000 in
theorem c_X10_isPlace {σ : St} {x y : Int32} : Ct yX10_isPlace M_X10_isPlace [.int x, .int y] σ (some (.int (pb (plc x y))), σ) := by
  refine ct_of (k := 0) rfl rfl rfl (Nat.le_of_ble_eq_true rfl) ?_
  refine x_iload_n (pc' := 1) rfl dX10_isPlace_0 rfl ?_
  refine x_i2l (pc' := 2) dX10_isPlace_1 rfl ?_
  refine x_lconst (v := 0) (pc' := 3) (by decide) dX10_isPlace_2 rfl ?_
  refine x_ldc2 (pc' := 6) kl_X10_72 dX10_isPlace_3 rfl ?_
  refine x_callSi (As := [.long _, .long _, .long _]) (rest := []) (pc' := 9) rfl sk_X10_50 mk_X10_in (by decide) rfl (Nat.le_of_ble_eq_true rfl) dX10_isPlace_6 rfl c_X10_in ?_
  refine x_if_eq (tgt := 28) (pc' := 12) (by decide) dX10_isPlace_9 rfl (fun c9 => ?_) (fun c9 => ?_)
  · refine x_iconst (v := 0) (pc' := 29) (by decide) dX10_isPlace_28 rfl ?_
    exact x_zret rfl (by first | rfl | exact b01_nar _ | exact pb_nar _) dX10_isPlace_29 (ret_i (pb_0 (fun h => b01_0.mp c9 ((in_64 x).mpr h.1))).symm)
  · refine x_iload_n (pc' := 13) rfl dX10_isPlace_12 rfl ?_
    refine x_i2l (pc' := 14) dX10_isPlace_13 rfl ?_
    refine x_lconst (v := 0) (pc' := 15) (by decide) dX10_isPlace_14 rfl ?_
    refine x_ldc2 (pc' := 18) kl_X10_72 dX10_isPlace_15 rfl ?_
    refine x_callSi (As := [.long _, .long _, .long _]) (rest := []) (pc' := 21) rfl sk_X10_50 mk_X10_in (by decide) rfl (Nat.le_of_ble_eq_true rfl) dX10_isPlace_18 rfl c_X10_in ?_
    refine x_if_eq (tgt := 28) (pc' := 24) (by decide) dX10_isPlace_21 rfl (fun c21 => ?_) (fun c21 => ?_)
    · refine x_iconst (v := 0) (pc' := 29) (by decide) dX10_isPlace_28 rfl ?_
      exact x_zret rfl (by first | rfl | exact b01_nar _ | exact pb_nar _) dX10_isPlace_29 (ret_i (pb_0 (fun h => b01_0.mp c21 ((in_64 y).mpr h.2))).symm)
    · refine x_iconst (v := 1) (pc' := 25) (by decide) dX10_isPlace_24 rfl ?_
      refine x_goto (tgt := 29) (by decide) dX10_isPlace_25 ?_
      exact x_zret rfl (by first | rfl | exact b01_nar _ | exact pb_nar _) dX10_isPlace_29 (ret_i (pb_1 ⟨(in_64 x).mp (Classical.not_not.mp (fun h => c9 (b01_0.mpr h))), (in_64 y).mp (Classical.not_not.mp (fun h => c21 (b01_0.mpr h)))⟩).symm)
def mtc (v : Nat → Int32) (p : Int32) (px py i : Nat) : Prop := v (2 + 6 * i) = p ∧ onS v i px py
/-- the first grid from i on, of n, with that parent, on whose ground the place is -/
noncomputable def chF (v : Nat → Int32) (p : Int32) (px py : Nat) : Nat → Nat → Int32
  | _, 0 => -1
  | i, n + 1 => pif (mtc v p px py i) (nI i) (chF v p px py (i + 1) n)
theorem Ok.c0 {v : Nat → Int32} (h : Ok v) : v 0 = nI (cN v) := h.1
theorem Ok.c6 {v : Nat → Int32} (h : Ok v) : cN v ≤ 6 := h.2.1
theorem Ok.F {v : Nat → Int32} (h : Ok v) {g : Nat} (hg : g < cN v) : OkF v g := (h.2.2.2.2 g hg).2.1
set_option maxRecDepth 100000 in
set_option maxHeartbeats 4000000 in
theorem l_X10_child {σ : St} {p : Int32} {px py : Nat} (hv : Ok (σ.1 19)) (hpx : px < 2 ^ 31) (hpy : py < 2 ^ 31) : ∀ (n i : Nat), i + n = cN (σ.1 19) → Ex M_X10_child (some (.int (chF (σ.1 19) p px py i n)), σ) 3 [some (.ref 18), some (.int p), some (.int (nI px)), some (.int (nI py)), some (.int (nI i))] [] σ := by
  intro n
  induction n with
  | zero =>
    intro i hi
    have h6 := hv.c6
    refine x_iload (pc' := 5) rfl dX10_child_3 rfl ?_
    refine x_aload_n (pc' := 6) rfl dX10_child_5 rfl ?_
    refine x_get (v := .ref 19) (pc' := 9) fk_X10_7 (by first | assumption | exact ⟨by decide, rfl⟩) rfl dX10_child_6 rfl ?_
    refine x_iconst (v := 0) (pc' := 10) (by decide) dX10_child_9 rfl ?_
    refine x_ialdn (N := 338) (n := 0) (pc' := 11) (by first | assumption | exact ⟨by decide, rfl⟩) (by decide) rfl (by decide) dX10_child_10 rfl ?_
    refine x_icmp_ge (tgt := 45) (pc' := 14) (by decide) dX10_child_11 rfl (fun c11 => ?_) (fun c11 => absurd (show σ.1 19 0 ≤ nI i by rw [hv.c0]; exact nI_le (by omega) (by omega)) c11)
    refine x_iconst (v := (-1)) (pc' := 46) (by decide) dX10_child_45 rfl ?_
    exact x_iret rfl dX10_child_46 rfl
  | succ n ih =>
    intro i hi
    have h6 := hv.c6
    have hF := hv.F (g := i) (by omega)
    refine x_iload (pc' := 5) rfl dX10_child_3 rfl ?_
    refine x_aload_n (pc' := 6) rfl dX10_child_5 rfl ?_
    refine x_get (v := .ref 19) (pc' := 9) fk_X10_7 (by first | assumption | exact ⟨by decide, rfl⟩) rfl dX10_child_6 rfl ?_
    refine x_iconst (v := 0) (pc' := 10) (by decide) dX10_child_9 rfl ?_
    refine x_ialdn (N := 338) (n := 0) (pc' := 11) (by first | assumption | exact ⟨by decide, rfl⟩) (by decide) rfl (by decide) dX10_child_10 rfl ?_
    refine x_icmp_ge (tgt := 45) (pc' := 14) (by decide) dX10_child_11 rfl (fun c11 => absurd c11 (show ¬ σ.1 19 0 ≤ nI i by rw [hv.c0]; exact nI_ge (by omega) (by omega))) (fun c11 => ?_)
    refine x_aload_n (pc' := 15) rfl dX10_child_14 rfl ?_
    refine x_iload (pc' := 17) rfl dX10_child_15 rfl ?_
    refine x_iconst (v := 0) (pc' := 18) (by decide) dX10_child_17 rfl ?_
    refine x_callVi (As := [.int _, .int _]) (rest := []) (ci := 9) (pc' := 21) rfl vk_X10_58 mk_X10_its (by decide) (by first | assumption | exact ⟨by decide, rfl⟩) (by decide) rfl (Nat.le_of_ble_eq_true rfl) dX10_child_18 rfl (c_X10_its (G := i) (E := 0) rfl rfl (by omega)) ?_
    refine x_iload_n (pc' := 22) rfl dX10_child_21 rfl ?_
    refine x_icmp_ne (tgt := 39) (pc' := 25) (by decide) dX10_child_22 rfl (fun c22 => ?_) (fun c22 => ?_)
    · refine x_iinc (lv' := [_, _, _, _, _]) (pc' := 42) rfl rfl (by decide) rfl dX10_child_39 rfl ?_
      refine x_goto (tgt := 3) (by decide) dX10_child_42 ?_
      rw [chF, pif_f (fun q => c22 q.1)]
      exact (nI_1 i) ▸ ih (i + 1) (by omega)
    · refine x_aload_n (pc' := 26) rfl dX10_child_25 rfl ?_
      refine x_iload (pc' := 28) rfl dX10_child_26 rfl ?_
      refine x_iload_n (pc' := 29) rfl dX10_child_28 rfl ?_
      refine x_iload_n (pc' := 30) rfl dX10_child_29 rfl ?_
      refine x_callVi (As := [.int _, .int _, .int _]) (rest := []) (ci := 9) (pc' := 33) rfl vk_X10_74 mk_X10_isOn (by decide) (by first | assumption | exact ⟨by decide, rfl⟩) (by decide) rfl (Nat.le_of_ble_eq_true rfl) dX10_child_30 rfl (c_X10_isOn hF rfl rfl rfl (by omega) hpx hpy) ?_
      refine x_if_eq (tgt := 39) (pc' := 36) (by decide) dX10_child_33 rfl (fun c33 => ?_) (fun c33 => ?_)
      · refine x_iinc (lv' := [_, _, _, _, _]) (pc' := 42) rfl rfl (by decide) rfl dX10_child_39 rfl ?_
        refine x_goto (tgt := 3) (by decide) dX10_child_42 ?_
        rw [chF, pif_f (fun q => pb_iff.mp c33 q.2)]
        exact (nI_1 i) ▸ ih (i + 1) (by omega)
      · refine x_iload (pc' := 38) rfl dX10_child_36 rfl ?_
        exact x_iret rfl dX10_child_38 (ret_i (by rw [chF, pif_t ⟨c22, pb_n c33⟩]))
set_option maxRecDepth 100000 in
set_option maxHeartbeats 4000000 in
theorem c_X10_child {σ : St} {p : Int32} {px py : Nat} (hv : Ok (σ.1 19)) (hpx : px < 2 ^ 31) (hpy : py < 2 ^ 31) : Ct yX10_child M_X10_child [.ref 18, .int p, .int (nI px), .int (nI py)] σ (some (.int (chF (σ.1 19) p px py 0 (cN (σ.1 19)))), σ) := by
  refine ct_of (k := 1) rfl rfl rfl (Nat.le_of_ble_eq_true rfl) ?_
  refine x_iconst (v := 0) (pc' := 1) (by decide) dX10_child_0 rfl ?_
  refine x_istore (lv' := [_, _, _, _, _]) (pc' := 3) (by decide) rfl dX10_child_1 rfl ?_
  exact l_X10_child hv hpx hpy _ 0 (by omega)
set_option maxRecDepth 100000 in
set_option maxHeartbeats 4000000 in
theorem v_X10_child {σ : St} {v0 : Nat → Int32} (hs : σ.1 19 = v0) {p : Int32} {px py : Nat} (hv : Ok v0) (hpx : px < 2 ^ 31) (hpy : py < 2 ^ 31) : Ct yX10_child M_X10_child [.ref 18, .int p, .int (nI px), .int (nI py)] σ (some (.int (chF v0 p px py 0 (cN v0))), σ) := by
  subst hs
  exact c_X10_child hv hpx hpy
end
section
/-- the grid to which a place belongs, of the first n -/
noncomputable def owS (v : Nat → Int32) (px py : Nat) : Nat → Int32
  | 0 => -1
  | n + 1 => pif (mtc v (owS v px py n) px py n) (nI n) (owS v px py n)
theorem chF_spec (v : Nat → Int32) (p : Int32) (px py : Nat) : ∀ n i, (chF v p px py i n = -1 ∧ ∀ j, i ≤ j → j < i + n → ¬ mtc v p px py j) ∨ ∃ h, chF v p px py i n = nI h ∧ i ≤ h ∧ h < i + n ∧ mtc v p px py h ∧ ∀ j, i ≤ j → j < h → ¬ mtc v p px py j
  | 0, i => Or.inl ⟨rfl, fun j h1 h2 => absurd h2 (by omega)⟩
  | n + 1, i => by
    by_cases hm : mtc v p px py i
    · refine Or.inr ⟨i, ?_, by omega, by omega, hm, fun j h1 h2 => absurd h2 (by omega)⟩
      rw [chF, pif_t hm]
    · have e : chF v p px py i (n + 1) = chF v p px py (i + 1) n := by rw [chF, pif_f hm]
      rcases chF_spec v p px py n (i + 1) with ⟨h1, h2⟩ | ⟨h, h1, h2, h3, h4, h5⟩
      · refine Or.inl ⟨e.trans h1, fun j g1 g2 => ?_⟩
        by_cases hj : j = i
        · subst hj; exact hm
        · exact h2 j (by omega) (by omega)
      · refine Or.inr ⟨h, e.trans h1, by omega, by omega, h4, fun j g1 g2 => ?_⟩
        by_cases hj : j = i
        · subst hj; exact hm
        · exact h5 j (by omega) g2
theorem owS_stay {v : Nat → Int32} {p : Int32} {px py n0 : Nat} (h0 : owS v px py n0 = p) : ∀ k, (∀ j, n0 ≤ j → j < n0 + k → ¬ mtc v p px py j) → owS v px py (n0 + k) = p
  | 0, _ => h0
  | k + 1, h => by
    have ih := owS_stay h0 k (fun j h1 h2 => h j h1 (by omega))
    rw [← Nat.add_assoc, owS, ih, pif_f (h (n0 + k) (by omega) (by omega))]
theorem owS_next {v : Nat → Int32} {p : Int32} {px py n0 h : Nat} (h0 : owS v px py n0 = p) (hn : n0 ≤ h) (hm : mtc v p px py h) (hj : ∀ j, n0 ≤ j → j < h → ¬ mtc v p px py j) : owS v px py (h + 1) = nI h := by
  have e := owS_stay h0 (h - n0) (fun j h1 h2 => hj j h1 (by omega))
  rw [show n0 + (h - n0) = h by omega] at e
  rw [owS, e, pif_t hm]
theorem owS_spec (v : Nat → Int32) (px py : Nat) : ∀ n, owS v px py n = -1 ∨ ∃ g, g < n ∧ owS v px py n = nI g ∧ onS v g px py
  | 0 => Or.inl rfl
  | n + 1 => by
    by_cases h : mtc v (owS v px py n) px py n
    · exact Or.inr ⟨n, by omega, by rw [owS, pif_t h], h.2⟩
    · rw [owS, pif_f h]
      rcases owS_spec v px py n with h1 | ⟨g, h1, h2⟩
      · exact Or.inl h1
      · exact Or.inr ⟨g, by omega, h2⟩
theorem par_lt {v : Nat → Int32} (hv : Ok v) {g G : Nat} (hg : g < cN v) (h : v (2 + 6 * g) = nI G) (hG : G < 2 ^ 31) : G < g := by
  rcases (hv.2.2.2.2 g hg).1 with h1 | ⟨j, h1, h2, -⟩
  · exact absurd (h1.symm.trans h) (m1_ne G hG)
  · have h6 := hv.c6
    have := ni_inj (by omega) hG (h2.symm.trans h)
    omega

set_option maxRecDepth 100000 in
set_option maxHeartbeats 4000000 in
theorem l_X10_belongs {σ : St} {px py : Nat} (hv : Ok (σ.1 19)) (hpx : px < 2 ^ 31) (hpy : py < 2 ^ 31) : ∀ (n G : Nat) (z : Int32), cN (σ.1 19) < G + n → G < cN (σ.1 19) → owS (σ.1 19) px py (G + 1) = nI G → Ex M_X10_belongs (some (.int (owS (σ.1 19) px py (cN (σ.1 19)))), σ) 11 [some (.ref 18), some (.int (nI px)), some (.int (nI py)), some (.int z), some (.int (nI G))] [] σ := by
  intro n
  induction n with
  | zero =>
    intro G z hn hG hw
    exact absurd hn (by omega)
  | succ n ih =>
    intro G z hn hG hw
    have h6 := hv.c6
    refine x_iload (pc' := 13) rfl dX10_belongs_11 rfl ?_
    refine x_iconst (v := (-1)) (pc' := 14) (by decide) dX10_belongs_13 rfl ?_
    refine x_icmp_eq (tgt := 32) (pc' := 17) (by decide) dX10_belongs_14 rfl (fun c14 => absurd c14 (fun q => m1_ne G (by omega) q.symm)) (fun c14 => ?_)
    refine x_iload (pc' := 19) rfl dX10_belongs_17 rfl ?_
    refine x_istore_n (lv' := [_, _, _, _, _]) (pc' := 20) (by decide) rfl dX10_belongs_19 rfl ?_
    refine x_aload_n (pc' := 21) rfl dX10_belongs_20 rfl ?_
    refine x_iload_n (pc' := 22) rfl dX10_belongs_21 rfl ?_
    refine x_iload_n (pc' := 23) rfl dX10_belongs_22 rfl ?_
    refine x_iload_n (pc' := 24) rfl dX10_belongs_23 rfl ?_
    refine x_callVi (As := [.int _, .int _, .int _]) (rest := []) (ci := 9) (pc' := 27) rfl vk_X10_78 mk_X10_child (by decide) (by first | assumption | exact ⟨by decide, rfl⟩) (by decide) rfl (Nat.le_of_ble_eq_true rfl) dX10_belongs_24 rfl (c_X10_child hv hpx hpy) ?_
    rcases chF_spec (σ.1 19) (nI G) px py (cN (σ.1 19)) 0 with ⟨e, hno⟩ | ⟨h, e, h1, h2, h3, h4⟩
    · rw [e]
      refine x_istore (lv' := [_, _, _, _, _]) (pc' := 29) (by decide) rfl dX10_belongs_27 rfl ?_
      refine x_goto (tgt := 11) (by decide) dX10_belongs_29 ?_
      refine x_iload (pc' := 13) rfl dX10_belongs_11 rfl ?_
      refine x_iconst (v := (-1)) (pc' := 14) (by decide) dX10_belongs_13 rfl ?_
      refine x_icmp_eq (tgt := 32) (pc' := 17) (by decide) dX10_belongs_14 rfl (fun c14 => ?_) (fun c14 => absurd rfl c14)
      refine x_iload_n (pc' := 33) rfl dX10_belongs_32 rfl ?_
      exact x_iret rfl dX10_belongs_33 (ret_i (by have q := owS_stay hw (cN (σ.1 19) - (G + 1)) (fun j g1 g2 => hno j (by omega) (by omega)); rw [show G + 1 + (cN (σ.1 19) - (G + 1)) = cN (σ.1 19) by omega] at q; exact q.symm))
    · rw [e]
      have hlt : G < h := par_lt hv (by omega) h3.1 (by omega)
      have hw2 := owS_next hw (by omega) h3 (fun j g1 g2 => h4 j (by omega) g2)
      refine x_istore (lv' := [_, _, _, _, _]) (pc' := 29) (by decide) rfl dX10_belongs_27 rfl ?_
      refine x_goto (tgt := 11) (by decide) dX10_belongs_29 ?_
      exact ih h _ (by omega) (by omega) hw2
set_option maxRecDepth 100000 in
set_option maxHeartbeats 4000000 in
theorem c_X10_belongs {σ : St} {px py : Nat} (hv : Ok (σ.1 19)) (hpx : px < 2 ^ 31) (hpy : py < 2 ^ 31) : Ct yX10_belongs M_X10_belongs [.ref 18, .int (nI px), .int (nI py)] σ (some (.int (owS (σ.1 19) px py (cN (σ.1 19)))), σ) := by
  refine ct_of (k := 2) rfl rfl rfl (Nat.le_of_ble_eq_true rfl) ?_
  refine x_aload_n (pc' := 1) rfl dX10_belongs_0 rfl ?_
  refine x_iconst (v := (-1)) (pc' := 2) (by decide) dX10_belongs_1 rfl ?_
  refine x_iload_n (pc' := 3) rfl dX10_belongs_2 rfl ?_
  refine x_iload_n (pc' := 4) rfl dX10_belongs_3 rfl ?_
  refine x_callVi (As := [.int _, .int _, .int _]) (rest := []) (ci := 9) (pc' := 7) rfl vk_X10_78 mk_X10_child (by decide) (by first | assumption | exact ⟨by decide, rfl⟩) (by decide) rfl (Nat.le_of_ble_eq_true rfl) dX10_belongs_4 rfl (c_X10_child hv hpx hpy) ?_
  have h6 := hv.c6
  rcases chF_spec (σ.1 19) (-1) px py (cN (σ.1 19)) 0 with ⟨e, hno⟩ | ⟨h, e, h1, h2, h3, h4⟩
  · rw [e]
    refine x_istore_n (lv' := [_, _, _, _, _]) (pc' := 8) (by decide) rfl dX10_belongs_7 rfl ?_
    refine x_iload_n (pc' := 9) rfl dX10_belongs_8 rfl ?_
    refine x_istore (lv' := [_, _, _, _, _]) (pc' := 11) (by decide) rfl dX10_belongs_9 rfl ?_
    refine x_iload (pc' := 13) rfl dX10_belongs_11 rfl ?_
    refine x_iconst (v := (-1)) (pc' := 14) (by decide) dX10_belongs_13 rfl ?_
    refine x_icmp_eq (tgt := 32) (pc' := 17) (by decide) dX10_belongs_14 rfl (fun c14 => ?_) (fun c14 => absurd rfl c14)
    refine x_iload_n (pc' := 33) rfl dX10_belongs_32 rfl ?_
    exact x_iret rfl dX10_belongs_33 (ret_i (by have q := owS_stay (v := σ.1 19) (px := px) (py := py) (n0 := 0) rfl (cN (σ.1 19)) (fun j g1 g2 => hno j g1 g2); rw [Nat.zero_add] at q; exact q.symm))
  · rw [e]
    refine x_istore_n (lv' := [_, _, _, _, _]) (pc' := 8) (by decide) rfl dX10_belongs_7 rfl ?_
    refine x_iload_n (pc' := 9) rfl dX10_belongs_8 rfl ?_
    refine x_istore (lv' := [_, _, _, _, _]) (pc' := 11) (by decide) rfl dX10_belongs_9 rfl ?_
    exact l_X10_belongs hv hpx hpy (cN (σ.1 19) + 1) h _ (by omega) (by omega) (owS_next (n0 := 0) rfl (by omega) h3 (fun j g1 g2 => h4 j g1 g2))
set_option maxRecDepth 100000 in
set_option maxHeartbeats 4000000 in
theorem v_X10_belongs {σ : St} {v0 : Nat → Int32} (hs : σ.1 19 = v0) {px py : Nat} (hv : Ok v0) (hpx : px < 2 ^ 31) (hpy : py < 2 ^ 31) : Ct yX10_belongs M_X10_belongs [.ref 18, .int (nI px), .int (nI py)] σ (some (.int (owS v0 px py (cN v0))), σ) := by
  subst hs
  exact c_X10_belongs hv hpx hpy
/-- n by d, rounded, as the reference has it -/
def rnd (n d : Int64) : Int64 := if 0 ≤ (2 * n + d) - (2 * n + d) / (2 * d) * (2 * d) then (2 * n + d) / (2 * d) else (2 * n + d) / (2 * d) - 1
set_option maxRecDepth 100000 in
set_option maxHeartbeats 4000000 in
theorem c_X10_rounded {σ : St} {n d : Int64} (h : ¬ 2 * d = 0) : Ct yX10_rounded M_X10_rounded [.long n, .long d] σ (some (.long (rnd n d)), σ) := by
  refine ct_of (k := 4) rfl rfl rfl (Nat.le_of_ble_eq_true rfl) ?_
  refine x_ldc2 (pc' := 3) kl_X10_81 dX10_rounded_0 rfl ?_
  refine x_lload_n (pc' := 4) rfl dX10_rounded_3 rfl ?_
  refine x_lmul (pc' := 5) dX10_rounded_4 rfl ?_
  refine x_lload_n (pc' := 6) rfl dX10_rounded_5 rfl ?_
  refine x_ladd (pc' := 7) dX10_rounded_6 rfl ?_
  refine x_lstore (lv' := [_, _, _, _, _, _, _, _]) (pc' := 9) (by decide) rfl dX10_rounded_7 rfl ?_
  refine x_lload (pc' := 11) rfl dX10_rounded_9 rfl ?_
  refine x_ldc2 (pc' := 14) kl_X10_81 dX10_rounded_11 rfl ?_
  refine x_lload_n (pc' := 15) rfl dX10_rounded_14 rfl ?_
  refine x_lmul (pc' := 16) dX10_rounded_15 rfl ?_
  refine x_ldiv (pc' := 17) h dX10_rounded_16 rfl ?_
  refine x_lstore (lv' := [_, _, _, _, _, _, _, _]) (pc' := 19) (by decide) rfl dX10_rounded_17 rfl ?_
  refine x_lload (pc' := 21) rfl dX10_rounded_19 rfl ?_
  refine x_ldc2 (pc' := 24) kl_X10_81 dX10_rounded_21 rfl ?_
  refine x_lload_n (pc' := 25) rfl dX10_rounded_24 rfl ?_
  refine x_lmul (pc' := 26) dX10_rounded_25 rfl ?_
  refine x_lrem (pc' := 27) h dX10_rounded_26 rfl ?_
  refine x_lconst (v := 0) (pc' := 28) (by decide) dX10_rounded_27 rfl ?_
  refine x_lcmp (pc' := 29) dX10_rounded_28 rfl ?_
  refine x_if_ge (tgt := 39) (pc' := 32) (by decide) dX10_rounded_29 rfl (fun c29 => ?_) (fun c29 => ?_)
  · refine x_lload (pc' := 41) rfl dX10_rounded_39 rfl ?_
    exact x_lret rfl dX10_rounded_41 (ret_l (by rw [rnd, if_pos ((lg_cmp_ge _ _).mp c29)]))
  · refine x_lload (pc' := 34) rfl dX10_rounded_32 rfl ?_
    refine x_lconst (v := 1) (pc' := 35) (by decide) dX10_rounded_34 rfl ?_
    refine x_lsub (pc' := 36) dX10_rounded_35 rfl ?_
    refine x_goto (tgt := 41) (by decide) dX10_rounded_36 ?_
    exact x_lret rfl dX10_rounded_41 (ret_l (by rw [rnd, if_neg (fun q => c29 ((lg_cmp_ge _ _).mpr q))]))
def betw (ru : Int32) (e f g h : Int32) (u v d : Int64) : Int32 :=
  if ru = 0 then (rnd (e.toInt64 * (d - u) * (d - v) + f.toInt64 * u * (d - v) + g.toInt64 * (d - u) * v + h.toInt64 * u * v) (d * d)).toInt32
  else if ru = 1 then (if d ≤ 2 * v then (if d ≤ 2 * u then h else g) else (if d ≤ 2 * u then f else e))
  else (rnd (if v ≤ u then e.toInt64 * d + (f - e).toInt64 * u + (h - f).toInt64 * v else e.toInt64 * d + (h - g).toInt64 * u + (g - e).toInt64 * v) d).toInt32
set_option maxRecDepth 100000 in
set_option maxHeartbeats 4000000 in
theorem c_X10_between {σ : St} {e f g h : Int32} {u v d : Int64} (h1 : ¬ 2 * d = 0) (h2 : ¬ 2 * (d * d) = 0) : Ct yX10_between M_X10_between [.ref 18, .int e, .int f, .int g, .int h, .long u, .long v, .long d] σ (some (.int (betw (σ.1 19 1) e f g h u v d)), σ) := by
  refine ct_of (k := 2) rfl rfl rfl (Nat.le_of_ble_eq_true rfl) ?_
  refine x_aload_n (pc' := 1) rfl dX10_between_0 rfl ?_
  refine x_get (v := .ref 19) (pc' := 4) fk_X10_7 (by first | assumption | exact ⟨by decide, rfl⟩) rfl dX10_between_1 rfl ?_
  refine x_iconst (v := 1) (pc' := 5) (by decide) dX10_between_4 rfl ?_
  refine x_ialdn (N := 338) (n := 1) (pc' := 6) (by first | assumption | exact ⟨by decide, rfl⟩) (by decide) rfl (by decide) dX10_between_5 rfl ?_
  refine x_if_ne (tgt := 67) (pc' := 9) (by decide) dX10_between_6 rfl (fun c6 => ?_) (fun c6 => ?_)
  · refine x_aload_n (pc' := 68) rfl dX10_between_67 rfl ?_
    refine x_get (v := .ref 19) (pc' := 71) fk_X10_7 (by first | assumption | exact ⟨by decide, rfl⟩) rfl dX10_between_68 rfl ?_
    refine x_iconst (v := 1) (pc' := 72) (by decide) dX10_between_71 rfl ?_
    refine x_ialdn (N := 338) (n := 1) (pc' := 73) (by first | assumption | exact ⟨by decide, rfl⟩) (by decide) rfl (by decide) dX10_between_72 rfl ?_
    refine x_iconst (v := 1) (pc' := 74) (by decide) dX10_between_73 rfl ?_
    refine x_icmp_ne (tgt := 145) (pc' := 77) (by decide) dX10_between_74 rfl (fun c74 => ?_) (fun c74 => ?_)
    · have hb : betw (σ.1 19 1) e f g h u v d = (rnd (if v ≤ u then e.toInt64 * d + (f - e).toInt64 * u + (h - f).toInt64 * v else e.toInt64 * d + (h - g).toInt64 * u + (g - e).toInt64 * v) d).toInt32 := by
        rw [betw, if_neg c6, if_neg c74]
      rw [hb]
      refine x_lload (pc' := 147) rfl dX10_between_145 rfl ?_
      refine x_lload (pc' := 149) rfl dX10_between_147 rfl ?_
      refine x_lcmp (pc' := 150) dX10_between_149 rfl ?_
      refine x_if_lt (tgt := 178) (pc' := 153) (by decide) dX10_between_150 rfl (fun c150 => ?_) (fun c150 => ?_)
      · refine x_iload_n (pc' := 179) rfl dX10_between_178 rfl ?_
        refine x_i2l (pc' := 180) dX10_between_179 rfl ?_
        refine x_lload (pc' := 182) rfl dX10_between_180 rfl ?_
        refine x_lmul (pc' := 183) dX10_between_182 rfl ?_
        refine x_iload (pc' := 185) rfl dX10_between_183 rfl ?_
        refine x_iload_n (pc' := 186) rfl dX10_between_185 rfl ?_
        refine x_isub (pc' := 187) dX10_between_186 rfl ?_
        refine x_i2l (pc' := 188) dX10_between_187 rfl ?_
        refine x_lload (pc' := 190) rfl dX10_between_188 rfl ?_
        refine x_lmul (pc' := 191) dX10_between_190 rfl ?_
        refine x_ladd (pc' := 192) dX10_between_191 rfl ?_
        refine x_iload_n (pc' := 193) rfl dX10_between_192 rfl ?_
        refine x_iload_n (pc' := 194) rfl dX10_between_193 rfl ?_
        refine x_isub (pc' := 195) dX10_between_194 rfl ?_
        refine x_i2l (pc' := 196) dX10_between_195 rfl ?_
        refine x_lload (pc' := 198) rfl dX10_between_196 rfl ?_
        refine x_lmul (pc' := 199) dX10_between_198 rfl ?_
        refine x_ladd (pc' := 200) dX10_between_199 rfl ?_
        refine x_lload (pc' := 202) rfl dX10_between_200 rfl ?_
        refine x_callSi (As := [.long _, .long _]) (rest := []) (pc' := 205) rfl sk_X10_83 mk_X10_rounded (by decide) rfl (Nat.le_of_ble_eq_true rfl) dX10_between_202 rfl (c_X10_rounded h1) ?_
        refine x_l2i (pc' := 206) dX10_between_205 rfl ?_
        exact x_iret rfl dX10_between_206 (ret_i (by rw [if_neg (l_nle.mpr ((lg_cmp_lt _ _).mp c150))]))
      · refine x_iload_n (pc' := 154) rfl dX10_between_153 rfl ?_
        refine x_i2l (pc' := 155) dX10_between_154 rfl ?_
        refine x_lload (pc' := 157) rfl dX10_between_155 rfl ?_
        refine x_lmul (pc' := 158) dX10_between_157 rfl ?_
        refine x_iload_n (pc' := 159) rfl dX10_between_158 rfl ?_
        refine x_iload_n (pc' := 160) rfl dX10_between_159 rfl ?_
        refine x_isub (pc' := 161) dX10_between_160 rfl ?_
        refine x_i2l (pc' := 162) dX10_between_161 rfl ?_
        refine x_lload (pc' := 164) rfl dX10_between_162 rfl ?_
        refine x_lmul (pc' := 165) dX10_between_164 rfl ?_
        refine x_ladd (pc' := 166) dX10_between_165 rfl ?_
        refine x_iload (pc' := 168) rfl dX10_between_166 rfl ?_
        refine x_iload_n (pc' := 169) rfl dX10_between_168 rfl ?_
        refine x_isub (pc' := 170) dX10_between_169 rfl ?_
        refine x_i2l (pc' := 171) dX10_between_170 rfl ?_
        refine x_lload (pc' := 173) rfl dX10_between_171 rfl ?_
        refine x_lmul (pc' := 174) dX10_between_173 rfl ?_
        refine x_ladd (pc' := 175) dX10_between_174 rfl ?_
        refine x_goto (tgt := 200) (by decide) dX10_between_175 ?_
        refine x_lload (pc' := 202) rfl dX10_between_200 rfl ?_
        refine x_callSi (As := [.long _, .long _]) (rest := []) (pc' := 205) rfl sk_X10_83 mk_X10_rounded (by decide) rfl (Nat.le_of_ble_eq_true rfl) dX10_between_202 rfl (c_X10_rounded h1) ?_
        refine x_l2i (pc' := 206) dX10_between_205 rfl ?_
        exact x_iret rfl dX10_between_206 (ret_i (by rw [if_pos (l_nlt.mp (fun q => c150 ((lg_cmp_lt _ _).mpr q)))]))
    · have hb : betw (σ.1 19 1) e f g h u v d = (if d ≤ 2 * v then (if d ≤ 2 * u then h else g) else (if d ≤ 2 * u then f else e)) := by
        rw [betw, if_neg c6, if_pos c74]
      rw [hb]
      refine x_ldc2 (pc' := 80) kl_X10_81 dX10_between_77 rfl ?_
      refine x_lload (pc' := 82) rfl dX10_between_80 rfl ?_
      refine x_lmul (pc' := 83) dX10_between_82 rfl ?_
      refine x_lload (pc' := 85) rfl dX10_between_83 rfl ?_
      refine x_lcmp (pc' := 86) dX10_between_85 rfl ?_
      refine x_if_lt (tgt := 93) (pc' := 89) (by decide) dX10_between_86 rfl (fun c86 => ?_) (fun c86 => ?_)
      · refine x_iconst (v := 0) (pc' := 94) (by decide) dX10_between_93 rfl ?_
        refine x_istore (lv' := [_, _, _, _, _, _, _, _, _, _, _, _, _]) (pc' := 96) (by decide) rfl dX10_between_94 rfl ?_
        refine x_ldc2 (pc' := 99) kl_X10_81 dX10_between_96 rfl ?_
        refine x_lload (pc' := 101) rfl dX10_between_99 rfl ?_
        refine x_lmul (pc' := 102) dX10_between_101 rfl ?_
        refine x_lload (pc' := 104) rfl dX10_between_102 rfl ?_
        refine x_lcmp (pc' := 105) dX10_between_104 rfl ?_
        refine x_if_lt (tgt := 112) (pc' := 108) (by decide) dX10_between_105 rfl (fun c105 => ?_) (fun c105 => ?_)
        · refine x_iconst (v := 0) (pc' := 113) (by decide) dX10_between_112 rfl ?_
          refine x_istore (lv' := [_, _, _, _, _, _, _, _, _, _, _, _, _]) (pc' := 115) (by decide) rfl dX10_between_113 rfl ?_
          refine x_iload (pc' := 117) rfl dX10_between_115 rfl ?_
          refine x_if_eq (tgt := 134) (pc' := 120) (by decide) dX10_between_117 rfl (fun c117 => ?_) (fun c117 => absurd rfl c117)
          refine x_iload (pc' := 136) rfl dX10_between_134 rfl ?_
          refine x_if_eq (tgt := 143) (pc' := 139) (by decide) dX10_between_136 rfl (fun c136 => ?_) (fun c136 => absurd rfl c136)
          refine x_iload_n (pc' := 144) rfl dX10_between_143 rfl ?_
          exact x_iret rfl dX10_between_144 (ret_i (by rw [if_neg (l_nle.mpr ((lg_cmp_lt _ _).mp c105)), if_neg (l_nle.mpr ((lg_cmp_lt _ _).mp c86))]))
        · refine x_iconst (v := 1) (pc' := 109) (by decide) dX10_between_108 rfl ?_
          refine x_goto (tgt := 113) (by decide) dX10_between_109 ?_
          refine x_istore (lv' := [_, _, _, _, _, _, _, _, _, _, _, _, _]) (pc' := 115) (by decide) rfl dX10_between_113 rfl ?_
          refine x_iload (pc' := 117) rfl dX10_between_115 rfl ?_
          refine x_if_eq (tgt := 134) (pc' := 120) (by decide) dX10_between_117 rfl (fun c117 => absurd c117 (by decide)) (fun c117 => ?_)
          refine x_iload (pc' := 122) rfl dX10_between_120 rfl ?_
          refine x_if_eq (tgt := 130) (pc' := 125) (by decide) dX10_between_122 rfl (fun c122 => ?_) (fun c122 => absurd rfl c122)
          refine x_iload_n (pc' := 131) rfl dX10_between_130 rfl ?_
          refine x_goto (tgt := 144) (by decide) dX10_between_131 ?_
          exact x_iret rfl dX10_between_144 (ret_i (by rw [if_pos (l_nlt.mp (fun q => c105 ((lg_cmp_lt _ _).mpr q))), if_neg (l_nle.mpr ((lg_cmp_lt _ _).mp c86))]))
      · refine x_iconst (v := 1) (pc' := 90) (by decide) dX10_between_89 rfl ?_
        refine x_goto (tgt := 94) (by decide) dX10_between_90 ?_
        refine x_istore (lv' := [_, _, _, _, _, _, _, _, _, _, _, _, _]) (pc' := 96) (by decide) rfl dX10_between_94 rfl ?_
        refine x_ldc2 (pc' := 99) kl_X10_81 dX10_between_96 rfl ?_
        refine x_lload (pc' := 101) rfl dX10_between_99 rfl ?_
        refine x_lmul (pc' := 102) dX10_between_101 rfl ?_
        refine x_lload (pc' := 104) rfl dX10_between_102 rfl ?_
        refine x_lcmp (pc' := 105) dX10_between_104 rfl ?_
        refine x_if_lt (tgt := 112) (pc' := 108) (by decide) dX10_between_105 rfl (fun c105 => ?_) (fun c105 => ?_)
        · refine x_iconst (v := 0) (pc' := 113) (by decide) dX10_between_112 rfl ?_
          refine x_istore (lv' := [_, _, _, _, _, _, _, _, _, _, _, _, _]) (pc' := 115) (by decide) rfl dX10_between_113 rfl ?_
          refine x_iload (pc' := 117) rfl dX10_between_115 rfl ?_
          refine x_if_eq (tgt := 134) (pc' := 120) (by decide) dX10_between_117 rfl (fun c117 => ?_) (fun c117 => absurd rfl c117)
          refine x_iload (pc' := 136) rfl dX10_between_134 rfl ?_
          refine x_if_eq (tgt := 143) (pc' := 139) (by decide) dX10_between_136 rfl (fun c136 => absurd c136 (by decide)) (fun c136 => ?_)
          refine x_iload_n (pc' := 140) rfl dX10_between_139 rfl ?_
          refine x_goto (tgt := 144) (by decide) dX10_between_140 ?_
          exact x_iret rfl dX10_between_144 (ret_i (by rw [if_neg (l_nle.mpr ((lg_cmp_lt _ _).mp c105)), if_pos (l_nlt.mp (fun q => c86 ((lg_cmp_lt _ _).mpr q)))]))
        · refine x_iconst (v := 1) (pc' := 109) (by decide) dX10_between_108 rfl ?_
          refine x_goto (tgt := 113) (by decide) dX10_between_109 ?_
          refine x_istore (lv' := [_, _, _, _, _, _, _, _, _, _, _, _, _]) (pc' := 115) (by decide) rfl dX10_between_113 rfl ?_
          refine x_iload (pc' := 117) rfl dX10_between_115 rfl ?_
          refine x_if_eq (tgt := 134) (pc' := 120) (by decide) dX10_between_117 rfl (fun c117 => absurd c117 (by decide)) (fun c117 => ?_)
          refine x_iload (pc' := 122) rfl dX10_between_120 rfl ?_
          refine x_if_eq (tgt := 130) (pc' := 125) (by decide) dX10_between_122 rfl (fun c122 => absurd c122 (by decide)) (fun c122 => ?_)
          refine x_iload (pc' := 127) rfl dX10_between_125 rfl ?_
          refine x_goto (tgt := 144) (by decide) dX10_between_127 ?_
          exact x_iret rfl dX10_between_144 (ret_i (by rw [if_pos (l_nlt.mp (fun q => c105 ((lg_cmp_lt _ _).mpr q))), if_pos (l_nlt.mp (fun q => c86 ((lg_cmp_lt _ _).mpr q)))]))
  · refine x_iload_n (pc' := 10) rfl dX10_between_9 rfl ?_
    refine x_i2l (pc' := 11) dX10_between_10 rfl ?_
    refine x_lload (pc' := 13) rfl dX10_between_11 rfl ?_
    refine x_lload (pc' := 15) rfl dX10_between_13 rfl ?_
    refine x_lsub (pc' := 16) dX10_between_15 rfl ?_
    refine x_lmul (pc' := 17) dX10_between_16 rfl ?_
    refine x_lload (pc' := 19) rfl dX10_between_17 rfl ?_
    refine x_lload (pc' := 21) rfl dX10_between_19 rfl ?_
    refine x_lsub (pc' := 22) dX10_between_21 rfl ?_
    refine x_lmul (pc' := 23) dX10_between_22 rfl ?_
    refine x_iload_n (pc' := 24) rfl dX10_between_23 rfl ?_
    refine x_i2l (pc' := 25) dX10_between_24 rfl ?_
    refine x_lload (pc' := 27) rfl dX10_between_25 rfl ?_
    refine x_lmul (pc' := 28) dX10_between_27 rfl ?_
    refine x_lload (pc' := 30) rfl dX10_between_28 rfl ?_
    refine x_lload (pc' := 32) rfl dX10_between_30 rfl ?_
    refine x_lsub (pc' := 33) dX10_between_32 rfl ?_
    refine x_lmul (pc' := 34) dX10_between_33 rfl ?_
    refine x_ladd (pc' := 35) dX10_between_34 rfl ?_
    refine x_iload_n (pc' := 36) rfl dX10_between_35 rfl ?_
    refine x_i2l (pc' := 37) dX10_between_36 rfl ?_
    refine x_lload (pc' := 39) rfl dX10_between_37 rfl ?_
    refine x_lload (pc' := 41) rfl dX10_between_39 rfl ?_
    refine x_lsub (pc' := 42) dX10_between_41 rfl ?_
    refine x_lmul (pc' := 43) dX10_between_42 rfl ?_
    refine x_lload (pc' := 45) rfl dX10_between_43 rfl ?_
    refine x_lmul (pc' := 46) dX10_between_45 rfl ?_
    refine x_ladd (pc' := 47) dX10_between_46 rfl ?_
    refine x_iload (pc' := 49) rfl dX10_between_47 rfl ?_
    refine x_i2l (pc' := 50) dX10_between_49 rfl ?_
    refine x_lload (pc' := 52) rfl dX10_between_50 rfl ?_
    refine x_lmul (pc' := 53) dX10_between_52 rfl ?_
    refine x_lload (pc' := 55) rfl dX10_between_53 rfl ?_
    refine x_lmul (pc' := 56) dX10_between_55 rfl ?_
    refine x_ladd (pc' := 57) dX10_between_56 rfl ?_
    refine x_lload (pc' := 59) rfl dX10_between_57 rfl ?_
    refine x_lload (pc' := 61) rfl dX10_between_59 rfl ?_
    refine x_lmul (pc' := 62) dX10_between_61 rfl ?_
    refine x_callSi (As := [.long _, .long _]) (rest := []) (pc' := 65) rfl sk_X10_83 mk_X10_rounded (by decide) rfl (Nat.le_of_ble_eq_true rfl) dX10_between_62 rfl (c_X10_rounded h2) ?_
    refine x_l2i (pc' := 66) dX10_between_65 rfl ?_
    exact x_iret rfl dX10_between_66 (ret_i (by rw [betw, if_pos c6]))
set_option maxRecDepth 100000 in
set_option maxHeartbeats 4000000 in
theorem v_X10_between {σ : St} {v0 : Nat → Int32} (hs : σ.1 19 = v0) {e f g h : Int32} {u v d : Int64} (h1 : ¬ 2 * d = 0) (h2 : ¬ 2 * (d * d) = 0) : Ct yX10_between M_X10_between [.ref 18, .int e, .int f, .int g, .int h, .long u, .long v, .long d] σ (some (.int (betw (v0 1) e f g h u v d)), σ) := by
  subst hs
  exact c_X10_between h1 h2
end
section
/-- the cell of a place, along one way -/
def cA (p X S C : Nat) : Nat := min ((p - 64 * X) / (64 * S)) (C - 2)
def cX (v : Nat → Int32) (g px : Nat) : Nat := cA px (fN v g 1) (fN v g 3) (fN v g 4)
def cY (v : Nat → Int32) (g py : Nat) : Nat := cA py (fN v g 2) (fN v g 3) (fN v g 5)
def offS (v : Nat → Int32) (g px py w : Nat) : Int32 := betw (v 1) (oV v g (cX v g px) (cY v g py) w) (oV v g (cX v g px + 1) (cY v g py) w) (oV v g (cX v g px) (cY v g py + 1) w) (oV v g (cX v g px + 1) (cY v g py + 1) w) (nI (px - stS v g (cX v g px) 0)).toInt64 (nI (py - stS v g (cY v g py) 1)).toInt64 (nI (64 * fN v g 3)).toInt64
theorem cA_spec {p X S C : Nat} (hS : 1 ≤ S) (hC : 2 ≤ C) (h0 : 64 * X ≤ p) (h1 : p ≤ 64 * (X + (C - 1) * S)) : cA p X S C + 2 ≤ C ∧ 64 * (X + cA p X S C * S) ≤ p ∧ p - 64 * (X + cA p X S C * S) ≤ 64 * S := by
  have hD : 0 < 64 * S := by omega
  have hq := Nat.div_add_mod (p - 64 * X) (64 * S)
  have hr := Nat.mod_lt (p - 64 * X) hD
  have hle : cA p X S C ≤ (p - 64 * X) / (64 * S) := Nat.min_le_left _ _
  have hle2 : cA p X S C ≤ C - 2 := Nat.min_le_right _ _
  have hm : 64 * S * cA p X S C ≤ 64 * S * ((p - 64 * X) / (64 * S)) := Nat.mul_le_mul_left _ hle
  have e1 : 64 * (X + cA p X S C * S) = 64 * X + 64 * S * cA p X S C := by
    rw [Nat.mul_add, Nat.mul_assoc 64 S, Nat.mul_comm S]
  refine ⟨by omega, by omega, ?_⟩
  rw [e1]
  by_cases hc : (p - 64 * X) / (64 * S) ≤ C - 2
  · have e2 : cA p X S C = (p - 64 * X) / (64 * S) := Nat.min_eq_left hc
    rw [e2]
    omega
  · have e2 : cA p X S C = C - 2 := Nat.min_eq_right (by omega)
    rw [e2]
    have e3 : (C - 1) * S = S * (C - 2) + S := by
      rw [show C - 1 = (C - 2) + 1 by omega, Nat.add_mul, Nat.one_mul, Nat.mul_comm]
    rw [e3] at h1
    rw [Nat.mul_assoc]
    omega
theorem cX_spec {v : Nat → Int32} {g px py : Nat} (hf : OkF v g) (h : onS v g px py) : cX v g px + 2 ≤ fN v g 4 ∧ stS v g (cX v g px) 0 ≤ px ∧ px - stS v g (cX v g px) 0 ≤ 64 * fN v g 3 := by
  obtain ⟨-, h3, -, h4, -, h5, -, -, -⟩ := hf
  refine cA_spec h3 h4 ?_ h.1.2
  have := h.1.1
  unfold stS at this
  rw [Nat.zero_mul, Nat.add_zero] at this
  exact this
theorem cY_spec {v : Nat → Int32} {g px py : Nat} (hf : OkF v g) (h : onS v g px py) : cY v g py + 2 ≤ fN v g 5 ∧ stS v g (cY v g py) 1 ≤ py ∧ py - stS v g (cY v g py) 1 ≤ 64 * fN v g 3 := by
  obtain ⟨-, h3, -, h4, -, h5, -, -, -⟩ := hf
  refine cA_spec h3 h5 ?_ h.2.2
  have := h.2.1
  unfold stS at this
  rw [Nat.zero_mul, Nat.add_zero] at this
  exact this
theorem d2_ne {D : Nat} (h : 0 < D) (h2 : D ≤ 4096) : ¬ 2 * (nI D).toInt64 = 0 := by
  rw [nI_l (by omega), show (2 : Int64) = lN 2 from rfl, lN_mul, show (0 : Int64) = lN 0 from rfl, lN_eq (by omega) (by decide)]
  omega
theorem d4_ne {D : Nat} (h : 0 < D) (h2 : D ≤ 4096) : ¬ 2 * ((nI D).toInt64 * (nI D).toInt64) = 0 := by
  have hb : D * D ≤ 4096 * 4096 := Nat.mul_le_mul h2 h2
  have hp : 0 < D * D := Nat.mul_pos h h
  rw [nI_l (by omega), show (2 : Int64) = lN 2 from rfl, lN_mul, lN_mul, show (0 : Int64) = lN 0 from rfl, lN_eq (by omega) (by decide)]
  omega
set_option maxRecDepth 100000 in
set_option maxHeartbeats 4000000 in
theorem c_X10_offset {σ : St} {g x y w : Int32} {G px py W : Nat} (hv : Ok (σ.1 19)) (hG : G < cN (σ.1 19)) (hon : onS (σ.1 19) G px py) (hg : g = nI G) (hx : x = nI px) (hy : y = nI py) (hw : w = nI W) (hW : W < 2) : Ct yX10_offset M_X10_offset [.ref 18, .int g, .int x, .int y, .int w] σ (some (.int (offS (σ.1 19) G px py W)), σ) := by
  subst hg
  subst hx
  subst hy
  subst hw
  have h6 := hv.c6
  have hG6 : G < 6 := by omega
  have hf := hv.F hG
  obtain ⟨x1, x2, x3⟩ := cX_spec hf hon
  obtain ⟨y1, y2, y3⟩ := cY_spec hf hon
  obtain ⟨o1, o2, o3, o4⟩ := onS_b hf
  have hpx : px ≤ 64000 := Nat.le_trans hon.1.2 o2
  have hpy : py ≤ 64000 := Nat.le_trans hon.2.2 o4
  have hS1 := hf.2.1
  have hS2 := hf.2.2.1
  have hC5 := hf.2.2.2.2.1
  have hR5 := hf.2.2.2.2.2.2.1
  have e00 : stS (σ.1 19) G 0 0 = 64 * fN (σ.1 19) G 1 := by unfold stS; rw [Nat.zero_mul, Nat.add_zero]
  have e01 : stS (σ.1 19) G 0 1 = 64 * fN (σ.1 19) G 2 := by unfold stS; rw [Nat.zero_mul, Nat.add_zero]
  have hq1 : σ.1 19 (2 + 6 * G + 4) - 2 = nI (fN (σ.1 19) G 4 - 2) := by rw [hf.at (by omega) (by omega)]; exact pk_sub (b := 2) (by omega)
  have hq2 : σ.1 19 (2 + 6 * G + 5) - 2 = nI (fN (σ.1 19) G 5 - 2) := by rw [hf.at (by omega) (by omega)]; exact pk_sub (b := 2) (by omega)
  have hb1 : (px - stS (σ.1 19) G 0 0) / (64 * fN (σ.1 19) G 3) ≤ 64000 := Nat.le_trans (Nat.div_le_self _ _) (by omega)
  have hb2 : (py - stS (σ.1 19) G 0 1) / (64 * fN (σ.1 19) G 3) ≤ 64000 := Nat.le_trans (Nat.div_le_self _ _) (by omega)
  have k93 : Ex M_X10_offset (some (.int (offS (σ.1 19) G px py W)), σ) 93 [some (.ref 18), some (.int (nI G)), some (.int (nI px)), some (.int (nI py)), some (.int (nI W)), some (.int (nI (64 * fN (σ.1 19) G 3))), some (.int (nI (cX (σ.1 19) G px))), some (.int (nI ((py - stS (σ.1 19) G 0 1) / (64 * fN (σ.1 19) G 3)))), none, none] [.int (nI (cY (σ.1 19) G py))] σ := by
    refine x_istore (lv' := [_, _, _, _, _, _, _, _, _, _]) (pc' := 95) (by decide) rfl dX10_offset_93 rfl ?_
    refine x_iload_n (pc' := 96) rfl dX10_offset_95 rfl ?_
    refine x_aload_n (pc' := 97) rfl dX10_offset_96 rfl ?_
    refine x_iload_n (pc' := 98) rfl dX10_offset_97 rfl ?_
    refine x_iload (pc' := 100) rfl dX10_offset_98 rfl ?_
    refine x_iconst (v := 0) (pc' := 101) (by decide) dX10_offset_100 rfl ?_
    refine x_callVi (As := [.int _, .int _, .int _]) (rest := [.int _]) (ci := 9) (pc' := 104) rfl vk_X10_66 mk_X10_stands (by decide) (by first | assumption | exact ⟨by decide, rfl⟩) (by decide) rfl (Nat.le_of_ble_eq_true rfl) dX10_offset_101 rfl (c_X10_stands hf (W := 0) rfl rfl rfl hG6 (by decide)) ?_
    refine x_isub (pc' := 105) dX10_offset_104 rfl ?_
    refine x_top (pk_sub x2) ?_
    refine x_istore (lv' := [_, _, _, _, _, _, _, _, _, _]) (pc' := 107) (by decide) rfl dX10_offset_105 rfl ?_
    refine x_iload_n (pc' := 108) rfl dX10_offset_107 rfl ?_
    refine x_aload_n (pc' := 109) rfl dX10_offset_108 rfl ?_
    refine x_iload_n (pc' := 110) rfl dX10_offset_109 rfl ?_
    refine x_iload (pc' := 112) rfl dX10_offset_110 rfl ?_
    refine x_iconst (v := 1) (pc' := 113) (by decide) dX10_offset_112 rfl ?_
    refine x_callVi (As := [.int _, .int _, .int _]) (rest := [.int _]) (ci := 9) (pc' := 116) rfl vk_X10_66 mk_X10_stands (by decide) (by first | assumption | exact ⟨by decide, rfl⟩) (by decide) rfl (Nat.le_of_ble_eq_true rfl) dX10_offset_113 rfl (c_X10_stands hf (W := 1) rfl rfl rfl hG6 (by decide)) ?_
    refine x_isub (pc' := 117) dX10_offset_116 rfl ?_
    refine x_top (pk_sub y2) ?_
    refine x_istore (lv' := [_, _, _, _, _, _, _, _, _, _]) (pc' := 119) (by decide) rfl dX10_offset_117 rfl ?_
    refine x_aload_n (pc' := 120) rfl dX10_offset_119 rfl ?_
    refine x_aload_n (pc' := 121) rfl dX10_offset_120 rfl ?_
    refine x_iload_n (pc' := 122) rfl dX10_offset_121 rfl ?_
    refine x_iload (pc' := 124) rfl dX10_offset_122 rfl ?_
    refine x_iload (pc' := 126) rfl dX10_offset_124 rfl ?_
    refine x_iload (pc' := 128) rfl dX10_offset_126 rfl ?_
    refine x_callVi (As := [.int _, .int _, .int _, .int _]) (rest := [.ref _]) (ci := 9) (pc' := 131) rfl vk_X10_87 mk_X10_off (by decide) (by first | assumption | exact ⟨by decide, rfl⟩) (by decide) rfl (Nat.le_of_ble_eq_true rfl) dX10_offset_128 rfl (c_X10_off (K := cX (σ.1 19) G px) (R := cY (σ.1 19) G py) rfl rfl rfl rfl (by omega)) ?_
    refine x_aload_n (pc' := 132) rfl dX10_offset_131 rfl ?_
    refine x_iload_n (pc' := 133) rfl dX10_offset_132 rfl ?_
    refine x_iload (pc' := 135) rfl dX10_offset_133 rfl ?_
    refine x_iconst (v := 1) (pc' := 136) (by decide) dX10_offset_135 rfl ?_
    refine x_iadd (pc' := 137) dX10_offset_136 rfl ?_
    refine x_iload (pc' := 139) rfl dX10_offset_137 rfl ?_
    refine x_iload (pc' := 141) rfl dX10_offset_139 rfl ?_
    refine x_callVi (As := [.int _, .int _, .int _, .int _]) (rest := [.int _, .ref _]) (ci := 9) (pc' := 144) rfl vk_X10_87 mk_X10_off (by decide) (by first | assumption | exact ⟨by decide, rfl⟩) (by decide) rfl (Nat.le_of_ble_eq_true rfl) dX10_offset_141 rfl (c_X10_off (K := cX (σ.1 19) G px + 1) (R := cY (σ.1 19) G py) rfl (nI_1 _) rfl rfl (by omega)) ?_
    refine x_aload_n (pc' := 145) rfl dX10_offset_144 rfl ?_
    refine x_iload_n (pc' := 146) rfl dX10_offset_145 rfl ?_
    refine x_iload (pc' := 148) rfl dX10_offset_146 rfl ?_
    refine x_iload (pc' := 150) rfl dX10_offset_148 rfl ?_
    refine x_iconst (v := 1) (pc' := 151) (by decide) dX10_offset_150 rfl ?_
    refine x_iadd (pc' := 152) dX10_offset_151 rfl ?_
    refine x_iload (pc' := 154) rfl dX10_offset_152 rfl ?_
    refine x_callVi (As := [.int _, .int _, .int _, .int _]) (rest := [.int _, .int _, .ref _]) (ci := 9) (pc' := 157) rfl vk_X10_87 mk_X10_off (by decide) (by first | assumption | exact ⟨by decide, rfl⟩) (by decide) rfl (Nat.le_of_ble_eq_true rfl) dX10_offset_154 rfl (c_X10_off (K := cX (σ.1 19) G px) (R := cY (σ.1 19) G py + 1) rfl rfl (nI_1 _) rfl (by omega)) ?_
    refine x_aload_n (pc' := 158) rfl dX10_offset_157 rfl ?_
    refine x_iload_n (pc' := 159) rfl dX10_offset_158 rfl ?_
    refine x_iload (pc' := 161) rfl dX10_offset_159 rfl ?_
    refine x_iconst (v := 1) (pc' := 162) (by decide) dX10_offset_161 rfl ?_
    refine x_iadd (pc' := 163) dX10_offset_162 rfl ?_
    refine x_iload (pc' := 165) rfl dX10_offset_163 rfl ?_
    refine x_iconst (v := 1) (pc' := 166) (by decide) dX10_offset_165 rfl ?_
    refine x_iadd (pc' := 167) dX10_offset_166 rfl ?_
    refine x_iload (pc' := 169) rfl dX10_offset_167 rfl ?_
    refine x_callVi (As := [.int _, .int _, .int _, .int _]) (rest := [.int _, .int _, .int _, .ref _]) (ci := 9) (pc' := 172) rfl vk_X10_87 mk_X10_off (by decide) (by first | assumption | exact ⟨by decide, rfl⟩) (by decide) rfl (Nat.le_of_ble_eq_true rfl) dX10_offset_169 rfl (c_X10_off (K := cX (σ.1 19) G px + 1) (R := cY (σ.1 19) G py + 1) rfl (nI_1 _) (nI_1 _) rfl (by omega)) ?_
    refine x_iload (pc' := 174) rfl dX10_offset_172 rfl ?_
    refine x_i2l (pc' := 175) dX10_offset_174 rfl ?_
    refine x_iload (pc' := 177) rfl dX10_offset_175 rfl ?_
    refine x_i2l (pc' := 178) dX10_offset_177 rfl ?_
    refine x_iload (pc' := 180) rfl dX10_offset_178 rfl ?_
    refine x_i2l (pc' := 181) dX10_offset_180 rfl ?_
    refine x_callVi (As := [.int _, .int _, .int _, .int _, .long _, .long _, .long _]) (rest := []) (ci := 9) (pc' := 184) rfl vk_X10_91 mk_X10_between (by decide) (by first | assumption | exact ⟨by decide, rfl⟩) (by decide) rfl (Nat.le_of_ble_eq_true rfl) dX10_offset_181 rfl (c_X10_between (d2_ne (by omega) (by omega)) (d4_ne (by omega) (by omega))) ?_
    exact x_iret rfl dX10_offset_184 rfl
  have k65 : Ex M_X10_offset (some (.int (offS (σ.1 19) G px py W)), σ) 65 [some (.ref 18), some (.int (nI G)), some (.int (nI px)), some (.int (nI py)), some (.int (nI W)), some (.int (nI (64 * fN (σ.1 19) G 3))), some (.int (nI ((px - stS (σ.1 19) G 0 0) / (64 * fN (σ.1 19) G 3)))), some (.int (nI ((py - stS (σ.1 19) G 0 1) / (64 * fN (σ.1 19) G 3)))), none, none] [.int (nI (cX (σ.1 19) G px))] σ := by
    refine x_istore (lv' := [_, _, _, _, _, _, _, _, _, _]) (pc' := 67) (by decide) rfl dX10_offset_65 rfl ?_
    refine x_iload (pc' := 69) rfl dX10_offset_67 rfl ?_
    refine x_aload_n (pc' := 70) rfl dX10_offset_69 rfl ?_
    refine x_iload_n (pc' := 71) rfl dX10_offset_70 rfl ?_
    refine x_iconst (v := 5) (pc' := 72) (by decide) dX10_offset_71 rfl ?_
    refine x_callVi (As := [.int _, .int _]) (rest := [.int _]) (ci := 9) (pc' := 75) rfl vk_X10_58 mk_X10_its (by decide) (by first | assumption | exact ⟨by decide, rfl⟩) (by decide) rfl (Nat.le_of_ble_eq_true rfl) dX10_offset_72 rfl (c_X10_its (E := 5) rfl rfl (by omega)) ?_
    refine x_iconst (v := 2) (pc' := 76) (by decide) dX10_offset_75 rfl ?_
    refine x_isub (pc' := 77) dX10_offset_76 rfl ?_
    refine x_icmp_le (tgt := 91) (pc' := 80) (by decide) dX10_offset_77 rfl (fun c77 => ?_) (fun c77 => ?_)
    · refine x_iload (pc' := 93) rfl dX10_offset_91 rfl ?_
      exact x_top (by rw [hq2] at c77; rw [cY, cA, ← e01, Nat.min_eq_left ((nI_leI (by omega) (by omega)).mp c77)]) k93
    · refine x_aload_n (pc' := 81) rfl dX10_offset_80 rfl ?_
      refine x_iload_n (pc' := 82) rfl dX10_offset_81 rfl ?_
      refine x_iconst (v := 5) (pc' := 83) (by decide) dX10_offset_82 rfl ?_
      refine x_callVi (As := [.int _, .int _]) (rest := []) (ci := 9) (pc' := 86) rfl vk_X10_58 mk_X10_its (by decide) (by first | assumption | exact ⟨by decide, rfl⟩) (by decide) rfl (Nat.le_of_ble_eq_true rfl) dX10_offset_83 rfl (c_X10_its (E := 5) rfl rfl (by omega)) ?_
      refine x_iconst (v := 2) (pc' := 87) (by decide) dX10_offset_86 rfl ?_
      refine x_isub (pc' := 88) dX10_offset_87 rfl ?_
      refine x_goto (tgt := 93) (by decide) dX10_offset_88 ?_
      exact x_top (by rw [hq2] at c77; rw [hq2, cY, cA, ← e01, Nat.min_eq_right (Nat.le_of_not_le (fun q => c77 (nI_le q (by omega))))]) k93
  refine ct_of (k := 5) rfl rfl rfl (Nat.le_of_ble_eq_true rfl) ?_
  refine x_bipush (v := 64) (pc' := 2) (by decide) dX10_offset_0 rfl ?_
  refine x_aload_n (pc' := 3) rfl dX10_offset_2 rfl ?_
  refine x_iload_n (pc' := 4) rfl dX10_offset_3 rfl ?_
  refine x_iconst (v := 3) (pc' := 5) (by decide) dX10_offset_4 rfl ?_
  refine x_callVi (As := [.int _, .int _]) (rest := [.int _]) (ci := 9) (pc' := 8) rfl vk_X10_58 mk_X10_its (by decide) (by first | assumption | exact ⟨by decide, rfl⟩) (by decide) rfl (Nat.le_of_ble_eq_true rfl) dX10_offset_5 rfl (c_X10_its (E := 3) rfl rfl (by omega)) ?_
  refine x_imul (pc' := 9) dX10_offset_8 rfl ?_
  refine x_top (y := nI (64 * fN (σ.1 19) G 3)) (by rw [hf.at (by omega) (by omega)]; simp only [lit32, pk_mul]) ?_
  refine x_istore (lv' := [_, _, _, _, _, _, _, _, _, _]) (pc' := 11) (by decide) rfl dX10_offset_9 rfl ?_
  refine x_iload_n (pc' := 12) rfl dX10_offset_11 rfl ?_
  refine x_aload_n (pc' := 13) rfl dX10_offset_12 rfl ?_
  refine x_iload_n (pc' := 14) rfl dX10_offset_13 rfl ?_
  refine x_iconst (v := 0) (pc' := 15) (by decide) dX10_offset_14 rfl ?_
  refine x_iconst (v := 0) (pc' := 16) (by decide) dX10_offset_15 rfl ?_
  refine x_callVi (As := [.int _, .int _, .int _]) (rest := [.int _]) (ci := 9) (pc' := 19) rfl vk_X10_66 mk_X10_stands (by decide) (by first | assumption | exact ⟨by decide, rfl⟩) (by decide) rfl (Nat.le_of_ble_eq_true rfl) dX10_offset_16 rfl (c_X10_stands hf (K := 0) (W := 0) rfl rfl rfl hG6 (by decide)) ?_
  refine x_isub (pc' := 20) dX10_offset_19 rfl ?_
  refine x_top (pk_sub hon.1.1) ?_
  refine x_iload (pc' := 22) rfl dX10_offset_20 rfl ?_
  refine x_idiv (pc' := 23) (nI_ne0 (by omega) (by omega)) dX10_offset_22 rfl ?_
  refine x_top (pk_div (by omega) (by omega) (by omega)) ?_
  refine x_istore (lv' := [_, _, _, _, _, _, _, _, _, _]) (pc' := 25) (by decide) rfl dX10_offset_23 rfl ?_
  refine x_iload_n (pc' := 26) rfl dX10_offset_25 rfl ?_
  refine x_aload_n (pc' := 27) rfl dX10_offset_26 rfl ?_
  refine x_iload_n (pc' := 28) rfl dX10_offset_27 rfl ?_
  refine x_iconst (v := 0) (pc' := 29) (by decide) dX10_offset_28 rfl ?_
  refine x_iconst (v := 1) (pc' := 30) (by decide) dX10_offset_29 rfl ?_
  refine x_callVi (As := [.int _, .int _, .int _]) (rest := [.int _]) (ci := 9) (pc' := 33) rfl vk_X10_66 mk_X10_stands (by decide) (by first | assumption | exact ⟨by decide, rfl⟩) (by decide) rfl (Nat.le_of_ble_eq_true rfl) dX10_offset_30 rfl (c_X10_stands hf (K := 0) (W := 1) rfl rfl rfl hG6 (by decide)) ?_
  refine x_isub (pc' := 34) dX10_offset_33 rfl ?_
  refine x_top (pk_sub hon.2.1) ?_
  refine x_iload (pc' := 36) rfl dX10_offset_34 rfl ?_
  refine x_idiv (pc' := 37) (nI_ne0 (by omega) (by omega)) dX10_offset_36 rfl ?_
  refine x_top (pk_div (by omega) (by omega) (by omega)) ?_
  refine x_istore (lv' := [_, _, _, _, _, _, _, _, _, _]) (pc' := 39) (by decide) rfl dX10_offset_37 rfl ?_
  refine x_iload (pc' := 41) rfl dX10_offset_39 rfl ?_
  refine x_aload_n (pc' := 42) rfl dX10_offset_41 rfl ?_
  refine x_iload_n (pc' := 43) rfl dX10_offset_42 rfl ?_
  refine x_iconst (v := 4) (pc' := 44) (by decide) dX10_offset_43 rfl ?_
  refine x_callVi (As := [.int _, .int _]) (rest := [.int _]) (ci := 9) (pc' := 47) rfl vk_X10_58 mk_X10_its (by decide) (by first | assumption | exact ⟨by decide, rfl⟩) (by decide) rfl (Nat.le_of_ble_eq_true rfl) dX10_offset_44 rfl (c_X10_its (E := 4) rfl rfl (by omega)) ?_
  refine x_iconst (v := 2) (pc' := 48) (by decide) dX10_offset_47 rfl ?_
  refine x_isub (pc' := 49) dX10_offset_48 rfl ?_
  refine x_icmp_le (tgt := 63) (pc' := 52) (by decide) dX10_offset_49 rfl (fun c49 => ?_) (fun c49 => ?_)
  · refine x_iload (pc' := 65) rfl dX10_offset_63 rfl ?_
    exact x_top (by rw [hq1] at c49; rw [cX, cA, ← e00, Nat.min_eq_left ((nI_leI (by omega) (by omega)).mp c49)]) k65
  · refine x_aload_n (pc' := 53) rfl dX10_offset_52 rfl ?_
    refine x_iload_n (pc' := 54) rfl dX10_offset_53 rfl ?_
    refine x_iconst (v := 4) (pc' := 55) (by decide) dX10_offset_54 rfl ?_
    refine x_callVi (As := [.int _, .int _]) (rest := []) (ci := 9) (pc' := 58) rfl vk_X10_58 mk_X10_its (by decide) (by first | assumption | exact ⟨by decide, rfl⟩) (by decide) rfl (Nat.le_of_ble_eq_true rfl) dX10_offset_55 rfl (c_X10_its (E := 4) rfl rfl (by omega)) ?_
    refine x_iconst (v := 2) (pc' := 59) (by decide) dX10_offset_58 rfl ?_
    refine x_isub (pc' := 60) dX10_offset_59 rfl ?_
    refine x_goto (tgt := 65) (by decide) dX10_offset_60 ?_
    exact x_top (by rw [hq1] at c49; rw [hq1, cX, cA, ← e00, Nat.min_eq_right (Nat.le_of_not_le (fun q => c49 (nI_le q (by omega))))]) k65
set_option maxRecDepth 100000 in
set_option maxHeartbeats 4000000 in
theorem v_X10_offset {σ : St} {v0 : Nat → Int32} (hs : σ.1 19 = v0) {g x y w : Int32} {G px py W : Nat} (hv : Ok v0) (hG : G < cN v0) (hon : onS v0 G px py) (hg : g = nI G) (hx : x = nI px) (hy : y = nI py) (hw : w = nI W) (hW : W < 2) : Ct yX10_offset M_X10_offset [.ref 18, .int g, .int x, .int y, .int w] σ (some (.int (offS v0 G px py W)), σ) := by
  subst hs
  exact c_X10_offset hv hG hon hg hx hy hw hW
/-- what a place is moved by -/
noncomputable def mvS (v : Nat → Int32) (px py w : Nat) : Int32 := pif (owS v px py (cN v) = -1) 0 (offS v (owS v px py (cN v)).toNatClampNeg px py w)
set_option maxRecDepth 100000 in
set_option maxHeartbeats 4000000 in
theorem c_X10_movedBy {σ : St} {x y w : Int32} {px py W : Nat} (hv : Ok (σ.1 19)) (hx : x = nI px) (hy : y = nI py) (hw : w = nI W) (hpx : px ≤ 64000) (hpy : py ≤ 64000) (hW : W < 2) : Ct yX10_movedBy M_X10_movedBy [.ref 18, .int x, .int y, .int w] σ (some (.int (mvS (σ.1 19) px py W)), σ) := by
  subst hx
  subst hy
  subst hw
  refine ct_of (k := 1) rfl rfl rfl (Nat.le_of_ble_eq_true rfl) ?_
  refine x_aload_n (pc' := 1) rfl dX10_movedBy_0 rfl ?_
  refine x_iload_n (pc' := 2) rfl dX10_movedBy_1 rfl ?_
  refine x_iload_n (pc' := 3) rfl dX10_movedBy_2 rfl ?_
  refine x_callVi (As := [.int _, .int _]) (rest := []) (ci := 9) (pc' := 6) rfl vk_X10_95 mk_X10_belongs (by decide) (by first | assumption | exact ⟨by decide, rfl⟩) (by decide) rfl (Nat.le_of_ble_eq_true rfl) dX10_movedBy_3 rfl (c_X10_belongs hv (by omega) (by omega)) ?_
  refine x_istore (lv' := [_, _, _, _, _]) (pc' := 8) (by decide) rfl dX10_movedBy_6 rfl ?_
  refine x_iload (pc' := 10) rfl dX10_movedBy_8 rfl ?_
  refine x_iconst (v := (-1)) (pc' := 11) (by decide) dX10_movedBy_10 rfl ?_
  refine x_icmp_ne (tgt := 18) (pc' := 14) (by decide) dX10_movedBy_11 rfl (fun c11 => ?_) (fun c11 => ?_)
  · obtain ⟨gg, hg1, hg2, hg3⟩ := (owS_spec (σ.1 19) px py (cN (σ.1 19))).resolve_left c11
    have h6 := hv.c6
    refine x_aload_n (pc' := 19) rfl dX10_movedBy_18 rfl ?_
    refine x_iload (pc' := 21) rfl dX10_movedBy_19 rfl ?_
    refine x_iload_n (pc' := 22) rfl dX10_movedBy_21 rfl ?_
    refine x_iload_n (pc' := 23) rfl dX10_movedBy_22 rfl ?_
    refine x_iload_n (pc' := 24) rfl dX10_movedBy_23 rfl ?_
    refine x_callVi (As := [.int _, .int _, .int _, .int _]) (rest := []) (ci := 9) (pc' := 27) rfl vk_X10_98 mk_X10_offset (by decide) (by first | assumption | exact ⟨by decide, rfl⟩) (by decide) rfl (Nat.le_of_ble_eq_true rfl) dX10_movedBy_24 rfl (c_X10_offset hv hg1 hg3 hg2 rfl rfl rfl hW) ?_
    exact x_iret rfl dX10_movedBy_27 (ret_i (by rw [mvS, pif_f c11, hg2, nI_clamp (by omega)]))
  · refine x_iconst (v := 0) (pc' := 15) (by decide) dX10_movedBy_14 rfl ?_
    refine x_goto (tgt := 27) (by decide) dX10_movedBy_15 ?_
    exact x_iret rfl dX10_movedBy_27 (ret_i (by rw [mvS, pif_t c11]))
set_option maxRecDepth 100000 in
set_option maxHeartbeats 4000000 in
theorem v_X10_movedBy {σ : St} {v0 : Nat → Int32} (hs : σ.1 19 = v0) {x y w : Int32} {px py W : Nat} (hv : Ok v0) (hx : x = nI px) (hy : y = nI py) (hw : w = nI W) (hpx : px ≤ 64000) (hpy : py ≤ 64000) (hW : W < 2) : Ct yX10_movedBy M_X10_movedBy [.ref 18, .int x, .int y, .int w] σ (some (.int (mvS v0 px py W)), σ) := by
  subst hs
  exact c_X10_movedBy hv hx hy hw hpx hpy hW
end
section
def brd (v : Nat → Int32) (g c r : Nat) : Prop := c = 0 ∨ r = 0 ∨ c = fN v g 4 - 1 ∨ r = fN v g 5 - 1
def pN (v : Nat → Int32) (g : Nat) : Nat := (v (2 + 6 * g)).toNatClampNeg
def ofpS (v : Nat → Int32) (g c r w : Nat) : Int32 := offS v (pN v g) (stS v g c 0) (stS v g r 1) w
def gapS (v : Nat → Int32) (g c r : Nat) : Int32 := mx (ab (oV v g c r 0 - ofpS v g c r 0)) (ab (oV v g c r 1 - ofpS v g c r 1))
theorem ins_on {v : Nat → Int32} (hv : Ok v) {g c r : Nat} (hg : g < cN v) (hp : ¬ v (2 + 6 * g) = -1) (hc : c < fN v g 4) (hr : r < fN v g 5) : pN v g < g ∧ v (2 + 6 * g) = nI (pN v g) ∧ onS v (pN v g) (stS v g c 0) (stS v g r 1) := by
  rcases (hv.2.2.2.2 g hg).1 with h1 | ⟨j, h1, h2, h3⟩
  · exact absurd h1 hp
  · have h6 := hv.c6
    have e : pN v g = j := by rw [pN, h2, nI_clamp (by omega)]
    rw [e]
    refine ⟨h1, h2, ?_⟩
    obtain ⟨i1, i2, i3, i4⟩ := h3
    have m1 : c * fN v g 3 ≤ (fN v g 4 - 1) * fN v g 3 := Nat.mul_le_mul_right _ (by omega)
    have m2 : r * fN v g 3 ≤ (fN v g 5 - 1) * fN v g 3 := Nat.mul_le_mul_right _ (by omega)
    unfold onS stS
    refine ⟨⟨?_, ?_⟩, ?_, ?_⟩
    · show 64 * (fN v j 1 + 0 * fN v j 3) ≤ 64 * (fN v g 1 + c * fN v g 3)
      rw [Nat.zero_mul]; omega
    · show 64 * (fN v g 1 + c * fN v g 3) ≤ 64 * (fN v j 1 + (fN v j 4 - 1) * fN v j 3)
      omega
    · show 64 * (fN v j 2 + 0 * fN v j 3) ≤ 64 * (fN v g 2 + r * fN v g 3)
      rw [Nat.zero_mul]; omega
    · show 64 * (fN v g 2 + r * fN v g 3) ≤ 64 * (fN v j 2 + (fN v j 5 - 1) * fN v j 3)
      omega
theorem Ok.b {v : Nat → Int32} (hv : Ok v) {g : Nat} (hg : g < cN v) : g < 6 ∧ fN v g 4 ≤ 5 ∧ fN v g 5 ≤ 5 ∧ 2 ≤ fN v g 4 ∧ 2 ≤ fN v g 5 ∧ 1 ≤ fN v g 3 ∧ fN v g 3 ≤ 64 := by
  have hf := hv.F hg
  have h6 := hv.c6
  exact ⟨by omega, hf.2.2.2.2.1, hf.2.2.2.2.2.2.1, hf.2.2.2.1, hf.2.2.2.2.2.1, hf.2.1, hf.2.2.1⟩
theorem nI_eqZ {a : Nat} (h : a < 2 ^ 31) : nI a = 0 ↔ a = 0 := nI_eq (b := 0) h (by decide)
set_option maxRecDepth 100000 in
set_option maxHeartbeats 4000000 in
theorem c_X10_isBorder {σ : St} {g c r : Int32} {G K R : Nat} (hv : Ok (σ.1 19)) (hG : G < cN (σ.1 19)) (hg : g = nI G) (hc : c = nI K) (hr : r = nI R) (hK : K < fN (σ.1 19) G 4) (hR : R < fN (σ.1 19) G 5) : Ct yX10_isBorder M_X10_isBorder [.ref 18, .int g, .int c, .int r] σ (some (.int (pb (brd (σ.1 19) G K R))), σ) := by
  subst hg
  subst hc
  subst hr
  obtain ⟨g6, c5, r5, c2, r2, s1, s64⟩ := hv.b hG
  have hf := hv.F hG
  have e4 : σ.1 19 (2 + 6 * G + 4) - 1 = nI (fN (σ.1 19) G 4 - 1) := by rw [hf.at (by omega) (by omega)]; exact pk_sub (b := 1) (by omega)
  have e5 : σ.1 19 (2 + 6 * G + 5) - 1 = nI (fN (σ.1 19) G 5 - 1) := by rw [hf.at (by omega) (by omega)]; exact pk_sub (b := 1) (by omega)
  refine ct_of (k := 0) rfl rfl rfl (Nat.le_of_ble_eq_true rfl) ?_
  refine x_iload_n (pc' := 1) rfl dX10_isBorder_0 rfl ?_
  refine x_if_eq (tgt := 32) (pc' := 4) (by decide) dX10_isBorder_1 rfl (fun c1 => ?_) (fun c1 => ?_)
  · refine x_iconst (v := 1) (pc' := 33) (by decide) dX10_isBorder_32 rfl ?_
    refine x_goto (tgt := 37) (by decide) dX10_isBorder_33 ?_
    exact x_zret rfl (by first | rfl | exact b01_nar _ | exact pb_nar _) dX10_isBorder_37 (ret_i (pb_1 (Or.inl ((nI_eqZ (by omega)).mp c1))).symm)
  · refine x_iload_n (pc' := 5) rfl dX10_isBorder_4 rfl ?_
    refine x_if_eq (tgt := 32) (pc' := 8) (by decide) dX10_isBorder_5 rfl (fun c5 => ?_) (fun c5 => ?_)
    · refine x_iconst (v := 1) (pc' := 33) (by decide) dX10_isBorder_32 rfl ?_
      refine x_goto (tgt := 37) (by decide) dX10_isBorder_33 ?_
      exact x_zret rfl (by first | rfl | exact b01_nar _ | exact pb_nar _) dX10_isBorder_37 (ret_i (pb_1 (Or.inr (Or.inl ((nI_eqZ (by omega)).mp c5)))).symm)
    · refine x_iload_n (pc' := 9) rfl dX10_isBorder_8 rfl ?_
      refine x_aload_n (pc' := 10) rfl dX10_isBorder_9 rfl ?_
      refine x_iload_n (pc' := 11) rfl dX10_isBorder_10 rfl ?_
      refine x_iconst (v := 4) (pc' := 12) (by decide) dX10_isBorder_11 rfl ?_
      refine x_callVi (As := [.int _, .int _]) (rest := [.int _]) (ci := 9) (pc' := 15) rfl vk_X10_58 mk_X10_its (by decide) (by first | assumption | exact ⟨by decide, rfl⟩) (by decide) rfl (Nat.le_of_ble_eq_true rfl) dX10_isBorder_12 rfl (c_X10_its (E := 4) rfl rfl (by omega)) ?_
      refine x_iconst (v := 1) (pc' := 16) (by decide) dX10_isBorder_15 rfl ?_
      refine x_isub (pc' := 17) dX10_isBorder_16 rfl ?_
      refine x_icmp_eq (tgt := 32) (pc' := 20) (by decide) dX10_isBorder_17 rfl (fun c17 => ?_) (fun c17 => ?_)
      · refine x_iconst (v := 1) (pc' := 33) (by decide) dX10_isBorder_32 rfl ?_
        refine x_goto (tgt := 37) (by decide) dX10_isBorder_33 ?_
        exact x_zret rfl (by first | rfl | exact b01_nar _ | exact pb_nar _) dX10_isBorder_37 (ret_i (pb_1 (Or.inr (Or.inr (Or.inl ((nI_eq (by omega) (by omega)).mp (c17.trans e4)))))).symm)
      · refine x_iload_n (pc' := 21) rfl dX10_isBorder_20 rfl ?_
        refine x_aload_n (pc' := 22) rfl dX10_isBorder_21 rfl ?_
        refine x_iload_n (pc' := 23) rfl dX10_isBorder_22 rfl ?_
        refine x_iconst (v := 5) (pc' := 24) (by decide) dX10_isBorder_23 rfl ?_
        refine x_callVi (As := [.int _, .int _]) (rest := [.int _]) (ci := 9) (pc' := 27) rfl vk_X10_58 mk_X10_its (by decide) (by first | assumption | exact ⟨by decide, rfl⟩) (by decide) rfl (Nat.le_of_ble_eq_true rfl) dX10_isBorder_24 rfl (c_X10_its (E := 5) rfl rfl (by omega)) ?_
        refine x_iconst (v := 1) (pc' := 28) (by decide) dX10_isBorder_27 rfl ?_
        refine x_isub (pc' := 29) dX10_isBorder_28 rfl ?_
        refine x_icmp_ne (tgt := 36) (pc' := 32) (by decide) dX10_isBorder_29 rfl (fun c29 => ?_) (fun c29 => ?_)
        · refine x_iconst (v := 0) (pc' := 37) (by decide) dX10_isBorder_36 rfl ?_
          exact x_zret rfl (by first | rfl | exact b01_nar _ | exact pb_nar _) dX10_isBorder_37 (ret_i (pb_0 (fun q => q.elim (fun h => c1 (by rw [h]; rfl)) (fun q => q.elim (fun h => c5 (by rw [h]; rfl)) (fun q => q.elim (fun h => c17 (by rw [e4, h])) (fun h => c29 (by rw [e5, h])))))).symm)
        · refine x_iconst (v := 1) (pc' := 33) (by decide) dX10_isBorder_32 rfl ?_
          refine x_goto (tgt := 37) (by decide) dX10_isBorder_33 ?_
          exact x_zret rfl (by first | rfl | exact b01_nar _ | exact pb_nar _) dX10_isBorder_37 (ret_i (pb_1 (Or.inr (Or.inr (Or.inr ((nI_eq (by omega) (by omega)).mp (c29.trans e5)))))).symm)
set_option maxRecDepth 100000 in
set_option maxHeartbeats 4000000 in
theorem v_X10_isBorder {σ : St} {v0 : Nat → Int32} (hs : σ.1 19 = v0) {g c r : Int32} {G K R : Nat} (hv : Ok v0) (hG : G < cN v0) (hg : g = nI G) (hc : c = nI K) (hr : r = nI R) (hK : K < fN v0 G 4) (hR : R < fN v0 G 5) : Ct yX10_isBorder M_X10_isBorder [.ref 18, .int g, .int c, .int r] σ (some (.int (pb (brd v0 G K R))), σ) := by
  subst hs
  exact c_X10_isBorder hv hG hg hc hr hK hR
set_option maxRecDepth 100000 in
set_option maxHeartbeats 4000000 in
theorem c_X10_ofParent {σ : St} {g c r w : Int32} {G K R W : Nat} (hv : Ok (σ.1 19)) (hG : G < cN (σ.1 19)) (hp : ¬ σ.1 19 (2 + 6 * G) = -1) (hg : g = nI G) (hc : c = nI K) (hr : r = nI R) (hK : K < fN (σ.1 19) G 4) (hR : R < fN (σ.1 19) G 5) (hw : w = nI W) (hW : W < 2) : Ct yX10_ofParent M_X10_ofParent [.ref 18, .int g, .int c, .int r, .int w] σ (some (.int (ofpS (σ.1 19) G K R W)), σ) := by
  subst hg
  subst hc
  subst hr
  obtain ⟨g6, c5, r5, c2, r2, s1, s64⟩ := hv.b hG
  have hf := hv.F hG
  subst hw
  obtain ⟨i1, i2, i3⟩ := ins_on hv hG hp hK hR
  refine ct_of (k := 0) rfl rfl rfl (Nat.le_of_ble_eq_true rfl) ?_
  refine x_aload_n (pc' := 1) rfl dX10_ofParent_0 rfl ?_
  refine x_aload_n (pc' := 2) rfl dX10_ofParent_1 rfl ?_
  refine x_iload_n (pc' := 3) rfl dX10_ofParent_2 rfl ?_
  refine x_iconst (v := 0) (pc' := 4) (by decide) dX10_ofParent_3 rfl ?_
  refine x_callVi (As := [.int _, .int _]) (rest := [.ref _]) (ci := 9) (pc' := 7) rfl vk_X10_58 mk_X10_its (by decide) (by first | assumption | exact ⟨by decide, rfl⟩) (by decide) rfl (Nat.le_of_ble_eq_true rfl) dX10_ofParent_4 rfl (c_X10_its (E := 0) rfl rfl (by omega)) ?_
  refine x_aload_n (pc' := 8) rfl dX10_ofParent_7 rfl ?_
  refine x_iload_n (pc' := 9) rfl dX10_ofParent_8 rfl ?_
  refine x_iload_n (pc' := 10) rfl dX10_ofParent_9 rfl ?_
  refine x_iconst (v := 0) (pc' := 11) (by decide) dX10_ofParent_10 rfl ?_
  refine x_callVi (As := [.int _, .int _, .int _]) (rest := [.int _, .ref _]) (ci := 9) (pc' := 14) rfl vk_X10_66 mk_X10_stands (by decide) (by first | assumption | exact ⟨by decide, rfl⟩) (by decide) rfl (Nat.le_of_ble_eq_true rfl) dX10_ofParent_11 rfl (c_X10_stands hf rfl rfl (W := 0) rfl g6 (by decide)) ?_
  refine x_aload_n (pc' := 15) rfl dX10_ofParent_14 rfl ?_
  refine x_iload_n (pc' := 16) rfl dX10_ofParent_15 rfl ?_
  refine x_iload_n (pc' := 17) rfl dX10_ofParent_16 rfl ?_
  refine x_iconst (v := 1) (pc' := 18) (by decide) dX10_ofParent_17 rfl ?_
  refine x_callVi (As := [.int _, .int _, .int _]) (rest := [.int _, .int _, .ref _]) (ci := 9) (pc' := 21) rfl vk_X10_66 mk_X10_stands (by decide) (by first | assumption | exact ⟨by decide, rfl⟩) (by decide) rfl (Nat.le_of_ble_eq_true rfl) dX10_ofParent_18 rfl (c_X10_stands hf rfl rfl (W := 1) rfl g6 (by decide)) ?_
  refine x_iload (pc' := 23) rfl dX10_ofParent_21 rfl ?_
  refine x_callVi (As := [.int _, .int _, .int _, .int _]) (rest := []) (ci := 9) (pc' := 26) rfl vk_X10_98 mk_X10_offset (by decide) (by first | assumption | exact ⟨by decide, rfl⟩) (by decide) rfl (Nat.le_of_ble_eq_true rfl) dX10_ofParent_23 rfl (c_X10_offset hv (Nat.lt_trans i1 hG) i3 i2 rfl rfl rfl hW) ?_
  exact x_iret rfl dX10_ofParent_26 rfl
set_option maxRecDepth 100000 in
set_option maxHeartbeats 4000000 in
theorem v_X10_ofParent {σ : St} {v0 : Nat → Int32} (hs : σ.1 19 = v0) {g c r w : Int32} {G K R W : Nat} (hv : Ok v0) (hG : G < cN v0) (hp : ¬ v0 (2 + 6 * G) = -1) (hg : g = nI G) (hc : c = nI K) (hr : r = nI R) (hK : K < fN v0 G 4) (hR : R < fN v0 G 5) (hw : w = nI W) (hW : W < 2) : Ct yX10_ofParent M_X10_ofParent [.ref 18, .int g, .int c, .int r, .int w] σ (some (.int (ofpS v0 G K R W)), σ) := by
  subst hs
  exact c_X10_ofParent hv hG hp hg hc hr hK hR hw hW
set_option maxRecDepth 100000 in
set_option maxHeartbeats 4000000 in
theorem c_X10_gapAt {σ : St} {g c r : Int32} {G K R : Nat} (hv : Ok (σ.1 19)) (hG : G < cN (σ.1 19)) (hp : ¬ σ.1 19 (2 + 6 * G) = -1) (hg : g = nI G) (hc : c = nI K) (hr : r = nI R) (hK : K < fN (σ.1 19) G 4) (hR : R < fN (σ.1 19) G 5) : Ct yX10_gapAt M_X10_gapAt [.ref 18, .int g, .int c, .int r] σ (some (.int (gapS (σ.1 19) G K R)), σ) := by
  subst hg
  subst hc
  subst hr
  obtain ⟨g6, c5, r5, c2, r2, s1, s64⟩ := hv.b hG
  have hf := hv.F hG
  refine ct_of (k := 1) rfl rfl rfl (Nat.le_of_ble_eq_true rfl) ?_
  refine x_aload_n (pc' := 1) rfl dX10_gapAt_0 rfl ?_
  refine x_iload_n (pc' := 2) rfl dX10_gapAt_1 rfl ?_
  refine x_iload_n (pc' := 3) rfl dX10_gapAt_2 rfl ?_
  refine x_iload_n (pc' := 4) rfl dX10_gapAt_3 rfl ?_
  refine x_iconst (v := 0) (pc' := 5) (by decide) dX10_gapAt_4 rfl ?_
  refine x_callVi (As := [.int _, .int _, .int _, .int _]) (rest := []) (ci := 9) (pc' := 8) rfl vk_X10_87 mk_X10_off (by decide) (by first | assumption | exact ⟨by decide, rfl⟩) (by decide) rfl (Nat.le_of_ble_eq_true rfl) dX10_gapAt_5 rfl (c_X10_off (W := 0) rfl rfl rfl rfl (by omega)) ?_
  refine x_aload_n (pc' := 9) rfl dX10_gapAt_8 rfl ?_
  refine x_iload_n (pc' := 10) rfl dX10_gapAt_9 rfl ?_
  refine x_iload_n (pc' := 11) rfl dX10_gapAt_10 rfl ?_
  refine x_iload_n (pc' := 12) rfl dX10_gapAt_11 rfl ?_
  refine x_iconst (v := 0) (pc' := 13) (by decide) dX10_gapAt_12 rfl ?_
  refine x_callVi (As := [.int _, .int _, .int _, .int _]) (rest := [.int _]) (ci := 9) (pc' := 16) rfl vk_X10_101 mk_X10_ofParent (by decide) (by first | assumption | exact ⟨by decide, rfl⟩) (by decide) rfl (Nat.le_of_ble_eq_true rfl) dX10_gapAt_13 rfl (c_X10_ofParent hv hG hp rfl rfl rfl hK hR (W := 0) rfl (by decide)) ?_
  refine x_isub (pc' := 17) dX10_gapAt_16 rfl ?_
  refine x_callSi (As := [.int _]) (rest := []) (pc' := 20) rfl sk_X10_104 mk_X10_size (by decide) rfl (Nat.le_of_ble_eq_true rfl) dX10_gapAt_17 rfl c_X10_size ?_
  refine x_istore (lv' := [_, _, _, _, _]) (pc' := 22) (by decide) rfl dX10_gapAt_20 rfl ?_
  refine x_iload (pc' := 24) rfl dX10_gapAt_22 rfl ?_
  refine x_aload_n (pc' := 25) rfl dX10_gapAt_24 rfl ?_
  refine x_iload_n (pc' := 26) rfl dX10_gapAt_25 rfl ?_
  refine x_iload_n (pc' := 27) rfl dX10_gapAt_26 rfl ?_
  refine x_iload_n (pc' := 28) rfl dX10_gapAt_27 rfl ?_
  refine x_iconst (v := 1) (pc' := 29) (by decide) dX10_gapAt_28 rfl ?_
  refine x_callVi (As := [.int _, .int _, .int _, .int _]) (rest := [.int _]) (ci := 9) (pc' := 32) rfl vk_X10_87 mk_X10_off (by decide) (by first | assumption | exact ⟨by decide, rfl⟩) (by decide) rfl (Nat.le_of_ble_eq_true rfl) dX10_gapAt_29 rfl (c_X10_off (W := 1) rfl rfl rfl rfl (by omega)) ?_
  refine x_aload_n (pc' := 33) rfl dX10_gapAt_32 rfl ?_
  refine x_iload_n (pc' := 34) rfl dX10_gapAt_33 rfl ?_
  refine x_iload_n (pc' := 35) rfl dX10_gapAt_34 rfl ?_
  refine x_iload_n (pc' := 36) rfl dX10_gapAt_35 rfl ?_
  refine x_iconst (v := 1) (pc' := 37) (by decide) dX10_gapAt_36 rfl ?_
  refine x_callVi (As := [.int _, .int _, .int _, .int _]) (rest := [.int _, .int _]) (ci := 9) (pc' := 40) rfl vk_X10_101 mk_X10_ofParent (by decide) (by first | assumption | exact ⟨by decide, rfl⟩) (by decide) rfl (Nat.le_of_ble_eq_true rfl) dX10_gapAt_37 rfl (c_X10_ofParent hv hG hp rfl rfl rfl hK hR (W := 1) rfl (by decide)) ?_
  refine x_isub (pc' := 41) dX10_gapAt_40 rfl ?_
  refine x_callSi (As := [.int _]) (rest := [.int _]) (pc' := 44) rfl sk_X10_104 mk_X10_size (by decide) rfl (Nat.le_of_ble_eq_true rfl) dX10_gapAt_41 rfl c_X10_size ?_
  refine x_callSi (As := [.int _, .int _]) (rest := []) (pc' := 47) rfl sk_X10_108 mk_X10_larger (by decide) rfl (Nat.le_of_ble_eq_true rfl) dX10_gapAt_44 rfl c_X10_larger ?_
  exact x_iret rfl dX10_gapAt_47 rfl
set_option maxRecDepth 100000 in
set_option maxHeartbeats 4000000 in
theorem v_X10_gapAt {σ : St} {v0 : Nat → Int32} (hs : σ.1 19 = v0) {g c r : Int32} {G K R : Nat} (hv : Ok v0) (hG : G < cN v0) (hp : ¬ v0 (2 + 6 * G) = -1) (hg : g = nI G) (hc : c = nI K) (hr : r = nI R) (hK : K < fN v0 G 4) (hR : R < fN v0 G 5) : Ct yX10_gapAt M_X10_gapAt [.ref 18, .int g, .int c, .int r] σ (some (.int (gapS v0 G K R)), σ) := by
  subst hs
  exact c_X10_gapAt hv hG hp hg hc hr hK hR
def g2 (σ : St) (a b : Int32) : St := pI (pI σ 18 12 a) 18 13 b
theorem st_ext {σ τ : St} (h1 : ∀ k j, σ.1 k j = τ.1 k j) (h2 : σ.2 = τ.2) : σ = τ := Prod.ext (funext fun k => funext fun j => h1 k j) h2
theorem pI_app (σ : St) (k j : Nat) (v : Int32) (a b : Nat) : (pI σ k j v).1 a b = if a = k ∧ b = j then v else σ.1 a b := rfl
theorem g2_app (σ : St) (a b : Int32) (k j : Nat) : (g2 σ a b).1 k j = if k = 18 ∧ j = 13 then b else if k = 18 ∧ j = 12 then a else σ.1 k j := rfl
theorem g2_n {σ : St} {a b : Int32} {k : Nat} (h : k ≠ 18) : (g2 σ a b).1 k = σ.1 k := by
  rw [g2, pI_ne h, pI_ne h]
theorem g2_12 (σ : St) (a b : Int32) : (g2 σ a b).1 18 12 = a := rfl
theorem g2_13 (σ : St) (a b : Int32) : (g2 σ a b).1 18 13 = b := rfl
theorem g2_p12 (σ : St) (a b x : Int32) : pI (g2 σ a b) 18 12 x = g2 σ x b := by
  refine st_ext (fun k j => ?_) rfl
  rw [pI_app, g2_app, g2_app]
  by_cases h : k = 18 ∧ j = 12
  · rw [if_pos h, if_neg (by omega), if_pos h]
  · simp only [if_neg h]
theorem g2_p13 (σ : St) (a b x : Int32) : pI (g2 σ a b) 18 13 x = g2 σ a x := by
  refine st_ext (fun k j => ?_) rfl
  rw [pI_app, g2_app, g2_app]
  by_cases h : k = 18 ∧ j = 13
  · rw [if_pos h, if_pos h]
  · simp only [if_neg h]
noncomputable def gcnt (v : Nat → Int32) (g k : Nat) : Nat := pif (brd v g (k % fN v g 4) (k / fN v g 4) ∧ 0 < gapS v g (k % fN v g 4) (k / fN v g 4)) 1 0
noncomputable def gmx (v : Nat → Int32) (g k : Nat) : Int32 := pif (brd v g (k % fN v g 4) (k / fN v g 4)) (gapS v g (k % fN v g 4) (k / fN v g 4)) 0
noncomputable def gapN (v : Nat → Int32) (g : Nat) : Nat := pif (v (2 + 6 * g) = -1) 0 (sumN (gcnt v g) (fN v g 4 * fN v g 5))
noncomputable def gapM (v : Nat → Int32) (g : Nat) : Int32 := pif (v (2 + 6 * g) = -1) 0 (maxN (gmx v g) (fN v g 4 * fN v g 5))
theorem kmod {k C R : Nat} (hC : 0 < C) (h : k < C * R) : k % C < C ∧ k / C < R := ⟨Nat.mod_lt _ hC, Nat.div_lt_of_lt_mul h⟩
set_option maxRecDepth 100000 in
set_option maxHeartbeats 4000000 in
theorem l_X10_gaps {σ : St} {G : Nat} (hv : Ok (σ.1 19)) (hG : G < cN (σ.1 19)) (hp : ¬ σ.1 19 (2 + 6 * G) = -1) : ∀ (n k : Nat) (a b : Int32) (A B : Option Value), k + n = fN (σ.1 19) G 4 * fN (σ.1 19) G 5 → a = nI (sumN (gcnt (σ.1 19) G) k) → b = maxN (gmx (σ.1 19) G) k → Ex M_X10_gaps (none, g2 σ (nI (sumN (gcnt (σ.1 19) G) (fN (σ.1 19) G 4 * fN (σ.1 19) G 5))) (maxN (gmx (σ.1 19) G) (fN (σ.1 19) G 4 * fN (σ.1 19) G 5))) 12 [some (.ref 18), some (.int (nI G)), some (.int (nI k)), A, B] [] (g2 σ a b) := by
  intro n
  induction n with
  | zero =>
    intro k a b A B hk ha hb
    obtain ⟨g6, c5, r5, c2, r2, s1, s64⟩ := hv.b hG
    have hf := hv.F hG
    have hs : (g2 σ a b).1 19 = σ.1 19 := g2_n (by decide)
    obtain rfl : k = fN (σ.1 19) G 4 * fN (σ.1 19) G 5 := by omega
    have hm : fN (σ.1 19) G 4 * fN (σ.1 19) G 5 ≤ 5 * 5 := Nat.mul_le_mul c5 r5
    refine x_iload_n (pc' := 13) rfl dX10_gaps_12 rfl ?_
    refine x_aload_n (pc' := 14) rfl dX10_gaps_13 rfl ?_
    refine x_iload_n (pc' := 15) rfl dX10_gaps_14 rfl ?_
    refine x_iconst (v := 4) (pc' := 16) (by decide) dX10_gaps_15 rfl ?_
    refine x_callVi (As := [.int _, .int _]) (rest := [.int _]) (ci := 9) (pc' := 19) rfl vk_X10_58 mk_X10_its (by decide) (by first | assumption | exact ⟨by decide, rfl⟩) (by decide) rfl (Nat.le_of_ble_eq_true rfl) dX10_gaps_16 rfl (v_X10_its hs (E := 4) rfl rfl (by omega)) ?_
    refine x_aload_n (pc' := 20) rfl dX10_gaps_19 rfl ?_
    refine x_iload_n (pc' := 21) rfl dX10_gaps_20 rfl ?_
    refine x_iconst (v := 5) (pc' := 22) (by decide) dX10_gaps_21 rfl ?_
    refine x_callVi (As := [.int _, .int _]) (rest := [.int _, .int _]) (ci := 9) (pc' := 25) rfl vk_X10_58 mk_X10_its (by decide) (by first | assumption | exact ⟨by decide, rfl⟩) (by decide) rfl (Nat.le_of_ble_eq_true rfl) dX10_gaps_22 rfl (v_X10_its hs (E := 5) rfl rfl (by omega)) ?_
    refine x_imul (pc' := 26) dX10_gaps_25 rfl ?_
    refine x_icmp_ge (tgt := 119) (pc' := 29) (by decide) dX10_gaps_26 rfl (fun c26 => ?_) (fun c26 => absurd (by rw [hf.at (by omega) (by omega), hf.at (by omega) (by omega), pk_mul]; exact nI_le (by omega) (by omega)) c26)
    exact x_vret rfl dX10_gaps_119 (by rw [ha, hb])
  | succ n ih =>
    intro k a b A B hk ha hb
    obtain ⟨g6, c5, r5, c2, r2, s1, s64⟩ := hv.b hG
    have hf := hv.F hG
    have hs : (g2 σ a b).1 19 = σ.1 19 := g2_n (by decide)
    have hm : fN (σ.1 19) G 4 * fN (σ.1 19) G 5 ≤ 5 * 5 := Nat.mul_le_mul c5 r5
    obtain ⟨k1, k2⟩ := kmod (k := k) (C := fN (σ.1 19) G 4) (R := fN (σ.1 19) G 5) (by omega) (by omega)
    refine x_iload_n (pc' := 13) rfl dX10_gaps_12 rfl ?_
    refine x_aload_n (pc' := 14) rfl dX10_gaps_13 rfl ?_
    refine x_iload_n (pc' := 15) rfl dX10_gaps_14 rfl ?_
    refine x_iconst (v := 4) (pc' := 16) (by decide) dX10_gaps_15 rfl ?_
    refine x_callVi (As := [.int _, .int _]) (rest := [.int _]) (ci := 9) (pc' := 19) rfl vk_X10_58 mk_X10_its (by decide) (by first | assumption | exact ⟨by decide, rfl⟩) (by decide) rfl (Nat.le_of_ble_eq_true rfl) dX10_gaps_16 rfl (v_X10_its hs (E := 4) rfl rfl (by omega)) ?_
    refine x_aload_n (pc' := 20) rfl dX10_gaps_19 rfl ?_
    refine x_iload_n (pc' := 21) rfl dX10_gaps_20 rfl ?_
    refine x_iconst (v := 5) (pc' := 22) (by decide) dX10_gaps_21 rfl ?_
    refine x_callVi (As := [.int _, .int _]) (rest := [.int _, .int _]) (ci := 9) (pc' := 25) rfl vk_X10_58 mk_X10_its (by decide) (by first | assumption | exact ⟨by decide, rfl⟩) (by decide) rfl (Nat.le_of_ble_eq_true rfl) dX10_gaps_22 rfl (v_X10_its hs (E := 5) rfl rfl (by omega)) ?_
    refine x_imul (pc' := 26) dX10_gaps_25 rfl ?_
    refine x_icmp_ge (tgt := 119) (pc' := 29) (by decide) dX10_gaps_26 rfl (fun c26 => absurd c26 (by rw [hf.at (by omega) (by omega), hf.at (by omega) (by omega), pk_mul]; exact nI_ge (by omega) (by omega))) (fun c26 => ?_)
    refine x_aload_n (pc' := 30) rfl dX10_gaps_29 rfl ?_
    refine x_iload_n (pc' := 31) rfl dX10_gaps_30 rfl ?_
    refine x_iconst (v := 0) (pc' := 32) (by decide) dX10_gaps_31 rfl ?_
    refine x_callVi (As := [.int _, .int _]) (rest := []) (ci := 9) (pc' := 35) rfl vk_X10_58 mk_X10_its (by decide) (by first | assumption | exact ⟨by decide, rfl⟩) (by decide) rfl (Nat.le_of_ble_eq_true rfl) dX10_gaps_32 rfl (v_X10_its hs (E := 0) rfl rfl (by omega)) ?_
    refine x_iconst (v := (-1)) (pc' := 36) (by decide) dX10_gaps_35 rfl ?_
    refine x_icmp_eq (tgt := 119) (pc' := 39) (by decide) dX10_gaps_36 rfl (fun c36 => absurd c36 hp) (fun c36 => ?_)
    refine x_iload_n (pc' := 40) rfl dX10_gaps_39 rfl ?_
    refine x_aload_n (pc' := 41) rfl dX10_gaps_40 rfl ?_
    refine x_iload_n (pc' := 42) rfl dX10_gaps_41 rfl ?_
    refine x_iconst (v := 4) (pc' := 43) (by decide) dX10_gaps_42 rfl ?_
    refine x_callVi (As := [.int _, .int _]) (rest := [.int _]) (ci := 9) (pc' := 46) rfl vk_X10_58 mk_X10_its (by decide) (by first | assumption | exact ⟨by decide, rfl⟩) (by decide) rfl (Nat.le_of_ble_eq_true rfl) dX10_gaps_43 rfl (v_X10_its hs (E := 4) rfl rfl (by omega)) ?_
    refine x_irem (pc' := 47) (by rw [hf.at (by omega) (by omega)]; exact nI_ne0 (by omega) (by omega)) dX10_gaps_46 rfl ?_
    refine x_top (y := nI (k % fN (σ.1 19) G 4)) (by rw [hf.at (by omega) (by omega)]; exact pk_rem (by omega) (by omega) (by omega)) ?_
    refine x_istore_n (lv' := [_, _, _, _, _]) (pc' := 48) (by decide) rfl dX10_gaps_47 rfl ?_
    refine x_iload_n (pc' := 49) rfl dX10_gaps_48 rfl ?_
    refine x_aload_n (pc' := 50) rfl dX10_gaps_49 rfl ?_
    refine x_iload_n (pc' := 51) rfl dX10_gaps_50 rfl ?_
    refine x_iconst (v := 4) (pc' := 52) (by decide) dX10_gaps_51 rfl ?_
    refine x_callVi (As := [.int _, .int _]) (rest := [.int _]) (ci := 9) (pc' := 55) rfl vk_X10_58 mk_X10_its (by decide) (by first | assumption | exact ⟨by decide, rfl⟩) (by decide) rfl (Nat.le_of_ble_eq_true rfl) dX10_gaps_52 rfl (v_X10_its hs (E := 4) rfl rfl (by omega)) ?_
    refine x_idiv (pc' := 56) (by rw [hf.at (by omega) (by omega)]; exact nI_ne0 (by omega) (by omega)) dX10_gaps_55 rfl ?_
    refine x_top (y := nI (k / fN (σ.1 19) G 4)) (by rw [hf.at (by omega) (by omega)]; exact pk_div (by omega) (by omega) (by omega)) ?_
    refine x_istore (lv' := [_, _, _, _, _]) (pc' := 58) (by decide) rfl dX10_gaps_56 rfl ?_
    refine x_aload_n (pc' := 59) rfl dX10_gaps_58 rfl ?_
    refine x_iload_n (pc' := 60) rfl dX10_gaps_59 rfl ?_
    refine x_iload_n (pc' := 61) rfl dX10_gaps_60 rfl ?_
    refine x_iload (pc' := 63) rfl dX10_gaps_61 rfl ?_
    refine x_callVi (As := [.int _, .int _, .int _]) (rest := []) (ci := 9) (pc' := 66) rfl vk_X10_117 mk_X10_isBorder (by decide) (by first | assumption | exact ⟨by decide, rfl⟩) (by decide) rfl (Nat.le_of_ble_eq_true rfl) dX10_gaps_63 rfl (v_X10_isBorder hs hv hG rfl rfl rfl k1 k2) ?_
    refine x_if_eq (tgt := 113) (pc' := 69) (by decide) dX10_gaps_66 rfl (fun c66 => ?_) (fun c66 => ?_)
    · refine x_iinc (lv' := [_, _, _, _, _]) (pc' := 116) rfl (nI_1 k) (by decide) rfl dX10_gaps_113 rfl ?_
      refine x_goto (tgt := 12) (by decide) dX10_gaps_116 ?_
      exact ih (k + 1) a b _ _ (by omega) (by rw [ha, sumN, gcnt, pif_f (fun q => pb_iff.mp c66 q.1)]; rfl) (by rw [hb, maxN, gmx, pif_f (pb_iff.mp c66), mx_0 (maxN_ge0 _ _)])
    · refine x_aload_n (pc' := 70) rfl dX10_gaps_69 rfl ?_
      refine x_dup (pc' := 71) rfl dX10_gaps_70 rfl ?_
      refine x_get (v := .int _) (pc' := 74) fk_X10_111 (by first | assumption | exact ⟨by decide, rfl⟩) rfl dX10_gaps_71 rfl ?_
      refine x_aload_n (pc' := 75) rfl dX10_gaps_74 rfl ?_
      refine x_iload_n (pc' := 76) rfl dX10_gaps_75 rfl ?_
      refine x_iload_n (pc' := 77) rfl dX10_gaps_76 rfl ?_
      refine x_iload (pc' := 79) rfl dX10_gaps_77 rfl ?_
      refine x_callVi (As := [.int _, .int _, .int _]) (rest := [.int _, .ref _]) (ci := 9) (pc' := 82) rfl vk_X10_120 mk_X10_gapAt (by decide) (by first | assumption | exact ⟨by decide, rfl⟩) (by decide) rfl (Nat.le_of_ble_eq_true rfl) dX10_gaps_79 rfl (v_X10_gapAt hs hv hG hp rfl rfl rfl k1 k2) ?_
      refine x_if_le (tgt := 89) (pc' := 85) (by decide) dX10_gaps_82 rfl (fun c82 => ?_) (fun c82 => ?_)
      · refine x_iconst (v := 0) (pc' := 90) (by decide) dX10_gaps_89 rfl ?_
        refine x_iadd (pc' := 91) dX10_gaps_90 rfl ?_
        refine x_puti (pc' := 94) fk_X10_111 pk_9_12 rfl (by first | assumption | exact ⟨by decide, rfl⟩) dX10_gaps_91 rfl ?_
        refine x_st (g2_p12 σ a b _) ?_
        refine x_aload_n (pc' := 95) rfl dX10_gaps_94 rfl ?_
        refine x_aload_n (pc' := 96) rfl dX10_gaps_95 rfl ?_
        refine x_get (v := .int _) (pc' := 99) fk_X10_114 (by first | assumption | exact ⟨by decide, rfl⟩) rfl dX10_gaps_96 rfl ?_
        refine x_aload_n (pc' := 100) rfl dX10_gaps_99 rfl ?_
        refine x_iload_n (pc' := 101) rfl dX10_gaps_100 rfl ?_
        refine x_iload_n (pc' := 102) rfl dX10_gaps_101 rfl ?_
        refine x_iload (pc' := 104) rfl dX10_gaps_102 rfl ?_
        refine x_callVi (As := [.int _, .int _, .int _]) (rest := [.int _, .ref _]) (ci := 9) (pc' := 107) rfl vk_X10_120 mk_X10_gapAt (by decide) (by first | assumption | exact ⟨by decide, rfl⟩) (by decide) rfl (Nat.le_of_ble_eq_true rfl) dX10_gaps_104 rfl (v_X10_gapAt (g2_n (by decide)) hv hG hp rfl rfl rfl k1 k2) ?_
        refine x_callSi (As := [.int _, .int _]) (rest := [.ref _]) (pc' := 110) rfl sk_X10_108 mk_X10_larger (by decide) rfl (Nat.le_of_ble_eq_true rfl) dX10_gaps_107 rfl c_X10_larger ?_
        refine x_puti (pc' := 113) fk_X10_114 pk_9_13 rfl (by first | assumption | exact ⟨by decide, rfl⟩) dX10_gaps_110 rfl ?_
        refine x_st (g2_p13 σ _ b _) ?_
        refine x_iinc (lv' := [_, _, _, _, _]) (pc' := 116) rfl (nI_1 k) (by decide) rfl dX10_gaps_113 rfl ?_
        refine x_goto (tgt := 12) (by decide) dX10_gaps_116 ?_
        exact ih (k + 1) _ _ _ _ (by omega) (by rw [g2_12, ha, sumN, gcnt, pif_f (fun q => i_nlt.mpr c82 q.2)]; exact nI_add _ 0) (by rw [g2_13, hb, maxN, gmx, pif_t (pb_n c66)])
      · refine x_iconst (v := 1) (pc' := 86) (by decide) dX10_gaps_85 rfl ?_
        refine x_goto (tgt := 90) (by decide) dX10_gaps_86 ?_
        refine x_iadd (pc' := 91) dX10_gaps_90 rfl ?_
        refine x_puti (pc' := 94) fk_X10_111 pk_9_12 rfl (by first | assumption | exact ⟨by decide, rfl⟩) dX10_gaps_91 rfl ?_
        refine x_st (g2_p12 σ a b _) ?_
        refine x_aload_n (pc' := 95) rfl dX10_gaps_94 rfl ?_
        refine x_aload_n (pc' := 96) rfl dX10_gaps_95 rfl ?_
        refine x_get (v := .int _) (pc' := 99) fk_X10_114 (by first | assumption | exact ⟨by decide, rfl⟩) rfl dX10_gaps_96 rfl ?_
        refine x_aload_n (pc' := 100) rfl dX10_gaps_99 rfl ?_
        refine x_iload_n (pc' := 101) rfl dX10_gaps_100 rfl ?_
        refine x_iload_n (pc' := 102) rfl dX10_gaps_101 rfl ?_
        refine x_iload (pc' := 104) rfl dX10_gaps_102 rfl ?_
        refine x_callVi (As := [.int _, .int _, .int _]) (rest := [.int _, .ref _]) (ci := 9) (pc' := 107) rfl vk_X10_120 mk_X10_gapAt (by decide) (by first | assumption | exact ⟨by decide, rfl⟩) (by decide) rfl (Nat.le_of_ble_eq_true rfl) dX10_gaps_104 rfl (v_X10_gapAt (g2_n (by decide)) hv hG hp rfl rfl rfl k1 k2) ?_
        refine x_callSi (As := [.int _, .int _]) (rest := [.ref _]) (pc' := 110) rfl sk_X10_108 mk_X10_larger (by decide) rfl (Nat.le_of_ble_eq_true rfl) dX10_gaps_107 rfl c_X10_larger ?_
        refine x_puti (pc' := 113) fk_X10_114 pk_9_13 rfl (by first | assumption | exact ⟨by decide, rfl⟩) dX10_gaps_110 rfl ?_
        refine x_st (g2_p13 σ _ b _) ?_
        refine x_iinc (lv' := [_, _, _, _, _]) (pc' := 116) rfl (nI_1 k) (by decide) rfl dX10_gaps_113 rfl ?_
        refine x_goto (tgt := 12) (by decide) dX10_gaps_116 ?_
        exact ih (k + 1) _ _ _ _ (by omega) (by rw [g2_12, ha, sumN, gcnt, pif_t ⟨pb_n c66, i_nle.mp c82⟩]; exact nI_add _ 1) (by rw [g2_13, hb, maxN, gmx, pif_t (pb_n c66)])
set_option maxRecDepth 100000 in
set_option maxHeartbeats 4000000 in
theorem c_X10_gaps {σ : St} {g : Int32} {G : Nat} (hv : Ok (σ.1 19)) (hG : G < cN (σ.1 19)) (hg : g = nI G) : Ct yX10_gaps M_X10_gaps [.ref 18, .int g] σ (none, g2 σ (nI (gapN (σ.1 19) G)) (gapM (σ.1 19) G)) := by
  subst hg
  obtain ⟨g6, c5, r5, c2, r2, s1, s64⟩ := hv.b hG
  have hf := hv.F hG
  have hm : fN (σ.1 19) G 4 * fN (σ.1 19) G 5 ≤ 5 * 5 := Nat.mul_le_mul c5 r5
  have hm2 : 2 * 2 ≤ fN (σ.1 19) G 4 * fN (σ.1 19) G 5 := Nat.mul_le_mul c2 r2
  refine ct_of (k := 3) rfl rfl rfl (Nat.le_of_ble_eq_true rfl) ?_
  by_cases hp : σ.1 19 (2 + 6 * G) = -1
  · have hs : (g2 σ 0 0).1 19 = σ.1 19 := g2_n (by decide)
    rw [gapN, gapM, pif_t hp, pif_t hp]
    refine x_aload_n (pc' := 1) rfl dX10_gaps_0 rfl ?_
    refine x_iconst (v := 0) (pc' := 2) (by decide) dX10_gaps_1 rfl ?_
    refine x_puti (pc' := 5) fk_X10_111 pk_9_12 rfl (by first | assumption | exact ⟨by decide, rfl⟩) dX10_gaps_2 rfl ?_
    refine x_aload_n (pc' := 6) rfl dX10_gaps_5 rfl ?_
    refine x_iconst (v := 0) (pc' := 7) (by decide) dX10_gaps_6 rfl ?_
    refine x_puti (pc' := 10) fk_X10_114 pk_9_13 rfl (by first | assumption | exact ⟨by decide, rfl⟩) dX10_gaps_7 rfl ?_
    refine x_iconst (v := 0) (pc' := 11) (by decide) dX10_gaps_10 rfl ?_
    refine x_istore_n (lv' := [_, _, _, _, _]) (pc' := 12) (by decide) rfl dX10_gaps_11 rfl ?_
    refine x_iload_n (pc' := 13) rfl dX10_gaps_12 rfl ?_
    refine x_aload_n (pc' := 14) rfl dX10_gaps_13 rfl ?_
    refine x_iload_n (pc' := 15) rfl dX10_gaps_14 rfl ?_
    refine x_iconst (v := 4) (pc' := 16) (by decide) dX10_gaps_15 rfl ?_
    refine x_callVi (As := [.int _, .int _]) (rest := [.int _]) (ci := 9) (pc' := 19) rfl vk_X10_58 mk_X10_its (by decide) (by first | assumption | exact ⟨by decide, rfl⟩) (by decide) rfl (Nat.le_of_ble_eq_true rfl) dX10_gaps_16 rfl (v_X10_its hs (E := 4) rfl rfl (by omega)) ?_
    refine x_aload_n (pc' := 20) rfl dX10_gaps_19 rfl ?_
    refine x_iload_n (pc' := 21) rfl dX10_gaps_20 rfl ?_
    refine x_iconst (v := 5) (pc' := 22) (by decide) dX10_gaps_21 rfl ?_
    refine x_callVi (As := [.int _, .int _]) (rest := [.int _, .int _]) (ci := 9) (pc' := 25) rfl vk_X10_58 mk_X10_its (by decide) (by first | assumption | exact ⟨by decide, rfl⟩) (by decide) rfl (Nat.le_of_ble_eq_true rfl) dX10_gaps_22 rfl (v_X10_its hs (E := 5) rfl rfl (by omega)) ?_
    refine x_imul (pc' := 26) dX10_gaps_25 rfl ?_
    refine x_icmp_ge (tgt := 119) (pc' := 29) (by decide) dX10_gaps_26 rfl (fun c26 => absurd c26 (by rw [hf.at (by omega) (by omega), hf.at (by omega) (by omega), pk_mul]; exact nI_ge (a := 0) (by omega) (by omega))) (fun c26 => ?_)
    refine x_aload_n (pc' := 30) rfl dX10_gaps_29 rfl ?_
    refine x_iload_n (pc' := 31) rfl dX10_gaps_30 rfl ?_
    refine x_iconst (v := 0) (pc' := 32) (by decide) dX10_gaps_31 rfl ?_
    refine x_callVi (As := [.int _, .int _]) (rest := []) (ci := 9) (pc' := 35) rfl vk_X10_58 mk_X10_its (by decide) (by first | assumption | exact ⟨by decide, rfl⟩) (by decide) rfl (Nat.le_of_ble_eq_true rfl) dX10_gaps_32 rfl (v_X10_its hs (E := 0) rfl rfl (by omega)) ?_
    refine x_iconst (v := (-1)) (pc' := 36) (by decide) dX10_gaps_35 rfl ?_
    refine x_icmp_eq (tgt := 119) (pc' := 39) (by decide) dX10_gaps_36 rfl (fun c36 => ?_) (fun c36 => absurd hp c36)
    exact x_vret rfl dX10_gaps_119 rfl
  · rw [gapN, gapM, pif_f hp, pif_f hp]
    refine x_aload_n (pc' := 1) rfl dX10_gaps_0 rfl ?_
    refine x_iconst (v := 0) (pc' := 2) (by decide) dX10_gaps_1 rfl ?_
    refine x_puti (pc' := 5) fk_X10_111 pk_9_12 rfl (by first | assumption | exact ⟨by decide, rfl⟩) dX10_gaps_2 rfl ?_
    refine x_aload_n (pc' := 6) rfl dX10_gaps_5 rfl ?_
    refine x_iconst (v := 0) (pc' := 7) (by decide) dX10_gaps_6 rfl ?_
    refine x_puti (pc' := 10) fk_X10_114 pk_9_13 rfl (by first | assumption | exact ⟨by decide, rfl⟩) dX10_gaps_7 rfl ?_
    refine x_iconst (v := 0) (pc' := 11) (by decide) dX10_gaps_10 rfl ?_
    refine x_istore_n (lv' := [_, _, _, _, _]) (pc' := 12) (by decide) rfl dX10_gaps_11 rfl ?_
    exact l_X10_gaps hv hG hp _ 0 0 0 _ _ (Nat.zero_add _) rfl rfl
set_option maxRecDepth 100000 in
set_option maxHeartbeats 4000000 in
theorem v_X10_gaps {σ : St} {v0 : Nat → Int32} (hs : σ.1 19 = v0) {g : Int32} {G : Nat} (hv : Ok v0) (hG : G < cN v0) (hg : g = nI G) : Ct yX10_gaps M_X10_gaps [.ref 18, .int g] σ (none, g2 σ (nI (gapN v0 G)) (gapM v0 G)) := by
  subst hs
  exact c_X10_gaps hv hG hg
end
section
def stI (v : Nat → Int32) (g c r w : Nat) : Int32 := mx (ab (oV v g (c + 1) r w - oV v g c r w)) (ab (oV v g (c + 1) (r + 1) w - oV v g c (r + 1) w)) + mx (ab (oV v g c (r + 1) w - oV v g c r w)) (ab (oV v g (c + 1) (r + 1) w - oV v g (c + 1) r w))
def steepS (v : Nat → Int32) (g c r : Nat) : Int32 := mx (stI v g c r 0) (stI v g c r 1)
def sureS (v : Nat → Int32) (g c r : Nat) : Prop := 2 * steepS v g c r < nI (64 * fN v g 3)
def ik (k : Nat) : Nat := if k % 4 = 1 ∨ k % 4 = 2 then 1 else 0
def jk (k : Nat) : Nat := if 1 < k % 4 then 1 else 0
def corS (v : Nat → Int32) (g c r k w : Nat) : Int64 := (nI (stS v g (if w = 0 then c + ik k else r + jk k) w) + oV v g (c + ik k) (r + jk k) w).toInt64
def crossS (v : Nat → Int32) (g c r a b : Nat) : Int64 := corS v g c r a 0 * corS v g c r b 1 - corS v g c r b 0 * corS v g c r a 1
def areaS (v : Nat → Int32) (g c r : Nat) : Int64 := crossS v g c r 0 1 + crossS v g c r 1 2 + crossS v g c r 2 3 + crossS v g c r 3 0
def fP (v : Nat → Int32) (g c r k : Nat) : Prop := crossS v g c r k (k + 1) + crossS v g c r (k + 1) (k + 2) + crossS v g c r (k + 2) k ≤ 0
def foldS (v : Nat → Int32) (g c r : Nat) : Prop := ∃ j, j < 4 ∧ fP v g c r j
theorem ik_le (k : Nat) : ik k ≤ 1 := by unfold ik; split <;> omega
theorem jk_le (k : Nat) : jk k ≤ 1 := by unfold jk; split <;> omega
set_option maxRecDepth 100000 in
set_option maxHeartbeats 4000000 in
theorem c_X10_steepIn {σ : St} {g c r w : Int32} {G K R W : Nat} (hv : Ok (σ.1 19)) (hG : G < cN (σ.1 19)) (hg : g = nI G) (hc : c = nI K) (hr : r = nI R) (hK : K + 1 < fN (σ.1 19) G 4) (hR : R + 1 < fN (σ.1 19) G 5) (hw : w = nI W) (hW : W < 2) : Ct yX10_steepIn M_X10_steepIn [.ref 18, .int g, .int c, .int r, .int w] σ (some (.int (stI (σ.1 19) G K R W)), σ) := by
  subst hg
  subst hc
  subst hr
  obtain ⟨g6, c5, r5, c2, r2, s1, s64⟩ := hv.b hG
  have hf := hv.F hG
  subst hw
  refine ct_of (k := 4) rfl rfl rfl (Nat.le_of_ble_eq_true rfl) ?_
  refine x_aload_n (pc' := 1) rfl dX10_steepIn_0 rfl ?_
  refine x_iload_n (pc' := 2) rfl dX10_steepIn_1 rfl ?_
  refine x_iload_n (pc' := 3) rfl dX10_steepIn_2 rfl ?_
  refine x_iload_n (pc' := 4) rfl dX10_steepIn_3 rfl ?_
  refine x_iload (pc' := 6) rfl dX10_steepIn_4 rfl ?_
  refine x_callVi (As := [.int _, .int _, .int _, .int _]) (rest := []) (ci := 9) (pc' := 9) rfl vk_X10_87 mk_X10_off (by decide) (by first | assumption | exact ⟨by decide, rfl⟩) (by decide) rfl (Nat.le_of_ble_eq_true rfl) dX10_steepIn_6 rfl (c_X10_off (K := K) (R := R) rfl rfl rfl rfl (by omega)) ?_
  refine x_istore (lv' := [_, _, _, _, _, _, _, _, _]) (pc' := 11) (by decide) rfl dX10_steepIn_9 rfl ?_
  refine x_aload_n (pc' := 12) rfl dX10_steepIn_11 rfl ?_
  refine x_iload_n (pc' := 13) rfl dX10_steepIn_12 rfl ?_
  refine x_iload_n (pc' := 14) rfl dX10_steepIn_13 rfl ?_
  refine x_iconst (v := 1) (pc' := 15) (by decide) dX10_steepIn_14 rfl ?_
  refine x_iadd (pc' := 16) dX10_steepIn_15 rfl ?_
  refine x_iload_n (pc' := 17) rfl dX10_steepIn_16 rfl ?_
  refine x_iload (pc' := 19) rfl dX10_steepIn_17 rfl ?_
  refine x_callVi (As := [.int _, .int _, .int _, .int _]) (rest := []) (ci := 9) (pc' := 22) rfl vk_X10_87 mk_X10_off (by decide) (by first | assumption | exact ⟨by decide, rfl⟩) (by decide) rfl (Nat.le_of_ble_eq_true rfl) dX10_steepIn_19 rfl (c_X10_off (K := K + 1) (R := R) rfl (nI_1 _) rfl rfl (by omega)) ?_
  refine x_istore (lv' := [_, _, _, _, _, _, _, _, _]) (pc' := 24) (by decide) rfl dX10_steepIn_22 rfl ?_
  refine x_aload_n (pc' := 25) rfl dX10_steepIn_24 rfl ?_
  refine x_iload_n (pc' := 26) rfl dX10_steepIn_25 rfl ?_
  refine x_iload_n (pc' := 27) rfl dX10_steepIn_26 rfl ?_
  refine x_iload_n (pc' := 28) rfl dX10_steepIn_27 rfl ?_
  refine x_iconst (v := 1) (pc' := 29) (by decide) dX10_steepIn_28 rfl ?_
  refine x_iadd (pc' := 30) dX10_steepIn_29 rfl ?_
  refine x_iload (pc' := 32) rfl dX10_steepIn_30 rfl ?_
  refine x_callVi (As := [.int _, .int _, .int _, .int _]) (rest := []) (ci := 9) (pc' := 35) rfl vk_X10_87 mk_X10_off (by decide) (by first | assumption | exact ⟨by decide, rfl⟩) (by decide) rfl (Nat.le_of_ble_eq_true rfl) dX10_steepIn_32 rfl (c_X10_off (K := K) (R := R + 1) rfl rfl (nI_1 _) rfl (by omega)) ?_
  refine x_istore (lv' := [_, _, _, _, _, _, _, _, _]) (pc' := 37) (by decide) rfl dX10_steepIn_35 rfl ?_
  refine x_aload_n (pc' := 38) rfl dX10_steepIn_37 rfl ?_
  refine x_iload_n (pc' := 39) rfl dX10_steepIn_38 rfl ?_
  refine x_iload_n (pc' := 40) rfl dX10_steepIn_39 rfl ?_
  refine x_iconst (v := 1) (pc' := 41) (by decide) dX10_steepIn_40 rfl ?_
  refine x_iadd (pc' := 42) dX10_steepIn_41 rfl ?_
  refine x_iload_n (pc' := 43) rfl dX10_steepIn_42 rfl ?_
  refine x_iconst (v := 1) (pc' := 44) (by decide) dX10_steepIn_43 rfl ?_
  refine x_iadd (pc' := 45) dX10_steepIn_44 rfl ?_
  refine x_iload (pc' := 47) rfl dX10_steepIn_45 rfl ?_
  refine x_callVi (As := [.int _, .int _, .int _, .int _]) (rest := []) (ci := 9) (pc' := 50) rfl vk_X10_87 mk_X10_off (by decide) (by first | assumption | exact ⟨by decide, rfl⟩) (by decide) rfl (Nat.le_of_ble_eq_true rfl) dX10_steepIn_47 rfl (c_X10_off (K := K + 1) (R := R + 1) rfl (nI_1 _) (nI_1 _) rfl (by omega)) ?_
  refine x_istore (lv' := [_, _, _, _, _, _, _, _, _]) (pc' := 52) (by decide) rfl dX10_steepIn_50 rfl ?_
  refine x_iload (pc' := 54) rfl dX10_steepIn_52 rfl ?_
  refine x_iload (pc' := 56) rfl dX10_steepIn_54 rfl ?_
  refine x_isub (pc' := 57) dX10_steepIn_56 rfl ?_
  refine x_callSi (As := [.int _]) (rest := []) (pc' := 60) rfl sk_X10_104 mk_X10_size (by decide) rfl (Nat.le_of_ble_eq_true rfl) dX10_steepIn_57 rfl c_X10_size ?_
  refine x_iload (pc' := 62) rfl dX10_steepIn_60 rfl ?_
  refine x_iload (pc' := 64) rfl dX10_steepIn_62 rfl ?_
  refine x_isub (pc' := 65) dX10_steepIn_64 rfl ?_
  refine x_callSi (As := [.int _]) (rest := [.int _]) (pc' := 68) rfl sk_X10_104 mk_X10_size (by decide) rfl (Nat.le_of_ble_eq_true rfl) dX10_steepIn_65 rfl c_X10_size ?_
  refine x_callSi (As := [.int _, .int _]) (rest := []) (pc' := 71) rfl sk_X10_108 mk_X10_larger (by decide) rfl (Nat.le_of_ble_eq_true rfl) dX10_steepIn_68 rfl c_X10_larger ?_
  refine x_iload (pc' := 73) rfl dX10_steepIn_71 rfl ?_
  refine x_iload (pc' := 75) rfl dX10_steepIn_73 rfl ?_
  refine x_isub (pc' := 76) dX10_steepIn_75 rfl ?_
  refine x_callSi (As := [.int _]) (rest := [.int _]) (pc' := 79) rfl sk_X10_104 mk_X10_size (by decide) rfl (Nat.le_of_ble_eq_true rfl) dX10_steepIn_76 rfl c_X10_size ?_
  refine x_iload (pc' := 81) rfl dX10_steepIn_79 rfl ?_
  refine x_iload (pc' := 83) rfl dX10_steepIn_81 rfl ?_
  refine x_isub (pc' := 84) dX10_steepIn_83 rfl ?_
  refine x_callSi (As := [.int _]) (rest := [.int _, .int _]) (pc' := 87) rfl sk_X10_104 mk_X10_size (by decide) rfl (Nat.le_of_ble_eq_true rfl) dX10_steepIn_84 rfl c_X10_size ?_
  refine x_callSi (As := [.int _, .int _]) (rest := [.int _]) (pc' := 90) rfl sk_X10_108 mk_X10_larger (by decide) rfl (Nat.le_of_ble_eq_true rfl) dX10_steepIn_87 rfl c_X10_larger ?_
  refine x_iadd (pc' := 91) dX10_steepIn_90 rfl ?_
  exact x_iret rfl dX10_steepIn_91 rfl
set_option maxRecDepth 100000 in
set_option maxHeartbeats 4000000 in
theorem v_X10_steepIn {σ : St} {v0 : Nat → Int32} (hs : σ.1 19 = v0) {g c r w : Int32} {G K R W : Nat} (hv : Ok v0) (hG : G < cN v0) (hg : g = nI G) (hc : c = nI K) (hr : r = nI R) (hK : K + 1 < fN v0 G 4) (hR : R + 1 < fN v0 G 5) (hw : w = nI W) (hW : W < 2) : Ct yX10_steepIn M_X10_steepIn [.ref 18, .int g, .int c, .int r, .int w] σ (some (.int (stI v0 G K R W)), σ) := by
  subst hs
  exact c_X10_steepIn hv hG hg hc hr hK hR hw hW
set_option maxRecDepth 100000 in
set_option maxHeartbeats 4000000 in
theorem c_X10_steep {σ : St} {g c r : Int32} {G K R : Nat} (hv : Ok (σ.1 19)) (hG : G < cN (σ.1 19)) (hg : g = nI G) (hc : c = nI K) (hr : r = nI R) (hK : K + 1 < fN (σ.1 19) G 4) (hR : R + 1 < fN (σ.1 19) G 5) : Ct yX10_steep M_X10_steep [.ref 18, .int g, .int c, .int r] σ (some (.int (steepS (σ.1 19) G K R)), σ) := by
  refine ct_of (k := 0) rfl rfl rfl (Nat.le_of_ble_eq_true rfl) ?_
  refine x_aload_n (pc' := 1) rfl dX10_steep_0 rfl ?_
  refine x_iload_n (pc' := 2) rfl dX10_steep_1 rfl ?_
  refine x_iload_n (pc' := 3) rfl dX10_steep_2 rfl ?_
  refine x_iload_n (pc' := 4) rfl dX10_steep_3 rfl ?_
  refine x_iconst (v := 0) (pc' := 5) (by decide) dX10_steep_4 rfl ?_
  refine x_callVi (As := [.int _, .int _, .int _, .int _]) (rest := []) (ci := 9) (pc' := 8) rfl vk_X10_123 mk_X10_steepIn (by decide) (by first | assumption | exact ⟨by decide, rfl⟩) (by decide) rfl (Nat.le_of_ble_eq_true rfl) dX10_steep_5 rfl (c_X10_steepIn hv hG hg hc hr hK hR (W := 0) rfl (by decide)) ?_
  refine x_aload_n (pc' := 9) rfl dX10_steep_8 rfl ?_
  refine x_iload_n (pc' := 10) rfl dX10_steep_9 rfl ?_
  refine x_iload_n (pc' := 11) rfl dX10_steep_10 rfl ?_
  refine x_iload_n (pc' := 12) rfl dX10_steep_11 rfl ?_
  refine x_iconst (v := 1) (pc' := 13) (by decide) dX10_steep_12 rfl ?_
  refine x_callVi (As := [.int _, .int _, .int _, .int _]) (rest := [.int _]) (ci := 9) (pc' := 16) rfl vk_X10_123 mk_X10_steepIn (by decide) (by first | assumption | exact ⟨by decide, rfl⟩) (by decide) rfl (Nat.le_of_ble_eq_true rfl) dX10_steep_13 rfl (c_X10_steepIn hv hG hg hc hr hK hR (W := 1) rfl (by decide)) ?_
  refine x_callSi (As := [.int _, .int _]) (rest := []) (pc' := 19) rfl sk_X10_108 mk_X10_larger (by decide) rfl (Nat.le_of_ble_eq_true rfl) dX10_steep_16 rfl c_X10_larger ?_
  exact x_iret rfl dX10_steep_19 rfl
set_option maxRecDepth 100000 in
set_option maxHeartbeats 4000000 in
theorem v_X10_steep {σ : St} {v0 : Nat → Int32} (hs : σ.1 19 = v0) {g c r : Int32} {G K R : Nat} (hv : Ok v0) (hG : G < cN v0) (hg : g = nI G) (hc : c = nI K) (hr : r = nI R) (hK : K + 1 < fN v0 G 4) (hR : R + 1 < fN v0 G 5) : Ct yX10_steep M_X10_steep [.ref 18, .int g, .int c, .int r] σ (some (.int (steepS v0 G K R)), σ) := by
  subst hs
  exact c_X10_steep hv hG hg hc hr hK hR
set_option maxRecDepth 100000 in
set_option maxHeartbeats 4000000 in
theorem c_X10_isSure {σ : St} {g c r : Int32} {G K R : Nat} (hv : Ok (σ.1 19)) (hG : G < cN (σ.1 19)) (hg : g = nI G) (hc : c = nI K) (hr : r = nI R) (hK : K + 1 < fN (σ.1 19) G 4) (hR : R + 1 < fN (σ.1 19) G 5) : Ct yX10_isSure M_X10_isSure [.ref 18, .int g, .int c, .int r] σ (some (.int (pb (sureS (σ.1 19) G K R))), σ) := by
  subst hg
  subst hc
  subst hr
  obtain ⟨g6, c5, r5, c2, r2, s1, s64⟩ := hv.b hG
  have hf := hv.F hG
  have e3 : 64 * σ.1 19 (2 + 6 * G + 3) = nI (64 * fN (σ.1 19) G 3) := by rw [hf.at (by omega) (by omega)]; exact pk_mul 64 _
  refine ct_of (k := 0) rfl rfl rfl (Nat.le_of_ble_eq_true rfl) ?_
  refine x_iconst (v := 2) (pc' := 1) (by decide) dX10_isSure_0 rfl ?_
  refine x_aload_n (pc' := 2) rfl dX10_isSure_1 rfl ?_
  refine x_iload_n (pc' := 3) rfl dX10_isSure_2 rfl ?_
  refine x_iload_n (pc' := 4) rfl dX10_isSure_3 rfl ?_
  refine x_iload_n (pc' := 5) rfl dX10_isSure_4 rfl ?_
  refine x_callVi (As := [.int _, .int _, .int _]) (rest := [.int _]) (ci := 9) (pc' := 8) rfl vk_X10_126 mk_X10_steep (by decide) (by first | assumption | exact ⟨by decide, rfl⟩) (by decide) rfl (Nat.le_of_ble_eq_true rfl) dX10_isSure_5 rfl (c_X10_steep hv hG rfl rfl rfl hK hR) ?_
  refine x_imul (pc' := 9) dX10_isSure_8 rfl ?_
  refine x_bipush (v := 64) (pc' := 11) (by decide) dX10_isSure_9 rfl ?_
  refine x_aload_n (pc' := 12) rfl dX10_isSure_11 rfl ?_
  refine x_iload_n (pc' := 13) rfl dX10_isSure_12 rfl ?_
  refine x_iconst (v := 3) (pc' := 14) (by decide) dX10_isSure_13 rfl ?_
  refine x_callVi (As := [.int _, .int _]) (rest := [.int _, .int _]) (ci := 9) (pc' := 17) rfl vk_X10_58 mk_X10_its (by decide) (by first | assumption | exact ⟨by decide, rfl⟩) (by decide) rfl (Nat.le_of_ble_eq_true rfl) dX10_isSure_14 rfl (c_X10_its (E := 3) rfl rfl (by omega)) ?_
  refine x_imul (pc' := 18) dX10_isSure_17 rfl ?_
  refine x_icmp_ge (tgt := 25) (pc' := 21) (by decide) dX10_isSure_18 rfl (fun c18 => ?_) (fun c18 => ?_)
  · refine x_iconst (v := 0) (pc' := 26) (by decide) dX10_isSure_25 rfl ?_
    exact x_zret rfl (by first | rfl | exact b01_nar _ | exact pb_nar _) dX10_isSure_26 (ret_i (pb_0 (fun q => i_nlt.mpr (e3 ▸ c18) q)).symm)
  · refine x_iconst (v := 1) (pc' := 22) (by decide) dX10_isSure_21 rfl ?_
    refine x_goto (tgt := 26) (by decide) dX10_isSure_22 ?_
    exact x_zret rfl (by first | rfl | exact b01_nar _ | exact pb_nar _) dX10_isSure_26 (ret_i (pb_1 (i_nle.mp (e3 ▸ c18))).symm)
set_option maxRecDepth 100000 in
set_option maxHeartbeats 4000000 in
theorem v_X10_isSure {σ : St} {v0 : Nat → Int32} (hs : σ.1 19 = v0) {g c r : Int32} {G K R : Nat} (hv : Ok v0) (hG : G < cN v0) (hg : g = nI G) (hc : c = nI K) (hr : r = nI R) (hK : K + 1 < fN v0 G 4) (hR : R + 1 < fN v0 G 5) : Ct yX10_isSure M_X10_isSure [.ref 18, .int g, .int c, .int r] σ (some (.int (pb (sureS v0 G K R))), σ) := by
  subst hs
  exact c_X10_isSure hv hG hg hc hr hK hR
set_option maxRecDepth 100000 in
set_option maxHeartbeats 4000000 in
theorem c_X10_corner {σ : St} {g c r k0 w : Int32} {G K R k W : Nat} (hv : Ok (σ.1 19)) (hG : G < cN (σ.1 19)) (hg : g = nI G) (hc : c = nI K) (hr : r = nI R) (hK : K + 1 < fN (σ.1 19) G 4) (hR : R + 1 < fN (σ.1 19) G 5) (hk0 : k0 = nI k) (hk : k < 8) (hw : w = nI W) (hW : W < 2) : Ct yX10_corner M_X10_corner [.ref 18, .int g, .int c, .int r, .int k0, .int w] σ (some (.long (corS (σ.1 19) G K R k W)), σ) := by
  subst hg
  subst hc
  subst hr
  obtain ⟨g6, c5, r5, c2, r2, s1, s64⟩ := hv.b hG
  have hf := hv.F hG
  subst hw
  subst hk0
  have i1 := ik_le k
  have j1 := jk_le k
  have hk4 : k % 4 < 4 := Nat.mod_lt _ (by decide)
  have k56 : Ex M_X10_corner (some (.long (corS (σ.1 19) G K R k W)), σ) 56 [some (.ref 18), some (.int (nI G)), some (.int (nI K)), some (.int (nI R)), some (.int (nI k)), some (.int (nI W)), some (.int (nI (K + ik k))), some (.int (nI (R + jk k)))] [.int (nI (if W = 0 then K + ik k else R + jk k)), .int (nI G), .ref 18] σ := by
    refine x_iload (pc' := 58) rfl dX10_corner_56 rfl ?_
    refine x_callVi (As := [.int _, .int _, .int _]) (rest := []) (ci := 9) (pc' := 61) rfl vk_X10_66 mk_X10_stands (by decide) (by first | assumption | exact ⟨by decide, rfl⟩) (by decide) rfl (Nat.le_of_ble_eq_true rfl) dX10_corner_58 rfl (c_X10_stands hf rfl rfl rfl g6 hW) ?_
    refine x_aload_n (pc' := 62) rfl dX10_corner_61 rfl ?_
    refine x_iload_n (pc' := 63) rfl dX10_corner_62 rfl ?_
    refine x_iload (pc' := 65) rfl dX10_corner_63 rfl ?_
    refine x_iload (pc' := 67) rfl dX10_corner_65 rfl ?_
    refine x_iload (pc' := 69) rfl dX10_corner_67 rfl ?_
    refine x_callVi (As := [.int _, .int _, .int _, .int _]) (rest := [.int _]) (ci := 9) (pc' := 72) rfl vk_X10_87 mk_X10_off (by decide) (by first | assumption | exact ⟨by decide, rfl⟩) (by decide) rfl (Nat.le_of_ble_eq_true rfl) dX10_corner_69 rfl (c_X10_off rfl rfl rfl rfl (by omega)) ?_
    refine x_iadd (pc' := 73) dX10_corner_72 rfl ?_
    refine x_i2l (pc' := 74) dX10_corner_73 rfl ?_
    exact x_lret rfl dX10_corner_74 rfl
  have k39 : Ex M_X10_corner (some (.long (corS (σ.1 19) G K R k W)), σ) 39 [some (.ref 18), some (.int (nI G)), some (.int (nI K)), some (.int (nI R)), some (.int (nI k)), some (.int (nI W)), some (.int (nI (K + ik k))), none] [.int (nI (jk k)), .int (nI R)] σ := by
    refine x_iadd (pc' := 40) dX10_corner_39 rfl ?_
    refine x_top (nI_add _ _) ?_
    refine x_istore (lv' := [_, _, _, _, _, _, _, _]) (pc' := 42) (by decide) rfl dX10_corner_40 rfl ?_
    refine x_aload_n (pc' := 43) rfl dX10_corner_42 rfl ?_
    refine x_iload_n (pc' := 44) rfl dX10_corner_43 rfl ?_
    refine x_iload (pc' := 46) rfl dX10_corner_44 rfl ?_
    refine x_if_ne (tgt := 54) (pc' := 49) (by decide) dX10_corner_46 rfl (fun c46 => ?_) (fun c46 => ?_)
    · refine x_iload (pc' := 56) rfl dX10_corner_54 rfl ?_
      exact x_top (by rw [if_neg (fun q => c46 (by rw [q]; rfl))]) k56
    · refine x_iload (pc' := 51) rfl dX10_corner_49 rfl ?_
      refine x_goto (tgt := 56) (by decide) dX10_corner_51 ?_
      exact x_top (by rw [if_pos ((nI_eqZ (by omega)).mp c46)]) k56
  have k22 : Ex M_X10_corner (some (.long (corS (σ.1 19) G K R k W)), σ) 22 [some (.ref 18), some (.int (nI G)), some (.int (nI K)), some (.int (nI R)), some (.int (nI k)), some (.int (nI W)), none, none] [.int (nI (ik k)), .int (nI K)] σ := by
    refine x_iadd (pc' := 23) dX10_corner_22 rfl ?_
    refine x_top (nI_add _ _) ?_
    refine x_istore (lv' := [_, _, _, _, _, _, _, _]) (pc' := 25) (by decide) rfl dX10_corner_23 rfl ?_
    refine x_iload_n (pc' := 26) rfl dX10_corner_25 rfl ?_
    refine x_iload (pc' := 28) rfl dX10_corner_26 rfl ?_
    refine x_iconst (v := 4) (pc' := 29) (by decide) dX10_corner_28 rfl ?_
    refine x_irem (pc' := 30) (by decide) dX10_corner_29 rfl ?_
    refine x_top (y := nI (k % 4)) (pk_rem (d := 4) (by omega) (by decide) (by decide)) ?_
    refine x_iconst (v := 1) (pc' := 31) (by decide) dX10_corner_30 rfl ?_
    refine x_icmp_le (tgt := 38) (pc' := 34) (by decide) dX10_corner_31 rfl (fun c31 => ?_) (fun c31 => ?_)
    · refine x_iconst (v := 0) (pc' := 39) (by decide) dX10_corner_38 rfl ?_
      exact x_top (by rw [jk, if_neg (fun q => (i_nlt.mpr c31) (nI_lt (a := 1) q (by omega)))]; rfl) k39
    · refine x_iconst (v := 1) (pc' := 35) (by decide) dX10_corner_34 rfl ?_
      refine x_goto (tgt := 39) (by decide) dX10_corner_35 ?_
      exact x_top (by rw [jk, if_pos ((nI_ltI (a := 1) (by decide) (by omega)).mp (i_nle.mp c31))]; rfl) k39
  refine ct_of (k := 2) rfl rfl rfl (Nat.le_of_ble_eq_true rfl) ?_
  refine x_iload_n (pc' := 1) rfl dX10_corner_0 rfl ?_
  refine x_iload (pc' := 3) rfl dX10_corner_1 rfl ?_
  refine x_iconst (v := 4) (pc' := 4) (by decide) dX10_corner_3 rfl ?_
  refine x_irem (pc' := 5) (by decide) dX10_corner_4 rfl ?_
  refine x_top (y := nI (k % 4)) (pk_rem (d := 4) (by omega) (by decide) (by decide)) ?_
  refine x_iconst (v := 1) (pc' := 6) (by decide) dX10_corner_5 rfl ?_
  refine x_icmp_eq (tgt := 17) (pc' := 9) (by decide) dX10_corner_6 rfl (fun c6 => ?_) (fun c6 => ?_)
  · refine x_iconst (v := 1) (pc' := 18) (by decide) dX10_corner_17 rfl ?_
    refine x_goto (tgt := 22) (by decide) dX10_corner_18 ?_
    exact x_top (by rw [ik, if_pos (Or.inl ((nI_eq (b := 1) (by omega) (by decide)).mp c6))]; rfl) k22
  · refine x_iload (pc' := 11) rfl dX10_corner_9 rfl ?_
    refine x_iconst (v := 4) (pc' := 12) (by decide) dX10_corner_11 rfl ?_
    refine x_irem (pc' := 13) (by decide) dX10_corner_12 rfl ?_
    refine x_top (y := nI (k % 4)) (pk_rem (d := 4) (by omega) (by decide) (by decide)) ?_
    refine x_iconst (v := 2) (pc' := 14) (by decide) dX10_corner_13 rfl ?_
    refine x_icmp_ne (tgt := 21) (pc' := 17) (by decide) dX10_corner_14 rfl (fun c14 => ?_) (fun c14 => ?_)
    · refine x_iconst (v := 0) (pc' := 22) (by decide) dX10_corner_21 rfl ?_
      exact x_top (by rw [ik, if_neg (fun q => q.elim (fun h => c6 (by rw [h]; rfl)) (fun h => c14 (by rw [h]; rfl)))]; rfl) k22
    · refine x_iconst (v := 1) (pc' := 18) (by decide) dX10_corner_17 rfl ?_
      refine x_goto (tgt := 22) (by decide) dX10_corner_18 ?_
      exact x_top (by rw [ik, if_pos (Or.inr ((nI_eq (b := 2) (by omega) (by decide)).mp c14))]; rfl) k22
set_option maxRecDepth 100000 in
set_option maxHeartbeats 4000000 in
theorem c_X10_cross {σ : St} {g c r x y : Int32} {G K R a b : Nat} (hv : Ok (σ.1 19)) (hG : G < cN (σ.1 19)) (hg : g = nI G) (hc : c = nI K) (hr : r = nI R) (hK : K + 1 < fN (σ.1 19) G 4) (hR : R + 1 < fN (σ.1 19) G 5) (ha : x = nI a) (hla : a < 8) (hb : y = nI b) (hlb : b < 8) : Ct yX10_cross M_X10_cross [.ref 18, .int g, .int c, .int r, .int x, .int y] σ (some (.long (crossS (σ.1 19) G K R a b)), σ) := by
  refine ct_of (k := 0) rfl rfl rfl (Nat.le_of_ble_eq_true rfl) ?_
  refine x_aload_n (pc' := 1) rfl dX10_cross_0 rfl ?_
  refine x_iload_n (pc' := 2) rfl dX10_cross_1 rfl ?_
  refine x_iload_n (pc' := 3) rfl dX10_cross_2 rfl ?_
  refine x_iload_n (pc' := 4) rfl dX10_cross_3 rfl ?_
  refine x_iload (pc' := 6) rfl dX10_cross_4 rfl ?_
  refine x_iconst (v := 0) (pc' := 7) (by decide) dX10_cross_6 rfl ?_
  refine x_callVi (As := [.int _, .int _, .int _, .int _, .int _]) (rest := []) (ci := 9) (pc' := 10) rfl vk_X10_129 mk_X10_corner (by decide) (by first | assumption | exact ⟨by decide, rfl⟩) (by decide) rfl (Nat.le_of_ble_eq_true rfl) dX10_cross_7 rfl (c_X10_corner hv hG hg hc hr hK hR (k := a) (W := 0) ha hla rfl (by decide)) ?_
  refine x_aload_n (pc' := 11) rfl dX10_cross_10 rfl ?_
  refine x_iload_n (pc' := 12) rfl dX10_cross_11 rfl ?_
  refine x_iload_n (pc' := 13) rfl dX10_cross_12 rfl ?_
  refine x_iload_n (pc' := 14) rfl dX10_cross_13 rfl ?_
  refine x_iload (pc' := 16) rfl dX10_cross_14 rfl ?_
  refine x_iconst (v := 1) (pc' := 17) (by decide) dX10_cross_16 rfl ?_
  refine x_callVi (As := [.int _, .int _, .int _, .int _, .int _]) (rest := [.long _]) (ci := 9) (pc' := 20) rfl vk_X10_129 mk_X10_corner (by decide) (by first | assumption | exact ⟨by decide, rfl⟩) (by decide) rfl (Nat.le_of_ble_eq_true rfl) dX10_cross_17 rfl (c_X10_corner hv hG hg hc hr hK hR (k := b) (W := 1) hb hlb rfl (by decide)) ?_
  refine x_lmul (pc' := 21) dX10_cross_20 rfl ?_
  refine x_aload_n (pc' := 22) rfl dX10_cross_21 rfl ?_
  refine x_iload_n (pc' := 23) rfl dX10_cross_22 rfl ?_
  refine x_iload_n (pc' := 24) rfl dX10_cross_23 rfl ?_
  refine x_iload_n (pc' := 25) rfl dX10_cross_24 rfl ?_
  refine x_iload (pc' := 27) rfl dX10_cross_25 rfl ?_
  refine x_iconst (v := 0) (pc' := 28) (by decide) dX10_cross_27 rfl ?_
  refine x_callVi (As := [.int _, .int _, .int _, .int _, .int _]) (rest := [.long _]) (ci := 9) (pc' := 31) rfl vk_X10_129 mk_X10_corner (by decide) (by first | assumption | exact ⟨by decide, rfl⟩) (by decide) rfl (Nat.le_of_ble_eq_true rfl) dX10_cross_28 rfl (c_X10_corner hv hG hg hc hr hK hR (k := b) (W := 0) hb hlb rfl (by decide)) ?_
  refine x_aload_n (pc' := 32) rfl dX10_cross_31 rfl ?_
  refine x_iload_n (pc' := 33) rfl dX10_cross_32 rfl ?_
  refine x_iload_n (pc' := 34) rfl dX10_cross_33 rfl ?_
  refine x_iload_n (pc' := 35) rfl dX10_cross_34 rfl ?_
  refine x_iload (pc' := 37) rfl dX10_cross_35 rfl ?_
  refine x_iconst (v := 1) (pc' := 38) (by decide) dX10_cross_37 rfl ?_
  refine x_callVi (As := [.int _, .int _, .int _, .int _, .int _]) (rest := [.long _, .long _]) (ci := 9) (pc' := 41) rfl vk_X10_129 mk_X10_corner (by decide) (by first | assumption | exact ⟨by decide, rfl⟩) (by decide) rfl (Nat.le_of_ble_eq_true rfl) dX10_cross_38 rfl (c_X10_corner hv hG hg hc hr hK hR (k := a) (W := 1) ha hla rfl (by decide)) ?_
  refine x_lmul (pc' := 42) dX10_cross_41 rfl ?_
  refine x_lsub (pc' := 43) dX10_cross_42 rfl ?_
  exact x_lret rfl dX10_cross_43 rfl
set_option maxRecDepth 100000 in
set_option maxHeartbeats 4000000 in
theorem v_X10_cross {σ : St} {v0 : Nat → Int32} (hs : σ.1 19 = v0) {g c r x y : Int32} {G K R a b : Nat} (hv : Ok v0) (hG : G < cN v0) (hg : g = nI G) (hc : c = nI K) (hr : r = nI R) (hK : K + 1 < fN v0 G 4) (hR : R + 1 < fN v0 G 5) (ha : x = nI a) (hla : a < 8) (hb : y = nI b) (hlb : b < 8) : Ct yX10_cross M_X10_cross [.ref 18, .int g, .int c, .int r, .int x, .int y] σ (some (.long (crossS v0 G K R a b)), σ) := by
  subst hs
  exact c_X10_cross hv hG hg hc hr hK hR ha hla hb hlb
set_option maxRecDepth 100000 in
set_option maxHeartbeats 4000000 in
theorem c_X10_area {σ : St} {g c r : Int32} {G K R : Nat} (hv : Ok (σ.1 19)) (hG : G < cN (σ.1 19)) (hg : g = nI G) (hc : c = nI K) (hr : r = nI R) (hK : K + 1 < fN (σ.1 19) G 4) (hR : R + 1 < fN (σ.1 19) G 5) : Ct yX10_area M_X10_area [.ref 18, .int g, .int c, .int r] σ (some (.long (areaS (σ.1 19) G K R)), σ) := by
  refine ct_of (k := 0) rfl rfl rfl (Nat.le_of_ble_eq_true rfl) ?_
  refine x_aload_n (pc' := 1) rfl dX10_area_0 rfl ?_
  refine x_iload_n (pc' := 2) rfl dX10_area_1 rfl ?_
  refine x_iload_n (pc' := 3) rfl dX10_area_2 rfl ?_
  refine x_iload_n (pc' := 4) rfl dX10_area_3 rfl ?_
  refine x_iconst (v := 0) (pc' := 5) (by decide) dX10_area_4 rfl ?_
  refine x_iconst (v := 1) (pc' := 6) (by decide) dX10_area_5 rfl ?_
  refine x_callVi (As := [.int _, .int _, .int _, .int _, .int _]) (rest := []) (ci := 9) (pc' := 9) rfl vk_X10_133 mk_X10_cross (by decide) (by first | assumption | exact ⟨by decide, rfl⟩) (by decide) rfl (Nat.le_of_ble_eq_true rfl) dX10_area_6 rfl (c_X10_cross hv hG hg hc hr hK hR (a := 0) (b := 1) rfl (by omega) rfl (by omega)) ?_
  refine x_aload_n (pc' := 10) rfl dX10_area_9 rfl ?_
  refine x_iload_n (pc' := 11) rfl dX10_area_10 rfl ?_
  refine x_iload_n (pc' := 12) rfl dX10_area_11 rfl ?_
  refine x_iload_n (pc' := 13) rfl dX10_area_12 rfl ?_
  refine x_iconst (v := 1) (pc' := 14) (by decide) dX10_area_13 rfl ?_
  refine x_iconst (v := 2) (pc' := 15) (by decide) dX10_area_14 rfl ?_
  refine x_callVi (As := [.int _, .int _, .int _, .int _, .int _]) (rest := [.long _]) (ci := 9) (pc' := 18) rfl vk_X10_133 mk_X10_cross (by decide) (by first | assumption | exact ⟨by decide, rfl⟩) (by decide) rfl (Nat.le_of_ble_eq_true rfl) dX10_area_15 rfl (c_X10_cross hv hG hg hc hr hK hR (a := 1) (b := 2) rfl (by omega) rfl (by omega)) ?_
  refine x_ladd (pc' := 19) dX10_area_18 rfl ?_
  refine x_aload_n (pc' := 20) rfl dX10_area_19 rfl ?_
  refine x_iload_n (pc' := 21) rfl dX10_area_20 rfl ?_
  refine x_iload_n (pc' := 22) rfl dX10_area_21 rfl ?_
  refine x_iload_n (pc' := 23) rfl dX10_area_22 rfl ?_
  refine x_iconst (v := 2) (pc' := 24) (by decide) dX10_area_23 rfl ?_
  refine x_iconst (v := 3) (pc' := 25) (by decide) dX10_area_24 rfl ?_
  refine x_callVi (As := [.int _, .int _, .int _, .int _, .int _]) (rest := [.long _]) (ci := 9) (pc' := 28) rfl vk_X10_133 mk_X10_cross (by decide) (by first | assumption | exact ⟨by decide, rfl⟩) (by decide) rfl (Nat.le_of_ble_eq_true rfl) dX10_area_25 rfl (c_X10_cross hv hG hg hc hr hK hR (a := 2) (b := 3) rfl (by omega) rfl (by omega)) ?_
  refine x_ladd (pc' := 29) dX10_area_28 rfl ?_
  refine x_aload_n (pc' := 30) rfl dX10_area_29 rfl ?_
  refine x_iload_n (pc' := 31) rfl dX10_area_30 rfl ?_
  refine x_iload_n (pc' := 32) rfl dX10_area_31 rfl ?_
  refine x_iload_n (pc' := 33) rfl dX10_area_32 rfl ?_
  refine x_iconst (v := 3) (pc' := 34) (by decide) dX10_area_33 rfl ?_
  refine x_iconst (v := 0) (pc' := 35) (by decide) dX10_area_34 rfl ?_
  refine x_callVi (As := [.int _, .int _, .int _, .int _, .int _]) (rest := [.long _]) (ci := 9) (pc' := 38) rfl vk_X10_133 mk_X10_cross (by decide) (by first | assumption | exact ⟨by decide, rfl⟩) (by decide) rfl (Nat.le_of_ble_eq_true rfl) dX10_area_35 rfl (c_X10_cross hv hG hg hc hr hK hR (a := 3) (b := 0) rfl (by omega) rfl (by omega)) ?_
  refine x_ladd (pc' := 39) dX10_area_38 rfl ?_
  exact x_lret rfl dX10_area_39 rfl
set_option maxRecDepth 100000 in
set_option maxHeartbeats 4000000 in
theorem v_X10_area {σ : St} {v0 : Nat → Int32} (hs : σ.1 19 = v0) {g c r : Int32} {G K R : Nat} (hv : Ok v0) (hG : G < cN v0) (hg : g = nI G) (hc : c = nI K) (hr : r = nI R) (hK : K + 1 < fN v0 G 4) (hR : R + 1 < fN v0 G 5) : Ct yX10_area M_X10_area [.ref 18, .int g, .int c, .int r] σ (some (.long (areaS v0 G K R)), σ) := by
  subst hs
  exact c_X10_area hv hG hg hc hr hK hR
set_option maxRecDepth 100000 in
set_option maxHeartbeats 4000000 in
theorem l_X10_isFolded {σ : St} {g c r : Int32} {G K R : Nat} (hv : Ok (σ.1 19)) (hG : G < cN (σ.1 19)) (hg : g = nI G) (hc : c = nI K) (hr : r = nI R) (hK : K + 1 < fN (σ.1 19) G 4) (hR : R + 1 < fN (σ.1 19) G 5) : ∀ (n k : Nat), k + n = 4 → Ex M_X10_isFolded (some (.int (pb (foldS (σ.1 19) G K R))), σ) 6 [some (.ref 18), some (.int g), some (.int c), some (.int r), some (.int (pb (∃ j, j < k ∧ fP (σ.1 19) G K R j))), some (.int (nI k))] [] σ := by
  intro n
  induction n with
  | zero =>
    intro k hk
    obtain rfl : k = 4 := by omega
    refine x_iload (pc' := 8) rfl dX10_isFolded_6 rfl ?_
    refine x_iconst (v := 4) (pc' := 9) (by decide) dX10_isFolded_8 rfl ?_
    refine x_icmp_ge (tgt := 78) (pc' := 12) (by decide) dX10_isFolded_9 rfl (fun c9 => ?_) (fun c9 => absurd (by decide) c9)
    refine x_iload (pc' := 80) rfl dX10_isFolded_78 rfl ?_
    exact x_zret rfl (by first | rfl | exact b01_nar _ | exact pb_nar _) dX10_isFolded_80 rfl
  | succ n ih =>
    intro k hk
    refine x_iload (pc' := 8) rfl dX10_isFolded_6 rfl ?_
    refine x_iconst (v := 4) (pc' := 9) (by decide) dX10_isFolded_8 rfl ?_
    refine x_icmp_ge (tgt := 78) (pc' := 12) (by decide) dX10_isFolded_9 rfl (fun c9 => absurd c9 (nI_ge (b := 4) (by omega) (by decide))) (fun c9 => ?_)
    refine x_iload (pc' := 14) rfl dX10_isFolded_12 rfl ?_
    refine x_if_ne (tgt := 65) (pc' := 17) (by decide) dX10_isFolded_14 rfl (fun c14 => ?_) (fun c14 => ?_)
    · refine x_iconst (v := 1) (pc' := 66) (by decide) dX10_isFolded_65 rfl ?_
      refine x_goto (tgt := 70) (by decide) dX10_isFolded_66 ?_
      refine x_top (y := pb (∃ j, j < k + 1 ∧ fP (σ.1 19) G K R j)) ((pb_1 (Exists.elim (pb_n c14) (fun j hj => ⟨j, by omega, hj.2⟩))).symm) ?_
      refine x_istore (lv' := [_, _, _, _, _, _]) (pc' := 72) (by decide) rfl dX10_isFolded_70 rfl ?_
      refine x_iinc (lv' := [_, _, _, _, _, _]) (pc' := 75) rfl (nI_1 k) (by decide) rfl dX10_isFolded_72 rfl ?_
      refine x_goto (tgt := 6) (by decide) dX10_isFolded_75 ?_
      exact ih (k + 1) (by omega)
    · refine x_aload_n (pc' := 18) rfl dX10_isFolded_17 rfl ?_
      refine x_iload_n (pc' := 19) rfl dX10_isFolded_18 rfl ?_
      refine x_iload_n (pc' := 20) rfl dX10_isFolded_19 rfl ?_
      refine x_iload_n (pc' := 21) rfl dX10_isFolded_20 rfl ?_
      refine x_iload (pc' := 23) rfl dX10_isFolded_21 rfl ?_
      refine x_iload (pc' := 25) rfl dX10_isFolded_23 rfl ?_
      refine x_iconst (v := 1) (pc' := 26) (by decide) dX10_isFolded_25 rfl ?_
      refine x_iadd (pc' := 27) dX10_isFolded_26 rfl ?_
      refine x_callVi (As := [.int _, .int _, .int _, .int _, .int _]) (rest := []) (ci := 9) (pc' := 30) rfl vk_X10_133 mk_X10_cross (by decide) (by first | assumption | exact ⟨by decide, rfl⟩) (by decide) rfl (Nat.le_of_ble_eq_true rfl) dX10_isFolded_27 rfl (c_X10_cross hv hG hg hc hr hK hR (a := k) (b := k + 1) rfl (by omega) (nI_1 k) (by omega)) ?_
      refine x_aload_n (pc' := 31) rfl dX10_isFolded_30 rfl ?_
      refine x_iload_n (pc' := 32) rfl dX10_isFolded_31 rfl ?_
      refine x_iload_n (pc' := 33) rfl dX10_isFolded_32 rfl ?_
      refine x_iload_n (pc' := 34) rfl dX10_isFolded_33 rfl ?_
      refine x_iload (pc' := 36) rfl dX10_isFolded_34 rfl ?_
      refine x_iconst (v := 1) (pc' := 37) (by decide) dX10_isFolded_36 rfl ?_
      refine x_iadd (pc' := 38) dX10_isFolded_37 rfl ?_
      refine x_iload (pc' := 40) rfl dX10_isFolded_38 rfl ?_
      refine x_iconst (v := 2) (pc' := 41) (by decide) dX10_isFolded_40 rfl ?_
      refine x_iadd (pc' := 42) dX10_isFolded_41 rfl ?_
      refine x_callVi (As := [.int _, .int _, .int _, .int _, .int _]) (rest := [.long _]) (ci := 9) (pc' := 45) rfl vk_X10_133 mk_X10_cross (by decide) (by first | assumption | exact ⟨by decide, rfl⟩) (by decide) rfl (Nat.le_of_ble_eq_true rfl) dX10_isFolded_42 rfl (c_X10_cross hv hG hg hc hr hK hR (a := k + 1) (b := k + 2) (nI_1 k) (by omega) (nI_add k 2) (by omega)) ?_
      refine x_ladd (pc' := 46) dX10_isFolded_45 rfl ?_
      refine x_aload_n (pc' := 47) rfl dX10_isFolded_46 rfl ?_
      refine x_iload_n (pc' := 48) rfl dX10_isFolded_47 rfl ?_
      refine x_iload_n (pc' := 49) rfl dX10_isFolded_48 rfl ?_
      refine x_iload_n (pc' := 50) rfl dX10_isFolded_49 rfl ?_
      refine x_iload (pc' := 52) rfl dX10_isFolded_50 rfl ?_
      refine x_iconst (v := 2) (pc' := 53) (by decide) dX10_isFolded_52 rfl ?_
      refine x_iadd (pc' := 54) dX10_isFolded_53 rfl ?_
      refine x_iload (pc' := 56) rfl dX10_isFolded_54 rfl ?_
      refine x_callVi (As := [.int _, .int _, .int _, .int _, .int _]) (rest := [.long _]) (ci := 9) (pc' := 59) rfl vk_X10_133 mk_X10_cross (by decide) (by first | assumption | exact ⟨by decide, rfl⟩) (by decide) rfl (Nat.le_of_ble_eq_true rfl) dX10_isFolded_56 rfl (c_X10_cross hv hG hg hc hr hK hR (a := k + 2) (b := k) (nI_add k 2) (by omega) rfl (by omega)) ?_
      refine x_ladd (pc' := 60) dX10_isFolded_59 rfl ?_
      refine x_lconst (v := 0) (pc' := 61) (by decide) dX10_isFolded_60 rfl ?_
      refine x_lcmp (pc' := 62) dX10_isFolded_61 rfl ?_
      refine x_if_gt (tgt := 69) (pc' := 65) (by decide) dX10_isFolded_62 rfl (fun c62 => ?_) (fun c62 => ?_)
      · refine x_iconst (v := 0) (pc' := 70) (by decide) dX10_isFolded_69 rfl ?_
        refine x_top (y := pb (∃ j, j < k + 1 ∧ fP (σ.1 19) G K R j)) ((pb_0 (fun ⟨j, h1, h2⟩ => (Nat.lt_succ_iff_lt_or_eq.mp h1).elim (fun h => pb_iff.mp c14 ⟨j, h, h2⟩) (fun h => l_nle.mpr ((lg_cmp_gt _ _).mp c62) (h ▸ h2)))).symm) ?_
        refine x_istore (lv' := [_, _, _, _, _, _]) (pc' := 72) (by decide) rfl dX10_isFolded_70 rfl ?_
        refine x_iinc (lv' := [_, _, _, _, _, _]) (pc' := 75) rfl (nI_1 k) (by decide) rfl dX10_isFolded_72 rfl ?_
        refine x_goto (tgt := 6) (by decide) dX10_isFolded_75 ?_
        exact ih (k + 1) (by omega)
      · refine x_iconst (v := 1) (pc' := 66) (by decide) dX10_isFolded_65 rfl ?_
        refine x_goto (tgt := 70) (by decide) dX10_isFolded_66 ?_
        refine x_top (y := pb (∃ j, j < k + 1 ∧ fP (σ.1 19) G K R j)) ((pb_1 ⟨k, by omega, l_nlt.mp (fun q => c62 ((lg_cmp_gt _ _).mpr q))⟩).symm) ?_
        refine x_istore (lv' := [_, _, _, _, _, _]) (pc' := 72) (by decide) rfl dX10_isFolded_70 rfl ?_
        refine x_iinc (lv' := [_, _, _, _, _, _]) (pc' := 75) rfl (nI_1 k) (by decide) rfl dX10_isFolded_72 rfl ?_
        refine x_goto (tgt := 6) (by decide) dX10_isFolded_75 ?_
        exact ih (k + 1) (by omega)
set_option maxRecDepth 100000 in
set_option maxHeartbeats 4000000 in
theorem c_X10_isFolded {σ : St} {g c r : Int32} {G K R : Nat} (hv : Ok (σ.1 19)) (hG : G < cN (σ.1 19)) (hg : g = nI G) (hc : c = nI K) (hr : r = nI R) (hK : K + 1 < fN (σ.1 19) G 4) (hR : R + 1 < fN (σ.1 19) G 5) : Ct yX10_isFolded M_X10_isFolded [.ref 18, .int g, .int c, .int r] σ (some (.int (pb (foldS (σ.1 19) G K R))), σ) := by
  refine ct_of (k := 2) rfl rfl rfl (Nat.le_of_ble_eq_true rfl) ?_
  refine x_iconst (v := 0) (pc' := 1) (by decide) dX10_isFolded_0 rfl ?_
  refine x_top (y := pb (∃ j, j < 0 ∧ fP (σ.1 19) G K R j)) (pb_0 (fun ⟨j, h, _⟩ => absurd h (by omega))).symm ?_
  refine x_istore (lv' := [_, _, _, _, _, _]) (pc' := 3) (by decide) rfl dX10_isFolded_1 rfl ?_
  refine x_iconst (v := 0) (pc' := 4) (by decide) dX10_isFolded_3 rfl ?_
  refine x_istore (lv' := [_, _, _, _, _, _]) (pc' := 6) (by decide) rfl dX10_isFolded_4 rfl ?_
  exact l_X10_isFolded hv hG hg hc hr hK hR 4 0 rfl
set_option maxRecDepth 100000 in
set_option maxHeartbeats 4000000 in
theorem v_X10_isFolded {σ : St} {v0 : Nat → Int32} (hs : σ.1 19 = v0) {g c r : Int32} {G K R : Nat} (hv : Ok v0) (hG : G < cN v0) (hg : g = nI G) (hc : c = nI K) (hr : r = nI R) (hK : K + 1 < fN v0 G 4) (hR : R + 1 < fN v0 G 5) : Ct yX10_isFolded M_X10_isFolded [.ref 18, .int g, .int c, .int r] σ (some (.int (pb (foldS v0 G K R))), σ) := by
  subst hs
  exact c_X10_isFolded hv hG hg hc hr hK hR
def cellQ (v : Nat → Int32) (g : Nat) (z : Int32) (c r : Nat) : Prop := (¬ z = 0 ∧ foldS v g c r) ∨ (z = 0 ∧ ¬ sureS v g c r)
noncomputable def cellK (v : Nat → Int32) (g : Nat) (z : Int32) (c r : Nat) : Nat := pif (cellQ v g z c r) 1 0
noncomputable def cellN (v : Nat → Int32) (g : Nat) (z : Int32) : Nat := sumN (fun c => sumN (fun r => cellK v g z c r) (fN v g 5 - 1)) (fN v g 4 - 1)
set_option maxRecDepth 100000 in
set_option maxHeartbeats 4000000 in
theorem l_X10_cells1 {σ : St} {z : Int32} {G c a : Nat} {out : Option Value × St} (hv : Ok (σ.1 19)) (hG : G < cN (σ.1 19)) (hc : c + 1 < fN (σ.1 19) G 4) (kk : Ex M_X10_cells out 79 [some (.ref 18), some (.int (nI G)), some (.int z), some (.int (nI (a + sumN (fun r => cellK (σ.1 19) G z c r) (fN (σ.1 19) G 5 - 1)))), some (.int (nI (c))), some (.int (nI (fN (σ.1 19) G 5 - 1)))] [] σ) : ∀ (n r : Nat), r + n = fN (σ.1 19) G 5 - 1 → Ex M_X10_cells out 21 [some (.ref 18), some (.int (nI G)), some (.int z), some (.int (nI (a + sumN (fun r => cellK (σ.1 19) G z c r) r))), some (.int (nI (c))), some (.int (nI r))] [] σ := by
  intro n
  induction n with
  | zero =>
    intro r hr
    obtain ⟨g6, c5, r5, c2, r2, s1, s64⟩ := hv.b hG
    have hf := hv.F hG
    have e4 : σ.1 19 (2 + 6 * G + 4) - 1 = nI (fN (σ.1 19) G 4 - 1) := by rw [hf.at (by omega) (by omega)]; exact pk_sub (b := 1) (by omega)
    have e5 : σ.1 19 (2 + 6 * G + 5) - 1 = nI (fN (σ.1 19) G 5 - 1) := by rw [hf.at (by omega) (by omega)]; exact pk_sub (b := 1) (by omega)
    obtain rfl : r = fN (σ.1 19) G 5 - 1 := by omega
    refine x_iload (pc' := 23) rfl dX10_cells_21 rfl ?_
    refine x_aload_n (pc' := 24) rfl dX10_cells_23 rfl ?_
    refine x_iload_n (pc' := 25) rfl dX10_cells_24 rfl ?_
    refine x_iconst (v := 5) (pc' := 26) (by decide) dX10_cells_25 rfl ?_
    refine x_callVi (As := [.int _, .int _]) (rest := [.int _]) (ci := 9) (pc' := 29) rfl vk_X10_58 mk_X10_its (by decide) (by first | assumption | exact ⟨by decide, rfl⟩) (by decide) rfl (Nat.le_of_ble_eq_true rfl) dX10_cells_26 rfl (c_X10_its (E := 5) rfl rfl (by omega)) ?_
    refine x_iconst (v := 1) (pc' := 30) (by decide) dX10_cells_29 rfl ?_
    refine x_isub (pc' := 31) dX10_cells_30 rfl ?_
    refine x_icmp_ge (tgt := 79) (pc' := 34) (by decide) dX10_cells_31 rfl (fun c31 => ?_) (fun c31 => absurd (by rw [e5]; exact nI_le (by omega) (by omega)) c31)
    exact kk
  | succ n ih =>
    intro r hr
    obtain ⟨g6, c5, r5, c2, r2, s1, s64⟩ := hv.b hG
    have hf := hv.F hG
    have e4 : σ.1 19 (2 + 6 * G + 4) - 1 = nI (fN (σ.1 19) G 4 - 1) := by rw [hf.at (by omega) (by omega)]; exact pk_sub (b := 1) (by omega)
    have e5 : σ.1 19 (2 + 6 * G + 5) - 1 = nI (fN (σ.1 19) G 5 - 1) := by rw [hf.at (by omega) (by omega)]; exact pk_sub (b := 1) (by omega)
    refine x_iload (pc' := 23) rfl dX10_cells_21 rfl ?_
    refine x_aload_n (pc' := 24) rfl dX10_cells_23 rfl ?_
    refine x_iload_n (pc' := 25) rfl dX10_cells_24 rfl ?_
    refine x_iconst (v := 5) (pc' := 26) (by decide) dX10_cells_25 rfl ?_
    refine x_callVi (As := [.int _, .int _]) (rest := [.int _]) (ci := 9) (pc' := 29) rfl vk_X10_58 mk_X10_its (by decide) (by first | assumption | exact ⟨by decide, rfl⟩) (by decide) rfl (Nat.le_of_ble_eq_true rfl) dX10_cells_26 rfl (c_X10_its (E := 5) rfl rfl (by omega)) ?_
    refine x_iconst (v := 1) (pc' := 30) (by decide) dX10_cells_29 rfl ?_
    refine x_isub (pc' := 31) dX10_cells_30 rfl ?_
    refine x_icmp_ge (tgt := 79) (pc' := 34) (by decide) dX10_cells_31 rfl (fun c31 => absurd c31 (by rw [e5]; exact nI_ge (by omega) (by omega))) (fun c31 => ?_)
    refine x_iload_n (pc' := 35) rfl dX10_cells_34 rfl ?_
    refine x_iload_n (pc' := 36) rfl dX10_cells_35 rfl ?_
    refine x_if_eq (tgt := 54) (pc' := 39) (by decide) dX10_cells_36 rfl (fun c36 => ?_) (fun c36 => ?_)
    · refine x_aload_n (pc' := 55) rfl dX10_cells_54 rfl ?_
      refine x_iload_n (pc' := 56) rfl dX10_cells_55 rfl ?_
      refine x_iload (pc' := 58) rfl dX10_cells_56 rfl ?_
      refine x_iload (pc' := 60) rfl dX10_cells_58 rfl ?_
      refine x_callVi (As := [.int _, .int _, .int _]) (rest := [.int _]) (ci := 9) (pc' := 63) rfl vk_X10_139 mk_X10_isSure (by decide) (by first | assumption | exact ⟨by decide, rfl⟩) (by decide) rfl (Nat.le_of_ble_eq_true rfl) dX10_cells_60 rfl (c_X10_isSure hv hG rfl rfl rfl hc (by omega)) ?_
      refine x_if_ne (tgt := 70) (pc' := 66) (by decide) dX10_cells_63 rfl (fun c63 => ?_) (fun c63 => ?_)
      · refine x_iconst (v := 0) (pc' := 71) (by decide) dX10_cells_70 rfl ?_
        refine x_top (y := nI (cellK (σ.1 19) G z c r)) (by rw [cellK, pif_f (P := cellQ (σ.1 19) G z c r) (fun q => q.elim (fun h => h.1 c36) (fun h => h.2 (pb_n c63)))]; rfl) ?_
        refine x_iadd (pc' := 72) dX10_cells_71 rfl ?_
        refine x_top (y := nI (a + sumN (fun r => cellK (σ.1 19) G z c r) (r + 1))) (by rw [nI_add, Nat.add_assoc]; rfl) ?_
        refine x_istore_n (lv' := [_, _, _, _, _, _]) (pc' := 73) (by decide) rfl dX10_cells_72 rfl ?_
        refine x_iinc (lv' := [_, _, _, _, _, _]) (pc' := 76) rfl (nI_1 r) (by decide) rfl dX10_cells_73 rfl ?_
        refine x_goto (tgt := 21) (by decide) dX10_cells_76 ?_
        exact ih (r + 1) (by omega)
      · refine x_iconst (v := 1) (pc' := 67) (by decide) dX10_cells_66 rfl ?_
        refine x_goto (tgt := 71) (by decide) dX10_cells_67 ?_
        refine x_top (y := nI (cellK (σ.1 19) G z c r)) (by rw [cellK, pif_t (P := cellQ (σ.1 19) G z c r) (Or.inr ⟨c36, pb_iff.mp c63⟩)]; rfl) ?_
        refine x_iadd (pc' := 72) dX10_cells_71 rfl ?_
        refine x_top (y := nI (a + sumN (fun r => cellK (σ.1 19) G z c r) (r + 1))) (by rw [nI_add, Nat.add_assoc]; rfl) ?_
        refine x_istore_n (lv' := [_, _, _, _, _, _]) (pc' := 73) (by decide) rfl dX10_cells_72 rfl ?_
        refine x_iinc (lv' := [_, _, _, _, _, _]) (pc' := 76) rfl (nI_1 r) (by decide) rfl dX10_cells_73 rfl ?_
        refine x_goto (tgt := 21) (by decide) dX10_cells_76 ?_
        exact ih (r + 1) (by omega)
    · refine x_aload_n (pc' := 40) rfl dX10_cells_39 rfl ?_
      refine x_iload_n (pc' := 41) rfl dX10_cells_40 rfl ?_
      refine x_iload (pc' := 43) rfl dX10_cells_41 rfl ?_
      refine x_iload (pc' := 45) rfl dX10_cells_43 rfl ?_
      refine x_callVi (As := [.int _, .int _, .int _]) (rest := [.int _]) (ci := 9) (pc' := 48) rfl vk_X10_136 mk_X10_isFolded (by decide) (by first | assumption | exact ⟨by decide, rfl⟩) (by decide) rfl (Nat.le_of_ble_eq_true rfl) dX10_cells_45 rfl (c_X10_isFolded hv hG rfl rfl rfl hc (by omega)) ?_
      refine x_if_eq (tgt := 70) (pc' := 51) (by decide) dX10_cells_48 rfl (fun c48 => ?_) (fun c48 => ?_)
      · refine x_iconst (v := 0) (pc' := 71) (by decide) dX10_cells_70 rfl ?_
        refine x_top (y := nI (cellK (σ.1 19) G z c r)) (by rw [cellK, pif_f (P := cellQ (σ.1 19) G z c r) (fun q => q.elim (fun h => pb_iff.mp c48 h.2) (fun h => c36 h.1))]; rfl) ?_
        refine x_iadd (pc' := 72) dX10_cells_71 rfl ?_
        refine x_top (y := nI (a + sumN (fun r => cellK (σ.1 19) G z c r) (r + 1))) (by rw [nI_add, Nat.add_assoc]; rfl) ?_
        refine x_istore_n (lv' := [_, _, _, _, _, _]) (pc' := 73) (by decide) rfl dX10_cells_72 rfl ?_
        refine x_iinc (lv' := [_, _, _, _, _, _]) (pc' := 76) rfl (nI_1 r) (by decide) rfl dX10_cells_73 rfl ?_
        refine x_goto (tgt := 21) (by decide) dX10_cells_76 ?_
        exact ih (r + 1) (by omega)
      · refine x_goto (tgt := 66) (by decide) dX10_cells_51 ?_
        refine x_iconst (v := 1) (pc' := 67) (by decide) dX10_cells_66 rfl ?_
        refine x_goto (tgt := 71) (by decide) dX10_cells_67 ?_
        refine x_top (y := nI (cellK (σ.1 19) G z c r)) (by rw [cellK, pif_t (P := cellQ (σ.1 19) G z c r) (Or.inl ⟨c36, pb_n c48⟩)]; rfl) ?_
        refine x_iadd (pc' := 72) dX10_cells_71 rfl ?_
        refine x_top (y := nI (a + sumN (fun r => cellK (σ.1 19) G z c r) (r + 1))) (by rw [nI_add, Nat.add_assoc]; rfl) ?_
        refine x_istore_n (lv' := [_, _, _, _, _, _]) (pc' := 73) (by decide) rfl dX10_cells_72 rfl ?_
        refine x_iinc (lv' := [_, _, _, _, _, _]) (pc' := 76) rfl (nI_1 r) (by decide) rfl dX10_cells_73 rfl ?_
        refine x_goto (tgt := 21) (by decide) dX10_cells_76 ?_
        exact ih (r + 1) (by omega)
set_option maxRecDepth 100000 in
set_option maxHeartbeats 4000000 in
theorem l_X10_cells2 {σ : St} {z : Int32} {G : Nat} (hv : Ok (σ.1 19)) (hG : G < cN (σ.1 19)) : ∀ (n c : Nat) (B : Option Value), c + n = fN (σ.1 19) G 4 - 1 → Ex M_X10_cells (some (.int (nI (cellN (σ.1 19) G z))), σ) 5 [some (.ref 18), some (.int (nI G)), some (.int z), some (.int (nI (sumN (fun c => sumN (fun r => cellK (σ.1 19) G z c r) (fN (σ.1 19) G 5 - 1)) c))), some (.int (nI (c))), B] [] σ := by
  intro n
  induction n with
  | zero =>
    intro c B hc
    obtain ⟨g6, c5, r5, c2, r2, s1, s64⟩ := hv.b hG
    have hf := hv.F hG
    have e4 : σ.1 19 (2 + 6 * G + 4) - 1 = nI (fN (σ.1 19) G 4 - 1) := by rw [hf.at (by omega) (by omega)]; exact pk_sub (b := 1) (by omega)
    have e5 : σ.1 19 (2 + 6 * G + 5) - 1 = nI (fN (σ.1 19) G 5 - 1) := by rw [hf.at (by omega) (by omega)]; exact pk_sub (b := 1) (by omega)
    obtain rfl : c = fN (σ.1 19) G 4 - 1 := by omega
    refine x_iload (pc' := 7) rfl dX10_cells_5 rfl ?_
    refine x_aload_n (pc' := 8) rfl dX10_cells_7 rfl ?_
    refine x_iload_n (pc' := 9) rfl dX10_cells_8 rfl ?_
    refine x_iconst (v := 4) (pc' := 10) (by decide) dX10_cells_9 rfl ?_
    refine x_callVi (As := [.int _, .int _]) (rest := [.int _]) (ci := 9) (pc' := 13) rfl vk_X10_58 mk_X10_its (by decide) (by first | assumption | exact ⟨by decide, rfl⟩) (by decide) rfl (Nat.le_of_ble_eq_true rfl) dX10_cells_10 rfl (c_X10_its (E := 4) rfl rfl (by omega)) ?_
    refine x_iconst (v := 1) (pc' := 14) (by decide) dX10_cells_13 rfl ?_
    refine x_isub (pc' := 15) dX10_cells_14 rfl ?_
    refine x_icmp_ge (tgt := 85) (pc' := 18) (by decide) dX10_cells_15 rfl (fun c15 => ?_) (fun c15 => absurd (by rw [e4]; exact nI_le (by omega) (by omega)) c15)
    refine x_iload_n (pc' := 86) rfl dX10_cells_85 rfl ?_
    exact x_iret rfl dX10_cells_86 rfl
  | succ n ih =>
    intro c B hc
    obtain ⟨g6, c5, r5, c2, r2, s1, s64⟩ := hv.b hG
    have hf := hv.F hG
    have e4 : σ.1 19 (2 + 6 * G + 4) - 1 = nI (fN (σ.1 19) G 4 - 1) := by rw [hf.at (by omega) (by omega)]; exact pk_sub (b := 1) (by omega)
    have e5 : σ.1 19 (2 + 6 * G + 5) - 1 = nI (fN (σ.1 19) G 5 - 1) := by rw [hf.at (by omega) (by omega)]; exact pk_sub (b := 1) (by omega)
    refine x_iload (pc' := 7) rfl dX10_cells_5 rfl ?_
    refine x_aload_n (pc' := 8) rfl dX10_cells_7 rfl ?_
    refine x_iload_n (pc' := 9) rfl dX10_cells_8 rfl ?_
    refine x_iconst (v := 4) (pc' := 10) (by decide) dX10_cells_9 rfl ?_
    refine x_callVi (As := [.int _, .int _]) (rest := [.int _]) (ci := 9) (pc' := 13) rfl vk_X10_58 mk_X10_its (by decide) (by first | assumption | exact ⟨by decide, rfl⟩) (by decide) rfl (Nat.le_of_ble_eq_true rfl) dX10_cells_10 rfl (c_X10_its (E := 4) rfl rfl (by omega)) ?_
    refine x_iconst (v := 1) (pc' := 14) (by decide) dX10_cells_13 rfl ?_
    refine x_isub (pc' := 15) dX10_cells_14 rfl ?_
    refine x_icmp_ge (tgt := 85) (pc' := 18) (by decide) dX10_cells_15 rfl (fun c15 => absurd c15 (by rw [e4]; exact nI_ge (by omega) (by omega))) (fun c15 => ?_)
    refine x_iconst (v := 0) (pc' := 19) (by decide) dX10_cells_18 rfl ?_
    refine x_istore (lv' := [_, _, _, _, _, _]) (pc' := 21) (by decide) rfl dX10_cells_19 rfl ?_
    refine l_X10_cells1 (a := sumN (fun c => sumN (fun r => cellK (σ.1 19) G z c r) (fN (σ.1 19) G 5 - 1)) c) hv hG (by omega) ?_ _ 0 (Nat.zero_add _)
    refine x_iinc (lv' := [_, _, _, _, _, _]) (pc' := 82) rfl (nI_1 c) (by decide) rfl dX10_cells_79 rfl ?_
    refine x_goto (tgt := 5) (by decide) dX10_cells_82 ?_
    exact ih (c + 1) _ (by omega)
set_option maxRecDepth 100000 in
set_option maxHeartbeats 4000000 in
theorem c_X10_cells {σ : St} {g z : Int32} {G : Nat} (hv : Ok (σ.1 19)) (hG : G < cN (σ.1 19)) (hg : g = nI G) : Ct yX10_cells M_X10_cells [.ref 18, .int g, .int z] σ (some (.int (nI (cellN (σ.1 19) G z))), σ) := by
  subst hg
  refine ct_of (k := 3) rfl rfl rfl (Nat.le_of_ble_eq_true rfl) ?_
  refine x_iconst (v := 0) (pc' := 1) (by decide) dX10_cells_0 rfl ?_
  refine x_istore_n (lv' := [_, _, _, _, _, _]) (pc' := 2) (by decide) rfl dX10_cells_1 rfl ?_
  refine x_iconst (v := 0) (pc' := 3) (by decide) dX10_cells_2 rfl ?_
  refine x_istore (lv' := [_, _, _, _, _, _]) (pc' := 5) (by decide) rfl dX10_cells_3 rfl ?_
  exact l_X10_cells2 hv hG _ 0 _ (Nat.zero_add _)
set_option maxRecDepth 100000 in
set_option maxHeartbeats 4000000 in
theorem v_X10_cells {σ : St} {v0 : Nat → Int32} (hs : σ.1 19 = v0) {g z : Int32} {G : Nat} (hv : Ok v0) (hG : G < cN v0) (hg : g = nI G) : Ct yX10_cells M_X10_cells [.ref 18, .int g, .int z] σ (some (.int (nI (cellN v0 G z))), σ) := by
  subst hs
  exact c_X10_cells hv hG hg
end
