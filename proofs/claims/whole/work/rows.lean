section
-- ===== PART A: goes FIRST, ahead of the names: the tables' words, and 'selects' of the private methods out of them =====
/-- a private method of a class that the tables say can be made, by its rows of tables_1 -/
def lw_okq (q : MethodName × Nat) : Prop := (q.1.cls ≠ "java/lang/invoke/MethodHandle" ∧ q.1.cls ≠ "java/lang/invoke/VarHandle") ∧ Cond.instantiable q.1.cls q.2 ∈ tables_1 ∧ Cond.privateMethod q.1 ∈ tables_1 ∧ Cond.instanceMethod q.1 ∈ tables_1
theorem lw_p0 : lw_okq (⟨"BoulderLand$Ground", "layBeside", "(IIII)V"⟩, 4) := ⟨⟨by decide +kernel, by decide +kernel⟩, List.mem_of_getElem? (i := 24) (by decide +kernel), List.mem_of_getElem? (i := 37) (by decide +kernel), List.mem_of_getElem? (i := 38) (by decide +kernel)⟩
theorem lw_p1 : lw_okq (⟨"BoulderLand$Goes", "spread", "(I)V"⟩, 11) := ⟨⟨by decide +kernel, by decide +kernel⟩, List.mem_of_getElem? (i := 97) (by decide +kernel), List.mem_of_getElem? (i := 318) (by decide +kernel), List.mem_of_getElem? (i := 319) (by decide +kernel)⟩
theorem lw_p2 : lw_okq (⟨"BoulderLand$Goes", "reach", "(III)V"⟩, 11) := ⟨⟨by decide +kernel, by decide +kernel⟩, List.mem_of_getElem? (i := 97) (by decide +kernel), List.mem_of_getElem? (i := 326) (by decide +kernel), List.mem_of_getElem? (i := 327) (by decide +kernel)⟩
theorem lw_p3 : lw_okq (⟨"BoulderLand$Goes", "findCourse", "(II)I"⟩, 11) := ⟨⟨by decide +kernel, by decide +kernel⟩, List.mem_of_getElem? (i := 97) (by decide +kernel), List.mem_of_getElem? (i := 338) (by decide +kernel), List.mem_of_getElem? (i := 339) (by decide +kernel)⟩
theorem lw_p4 : lw_okq (⟨"BoulderLand$Goes", "leads", "(III)Z"⟩, 11) := ⟨⟨by decide +kernel, by decide +kernel⟩, List.mem_of_getElem? (i := 97) (by decide +kernel), List.mem_of_getElem? (i := 342) (by decide +kernel), List.mem_of_getElem? (i := 343) (by decide +kernel)⟩
theorem lw_p5 : lw_okq (⟨"BoulderLand$Goes", "isBefore", "(III)Z"⟩, 11) := ⟨⟨by decide +kernel, by decide +kernel⟩, List.mem_of_getElem? (i := 97) (by decide +kernel), List.mem_of_getElem? (i := 346) (by decide +kernel), List.mem_of_getElem? (i := 347) (by decide +kernel)⟩
theorem lw_p6 : lw_okq (⟨"BoulderLand", "rowOf", "(I)LBoulderLand$Row;"⟩, 10) := ⟨⟨by decide +kernel, by decide +kernel⟩, List.mem_of_getElem? (i := 16) (by decide +kernel), List.mem_of_getElem? (i := 441) (by decide +kernel), List.mem_of_getElem? (i := 442) (by decide +kernel)⟩
theorem lw_p7 : lw_okq (⟨"BoulderLand$Signs", "holds", "(LBoulderLand$Row;III)Z"⟩, 8) := ⟨⟨by decide +kernel, by decide +kernel⟩, List.mem_of_getElem? (i := 161) (by decide +kernel), List.mem_of_getElem? (i := 523) (by decide +kernel), List.mem_of_getElem? (i := 524) (by decide +kernel)⟩
theorem lw_p8 : lw_okq (⟨"BoulderLand$Signs", "comesFromSomewhere", "(LBoulderLand$Row;I)Z"⟩, 8) := ⟨⟨by decide +kernel, by decide +kernel⟩, List.mem_of_getElem? (i := 161) (by decide +kernel), List.mem_of_getElem? (i := 527) (by decide +kernel), List.mem_of_getElem? (i := 528) (by decide +kernel)⟩
theorem lw_p9 : lw_okq (⟨"BoulderLand$Signs", "isCrossed", "(LBoulderLand$Row;III)Z"⟩, 8) := ⟨⟨by decide +kernel, by decide +kernel⟩, List.mem_of_getElem? (i := 161) (by decide +kernel), List.mem_of_getElem? (i := 532) (by decide +kernel), List.mem_of_getElem? (i := 533) (by decide +kernel)⟩
theorem lw_p10 : lw_okq (⟨"BoulderLand$Signs", "isDoneBy", "(IIII)Z"⟩, 8) := ⟨⟨by decide +kernel, by decide +kernel⟩, List.mem_of_getElem? (i := 161) (by decide +kernel), List.mem_of_getElem? (i := 540) (by decide +kernel), List.mem_of_getElem? (i := 541) (by decide +kernel)⟩
theorem lw_p11 : lw_okq (⟨"BoulderLand$Survey", "weigh", "(I)V"⟩, 7) := ⟨⟨by decide +kernel, by decide +kernel⟩, List.mem_of_getElem? (i := 193) (by decide +kernel), List.mem_of_getElem? (i := 569) (by decide +kernel), List.mem_of_getElem? (i := 570) (by decide +kernel)⟩
theorem lw_p12 : lw_okq (⟨"BoulderLand$Water", "runOut", "(I)Z"⟩, 3) := ⟨⟨by decide +kernel, by decide +kernel⟩, List.mem_of_getElem? (i := 227) (by decide +kernel), List.mem_of_getElem? (i := 616) (by decide +kernel), List.mem_of_getElem? (i := 617) (by decide +kernel)⟩
theorem lw_p13 : lw_okq (⟨"BoulderLand$Layers", "isWithoutRing", "(I)Z"⟩, 5) := ⟨⟨by decide +kernel, by decide +kernel⟩, List.mem_of_getElem? (i := 244) (by decide +kernel), List.mem_of_getElem? (i := 690) (by decide +kernel), List.mem_of_getElem? (i := 691) (by decide +kernel)⟩
theorem lw_p14 : lw_okq (⟨"BoulderLandModel", "layLand", "(II)V"⟩, 33) := ⟨⟨by decide +kernel, by decide +kernel⟩, List.mem_of_getElem? (i := 704) (by decide +kernel), List.mem_of_getElem? (i := 710) (by decide +kernel), List.mem_of_getElem? (i := 711) (by decide +kernel)⟩
theorem lw_p15 : lw_okq (⟨"BoulderLandModel", "isCell", "(I)Z"⟩, 33) := ⟨⟨by decide +kernel, by decide +kernel⟩, List.mem_of_getElem? (i := 704) (by decide +kernel), List.mem_of_getElem? (i := 828) (by decide +kernel), List.mem_of_getElem? (i := 829) (by decide +kernel)⟩
def lw_privs_1 : List (MethodName × Nat) := [(⟨"BoulderLand$Ground", "layBeside", "(IIII)V"⟩, 4), (⟨"BoulderLand$Goes", "spread", "(I)V"⟩, 11), (⟨"BoulderLand$Goes", "reach", "(III)V"⟩, 11), (⟨"BoulderLand$Goes", "findCourse", "(II)I"⟩, 11), (⟨"BoulderLand$Goes", "leads", "(III)Z"⟩, 11), (⟨"BoulderLand$Goes", "isBefore", "(III)Z"⟩, 11), (⟨"BoulderLand", "rowOf", "(I)LBoulderLand$Row;"⟩, 10), (⟨"BoulderLand$Signs", "holds", "(LBoulderLand$Row;III)Z"⟩, 8), (⟨"BoulderLand$Signs", "comesFromSomewhere", "(LBoulderLand$Row;I)Z"⟩, 8), (⟨"BoulderLand$Signs", "isCrossed", "(LBoulderLand$Row;III)Z"⟩, 8), (⟨"BoulderLand$Signs", "isDoneBy", "(IIII)Z"⟩, 8), (⟨"BoulderLand$Survey", "weigh", "(I)V"⟩, 7), (⟨"BoulderLand$Water", "runOut", "(I)Z"⟩, 3), (⟨"BoulderLand$Layers", "isWithoutRing", "(I)Z"⟩, 5), (⟨"BoulderLandModel", "layLand", "(II)V"⟩, 33), (⟨"BoulderLandModel", "isCell", "(I)Z"⟩, 33)]
theorem lw_r1 : ∀ q ∈ lw_privs_1, lw_okq q := List.forall_mem_cons.mpr ⟨lw_p0, List.forall_mem_cons.mpr ⟨lw_p1, List.forall_mem_cons.mpr ⟨lw_p2, List.forall_mem_cons.mpr ⟨lw_p3, List.forall_mem_cons.mpr ⟨lw_p4, List.forall_mem_cons.mpr ⟨lw_p5, List.forall_mem_cons.mpr ⟨lw_p6, List.forall_mem_cons.mpr ⟨lw_p7, List.forall_mem_cons.mpr ⟨lw_p8, List.forall_mem_cons.mpr ⟨lw_p9, List.forall_mem_cons.mpr ⟨lw_p10, List.forall_mem_cons.mpr ⟨lw_p11, List.forall_mem_cons.mpr ⟨lw_p12, List.forall_mem_cons.mpr ⟨lw_p13, List.forall_mem_cons.mpr ⟨lw_p14, List.forall_mem_cons.mpr ⟨lw_p15, fun _ h => absurd h List.not_mem_nil⟩⟩⟩⟩⟩⟩⟩⟩⟩⟩⟩⟩⟩⟩⟩⟩
theorem lw_p16 : lw_okq (⟨"BoulderLandModel", "cells", "()I"⟩, 33) := ⟨⟨by decide +kernel, by decide +kernel⟩, List.mem_of_getElem? (i := 704) (by decide +kernel), List.mem_of_getElem? (i := 832) (by decide +kernel), List.mem_of_getElem? (i := 833) (by decide +kernel)⟩
theorem lw_p17 : lw_okq (⟨"BoulderLandModel", "isStone", "(I)Z"⟩, 33) := ⟨⟨by decide +kernel, by decide +kernel⟩, List.mem_of_getElem? (i := 704) (by decide +kernel), List.mem_of_getElem? (i := 852) (by decide +kernel), List.mem_of_getElem? (i := 853) (by decide +kernel)⟩
theorem lw_p18 : lw_okq (⟨"BoulderLandModel", "isGo", "(I)Z"⟩, 33) := ⟨⟨by decide +kernel, by decide +kernel⟩, List.mem_of_getElem? (i := 704) (by decide +kernel), List.mem_of_getElem? (i := 870) (by decide +kernel), List.mem_of_getElem? (i := 871) (by decide +kernel)⟩
theorem lw_p19 : lw_okq (⟨"BoulderLandModel", "layGoes", "()V"⟩, 33) := ⟨⟨by decide +kernel, by decide +kernel⟩, List.mem_of_getElem? (i := 704) (by decide +kernel), List.mem_of_getElem? (i := 874) (by decide +kernel), List.mem_of_getElem? (i := 875) (by decide +kernel)⟩
theorem lw_p20 : lw_okq (⟨"BoulderLandModel", "layIce", "(I)V"⟩, 33) := ⟨⟨by decide +kernel, by decide +kernel⟩, List.mem_of_getElem? (i := 704) (by decide +kernel), List.mem_of_getElem? (i := 879) (by decide +kernel), List.mem_of_getElem? (i := 880) (by decide +kernel)⟩
theorem lw_p21 : lw_okq (⟨"BoulderLandModel", "beside", "(II)I"⟩, 33) := ⟨⟨by decide +kernel, by decide +kernel⟩, List.mem_of_getElem? (i := 704) (by decide +kernel), List.mem_of_getElem? (i := 883) (by decide +kernel), List.mem_of_getElem? (i := 884) (by decide +kernel)⟩
theorem lw_p22 : lw_okq (⟨"BoulderLandModel", "layFlood", "(I)V"⟩, 33) := ⟨⟨by decide +kernel, by decide +kernel⟩, List.mem_of_getElem? (i := 704) (by decide +kernel), List.mem_of_getElem? (i := 887) (by decide +kernel), List.mem_of_getElem? (i := 888) (by decide +kernel)⟩
theorem lw_p23 : lw_okq (⟨"BoulderLandModel", "isEdge", "(I)Z"⟩, 33) := ⟨⟨by decide +kernel, by decide +kernel⟩, List.mem_of_getElem? (i := 704) (by decide +kernel), List.mem_of_getElem? (i := 891) (by decide +kernel), List.mem_of_getElem? (i := 892) (by decide +kernel)⟩
theorem lw_p24 : lw_okq (⟨"BoulderLandModel", "isCovered", "(II)Z"⟩, 33) := ⟨⟨by decide +kernel, by decide +kernel⟩, List.mem_of_getElem? (i := 704) (by decide +kernel), List.mem_of_getElem? (i := 895) (by decide +kernel), List.mem_of_getElem? (i := 896) (by decide +kernel)⟩
theorem lw_p25 : lw_okq (⟨"BoulderLandModel", "thick", "(II)I"⟩, 33) := ⟨⟨by decide +kernel, by decide +kernel⟩, List.mem_of_getElem? (i := 704) (by decide +kernel), List.mem_of_getElem? (i := 903) (by decide +kernel), List.mem_of_getElem? (i := 904) (by decide +kernel)⟩
theorem lw_p26 : lw_okq (⟨"BoulderLandModel", "isHeap", "(II)Z"⟩, 33) := ⟨⟨by decide +kernel, by decide +kernel⟩, List.mem_of_getElem? (i := 704) (by decide +kernel), List.mem_of_getElem? (i := 907) (by decide +kernel), List.mem_of_getElem? (i := 908) (by decide +kernel)⟩
theorem lw_p27 : lw_okq (⟨"BoulderLandModel", "broughtBy", "(III)I"⟩, 33) := ⟨⟨by decide +kernel, by decide +kernel⟩, List.mem_of_getElem? (i := 704) (by decide +kernel), List.mem_of_getElem? (i := 915) (by decide +kernel), List.mem_of_getElem? (i := 916) (by decide +kernel)⟩
theorem lw_p28 : lw_okq (⟨"BoulderLandModel", "layRow", "(I)V"⟩, 33) := ⟨⟨by decide +kernel, by decide +kernel⟩, List.mem_of_getElem? (i := 704) (by decide +kernel), List.mem_of_getElem? (i := 939) (by decide +kernel), List.mem_of_getElem? (i := 940) (by decide +kernel)⟩
theorem lw_p29 : lw_okq (⟨"BoulderLandModel", "endOf", "(II)I"⟩, 33) := ⟨⟨by decide +kernel, by decide +kernel⟩, List.mem_of_getElem? (i := 704) (by decide +kernel), List.mem_of_getElem? (i := 943) (by decide +kernel), List.mem_of_getElem? (i := 944) (by decide +kernel)⟩
theorem lw_p30 : lw_okq (⟨"BoulderLandModel", "whenceOf", "(I)I"⟩, 33) := ⟨⟨by decide +kernel, by decide +kernel⟩, List.mem_of_getElem? (i := 704) (by decide +kernel), List.mem_of_getElem? (i := 951) (by decide +kernel), List.mem_of_getElem? (i := 952) (by decide +kernel)⟩
theorem lw_p31 : lw_okq (⟨"BoulderLandModel", "isWhence", "(II)Z"⟩, 33) := ⟨⟨by decide +kernel, by decide +kernel⟩, List.mem_of_getElem? (i := 704) (by decide +kernel), List.mem_of_getElem? (i := 955) (by decide +kernel), List.mem_of_getElem? (i := 956) (by decide +kernel)⟩
def lw_privs_2 : List (MethodName × Nat) := [(⟨"BoulderLandModel", "cells", "()I"⟩, 33), (⟨"BoulderLandModel", "isStone", "(I)Z"⟩, 33), (⟨"BoulderLandModel", "isGo", "(I)Z"⟩, 33), (⟨"BoulderLandModel", "layGoes", "()V"⟩, 33), (⟨"BoulderLandModel", "layIce", "(I)V"⟩, 33), (⟨"BoulderLandModel", "beside", "(II)I"⟩, 33), (⟨"BoulderLandModel", "layFlood", "(I)V"⟩, 33), (⟨"BoulderLandModel", "isEdge", "(I)Z"⟩, 33), (⟨"BoulderLandModel", "isCovered", "(II)Z"⟩, 33), (⟨"BoulderLandModel", "thick", "(II)I"⟩, 33), (⟨"BoulderLandModel", "isHeap", "(II)Z"⟩, 33), (⟨"BoulderLandModel", "broughtBy", "(III)I"⟩, 33), (⟨"BoulderLandModel", "layRow", "(I)V"⟩, 33), (⟨"BoulderLandModel", "endOf", "(II)I"⟩, 33), (⟨"BoulderLandModel", "whenceOf", "(I)I"⟩, 33), (⟨"BoulderLandModel", "isWhence", "(II)Z"⟩, 33)]
theorem lw_r2 : ∀ q ∈ lw_privs_2, lw_okq q := List.forall_mem_cons.mpr ⟨lw_p16, List.forall_mem_cons.mpr ⟨lw_p17, List.forall_mem_cons.mpr ⟨lw_p18, List.forall_mem_cons.mpr ⟨lw_p19, List.forall_mem_cons.mpr ⟨lw_p20, List.forall_mem_cons.mpr ⟨lw_p21, List.forall_mem_cons.mpr ⟨lw_p22, List.forall_mem_cons.mpr ⟨lw_p23, List.forall_mem_cons.mpr ⟨lw_p24, List.forall_mem_cons.mpr ⟨lw_p25, List.forall_mem_cons.mpr ⟨lw_p26, List.forall_mem_cons.mpr ⟨lw_p27, List.forall_mem_cons.mpr ⟨lw_p28, List.forall_mem_cons.mpr ⟨lw_p29, List.forall_mem_cons.mpr ⟨lw_p30, List.forall_mem_cons.mpr ⟨lw_p31, fun _ h => absurd h List.not_mem_nil⟩⟩⟩⟩⟩⟩⟩⟩⟩⟩⟩⟩⟩⟩⟩⟩
theorem lw_p32 : lw_okq (⟨"BoulderLandModel", "isSign", "(I)Z"⟩, 33) := ⟨⟨by decide +kernel, by decide +kernel⟩, List.mem_of_getElem? (i := 704) (by decide +kernel), List.mem_of_getElem? (i := 973) (by decide +kernel), List.mem_of_getElem? (i := 974) (by decide +kernel)⟩
theorem lw_p33 : lw_okq (⟨"BoulderLandModel", "isExplained", "(I)Z"⟩, 33) := ⟨⟨by decide +kernel, by decide +kernel⟩, List.mem_of_getElem? (i := 704) (by decide +kernel), List.mem_of_getElem? (i := 981) (by decide +kernel), List.mem_of_getElem? (i := 982) (by decide +kernel)⟩
theorem lw_p34 : lw_okq (⟨"BoulderLandModel", "hasThing", "(II)Z"⟩, 33) := ⟨⟨by decide +kernel, by decide +kernel⟩, List.mem_of_getElem? (i := 704) (by decide +kernel), List.mem_of_getElem? (i := 985) (by decide +kernel), List.mem_of_getElem? (i := 986) (by decide +kernel)⟩
theorem lw_p35 : lw_okq (⟨"BoulderLandModel", "flowsIn", "(III)Z"⟩, 33) := ⟨⟨by decide +kernel, by decide +kernel⟩, List.mem_of_getElem? (i := 704) (by decide +kernel), List.mem_of_getElem? (i := 989) (by decide +kernel), List.mem_of_getElem? (i := 990) (by decide +kernel)⟩
theorem lw_p36 : lw_okq (⟨"BoulderLandModel", "hasCross", "(II)Z"⟩, 33) := ⟨⟨by decide +kernel, by decide +kernel⟩, List.mem_of_getElem? (i := 704) (by decide +kernel), List.mem_of_getElem? (i := 993) (by decide +kernel), List.mem_of_getElem? (i := 994) (by decide +kernel)⟩
theorem lw_p37 : lw_okq (⟨"BoulderLandModel", "costOf", "()I"⟩, 33) := ⟨⟨by decide +kernel, by decide +kernel⟩, List.mem_of_getElem? (i := 704) (by decide +kernel), List.mem_of_getElem? (i := 1001) (by decide +kernel), List.mem_of_getElem? (i := 1002) (by decide +kernel)⟩
theorem lw_p38 : lw_okq (⟨"BoulderLandModel", "layBest", "()V"⟩, 33) := ⟨⟨by decide +kernel, by decide +kernel⟩, List.mem_of_getElem? (i := 704) (by decide +kernel), List.mem_of_getElem? (i := 1009) (by decide +kernel), List.mem_of_getElem? (i := 1010) (by decide +kernel)⟩
theorem lw_p39 : lw_okq (⟨"BoulderLandModel", "layCode", "(I)Z"⟩, 33) := ⟨⟨by decide +kernel, by decide +kernel⟩, List.mem_of_getElem? (i := 704) (by decide +kernel), List.mem_of_getElem? (i := 1014) (by decide +kernel), List.mem_of_getElem? (i := 1015) (by decide +kernel)⟩
theorem lw_p40 : lw_okq (⟨"BoulderLandModel", "layThings", "(I)V"⟩, 33) := ⟨⟨by decide +kernel, by decide +kernel⟩, List.mem_of_getElem? (i := 704) (by decide +kernel), List.mem_of_getElem? (i := 1034) (by decide +kernel), List.mem_of_getElem? (i := 1035) (by decide +kernel)⟩
theorem lw_p41 : lw_okq (⟨"BoulderLandModel", "layLake", "(I)V"⟩, 33) := ⟨⟨by decide +kernel, by decide +kernel⟩, List.mem_of_getElem? (i := 704) (by decide +kernel), List.mem_of_getElem? (i := 1046) (by decide +kernel), List.mem_of_getElem? (i := 1047) (by decide +kernel)⟩
theorem lw_p42 : lw_okq (⟨"BoulderLandModel", "layUnder", "(I)I"⟩, 33) := ⟨⟨by decide +kernel, by decide +kernel⟩, List.mem_of_getElem? (i := 704) (by decide +kernel), List.mem_of_getElem? (i := 1069) (by decide +kernel), List.mem_of_getElem? (i := 1070) (by decide +kernel)⟩
theorem lw_p43 : lw_okq (⟨"BoulderLandModel", "fewest", "()I"⟩, 33) := ⟨⟨by decide +kernel, by decide +kernel⟩, List.mem_of_getElem? (i := 704) (by decide +kernel), List.mem_of_getElem? (i := 1081) (by decide +kernel), List.mem_of_getElem? (i := 1082) (by decide +kernel)⟩
def lw_privs_3 : List (MethodName × Nat) := [(⟨"BoulderLandModel", "isSign", "(I)Z"⟩, 33), (⟨"BoulderLandModel", "isExplained", "(I)Z"⟩, 33), (⟨"BoulderLandModel", "hasThing", "(II)Z"⟩, 33), (⟨"BoulderLandModel", "flowsIn", "(III)Z"⟩, 33), (⟨"BoulderLandModel", "hasCross", "(II)Z"⟩, 33), (⟨"BoulderLandModel", "costOf", "()I"⟩, 33), (⟨"BoulderLandModel", "layBest", "()V"⟩, 33), (⟨"BoulderLandModel", "layCode", "(I)Z"⟩, 33), (⟨"BoulderLandModel", "layThings", "(I)V"⟩, 33), (⟨"BoulderLandModel", "layLake", "(I)V"⟩, 33), (⟨"BoulderLandModel", "layUnder", "(I)I"⟩, 33), (⟨"BoulderLandModel", "fewest", "()I"⟩, 33)]
theorem lw_r3 : ∀ q ∈ lw_privs_3, lw_okq q := List.forall_mem_cons.mpr ⟨lw_p32, List.forall_mem_cons.mpr ⟨lw_p33, List.forall_mem_cons.mpr ⟨lw_p34, List.forall_mem_cons.mpr ⟨lw_p35, List.forall_mem_cons.mpr ⟨lw_p36, List.forall_mem_cons.mpr ⟨lw_p37, List.forall_mem_cons.mpr ⟨lw_p38, List.forall_mem_cons.mpr ⟨lw_p39, List.forall_mem_cons.mpr ⟨lw_p40, List.forall_mem_cons.mpr ⟨lw_p41, List.forall_mem_cons.mpr ⟨lw_p42, List.forall_mem_cons.mpr ⟨lw_p43, fun _ h => absurd h List.not_mem_nil⟩⟩⟩⟩⟩⟩⟩⟩⟩⟩⟩⟩
def lw_privs : List (MethodName × Nat) := lw_privs_1 ++ (lw_privs_2 ++ (lw_privs_3))
def lw_tbl : List Cond := k2_sels lw_privs ++ tables_1
theorem lw_privs_ok : ∀ q ∈ lw_privs, lw_okq q := by
  show ∀ q ∈ lw_privs_1 ++ (lw_privs_2 ++ (lw_privs_3)), lw_okq q
  exact List.forall_mem_append.mpr ⟨lw_r1, List.forall_mem_append.mpr ⟨lw_r2, lw_r3⟩⟩
/-! names of classes, fields, methods, as the claim prints them -/
def RX0 : String := "BoulderLand$Goes"
def TX0 : u_T := fun k => match k with
  | 0 => ("BoulderLand$Goes", "ground", "LBoulderLand$Ground;", true)
  | 1 => ("BoulderLand$Goes", "icy", "[Z", true)
  | 2 => ("BoulderLand$Goes", "source", "[I", true)
  | 3 => ("BoulderLand$Goes", "top", "[I", true)
  | 4 => ("BoulderLand$Goes", "fall", "[I", true)
  | 5 => ("BoulderLand$Goes", "steps", "[I", true)
  | 6 => ("BoulderLand$Goes", "dist", "[I", true)
  | 7 => ("BoulderLand$Goes", "course", "[I", true)
  | 8 => ("BoulderLand$Goes", "reached", "[I", true)
  | 9 => ("BoulderLand$Goes", "reachedSize", "I", false)
  | _ => ("BoulderLand$Goes", "size", "I", false)
def tyX0 : Nat → FieldType := fun k => match k with
  | 0 => .object "BoulderLand$Ground"
  | 1 => .array .boolean
  | 2 => .array .int
  | 3 => .array .int
  | 4 => .array .int
  | 5 => .array .int
  | 6 => .array .int
  | 7 => .array .int
  | 8 => .array .int
  | 9 => .int
  | _ => .int
theorem nmX0 : ∀ a, a < 11 → ∀ b, b < 11 → a ≠ b → (TX0 a).2.1 ≠ (TX0 b).2.1 := by decide +kernel
theorem tyX0_ok : ∀ k, k < 11 → parseFieldDescriptor (TX0 k).2.2.1 = some (tyX0 k) := by decide +kernel
abbrev cX0_init : ByteArray := prog_2_method_1_code
def yX0_init : MethodName := ⟨RX0, "<init>", "(LBoulderLand$Ground;)V"⟩
abbrev cX0_has : ByteArray := prog_2_method_2_code
def yX0_has : MethodName := ⟨RX0, "has", "(I)Z"⟩
abbrev cX0_addIce : ByteArray := prog_2_method_3_code
def yX0_addIce : MethodName := ⟨RX0, "addIce", "(IIII)I"⟩
abbrev cX0_addFlood : ByteArray := prog_2_method_4_code
def yX0_addFlood : MethodName := ⟨RX0, "addFlood", "(I)I"⟩
abbrev cX0_spreadAll : ByteArray := prog_2_method_5_code
def yX0_spreadAll : MethodName := ⟨RX0, "spreadAll", "()V"⟩
abbrev cX0_spread : ByteArray := prog_2_method_6_code
def yX0_spread : MethodName := ⟨RX0, "spread", "(I)V"⟩
abbrev cX0_reach : ByteArray := prog_2_method_7_code
def yX0_reach : MethodName := ⟨RX0, "reach", "(III)V"⟩
abbrev cX0_findCourse : ByteArray := prog_2_method_8_code
def yX0_findCourse : MethodName := ⟨RX0, "findCourse", "(II)I"⟩
abbrev cX0_leads : ByteArray := prog_2_method_9_code
def yX0_leads : MethodName := ⟨RX0, "leads", "(III)Z"⟩
abbrev cX0_isBefore : ByteArray := prog_2_method_10_code
def yX0_isBefore : MethodName := ⟨RX0, "isBefore", "(III)Z"⟩
abbrev cX0_isCovered : ByteArray := prog_2_method_11_code
def yX0_isCovered : MethodName := ⟨RX0, "isCovered", "(II)Z"⟩
abbrev cX0_isIced : ByteArray := prog_2_method_12_code
def yX0_isIced : MethodName := ⟨RX0, "isIced", "(II)Z"⟩
abbrev cX0_isHeap : ByteArray := prog_2_method_13_code
def yX0_isHeap : MethodName := ⟨RX0, "isHeap", "(II)Z"⟩
abbrev cX0_isFlowing : ByteArray := prog_2_method_14_code
def yX0_isFlowing : MethodName := ⟨RX0, "isFlowing", "(III)Z"⟩
abbrev cX0_distAt : ByteArray := prog_2_method_15_code
def yX0_distAt : MethodName := ⟨RX0, "distAt", "(II)I"⟩
abbrev cX0_thickAt : ByteArray := prog_2_method_16_code
def yX0_thickAt : MethodName := ⟨RX0, "thickAt", "(II)I"⟩
abbrev cX0_courseAt : ByteArray := prog_2_method_17_code
def yX0_courseAt : MethodName := ⟨RX0, "courseAt", "(II)I"⟩
abbrev cX0_countCovered : ByteArray := prog_2_method_18_code
def yX0_countCovered : MethodName := ⟨RX0, "countCovered", "(I)I"⟩
abbrev cX0_carry : ByteArray := prog_2_method_19_code
def yX0_carry : MethodName := ⟨RX0, "carry", "(III)I"⟩
abbrev cX0_carryAlong : ByteArray := prog_2_method_20_code
def yX0_carryAlong : MethodName := ⟨RX0, "carryAlong", "(LBoulderLand$Row;II)I"⟩
def RX1 : String := "BoulderLand$Ground"
def TX1 : u_T := fun k => match k with
  | 0 => ("BoulderLand$Ground", "height", "[I", true)
  | 1 => ("BoulderLand$Ground", "rock", "[I", true)
  | 2 => ("BoulderLand$Ground", "beside", "[I", true)
  | _ => ("BoulderLand$Ground", "size", "I", false)
def tyX1 : Nat → FieldType := fun k => match k with
  | 0 => .array .int
  | 1 => .array .int
  | 2 => .array .int
  | _ => .int
theorem nmX1 : ∀ a, a < 4 → ∀ b, b < 4 → a ≠ b → (TX1 a).2.1 ≠ (TX1 b).2.1 := by decide +kernel
theorem tyX1_ok : ∀ k, k < 4 → parseFieldDescriptor (TX1 k).2.2.1 = some (tyX1 k) := by decide +kernel
abbrev cX1_init : ByteArray := prog_3_method_1_code
def yX1_init : MethodName := ⟨RX1, "<init>", "()V"⟩
abbrev cX1_lay : ByteArray := prog_3_method_2_code
def yX1_lay : MethodName := ⟨RX1, "lay", "(II)V"⟩
abbrev cX1_layBeside : ByteArray := prog_3_method_3_code
def yX1_layBeside : MethodName := ⟨RX1, "layBeside", "(IIII)V"⟩
abbrev cX1_has : ByteArray := prog_3_method_4_code
def yX1_has : MethodName := ⟨RX1, "has", "(I)Z"⟩
abbrev cX1_isEdge : ByteArray := prog_3_method_5_code
def yX1_isEdge : MethodName := ⟨RX1, "isEdge", "(I)Z"⟩
def RX2 : String := "BoulderLand$Layers"
def TX2 : u_T := fun k => match k with
  | 0 => ("BoulderLand$Layers", "toldUnder", "[I", true)
  | 1 => ("BoulderLand$Layers", "under", "[I", true)
  | 2 => ("BoulderLand$Layers", "pairs", "I", false)
  | 3 => ("BoulderLand$Layers", "dropped", "I", false)
  | _ => ("BoulderLand$Layers", "stale", "Z", false)
def tyX2 : Nat → FieldType := fun k => match k with
  | 0 => .array .int
  | 1 => .array .int
  | 2 => .int
  | 3 => .int
  | _ => .boolean
theorem nmX2 : ∀ a, a < 5 → ∀ b, b < 5 → a ≠ b → (TX2 a).2.1 ≠ (TX2 b).2.1 := by decide +kernel
theorem tyX2_ok : ∀ k, k < 5 → parseFieldDescriptor (TX2 k).2.2.1 = some (tyX2 k) := by decide +kernel
abbrev cX2_init : ByteArray := prog_4_method_1_code
def yX2_init : MethodName := ⟨RX2, "<init>", "()V"⟩
abbrev cX2_mask : ByteArray := prog_4_method_2_code
def yX2_mask : MethodName := ⟨RX2, "mask", "(I)I"⟩
abbrev cX2_isToldOver : ByteArray := prog_4_method_3_code
def yX2_isToldOver : MethodName := ⟨RX2, "isToldOver", "(II)Z"⟩
abbrev cX2_isRoundAbout : ByteArray := prog_4_method_4_code
def yX2_isRoundAbout : MethodName := ⟨RX2, "isRoundAbout", "(II)Z"⟩
abbrev cX2_turn : ByteArray := prog_4_method_5_code
def yX2_turn : MethodName := ⟨RX2, "turn", "(II)V"⟩
abbrev cX2_fewestDropped : ByteArray := prog_4_method_6_code
def yX2_fewestDropped : MethodName := ⟨RX2, "fewestDropped", "()I"⟩
abbrev cX2_isWithoutRing : ByteArray := prog_4_method_7_code
def yX2_isWithoutRing : MethodName := ⟨RX2, "isWithoutRing", "(I)Z"⟩
def RX3 : String := "BoulderLand$Row"
def TX3 : u_T := fun k => match k with
  | 0 => ("BoulderLand$Row", "go", "[I", true)
  | _ => ("BoulderLand$Row", "size", "I", false)
def tyX3 : Nat → FieldType := fun k => match k with
  | 0 => .array .int
  | _ => .int
theorem nmX3 : ∀ a, a < 2 → ∀ b, b < 2 → a ≠ b → (TX3 a).2.1 ≠ (TX3 b).2.1 := by decide +kernel
theorem tyX3_ok : ∀ k, k < 2 → parseFieldDescriptor (TX3 k).2.2.1 = some (tyX3 k) := by decide +kernel
abbrev cX3_init : ByteArray := prog_5_method_1_code
def yX3_init : MethodName := ⟨RX3, "<init>", "()V"⟩
abbrev cX3_has : ByteArray := prog_5_method_2_code
def yX3_has : MethodName := ⟨RX3, "has", "(I)Z"⟩
abbrev cX3_add : ByteArray := prog_5_method_3_code
def yX3_add : MethodName := ⟨RX3, "add", "(I)V"⟩
abbrev cX3_at : ByteArray := prog_5_method_4_code
def yX3_at : MethodName := ⟨RX3, "at", "(I)I"⟩
abbrev cX3_copy : ByteArray := prog_5_method_5_code
def yX3_copy : MethodName := ⟨RX3, "copy", "(LBoulderLand$Row;)V"⟩
abbrev cX3_spell : ByteArray := prog_5_method_6_code
def yX3_spell : MethodName := ⟨RX3, "spell", "(III)Z"⟩
def RX4 : String := "BoulderLand$Signs"
def TX4 : u_T := fun k => match k with
  | 0 => ("BoulderLand$Signs", "ground", "LBoulderLand$Ground;", true)
  | 1 => ("BoulderLand$Signs", "stones", "LBoulderLand$Stones;", true)
  | 2 => ("BoulderLand$Signs", "goes", "LBoulderLand$Goes;", true)
  | 3 => ("BoulderLand$Signs", "kind", "[I", true)
  | 4 => ("BoulderLand$Signs", "cell", "[I", true)
  | 5 => ("BoulderLand$Signs", "extra", "[I", true)
  | 6 => ("BoulderLand$Signs", "worth", "[I", true)
  | _ => ("BoulderLand$Signs", "size", "I", false)
def tyX4 : Nat → FieldType := fun k => match k with
  | 0 => .object "BoulderLand$Ground"
  | 1 => .object "BoulderLand$Stones"
  | 2 => .object "BoulderLand$Goes"
  | 3 => .array .int
  | 4 => .array .int
  | 5 => .array .int
  | 6 => .array .int
  | _ => .int
theorem nmX4 : ∀ a, a < 8 → ∀ b, b < 8 → a ≠ b → (TX4 a).2.1 ≠ (TX4 b).2.1 := by decide +kernel
theorem tyX4_ok : ∀ k, k < 8 → parseFieldDescriptor (TX4 k).2.2.1 = some (tyX4 k) := by decide +kernel
abbrev cX4_init : ByteArray := prog_6_method_1_code
def yX4_init : MethodName := ⟨RX4, "<init>", "(LBoulderLand$Ground;LBoulderLand$Stones;LBoulderLand$Goes;)V"⟩
abbrev cX4_has : ByteArray := prog_6_method_2_code
def yX4_has : MethodName := ⟨RX4, "has", "(I)Z"⟩
abbrev cX4_add : ByteArray := prog_6_method_3_code
def yX4_add : MethodName := ⟨RX4, "add", "(IIII)I"⟩
abbrev cX4_remove : ByteArray := prog_6_method_4_code
def yX4_remove : MethodName := ⟨RX4, "remove", "(I)I"⟩
abbrev cX4_costOf : ByteArray := prog_6_method_5_code
def yX4_costOf : MethodName := ⟨RX4, "costOf", "(LBoulderLand$Row;)I"⟩
abbrev cX4_isExplained : ByteArray := prog_6_method_6_code
def yX4_isExplained : MethodName := ⟨RX4, "isExplained", "(LBoulderLand$Row;I)Z"⟩
abbrev cX4_tellApart : ByteArray := prog_6_method_7_code
def yX4_tellApart : MethodName := ⟨RX4, "tellApart", "(LBoulderLand$Row;LBoulderLand$Row;II)Z"⟩
abbrev cX4_canComeFrom : ByteArray := prog_6_method_8_code
def yX4_canComeFrom : MethodName := ⟨RX4, "canComeFrom", "(LBoulderLand$Row;II)Z"⟩
abbrev cX4_holds : ByteArray := prog_6_method_9_code
def yX4_holds : MethodName := ⟨RX4, "holds", "(LBoulderLand$Row;III)Z"⟩
abbrev cX4_isDoneBy : ByteArray := prog_6_method_10_code
def yX4_isDoneBy : MethodName := ⟨RX4, "isDoneBy", "(IIII)Z"⟩
abbrev cX4_isCrossed : ByteArray := prog_6_method_11_code
def yX4_isCrossed : MethodName := ⟨RX4, "isCrossed", "(LBoulderLand$Row;III)Z"⟩
abbrev cX4_comesFromSomewhere : ByteArray := prog_6_method_12_code
def yX4_comesFromSomewhere : MethodName := ⟨RX4, "comesFromSomewhere", "(LBoulderLand$Row;I)Z"⟩
def RX5 : String := "BoulderLand$Stones"
def TX5 : u_T := fun k => match k with
  | 0 => ("BoulderLand$Stones", "cell", "[I", true)
  | 1 => ("BoulderLand$Stones", "rock", "[I", true)
  | 2 => ("BoulderLand$Stones", "weight", "[I", true)
  | _ => ("BoulderLand$Stones", "size", "I", false)
def tyX5 : Nat → FieldType := fun k => match k with
  | 0 => .array .int
  | 1 => .array .int
  | 2 => .array .int
  | _ => .int
theorem nmX5 : ∀ a, a < 4 → ∀ b, b < 4 → a ≠ b → (TX5 a).2.1 ≠ (TX5 b).2.1 := by decide +kernel
theorem tyX5_ok : ∀ k, k < 4 → parseFieldDescriptor (TX5 k).2.2.1 = some (tyX5 k) := by decide +kernel
abbrev cX5_init : ByteArray := prog_7_method_1_code
def yX5_init : MethodName := ⟨RX5, "<init>", "()V"⟩
abbrev cX5_has : ByteArray := prog_7_method_2_code
def yX5_has : MethodName := ⟨RX5, "has", "(I)Z"⟩
abbrev cX5_add : ByteArray := prog_7_method_3_code
def yX5_add : MethodName := ⟨RX5, "add", "(III)I"⟩
def RX6 : String := "BoulderLand$Survey"
def TX6 : u_T := fun k => match k with
  | 0 => ("BoulderLand$Survey", "goes", "LBoulderLand$Goes;", true)
  | 1 => ("BoulderLand$Survey", "signs", "LBoulderLand$Signs;", true)
  | 2 => ("BoulderLand$Survey", "trial", "LBoulderLand$Row;", true)
  | 3 => ("BoulderLand$Survey", "cheapest", "LBoulderLand$Row;", true)
  | 4 => ("BoulderLand$Survey", "leastCost", "I", false)
  | 5 => ("BoulderLand$Survey", "fitting", "I", false)
  | _ => ("BoulderLand$Survey", "stale", "Z", false)
def tyX6 : Nat → FieldType := fun k => match k with
  | 0 => .object "BoulderLand$Goes"
  | 1 => .object "BoulderLand$Signs"
  | 2 => .object "BoulderLand$Row"
  | 3 => .object "BoulderLand$Row"
  | 4 => .int
  | 5 => .int
  | _ => .boolean
theorem nmX6 : ∀ a, a < 7 → ∀ b, b < 7 → a ≠ b → (TX6 a).2.1 ≠ (TX6 b).2.1 := by decide +kernel
theorem tyX6_ok : ∀ k, k < 7 → parseFieldDescriptor (TX6 k).2.2.1 = some (tyX6 k) := by decide +kernel
abbrev cX6_init : ByteArray := prog_8_method_1_code
def yX6_init : MethodName := ⟨RX6, "<init>", "(LBoulderLand$Goes;LBoulderLand$Signs;)V"⟩
abbrev cX6_renew : ByteArray := prog_8_method_2_code
def yX6_renew : MethodName := ⟨RX6, "renew", "()V"⟩
abbrev cX6_weigh : ByteArray := prog_8_method_3_code
def yX6_weigh : MethodName := ⟨RX6, "weigh", "(I)V"⟩
def RX7 : String := "BoulderLand$Water"
def TX7 : u_T := fun k => match k with
  | 0 => ("BoulderLand$Water", "ground", "LBoulderLand$Ground;", true)
  | 1 => ("BoulderLand$Water", "goes", "LBoulderLand$Goes;", true)
  | _ => ("BoulderLand$Water", "surface", "[I", true)
def tyX7 : Nat → FieldType := fun k => match k with
  | 0 => .object "BoulderLand$Ground"
  | 1 => .object "BoulderLand$Goes"
  | _ => .array .int
theorem nmX7 : ∀ a, a < 3 → ∀ b, b < 3 → a ≠ b → (TX7 a).2.1 ≠ (TX7 b).2.1 := by decide +kernel
theorem tyX7_ok : ∀ k, k < 3 → parseFieldDescriptor (TX7 k).2.2.1 = some (tyX7 k) := by decide +kernel
abbrev cX7_init : ByteArray := prog_9_method_1_code
def yX7_init : MethodName := ⟨RX7, "<init>", "(LBoulderLand$Ground;LBoulderLand$Goes;)V"⟩
abbrev cX7_isClosed : ByteArray := prog_9_method_2_code
def yX7_isClosed : MethodName := ⟨RX7, "isClosed", "(I)Z"⟩
abbrev cX7_stand : ByteArray := prog_9_method_3_code
def yX7_stand : MethodName := ⟨RX7, "stand", "(I)V"⟩
abbrev cX7_runOut : ByteArray := prog_9_method_4_code
def yX7_runOut : MethodName := ⟨RX7, "runOut", "(I)Z"⟩
abbrev cX7_sumDeep : ByteArray := prog_9_method_5_code
def yX7_sumDeep : MethodName := ⟨RX7, "sumDeep", "()I"⟩
def RX8 : String := "BoulderLand"
def TX8 : u_T := fun k => match k with
  | 0 => ("BoulderLand", "ground", "LBoulderLand$Ground;", true)
  | 1 => ("BoulderLand", "stones", "LBoulderLand$Stones;", true)
  | 2 => ("BoulderLand", "goes", "LBoulderLand$Goes;", true)
  | 3 => ("BoulderLand", "firstRow", "LBoulderLand$Row;", true)
  | 4 => ("BoulderLand", "secondRow", "LBoulderLand$Row;", true)
  | 5 => ("BoulderLand", "thirdRow", "LBoulderLand$Row;", true)
  | 6 => ("BoulderLand", "signs", "LBoulderLand$Signs;", true)
  | 7 => ("BoulderLand", "survey", "LBoulderLand$Survey;", true)
  | 8 => ("BoulderLand", "water", "LBoulderLand$Water;", true)
  | _ => ("BoulderLand", "layers", "LBoulderLand$Layers;", true)
def tyX8 : Nat → FieldType := fun k => match k with
  | 0 => .object "BoulderLand$Ground"
  | 1 => .object "BoulderLand$Stones"
  | 2 => .object "BoulderLand$Goes"
  | 3 => .object "BoulderLand$Row"
  | 4 => .object "BoulderLand$Row"
  | 5 => .object "BoulderLand$Row"
  | 6 => .object "BoulderLand$Signs"
  | 7 => .object "BoulderLand$Survey"
  | 8 => .object "BoulderLand$Water"
  | _ => .object "BoulderLand$Layers"
theorem nmX8 : ∀ a, a < 10 → ∀ b, b < 10 → a ≠ b → (TX8 a).2.1 ≠ (TX8 b).2.1 := by decide +kernel
theorem tyX8_ok : ∀ k, k < 10 → parseFieldDescriptor (TX8 k).2.2.1 = some (tyX8 k) := by decide +kernel
abbrev cX8_init : ByteArray := prog_1_method_1_code
def yX8_init : MethodName := ⟨RX8, "<init>", "()V"⟩
abbrev cX8_land : ByteArray := prog_1_method_2_code
def yX8_land : MethodName := ⟨RX8, "land", "(II)I"⟩
abbrev cX8_cell : ByteArray := prog_1_method_3_code
def yX8_cell : MethodName := ⟨RX8, "cell", "(III)I"⟩
abbrev cX8_stone : ByteArray := prog_1_method_4_code
def yX8_stone : MethodName := ⟨RX8, "stone", "(III)I"⟩
abbrev cX8_dug : ByteArray := prog_1_method_5_code
def yX8_dug : MethodName := ⟨RX8, "dug", "(II)I"⟩
abbrev cX8_ice : ByteArray := prog_1_method_6_code
def yX8_ice : MethodName := ⟨RX8, "ice", "(IIII)I"⟩
abbrev cX8_flood : ByteArray := prog_1_method_7_code
def yX8_flood : MethodName := ⟨RX8, "flood", "(I)I"⟩
abbrev cX8_covers : ByteArray := prog_1_method_8_code
def yX8_covers : MethodName := ⟨RX8, "covers", "(I)I"⟩
abbrev cX8_by : ByteArray := prog_1_method_9_code
def yX8_by : MethodName := ⟨RX8, "by", "(III)I"⟩
abbrev cX8_brings : ByteArray := prog_1_method_10_code
def yX8_brings : MethodName := ⟨RX8, "brings", "(III)I"⟩
abbrev cX8_then : ByteArray := prog_1_method_11_code
def yX8_then : MethodName := ⟨RX8, "then", "(II)I"⟩
abbrev cX8_clear : ByteArray := prog_1_method_12_code
def yX8_clear : MethodName := ⟨RX8, "clear", "(I)I"⟩
abbrev cX8_told : ByteArray := prog_1_method_13_code
def yX8_told : MethodName := ⟨RX8, "told", "(II)I"⟩
abbrev cX8_ends : ByteArray := prog_1_method_14_code
def yX8_ends : MethodName := ⟨RX8, "ends", "(III)I"⟩
abbrev cX8_whence : ByteArray := prog_1_method_15_code
def yX8_whence : MethodName := ⟨RX8, "whence", "(II)I"⟩
abbrev cX8_from : ByteArray := prog_1_method_16_code
def yX8_from : MethodName := ⟨RX8, "from", "(III)I"⟩
abbrev cX8_sign : ByteArray := prog_1_method_17_code
def yX8_sign : MethodName := ⟨RX8, "sign", "(IIII)I"⟩
abbrev cX8_forget : ByteArray := prog_1_method_18_code
def yX8_forget : MethodName := ⟨RX8, "forget", "(I)I"⟩
abbrev cX8_explains : ByteArray := prog_1_method_19_code
def yX8_explains : MethodName := ⟨RX8, "explains", "(II)I"⟩
abbrev cX8_costs : ByteArray := prog_1_method_20_code
def yX8_costs : MethodName := ⟨RX8, "costs", "(I)I"⟩
abbrev cX8_fits : ByteArray := prog_1_method_21_code
def yX8_fits : MethodName := ⟨RX8, "fits", "()I"⟩
abbrev cX8_best : ByteArray := prog_1_method_22_code
def yX8_best : MethodName := ⟨RX8, "best", "()I"⟩
abbrev cX8_bestGo : ByteArray := prog_1_method_23_code
def yX8_bestGo : MethodName := ⟨RX8, "bestGo", "(I)I"⟩
abbrev cX8_take : ByteArray := prog_1_method_24_code
def yX8_take : MethodName := ⟨RX8, "take", "(I)I"⟩
abbrev cX8_unlike : ByteArray := prog_1_method_25_code
def yX8_unlike : MethodName := ⟨RX8, "unlike", "(II)I"⟩
abbrev cX8_look : ByteArray := prog_1_method_26_code
def yX8_look : MethodName := ⟨RX8, "look", "(III)I"⟩
abbrev cX8_level : ByteArray := prog_1_method_27_code
def yX8_level : MethodName := ⟨RX8, "level", "(II)I"⟩
abbrev cX8_lake : ByteArray := prog_1_method_28_code
def yX8_lake : MethodName := ⟨RX8, "lake", "(I)I"⟩
abbrev cX8_sunk : ByteArray := prog_1_method_29_code
def yX8_sunk : MethodName := ⟨RX8, "sunk", "(III)I"⟩
abbrev cX8_over : ByteArray := prog_1_method_30_code
def yX8_over : MethodName := ⟨RX8, "over", "(IIZ)I"⟩
abbrev cX8_above : ByteArray := prog_1_method_31_code
def yX8_above : MethodName := ⟨RX8, "above", "(II)I"⟩
abbrev cX8_ring : ByteArray := prog_1_method_32_code
def yX8_ring : MethodName := ⟨RX8, "ring", "()I"⟩
abbrev cX8_drops : ByteArray := prog_1_method_33_code
def yX8_drops : MethodName := ⟨RX8, "drops", "()I"⟩
abbrev cX8_drop : ByteArray := prog_1_method_34_code
def yX8_drop : MethodName := ⟨RX8, "drop", "(I)I"⟩
abbrev cX8_count : ByteArray := prog_1_method_35_code
def yX8_count : MethodName := ⟨RX8, "count", "(I)I"⟩
abbrev cX8_rowOf : ByteArray := prog_1_method_36_code
def yX8_rowOf : MethodName := ⟨RX8, "rowOf", "(I)LBoulderLand$Row;"⟩
abbrev cX8_mostExtra : ByteArray := prog_1_method_37_code
def yX8_mostExtra : MethodName := ⟨RX8, "mostExtra", "(I)I"⟩
abbrev cX8_isSlot : ByteArray := prog_1_method_38_code
def yX8_isSlot : MethodName := ⟨RX8, "isSlot", "(I)Z"⟩
abbrev cX8_isLayer : ByteArray := prog_1_method_39_code
def yX8_isLayer : MethodName := ⟨RX8, "isLayer", "(I)Z"⟩
abbrev cX8_within : ByteArray := prog_1_method_40_code
def yX8_within : MethodName := ⟨RX8, "within", "(III)Z"⟩
abbrev cX8_bit : ByteArray := prog_1_method_41_code
def yX8_bit : MethodName := ⟨RX8, "bit", "(Z)I"⟩
def RX9 : String := "BoulderLandModel"
def TX9 : u_T := fun k => match k with
  | 0 => ("BoulderLandModel", "wide", "I", false)
  | 1 => ("BoulderLandModel", "tall", "I", false)
  | 2 => ("BoulderLandModel", "height", "[I", true)
  | 3 => ("BoulderLandModel", "rock", "[I", true)
  | 4 => ("BoulderLandModel", "stones", "I", false)
  | 5 => ("BoulderLandModel", "stoneCell", "[I", true)
  | 6 => ("BoulderLandModel", "stoneRock", "[I", true)
  | 7 => ("BoulderLandModel", "stoneWeight", "[I", true)
  | 8 => ("BoulderLandModel", "goes", "I", false)
  | 9 => ("BoulderLandModel", "isIce", "[Z", true)
  | 10 => ("BoulderLandModel", "source", "[I", true)
  | 11 => ("BoulderLandModel", "top", "[I", true)
  | 12 => ("BoulderLandModel", "fall", "[I", true)
  | 13 => ("BoulderLandModel", "steps", "[I", true)
  | 14 => ("BoulderLandModel", "dist", "[I", true)
  | 15 => ("BoulderLandModel", "flow", "[I", true)
  | 16 => ("BoulderLandModel", "storyMany", "[I", true)
  | 17 => ("BoulderLandModel", "story", "[I", true)
  | 18 => ("BoulderLandModel", "rowMany", "I", false)
  | 19 => ("BoulderLandModel", "row", "[I", true)
  | 20 => ("BoulderLandModel", "signs", "I", false)
  | 21 => ("BoulderLandModel", "signKind", "[I", true)
  | 22 => ("BoulderLandModel", "signCell", "[I", true)
  | 23 => ("BoulderLandModel", "signExtra", "[I", true)
  | 24 => ("BoulderLandModel", "signWorth", "[I", true)
  | 25 => ("BoulderLandModel", "fitting", "I", false)
  | 26 => ("BoulderLandModel", "bestCost", "I", false)
  | 27 => ("BoulderLandModel", "bestMany", "I", false)
  | 28 => ("BoulderLandModel", "bestRow", "[I", true)
  | 29 => ("BoulderLandModel", "thing", "[Z", true)
  | 30 => ("BoulderLandModel", "level", "[I", true)
  | 31 => ("BoulderLandModel", "over", "[I", true)
  | _ => ("BoulderLandModel", "under", "[I", true)
def tyX9 : Nat → FieldType := fun k => match k with
  | 0 => .int
  | 1 => .int
  | 2 => .array .int
  | 3 => .array .int
  | 4 => .int
  | 5 => .array .int
  | 6 => .array .int
  | 7 => .array .int
  | 8 => .int
  | 9 => .array .boolean
  | 10 => .array .int
  | 11 => .array .int
  | 12 => .array .int
  | 13 => .array .int
  | 14 => .array .int
  | 15 => .array .int
  | 16 => .array .int
  | 17 => .array .int
  | 18 => .int
  | 19 => .array .int
  | 20 => .int
  | 21 => .array .int
  | 22 => .array .int
  | 23 => .array .int
  | 24 => .array .int
  | 25 => .int
  | 26 => .int
  | 27 => .int
  | 28 => .array .int
  | 29 => .array .boolean
  | 30 => .array .int
  | 31 => .array .int
  | _ => .array .int
theorem nmX9 : ∀ a, a < 33 → ∀ b, b < 33 → a ≠ b → (TX9 a).2.1 ≠ (TX9 b).2.1 := by decide +kernel
theorem tyX9_ok : ∀ k, k < 33 → parseFieldDescriptor (TX9 k).2.2.1 = some (tyX9 k) := by decide +kernel
abbrev cX9_init : ByteArray := prog_11_method_1_code
def yX9_init : MethodName := ⟨RX9, "<init>", "()V"⟩
abbrev cX9_in : ByteArray := prog_11_method_3_code
def yX9_in : MethodName := ⟨RX9, "in", "(JJJ)Z"⟩
abbrev cX9_layLand : ByteArray := prog_11_method_4_code
def yX9_layLand : MethodName := ⟨RX9, "layLand", "(II)V"⟩
abbrev cX9_cells : ByteArray := prog_11_method_5_code
def yX9_cells : MethodName := ⟨RX9, "cells", "()I"⟩
abbrev cX9_isCell : ByteArray := prog_11_method_6_code
def yX9_isCell : MethodName := ⟨RX9, "isCell", "(I)Z"⟩
abbrev cX9_isStone : ByteArray := prog_11_method_7_code
def yX9_isStone : MethodName := ⟨RX9, "isStone", "(I)Z"⟩
abbrev cX9_isWeight : ByteArray := prog_11_method_8_code
def yX9_isWeight : MethodName := ⟨RX9, "isWeight", "(I)Z"⟩
abbrev cX9_land : ByteArray := prog_11_method_9_code
def yX9_land : MethodName := ⟨RX9, "land", "(II)I"⟩
abbrev cX9_cell : ByteArray := prog_11_method_10_code
def yX9_cell : MethodName := ⟨RX9, "cell", "(III)I"⟩
abbrev cX9_stone : ByteArray := prog_11_method_11_code
def yX9_stone : MethodName := ⟨RX9, "stone", "(III)I"⟩
abbrev cX9_dug : ByteArray := prog_11_method_12_code
def yX9_dug : MethodName := ⟨RX9, "dug", "(II)I"⟩
abbrev cX9_beside : ByteArray := prog_11_method_13_code
def yX9_beside : MethodName := ⟨RX9, "beside", "(II)I"⟩
abbrev cX9_isEdge : ByteArray := prog_11_method_14_code
def yX9_isEdge : MethodName := ⟨RX9, "isEdge", "(I)Z"⟩
abbrev cX9_isGo : ByteArray := prog_11_method_15_code
def yX9_isGo : MethodName := ⟨RX9, "isGo", "(I)Z"⟩
abbrev cX9_ice : ByteArray := prog_11_method_16_code
def yX9_ice : MethodName := ⟨RX9, "ice", "(IIII)I"⟩
abbrev cX9_flood : ByteArray := prog_11_method_17_code
def yX9_flood : MethodName := ⟨RX9, "flood", "(I)I"⟩
abbrev cX9_layIce : ByteArray := prog_11_method_18_code
def yX9_layIce : MethodName := ⟨RX9, "layIce", "(I)V"⟩
abbrev cX9_layFlood : ByteArray := prog_11_method_19_code
def yX9_layFlood : MethodName := ⟨RX9, "layFlood", "(I)V"⟩
abbrev cX9_layGoes : ByteArray := prog_11_method_20_code
def yX9_layGoes : MethodName := ⟨RX9, "layGoes", "()V"⟩
abbrev cX9_isCovered : ByteArray := prog_11_method_21_code
def yX9_isCovered : MethodName := ⟨RX9, "isCovered", "(II)Z"⟩
abbrev cX9_thick : ByteArray := prog_11_method_22_code
def yX9_thick : MethodName := ⟨RX9, "thick", "(II)I"⟩
abbrev cX9_isHeap : ByteArray := prog_11_method_23_code
def yX9_isHeap : MethodName := ⟨RX9, "isHeap", "(II)Z"⟩
abbrev cX9_covers : ByteArray := prog_11_method_24_code
def yX9_covers : MethodName := ⟨RX9, "covers", "(I)I"⟩
abbrev cX9_by : ByteArray := prog_11_method_25_code
def yX9_by : MethodName := ⟨RX9, "by", "(III)I"⟩
abbrev cX9_broughtBy : ByteArray := prog_11_method_26_code
def yX9_broughtBy : MethodName := ⟨RX9, "broughtBy", "(III)I"⟩
abbrev cX9_brings : ByteArray := prog_11_method_27_code
def yX9_brings : MethodName := ⟨RX9, "brings", "(III)I"⟩
abbrev cX9_isSlot : ByteArray := prog_11_method_28_code
def yX9_isSlot : MethodName := ⟨RX9, "isSlot", "(I)Z"⟩
abbrev cX9_then : ByteArray := prog_11_method_29_code
def yX9_then : MethodName := ⟨RX9, "then", "(II)I"⟩
abbrev cX9_clear : ByteArray := prog_11_method_30_code
def yX9_clear : MethodName := ⟨RX9, "clear", "(I)I"⟩
abbrev cX9_told : ByteArray := prog_11_method_31_code
def yX9_told : MethodName := ⟨RX9, "told", "(II)I"⟩
abbrev cX9_layRow : ByteArray := prog_11_method_32_code
def yX9_layRow : MethodName := ⟨RX9, "layRow", "(I)V"⟩
abbrev cX9_endOf : ByteArray := prog_11_method_33_code
def yX9_endOf : MethodName := ⟨RX9, "endOf", "(II)I"⟩
abbrev cX9_ends : ByteArray := prog_11_method_34_code
def yX9_ends : MethodName := ⟨RX9, "ends", "(III)I"⟩
abbrev cX9_isWhence : ByteArray := prog_11_method_35_code
def yX9_isWhence : MethodName := ⟨RX9, "isWhence", "(II)Z"⟩
abbrev cX9_whenceOf : ByteArray := prog_11_method_36_code
def yX9_whenceOf : MethodName := ⟨RX9, "whenceOf", "(I)I"⟩
abbrev cX9_whence : ByteArray := prog_11_method_37_code
def yX9_whence : MethodName := ⟨RX9, "whence", "(II)I"⟩
abbrev cX9_from : ByteArray := prog_11_method_38_code
def yX9_from : MethodName := ⟨RX9, "from", "(III)I"⟩
abbrev cX9_sign : ByteArray := prog_11_method_39_code
def yX9_sign : MethodName := ⟨RX9, "sign", "(IIII)I"⟩
abbrev cX9_isSign : ByteArray := prog_11_method_40_code
def yX9_isSign : MethodName := ⟨RX9, "isSign", "(I)Z"⟩
abbrev cX9_forget : ByteArray := prog_11_method_41_code
def yX9_forget : MethodName := ⟨RX9, "forget", "(I)I"⟩
abbrev cX9_flowsIn : ByteArray := prog_11_method_42_code
def yX9_flowsIn : MethodName := ⟨RX9, "flowsIn", "(III)Z"⟩
abbrev cX9_hasThing : ByteArray := prog_11_method_43_code
def yX9_hasThing : MethodName := ⟨RX9, "hasThing", "(II)Z"⟩
abbrev cX9_hasCross : ByteArray := prog_11_method_44_code
def yX9_hasCross : MethodName := ⟨RX9, "hasCross", "(II)Z"⟩
abbrev cX9_isExplained : ByteArray := prog_11_method_45_code
def yX9_isExplained : MethodName := ⟨RX9, "isExplained", "(I)Z"⟩
abbrev cX9_explains : ByteArray := prog_11_method_46_code
def yX9_explains : MethodName := ⟨RX9, "explains", "(II)I"⟩
abbrev cX9_costOf : ByteArray := prog_11_method_47_code
def yX9_costOf : MethodName := ⟨RX9, "costOf", "()I"⟩
abbrev cX9_costs : ByteArray := prog_11_method_48_code
def yX9_costs : MethodName := ⟨RX9, "costs", "(I)I"⟩
abbrev cX9_layCode : ByteArray := prog_11_method_49_code
def yX9_layCode : MethodName := ⟨RX9, "layCode", "(I)Z"⟩
abbrev cX9_layBest : ByteArray := prog_11_method_50_code
def yX9_layBest : MethodName := ⟨RX9, "layBest", "()V"⟩
abbrev cX9_fits : ByteArray := prog_11_method_51_code
def yX9_fits : MethodName := ⟨RX9, "fits", "()I"⟩
abbrev cX9_best : ByteArray := prog_11_method_52_code
def yX9_best : MethodName := ⟨RX9, "best", "()I"⟩
abbrev cX9_bestGo : ByteArray := prog_11_method_53_code
def yX9_bestGo : MethodName := ⟨RX9, "bestGo", "(I)I"⟩
abbrev cX9_take : ByteArray := prog_11_method_54_code
def yX9_take : MethodName := ⟨RX9, "take", "(I)I"⟩
abbrev cX9_layThings : ByteArray := prog_11_method_55_code
def yX9_layThings : MethodName := ⟨RX9, "layThings", "(I)V"⟩
abbrev cX9_unlike : ByteArray := prog_11_method_56_code
def yX9_unlike : MethodName := ⟨RX9, "unlike", "(II)I"⟩
abbrev cX9_look : ByteArray := prog_11_method_57_code
def yX9_look : MethodName := ⟨RX9, "look", "(III)I"⟩
abbrev cX9_layLake : ByteArray := prog_11_method_58_code
def yX9_layLake : MethodName := ⟨RX9, "layLake", "(I)V"⟩
abbrev cX9_level : ByteArray := prog_11_method_59_code
def yX9_level : MethodName := ⟨RX9, "level", "(II)I"⟩
abbrev cX9_lake : ByteArray := prog_11_method_60_code
def yX9_lake : MethodName := ⟨RX9, "lake", "(I)I"⟩
abbrev cX9_sunk : ByteArray := prog_11_method_61_code
def yX9_sunk : MethodName := ⟨RX9, "sunk", "(III)I"⟩
abbrev cX9_isLayer : ByteArray := prog_11_method_62_code
def yX9_isLayer : MethodName := ⟨RX9, "isLayer", "(I)Z"⟩
abbrev cX9_over : ByteArray := prog_11_method_63_code
def yX9_over : MethodName := ⟨RX9, "over", "(IIZ)I"⟩
abbrev cX9_layUnder : ByteArray := prog_11_method_64_code
def yX9_layUnder : MethodName := ⟨RX9, "layUnder", "(I)I"⟩
abbrev cX9_above : ByteArray := prog_11_method_65_code
def yX9_above : MethodName := ⟨RX9, "above", "(II)I"⟩
abbrev cX9_ring : ByteArray := prog_11_method_66_code
def yX9_ring : MethodName := ⟨RX9, "ring", "()I"⟩
abbrev cX9_ones : ByteArray := prog_11_method_67_code
def yX9_ones : MethodName := ⟨RX9, "ones", "(I)I"⟩
abbrev cX9_fewest : ByteArray := prog_11_method_68_code
def yX9_fewest : MethodName := ⟨RX9, "fewest", "()I"⟩
abbrev cX9_drops : ByteArray := prog_11_method_69_code
def yX9_drops : MethodName := ⟨RX9, "drops", "()I"⟩
abbrev cX9_drop : ByteArray := prog_11_method_70_code
def yX9_drop : MethodName := ⟨RX9, "drop", "(I)I"⟩
abbrev cX9_count : ByteArray := prog_11_method_71_code
def yX9_count : MethodName := ⟨RX9, "count", "(I)I"⟩
def RJ6 : String := "java/lang/Integer"
def TJ6 : u_T := fun k => match k with
  | _ => ("", "", "", false)
def tyJ6 : Nat → FieldType := fun k => match k with
  | _ => .int
theorem nmJ6 : ∀ a, a < 0 → ∀ b, b < 0 → a ≠ b → (TJ6 a).2.1 ≠ (TJ6 b).2.1 := by decide +kernel
theorem tyJ6_ok : ∀ k, k < 0 → parseFieldDescriptor (TJ6 k).2.2.1 = some (tyJ6 k) := by decide +kernel
abbrev cJ6_bitCount_0f7a4 : ByteArray := prog_12_method_49_code
def yJ6_bitCount_0f7a4 : MethodName := ⟨RJ6, "bitCount", "(I)I"⟩
def RJ9 : String := "java/lang/Math"
def TJ9 : u_T := fun k => match k with
  | _ => ("", "", "", false)
def tyJ9 : Nat → FieldType := fun k => match k with
  | _ => .int
theorem nmJ9 : ∀ a, a < 0 → ∀ b, b < 0 → a ≠ b → (TJ9 a).2.1 ≠ (TJ9 b).2.1 := by decide +kernel
theorem tyJ9_ok : ∀ k, k < 0 → parseFieldDescriptor (TJ9 k).2.2.1 = some (tyJ9 k) := by decide +kernel
abbrev cJ9_max_7cf53 : ByteArray := prog_13_method_65_code
def yJ9_max_7cf53 : MethodName := ⟨RJ9, "max", "(II)I"⟩
abbrev cJ9_min_7cf53 : ByteArray := prog_13_method_69_code
def yJ9_min_7cf53 : MethodName := ⟨RJ9, "min", "(II)I"⟩
def RJ10 : String := "java/lang/System"
def TJ10 : u_T := fun k => match k with
  | _ => ("", "", "", false)
def tyJ10 : Nat → FieldType := fun k => match k with
  | _ => .int
theorem nmJ10 : ∀ a, a < 0 → ∀ b, b < 0 → a ≠ b → (TJ10 a).2.1 ≠ (TJ10 b).2.1 := by decide +kernel
theorem tyJ10_ok : ∀ k, k < 0 → parseFieldDescriptor (TJ10 k).2.2.1 = some (tyJ10 k) := by decide +kernel
def RJ7 : String := "java/util/Arrays"
def TJ7 : u_T := fun k => match k with
  | _ => ("", "", "", false)
def tyJ7 : Nat → FieldType := fun k => match k with
  | _ => .int
theorem nmJ7 : ∀ a, a < 0 → ∀ b, b < 0 → a ≠ b → (TJ7 a).2.1 ≠ (TJ7 b).2.1 := by decide +kernel
theorem tyJ7_ok : ∀ k, k < 0 → parseFieldDescriptor (TJ7 k).2.2.1 = some (tyJ7 k) := by decide +kernel
abbrev cJ7_fill_53178 : ByteArray := prog_15_method_103_code
def yJ7_fill_53178 : MethodName := ⟨RJ7, "fill", "([II)V"⟩
def RL : String := "BoulderLandLaw"
abbrev cL_law : ByteArray := code
def yL_law : MethodName := ⟨RL, "law", "([I)Z"⟩
end
section
/-! an abstract world: shapes S and numbers M at places 0, 1, 2 (X_STEP, Y_STEP, the script) and on from 3 (cells made since the law began) -/
abbrev vE : Type := Nat × Nat × Nat × Nat × va_G × ClassId × ClassId
abbrev vS : Type := List (Nat × Nat × List Nat)
abbrev vM : Type := Nat → Nat → Int32
abbrev vMI : Type := MethodName × ByteArray × Nat × Option FieldType × Room
def eB (E : vE) : Nat := E.1
def eX (E : vE) : Nat := E.2.1
def eY (E : vE) : Nat := E.2.2.1
def eS (E : vE) : Nat := E.2.2.2.1
def eG (E : vE) : va_G := E.2.2.2.2.1
def eI (E : vE) : ClassId := E.2.2.2.2.2.1
def eZ (E : vE) : ClassId := E.2.2.2.2.2.2
def iy (mi : vMI) : MethodName := mi.1
def ib (mi : vMI) : ByteArray := mi.2.1
def im (mi : vMI) : Nat := mi.2.2.1
def ir (mi : vMI) : Option FieldType := mi.2.2.2.1
def iR (mi : vMI) : Room := mi.2.2.2.2
def ad (E : vE) (k : Nat) : Nat := match k with
  | 0 => eX E
  | 1 => eY E
  | 2 => eS E
  | k + 3 => eB E + k
def cv (E : vE) (v : Value) : Value := match v with
  | .ref k => .ref (ad E k)
  | v => v
theorem cv_cat (E : vE) (v : Value) : (cv E v).category = v.category := by cases v <;> rfl
theorem cv_cats (E : vE) (l : List Value) : ((l.map (cv E)).map fun v => v.category) = l.map fun v => v.category := by
  rw [List.map_map]
  apply List.map_congr_left
  intro v _
  exact cv_cat E v
abbrev vcl : List vw_C := [(RX0, TX0, 11), (RX1, TX1, 4), (RX2, TX2, 5), (RX3, TX3, 2), (RX4, TX4, 8), (RX5, TX5, 4), (RX6, TX6, 7), (RX7, TX7, 3), (RX8, TX8, 10), (RX9, TX9, 33)]
def vty (c : Nat) : Nat → FieldType := match c with
  | 0 => tyX0
  | 1 => tyX1
  | 2 => tyX2
  | 3 => tyX3
  | 4 => tyX4
  | 5 => tyX5
  | 6 => tyX6
  | 7 => tyX7
  | 8 => tyX8
  | _ => tyX9
def isR (t : FieldType) : Bool := match t with
  | .object _ => true
  | .array _ => true
  | _ => false
def isRf (c j : Nat) : Bool := isR (vty c j)
def rfd (E : vE) (refs : List Nat) (j : Nat) : Value := match refs.getD j 0 with
  | 0 => .null
  | q + 1 => .ref (ad E q)
def fld (E : vE) (k kind : Nat) (refs : List Nat) (M : vM) (j : Nat) : Value := if isRf kind j then rfd E refs j else .int (M k j)
def ent (E : vE) (k : Nat) (sh : Nat × Nat × List Nat) (M : vM) : va_E :=
  if sh.1 = 100 then .inl (eI E, sh.2.1, .inl (M k)) else if sh.1 = 101 then .inl (eZ E, sh.2.1, .inl (M k)) else .inr (sh.1, (List.range sh.2.1).map (fld E k sh.1 sh.2.2 M))
def wd (E : vE) (S : vS) (M : vM) : va_W := (S.drop 3).mapIdx (fun k sh => (eB E + k, ent E (k + 3) sh M))
theorem wd_at {E : vE} {S : vS} {M : vM} {k : Nat} {sh : Nat × Nat × List Nat} (h : S[k + 3]? = some sh) : (wd E S M)[k]? = some (eB E + k, ent E (k + 3) sh M) := by
  unfold wd
  rw [List.getElem?_mapIdx, List.getElem?_drop, Nat.add_comm 3 k, h]
  rfl
theorem wd_of {E : vE} {S : vS} {M : vM} {k : Nat} {q : Nat × va_E} (h : (wd E S M)[k]? = some q) : ∃ sh, S[k + 3]? = some sh ∧ q = (eB E + k, ent E (k + 3) sh M) := by
  unfold wd at h
  rw [List.getElem?_mapIdx, List.getElem?_drop, Nat.add_comm 3 k] at h
  cases hs : S[k + 3]? with
  | none => rw [hs] at h; cases h
  | some sh => rw [hs] at h; exact ⟨sh, rfl, (Option.some.inj h).symm⟩
theorem wd_D (E : vE) (S : vS) (M : vM) : va_D (fun q => eB E ≤ q) (wd E S M) := by
  refine ⟨fun i j p q hi hj hpq => ?_, fun k q hk => ?_⟩
  · obtain ⟨_, -, rfl⟩ := wd_of hi
    obtain ⟨_, -, rfl⟩ := wd_of hj
    have : eB E + i = eB E + j := hpq
    omega
  · obtain ⟨_, -, rfl⟩ := wd_of hk
    exact Nat.le_add_right _ _
/-- one cell's numbers anew -/
def sM (M : vM) (k : Nat) (f : Nat → Int32) : vM := fun q => if q = k then f else M q
theorem sM_at (M : vM) (k : Nat) (f : Nat → Int32) : sM M k f k = f := by simp [sM]
theorem sM_ne (M : vM) (k : Nat) (f : Nat → Int32) {q : Nat} (h : q ≠ k) : sM M k f q = M q := by simp [sM, h]
theorem ent_ne {E : vE} {k q : Nat} {sh : Nat × Nat × List Nat} {M : vM} {f : Nat → Int32} (h : k ≠ q) : ent E k sh (sM M q f) = ent E k sh M := by
  have e : sM M q f k = M k := sM_ne M q f h
  have e2 : fld E k sh.1 sh.2.2 (sM M q f) = fld E k sh.1 sh.2.2 M := by
    funext j
    unfold fld
    rw [e]
  unfold ent
  rw [e, e2]
theorem wd_set {E : vE} {S : vS} {M : vM} {k : Nat} {sh : Nat × Nat × List Nat} (f : Nat → Int32) (h : S[k + 3]? = some sh) : (wd E S M).set k (eB E + k, ent E (k + 3) sh (sM M (k + 3) f)) = wd E S (sM M (k + 3) f) := by
  apply List.ext_getElem?
  intro i
  by_cases hi : i = k
  · subst hi
    have hl : i < (wd E S M).length := (List.getElem?_eq_some_iff.mp (wd_at (E := E) (M := M) h)).1
    rw [List.getElem?_set_self hl, wd_at h]
  · rw [List.getElem?_set_ne (Ne.symm hi)]
    cases hs : S[i + 3]? with
    | none =>
      have e : ∀ M' : vM, (wd E S M')[i]? = none := by
        intro M'
        cases hw : (wd E S M')[i]? with
        | none => rfl
        | some q => obtain ⟨_, h1, -⟩ := wd_of hw; rw [hs] at h1; cases h1
      rw [e, e]
    | some s2 =>
      rw [wd_at hs, wd_at hs, ent_ne (by omega)]
/-- the words that every method has; those across a nest -/
def gTbl : List Cond := lw_tbl.filter goodWord
def nest? (w : Cond) : Bool := match w with
  | .fieldLinkNest _ _ _ _ _ _ => true
  | .methodLinkNest _ _ _ _ => true
  | _ => false
def nTbl : List Cond := lw_tbl.filter nest?
theorem nw_warm {w : Cond} (hw : w ∈ nTbl) {s U : State} (hW : s.WarmedH U.vm) (h : va_Nw w s) : va_Nw w U := by
  have h1 := (List.mem_filter.mp hw).2
  cases w with
  | fieldLinkNest a i b n d h2 => exact va_Nw.warmF hW h
  | methodLinkNest a i x h2 => exact va_Nw.warmM hW h
  | _ => cases h1
theorem nw_same {w : Cond} (hw : w ∈ nTbl) {s U : State} (hv : s.vm = U.vm) (h : va_Nw w s) : va_Nw w U := by
  have h1 := (List.mem_filter.mp hw).2
  cases w with
  | fieldLinkNest a i b n d h2 => exact va_Nw.same rfl hv h
  | methodLinkNest a i x h2 => exact va_Nw.same rfl hv h
  | _ => cases h1
theorem nw_of {w : Cond} (hw : w ∈ nTbl) {s : State} {args : Array Value} (h : w.before args s = true) : va_Nw w s := by
  have h1 := (List.mem_filter.mp hw).2
  cases w with
  | fieldLinkNest a i b n d h2 => exact va_Nw.of rfl h
  | methodLinkNest a i x h2 => exact va_Nw.of rfl h
  | _ => cases h1
/-- the heap H holds the world, over the tables of s -/
def Wo (E : vE) (s : State) (H : Heap) (S : vS) (M : vM) : Prop :=
  va_P (eG E) vcl (wd E S M) H ∧ (S.length < 67 → H.size = eB E + (S.length - 3)) ∧ S[0]? = some (100, 4, []) ∧ S[1]? = some (100, 4, []) ∧ (∃ L : Nat, S[2]? = some (100, L, []) ∧ va_X (eS E) L (M 2) s H) ∧
  va_X (eX E) 4 (M 0) s H ∧ va_X (eY E) 4 (M 1) s H ∧ (eX E < eB E ∧ eY E < eB E ∧ eS E < eB E) ∧
  va_Z "BoulderLand" "X_STEP" "[I" (.ref (eX E)) (fun q => eB E ≤ q) s H ∧ va_Z "BoulderLand" "Y_STEP" "[I" (.ref (eY E)) (fun q => eB E ≤ q) s H
theorem Wo.moved {E : vE} {u U : State} {H : Heap} {S : vS} {M : vM} (hvm : u.vm.Alike U.vm) (h : Wo E u H S M) : Wo E U H S M := by
  obtain ⟨h1, h2, h3, h4, ⟨L, h5, h6⟩, h7, h8, h9, h10, h11⟩ := h
  exact ⟨h1, h2, h3, h4, ⟨L, h5, h6.moved hvm⟩, h7.moved hvm, h8.moved hvm, h9, h10.moved hvm, h11.moved hvm⟩
theorem Wo.len {E : vE} {s : State} {H : Heap} {S : vS} {M : vM} (h : Wo E s H S M) : 3 ≤ S.length := by
  obtain ⟨_, _, _, _, ⟨L, h5, _⟩, _⟩ := h
  have := (List.getElem?_eq_some_iff.mp h5).1
  omega
/-- a heap that differs from the old one within the cells made since, and holds their new numbers -/
theorem Wo.to {E : vE} {s : State} {H H1 : Heap} {S : vS} {M M1 : vM} (h : Wo E s H S M) (hP : va_P (eG E) vcl (wd E S M1) H1) (hz : H1.size = H.size) (hq : ∀ q : Nat, q < eB E → H1[q]? = H[q]?) (e0 : M1 0 = M 0) (e1 : M1 1 = M 1) (e2 : M1 2 = M 2) : Wo E s H1 S M1 := by
  have hl := h.len
  obtain ⟨h1, h2, h3, h4, ⟨L, h5, h6⟩, h7, h8, ⟨b1, b2, b3⟩, h10, h11⟩ := h
  refine ⟨hP, fun z => by rw [hz]; exact h2 z, h3, h4, ⟨L, h5, by rw [e2]; exact h6.kept (hq _ b3)⟩, by rw [e0]; exact h7.kept (hq _ b1), by rw [e1]; exact h8.kept (hq _ b2), ⟨b1, b2, b3⟩, h10.kept (fun a _ hb => hq a (by omega)), h11.kept (fun a _ hb => hq a (by omega))⟩
theorem Wo.copied {E : vE} {s : State} {H H1 : Heap} {S : vS} {M M1 : vM} (h : Wo E s H S M) (hP : va_P (eG E) vcl (wd E S M1) H1) (hz : 67 ≤ S.length) (hq : ∀ q : Nat, q < eB E → H1[q]? = H[q]?) (e0 : M1 0 = M 0) (e1 : M1 1 = M 1) (e2 : M1 2 = M 2) : Wo E s H1 S M1 := by
  obtain ⟨h1, h2, h3, h4, ⟨L, h5, h6⟩, h7, h8, ⟨b1, b2, b3⟩, h10, h11⟩ := h
  exact ⟨hP, fun z => absurd z (by omega), h3, h4, ⟨L, h5, by rw [e2]; exact h6.kept (hq _ b3)⟩, by rw [e0]; exact h7.kept (hq _ b1), by rw [e1]; exact h8.kept (hq _ b2), ⟨b1, b2, b3⟩, h10.kept (fun a _ hb => hq a (by omega)), h11.kept (fun a _ hb => hq a (by omega))⟩
/-- what stands fast in a frame of the method mi -/
def Fx (E : vE) (mi : vMI) (p : Program) (s : State) (m : MethodId) (args : Array Value) (meth : Method) (c : Code) : Prop :=
  p.tables.exec = Jvm.exec ∧ c.code = ib mi ∧ c.maxLocals = im mi ∧ s.vm.findClass (iy mi).cls = some m.cls ∧ (∀ w ∈ gTbl, w.before args s = true) ∧ (∀ w ∈ nTbl, va_Nw w s) ∧
  va_K (eG E) vcl [(eI E, .int), (eZ E, .boolean)] s ∧ meth.name = (iy mi).name ∧ meth.sig.returnType = ir mi ∧ meth.locks = false
def Lr (E : vE) (ls : Array Slot) (lv : List Value) (n : Nat) : Prop := ls.size = n ∧ lv_wf ls ∧ lv.length = n ∧ ∀ (i : Nat) (v : Value), lv[i]? = some v → v ≠ .null → ls[i]? = some (.val (cv E v))
/-- an end of the method mi at pc with the answer r -/
def rAt (mi : vMI) (pc : Nat) (r : Option Value) : Prop :=
  (decode (ib mi) pc = .ok (.ireturn, 1) ∧ ∃ (v : Int32) (ty : FieldType), r = some (.int v) ∧ ir mi = some ty ∧ narrow ty (.int v) = .int v) ∨
  (decode (ib mi) pc = .ok (.return_, 1) ∧ r = none ∧ ir mi = none) ∨
  (decode (ib mi) pc = .ok (.areturn, 1) ∧ ∃ (k : Nat) (n : String), r = some (.ref k) ∧ ir mi = some (.object n))
def Rt (E : vE) (l : Launch) (mi : vMI) (p : Program) (e : Env) (s : State) (m : MethodId) (args : Array Value) (below : List Frame) (meth : Method) (c : Code) (Z : State → Prop) (Q : Option Value → vS → vM → Prop) : Prop :=
  ∀ (r : Option Value) (S : vS) (M : vM) (kc ks : Nat) (H : Heap) (locs : List Loc) (ls : Array Slot) (pc : Nat), Q r S M → Wo E s H S M → (∀ q ∈ locs, eB E ≤ q.base) → kc ≤ (iR mi).cells → ks ≤ (iR mi).slots → rAt mi pc r →
    W p l e (iR mi) s m args below meth c H locs kc ks Z (F0 m pc ls (r.toList.map (cv E)))
/-- THE JUDGEMENT: the method mi at pc, with locals lv and stack st over the world (S, M), kc cells of ks slots made so far, comes to an end with Q -/
def PM (E : vE) (l : Launch) (mi : vMI) (pc : Nat) (lv st : List Value) (S : vS) (M : vM) (kc ks : Nat) (Q : Option Value → vS → vM → Prop) : Prop :=
  ∀ (p : Program) (e : Env) (s : State) (m : MethodId) (args : Array Value) (below : List Frame) (meth : Method) (c : Code) (H : Heap) (locs : List Loc) (ls : Array Slot) (Z : State → Prop),
    Fx E mi p s m args meth c → Wo E s H S M → (∀ q ∈ locs, eB E ≤ q.base) → Lr E ls lv (im mi) → kc ≤ (iR mi).cells → ks ≤ (iR mi).slots → Rt E l mi p e s m args below meth c Z Q →
    W p l e (iR mi) s m args below meth c H locs kc ks Z (F0 m pc ls (st.map (cv E)))
end
section
section RA
variable {E : vE} {l : Launch} {mi : vMI} {pc : Nat} {lv st : List Value} {S : vS} {M : vM} {kc ks : Nat} {Q : Option Value → vS → vM → Prop}
theorem x_iconst {n : Int} {v : Int32} (hd : decode (ib mi) pc = .ok (.iconst n, 1)) (hv : Int32.ofInt n = v) (k : PM E l mi (pc + 1) lv (.int v :: st) S M kc ks Q) : PM E l mi pc lv (st) S M kc ks Q := by
  intro p e s m args below meth c H locs ls Z F O hlo hL h1 h2 hR
  exact lv_iconst F.1 F.2.1 hd hv (k p e s m args below meth c H locs ls Z F O hlo hL h1 h2 hR)
theorem x_bipush {n : Int} {v : Int32} (hd : decode (ib mi) pc = .ok (.bipush n, 2)) (hv : (Int8.ofInt n).toInt32 = v) (k : PM E l mi (pc + 2) lv (.int v :: st) S M kc ks Q) : PM E l mi pc lv (st) S M kc ks Q := by
  intro p e s m args below meth c H locs ls Z F O hlo hL h1 h2 hR
  exact lv_bipush F.1 F.2.1 hd hv (k p e s m args below meth c H locs ls Z F O hlo hL h1 h2 hR)
theorem x_sipush {n : Int} {v : Int32} (hd : decode (ib mi) pc = .ok (.sipush n, 3)) (hv : (Int16.ofInt n).toInt32 = v) (k : PM E l mi (pc + 3) lv (.int v :: st) S M kc ks Q) : PM E l mi pc lv (st) S M kc ks Q := by
  intro p e s m args below meth c H locs ls Z F O hlo hL h1 h2 hR
  exact lv_sipush F.1 F.2.1 hd hv (k p e s m args below meth c H locs ls Z F O hlo hL h1 h2 hR)
theorem x_lconst {n : Fin 2} {v : Int64} (hd : decode (ib mi) pc = .ok (.lconst n, 1)) (hv : Int64.ofNat (n : Nat) = v) (k : PM E l mi (pc + 1) lv (.long v :: st) S M kc ks Q) : PM E l mi pc lv (st) S M kc ks Q := by
  intro p e s m args below meth c H locs ls Z F O hlo hL h1 h2 hR
  exact lv_lconst F.1 F.2.1 hd hv (k p e s m args below meth c H locs ls Z F O hlo hL h1 h2 hR)
theorem x_ldc {i : Nat} {v : Int32} (hc : Cond.constant (iy mi).cls i v ∈ gTbl) (hd : decode (ib mi) pc = .ok (.ldc i, 2)) (k : PM E l mi (pc + 2) lv (.int v :: st) S M kc ks Q) : PM E l mi pc lv (st) S M kc ks Q := by
  intro p e s m args below meth c H locs ls Z F O hlo hL h1 h2 hR
  exact lv_ldc F.1 F.2.1 F.2.2.2.1 (F.2.2.2.2.1 _ hc) hd (k p e s m args below meth c H locs ls Z F O hlo hL h1 h2 hR)
theorem x_ldcw {i : Nat} {v : Int32} (hc : Cond.constant (iy mi).cls i v ∈ gTbl) (hd : decode (ib mi) pc = .ok (.ldc_w i, 3)) (k : PM E l mi (pc + 3) lv (.int v :: st) S M kc ks Q) : PM E l mi pc lv (st) S M kc ks Q := by
  intro p e s m args below meth c H locs ls Z F O hlo hL h1 h2 hR
  exact lv_ldcw F.1 F.2.1 F.2.2.2.1 (F.2.2.2.2.1 _ hc) hd (k p e s m args below meth c H locs ls Z F O hlo hL h1 h2 hR)
theorem x_ldc2 {i : Nat} {v : Int64} (hc : Cond.constantLong (iy mi).cls i v ∈ gTbl) (hd : decode (ib mi) pc = .ok (.ldc2_w i, 3)) (k : PM E l mi (pc + 3) lv (.long v :: st) S M kc ks Q) : PM E l mi pc lv (st) S M kc ks Q := by
  intro p e s m args below meth c H locs ls Z F O hlo hL h1 h2 hR
  exact lv_ldc2 F.1 F.2.1 F.2.2.2.1 (F.2.2.2.2.1 _ hc) hd (k p e s m args below meth c H locs ls Z F O hlo hL h1 h2 hR)
theorem x_iload_n {i : Fin 4} {x : Int32} (hd : decode (ib mi) pc = .ok (.iload_n i, 1)) (hl : lv[(i : Nat)]? = some (.int x)) (k : PM E l mi (pc + 1) lv (.int x :: st) S M kc ks Q) : PM E l mi pc lv (st) S M kc ks Q := by
  intro p e s m args below meth c H locs ls Z F O hlo hL h1 h2 hR
  exact lv_iload_n F.1 F.2.1 hd rfl (hL.2.2.2 _ _ hl (fun q => by cases q)) (k p e s m args below meth c H locs ls Z F O hlo hL h1 h2 hR)
theorem x_iload {i : Nat} {x : Int32} (hd : decode (ib mi) pc = .ok (.iload i, 2)) (hl : lv[i]? = some (.int x)) (k : PM E l mi (pc + 2) lv (.int x :: st) S M kc ks Q) : PM E l mi pc lv (st) S M kc ks Q := by
  intro p e s m args below meth c H locs ls Z F O hlo hL h1 h2 hR
  exact lv_iload F.1 F.2.1 hd (hL.2.2.2 _ _ hl (fun q => by cases q)) (k p e s m args below meth c H locs ls Z F O hlo hL h1 h2 hR)
theorem x_lload_n {i : Fin 4} {x : Int64} (hd : decode (ib mi) pc = .ok (.lload_n i, 1)) (hl : lv[(i : Nat)]? = some (.long x)) (k : PM E l mi (pc + 1) lv (.long x :: st) S M kc ks Q) : PM E l mi pc lv (st) S M kc ks Q := by
  intro p e s m args below meth c H locs ls Z F O hlo hL h1 h2 hR
  exact lv_lload_n F.1 F.2.1 hd rfl (hL.2.2.2 _ _ hl (fun q => by cases q)) (k p e s m args below meth c H locs ls Z F O hlo hL h1 h2 hR)
theorem x_lload {i : Nat} {x : Int64} (hd : decode (ib mi) pc = .ok (.lload i, 2)) (hl : lv[i]? = some (.long x)) (k : PM E l mi (pc + 2) lv (.long x :: st) S M kc ks Q) : PM E l mi pc lv (st) S M kc ks Q := by
  intro p e s m args below meth c H locs ls Z F O hlo hL h1 h2 hR
  exact lv_lload F.1 F.2.1 hd (hL.2.2.2 _ _ hl (fun q => by cases q)) (k p e s m args below meth c H locs ls Z F O hlo hL h1 h2 hR)
theorem x_aload_n {i : Fin 4} {x : Nat} (hd : decode (ib mi) pc = .ok (.aload_n i, 1)) (hl : lv[(i : Nat)]? = some (.ref x)) (k : PM E l mi (pc + 1) lv (.ref x :: st) S M kc ks Q) : PM E l mi pc lv (st) S M kc ks Q := by
  intro p e s m args below meth c H locs ls Z F O hlo hL h1 h2 hR
  exact lv_aload_n F.1 F.2.1 hd rfl (hL.2.2.2 _ _ hl (fun q => by cases q)) (k p e s m args below meth c H locs ls Z F O hlo hL h1 h2 hR)
theorem x_aload {i : Nat} {x : Nat} (hd : decode (ib mi) pc = .ok (.aload i, 2)) (hl : lv[i]? = some (.ref x)) (k : PM E l mi (pc + 2) lv (.ref x :: st) S M kc ks Q) : PM E l mi pc lv (st) S M kc ks Q := by
  intro p e s m args below meth c H locs ls Z F O hlo hL h1 h2 hR
  exact lv_aload F.1 F.2.1 hd (hL.2.2.2 _ _ hl (fun q => by cases q)) (k p e s m args below meth c H locs ls Z F O hlo hL h1 h2 hR)
theorem x_iadd {x y : Int32} (hd : decode (ib mi) pc = .ok (.iadd, 1)) (k : PM E l mi (pc + 1) lv (.int (x + y) :: st) S M kc ks Q) : PM E l mi pc lv (.int y :: .int x :: st) S M kc ks Q := by
  intro p e s m args below meth c H locs ls Z F O hlo hL h1 h2 hR
  exact lv_iadd F.1 F.2.1 hd (k p e s m args below meth c H locs ls Z F O hlo hL h1 h2 hR)
theorem x_isub {x y : Int32} (hd : decode (ib mi) pc = .ok (.isub, 1)) (k : PM E l mi (pc + 1) lv (.int (x - y) :: st) S M kc ks Q) : PM E l mi pc lv (.int y :: .int x :: st) S M kc ks Q := by
  intro p e s m args below meth c H locs ls Z F O hlo hL h1 h2 hR
  exact lv_isub F.1 F.2.1 hd (k p e s m args below meth c H locs ls Z F O hlo hL h1 h2 hR)
theorem x_imul {x y : Int32} (hd : decode (ib mi) pc = .ok (.imul, 1)) (k : PM E l mi (pc + 1) lv (.int (x * y) :: st) S M kc ks Q) : PM E l mi pc lv (.int y :: .int x :: st) S M kc ks Q := by
  intro p e s m args below meth c H locs ls Z F O hlo hL h1 h2 hR
  exact lv_imul F.1 F.2.1 hd (k p e s m args below meth c H locs ls Z F O hlo hL h1 h2 hR)
theorem x_iand {x y : Int32} (hd : decode (ib mi) pc = .ok (.iand, 1)) (k : PM E l mi (pc + 1) lv (.int (x &&& y) :: st) S M kc ks Q) : PM E l mi pc lv (.int y :: .int x :: st) S M kc ks Q := by
  intro p e s m args below meth c H locs ls Z F O hlo hL h1 h2 hR
  exact lv_iand F.1 F.2.1 hd (k p e s m args below meth c H locs ls Z F O hlo hL h1 h2 hR)
theorem x_ior {x y : Int32} (hd : decode (ib mi) pc = .ok (.ior, 1)) (k : PM E l mi (pc + 1) lv (.int (x ||| y) :: st) S M kc ks Q) : PM E l mi pc lv (.int y :: .int x :: st) S M kc ks Q := by
  intro p e s m args below meth c H locs ls Z F O hlo hL h1 h2 hR
  exact lv_ior F.1 F.2.1 hd (k p e s m args below meth c H locs ls Z F O hlo hL h1 h2 hR)
theorem x_ixor {x y : Int32} (hd : decode (ib mi) pc = .ok (.ixor, 1)) (k : PM E l mi (pc + 1) lv (.int (x ^^^ y) :: st) S M kc ks Q) : PM E l mi pc lv (.int y :: .int x :: st) S M kc ks Q := by
  intro p e s m args below meth c H locs ls Z F O hlo hL h1 h2 hR
  exact lv_ixor F.1 F.2.1 hd (k p e s m args below meth c H locs ls Z F O hlo hL h1 h2 hR)
theorem x_ishl {x y : Int32} (hd : decode (ib mi) pc = .ok (.ishl, 1)) (k : PM E l mi (pc + 1) lv (.int (x <<< (y &&& 31)) :: st) S M kc ks Q) : PM E l mi pc lv (.int y :: .int x :: st) S M kc ks Q := by
  intro p e s m args below meth c H locs ls Z F O hlo hL h1 h2 hR
  exact lv_ishl F.1 F.2.1 hd (k p e s m args below meth c H locs ls Z F O hlo hL h1 h2 hR)
theorem x_ishr {x y : Int32} (hd : decode (ib mi) pc = .ok (.ishr, 1)) (k : PM E l mi (pc + 1) lv (.int (x >>> (y &&& 31)) :: st) S M kc ks Q) : PM E l mi pc lv (.int y :: .int x :: st) S M kc ks Q := by
  intro p e s m args below meth c H locs ls Z F O hlo hL h1 h2 hR
  exact lv_ishr F.1 F.2.1 hd (k p e s m args below meth c H locs ls Z F O hlo hL h1 h2 hR)
theorem x_iushr {x y : Int32} (hd : decode (ib mi) pc = .ok (.iushr, 1)) (k : PM E l mi (pc + 1) lv (.int ((x.toUInt32 >>> (y.toUInt32 &&& Int32.toUInt32 31)).toInt32) :: st) S M kc ks Q) : PM E l mi pc lv (.int y :: .int x :: st) S M kc ks Q := by
  intro p e s m args below meth c H locs ls Z F O hlo hL h1 h2 hR
  exact lv_iushr F.1 F.2.1 hd rfl (k p e s m args below meth c H locs ls Z F O hlo hL h1 h2 hR)
theorem x_idiv {x y : Int32} (hd : decode (ib mi) pc = .ok (.idiv, 1)) (hn : ¬ y = 0) (k : PM E l mi (pc + 1) lv (.int (x / y) :: st) S M kc ks Q) : PM E l mi pc lv (.int y :: .int x :: st) S M kc ks Q := by
  intro p e s m args below meth c H locs ls Z F O hlo hL h1 h2 hR
  exact lv_idiv F.1 F.2.1 hd hn (k p e s m args below meth c H locs ls Z F O hlo hL h1 h2 hR)
theorem x_irem {x y : Int32} (hd : decode (ib mi) pc = .ok (.irem, 1)) (hn : ¬ y = 0) (k : PM E l mi (pc + 1) lv (.int (x - x / y * y) :: st) S M kc ks Q) : PM E l mi pc lv (.int y :: .int x :: st) S M kc ks Q := by
  intro p e s m args below meth c H locs ls Z F O hlo hL h1 h2 hR
  exact lv_irem F.1 F.2.1 hd hn (k p e s m args below meth c H locs ls Z F O hlo hL h1 h2 hR)
theorem x_ineg {x : Int32} (hd : decode (ib mi) pc = .ok (.ineg, 1)) (k : PM E l mi (pc + 1) lv (.int (-x) :: st) S M kc ks Q) : PM E l mi pc lv (.int x :: st) S M kc ks Q := by
  intro p e s m args below meth c H locs ls Z F O hlo hL h1 h2 hR
  exact lv_ineg F.1 F.2.1 hd (k p e s m args below meth c H locs ls Z F O hlo hL h1 h2 hR)
theorem x_i2l {x : Int32} (hd : decode (ib mi) pc = .ok (.i2l, 1)) (k : PM E l mi (pc + 1) lv (.long x.toInt64 :: st) S M kc ks Q) : PM E l mi pc lv (.int x :: st) S M kc ks Q := by
  intro p e s m args below meth c H locs ls Z F O hlo hL h1 h2 hR
  exact lv_i2l F.1 F.2.1 hd rfl (k p e s m args below meth c H locs ls Z F O hlo hL h1 h2 hR)
theorem x_lcmp {x y : Int64} (hd : decode (ib mi) pc = .ok (.lcmp, 1)) (k : PM E l mi (pc + 1) lv (.int (lg_cmp x y) :: st) S M kc ks Q) : PM E l mi pc lv (.long y :: .long x :: st) S M kc ks Q := by
  intro p e s m args below meth c H locs ls Z F O hlo hL h1 h2 hR
  exact W.lcmp F.1 F.2.1 hd (k p e s m args below meth c H locs ls Z F O hlo hL h1 h2 hR)
theorem x_dup {v : Value} (hd : decode (ib mi) pc = .ok (.dup, 1)) (hv : v.category = 1) (k : PM E l mi (pc + 1) lv (v :: v :: st) S M kc ks Q) : PM E l mi pc lv (v :: st) S M kc ks Q := by
  intro p e s m args below meth c H locs ls Z F O hlo hL h1 h2 hR
  exact lv_dup F.1 F.2.1 hd ((cv_cat E v).trans hv) (k p e s m args below meth c H locs ls Z F O hlo hL h1 h2 hR)
theorem x_pop {v : Value} (hd : decode (ib mi) pc = .ok (.pop, 1)) (hv : v.category = 1) (k : PM E l mi (pc + 1) lv (st) S M kc ks Q) : PM E l mi pc lv (v :: st) S M kc ks Q := by
  intro p e s m args below meth c H locs ls Z F O hlo hL h1 h2 hR
  exact lv_pop F.1 F.2.1 hd ((cv_cat E v).trans hv) (k p e s m args below meth c H locs ls Z F O hlo hL h1 h2 hR)
theorem x_dup_x1 {v w : Value} (hd : decode (ib mi) pc = .ok (.dup_x1, 1)) (hv : v.category = 1) (hw : w.category = 1) (k : PM E l mi (pc + 1) lv (v :: w :: v :: st) S M kc ks Q) : PM E l mi pc lv (v :: w :: st) S M kc ks Q := by
  intro p e s m args below meth c H locs ls Z F O hlo hL h1 h2 hR
  exact lv_dup_x1 F.1 F.2.1 hd ((cv_cat E v).trans hv) ((cv_cat E w).trans hw) (k p e s m args below meth c H locs ls Z F O hlo hL h1 h2 hR)
theorem x_dup2 {v w : Value} (hd : decode (ib mi) pc = .ok (.dup2, 1)) (hv : v.category = 1) (hw : w.category = 1) (k : PM E l mi (pc + 1) lv (v :: w :: v :: w :: st) S M kc ks Q) : PM E l mi pc lv (v :: w :: st) S M kc ks Q := by
  intro p e s m args below meth c H locs ls Z F O hlo hL h1 h2 hR
  exact lv_dup2_11 F.1 F.2.1 hd ((cv_cat E v).trans hv) ((cv_cat E w).trans hw) (k p e s m args below meth c H locs ls Z F O hlo hL h1 h2 hR)
theorem x_if_eq {x : Int32} {off : Int} (tgt : Nat) (hd : decode (ib mi) pc = .ok (.ifCond .eq off, 3)) (ht : (pc : Int) + off = (tgt : Int)) (kt : x = 0 → PM E l mi tgt lv st S M kc ks Q) (kf : ¬ x = 0 → PM E l mi (pc + 3) lv st S M kc ks Q) : PM E l mi pc lv (.int x :: st) S M kc ks Q := by
  intro p e s m args below meth c H locs ls Z F O hlo hL h1 h2 hR
  exact lv_if_eq F.1 F.2.1 hd ht (fun z => kt z p e s m args below meth c H locs ls Z F O hlo hL h1 h2 hR) (fun z => kf z p e s m args below meth c H locs ls Z F O hlo hL h1 h2 hR)
theorem x_icmp_eq {x y : Int32} {off : Int} (tgt : Nat) (hd : decode (ib mi) pc = .ok (.if_icmp .eq off, 3)) (ht : (pc : Int) + off = (tgt : Int)) (kt : x = y → PM E l mi tgt lv st S M kc ks Q) (kf : ¬ x = y → PM E l mi (pc + 3) lv st S M kc ks Q) : PM E l mi pc lv (.int y :: .int x :: st) S M kc ks Q := by
  intro p e s m args below meth c H locs ls Z F O hlo hL h1 h2 hR
  exact lv_icmp_eq F.1 F.2.1 hd ht (fun z => kt z p e s m args below meth c H locs ls Z F O hlo hL h1 h2 hR) (fun z => kf z p e s m args below meth c H locs ls Z F O hlo hL h1 h2 hR)
theorem x_if_ne {x : Int32} {off : Int} (tgt : Nat) (hd : decode (ib mi) pc = .ok (.ifCond .ne off, 3)) (ht : (pc : Int) + off = (tgt : Int)) (kt : ¬ x = 0 → PM E l mi tgt lv st S M kc ks Q) (kf : x = 0 → PM E l mi (pc + 3) lv st S M kc ks Q) : PM E l mi pc lv (.int x :: st) S M kc ks Q := by
  intro p e s m args below meth c H locs ls Z F O hlo hL h1 h2 hR
  exact lv_if_ne F.1 F.2.1 hd ht (fun z => kt z p e s m args below meth c H locs ls Z F O hlo hL h1 h2 hR) (fun z => kf z p e s m args below meth c H locs ls Z F O hlo hL h1 h2 hR)
theorem x_icmp_ne {x y : Int32} {off : Int} (tgt : Nat) (hd : decode (ib mi) pc = .ok (.if_icmp .ne off, 3)) (ht : (pc : Int) + off = (tgt : Int)) (kt : ¬ x = y → PM E l mi tgt lv st S M kc ks Q) (kf : x = y → PM E l mi (pc + 3) lv st S M kc ks Q) : PM E l mi pc lv (.int y :: .int x :: st) S M kc ks Q := by
  intro p e s m args below meth c H locs ls Z F O hlo hL h1 h2 hR
  exact lv_icmp_ne F.1 F.2.1 hd ht (fun z => kt z p e s m args below meth c H locs ls Z F O hlo hL h1 h2 hR) (fun z => kf z p e s m args below meth c H locs ls Z F O hlo hL h1 h2 hR)
theorem x_if_lt {x : Int32} {off : Int} (tgt : Nat) (hd : decode (ib mi) pc = .ok (.ifCond .lt off, 3)) (ht : (pc : Int) + off = (tgt : Int)) (kt : x < 0 → PM E l mi tgt lv st S M kc ks Q) (kf : ¬ x < 0 → PM E l mi (pc + 3) lv st S M kc ks Q) : PM E l mi pc lv (.int x :: st) S M kc ks Q := by
  intro p e s m args below meth c H locs ls Z F O hlo hL h1 h2 hR
  exact lv_if_lt F.1 F.2.1 hd ht (fun z => kt z p e s m args below meth c H locs ls Z F O hlo hL h1 h2 hR) (fun z => kf z p e s m args below meth c H locs ls Z F O hlo hL h1 h2 hR)
theorem x_icmp_lt {x y : Int32} {off : Int} (tgt : Nat) (hd : decode (ib mi) pc = .ok (.if_icmp .lt off, 3)) (ht : (pc : Int) + off = (tgt : Int)) (kt : x < y → PM E l mi tgt lv st S M kc ks Q) (kf : ¬ x < y → PM E l mi (pc + 3) lv st S M kc ks Q) : PM E l mi pc lv (.int y :: .int x :: st) S M kc ks Q := by
  intro p e s m args below meth c H locs ls Z F O hlo hL h1 h2 hR
  exact lv_icmp_lt F.1 F.2.1 hd ht (fun z => kt z p e s m args below meth c H locs ls Z F O hlo hL h1 h2 hR) (fun z => kf z p e s m args below meth c H locs ls Z F O hlo hL h1 h2 hR)
theorem x_if_ge {x : Int32} {off : Int} (tgt : Nat) (hd : decode (ib mi) pc = .ok (.ifCond .ge off, 3)) (ht : (pc : Int) + off = (tgt : Int)) (kt : 0 ≤ x → PM E l mi tgt lv st S M kc ks Q) (kf : ¬ 0 ≤ x → PM E l mi (pc + 3) lv st S M kc ks Q) : PM E l mi pc lv (.int x :: st) S M kc ks Q := by
  intro p e s m args below meth c H locs ls Z F O hlo hL h1 h2 hR
  exact lv_if_ge F.1 F.2.1 hd ht (fun z => kt z p e s m args below meth c H locs ls Z F O hlo hL h1 h2 hR) (fun z => kf z p e s m args below meth c H locs ls Z F O hlo hL h1 h2 hR)
theorem x_icmp_ge {x y : Int32} {off : Int} (tgt : Nat) (hd : decode (ib mi) pc = .ok (.if_icmp .ge off, 3)) (ht : (pc : Int) + off = (tgt : Int)) (kt : y ≤ x → PM E l mi tgt lv st S M kc ks Q) (kf : ¬ y ≤ x → PM E l mi (pc + 3) lv st S M kc ks Q) : PM E l mi pc lv (.int y :: .int x :: st) S M kc ks Q := by
  intro p e s m args below meth c H locs ls Z F O hlo hL h1 h2 hR
  exact lv_icmp_ge F.1 F.2.1 hd ht (fun z => kt z p e s m args below meth c H locs ls Z F O hlo hL h1 h2 hR) (fun z => kf z p e s m args below meth c H locs ls Z F O hlo hL h1 h2 hR)
theorem x_if_gt {x : Int32} {off : Int} (tgt : Nat) (hd : decode (ib mi) pc = .ok (.ifCond .gt off, 3)) (ht : (pc : Int) + off = (tgt : Int)) (kt : 0 < x → PM E l mi tgt lv st S M kc ks Q) (kf : ¬ 0 < x → PM E l mi (pc + 3) lv st S M kc ks Q) : PM E l mi pc lv (.int x :: st) S M kc ks Q := by
  intro p e s m args below meth c H locs ls Z F O hlo hL h1 h2 hR
  exact lv_if_gt F.1 F.2.1 hd ht (fun z => kt z p e s m args below meth c H locs ls Z F O hlo hL h1 h2 hR) (fun z => kf z p e s m args below meth c H locs ls Z F O hlo hL h1 h2 hR)
theorem x_icmp_gt {x y : Int32} {off : Int} (tgt : Nat) (hd : decode (ib mi) pc = .ok (.if_icmp .gt off, 3)) (ht : (pc : Int) + off = (tgt : Int)) (kt : y < x → PM E l mi tgt lv st S M kc ks Q) (kf : ¬ y < x → PM E l mi (pc + 3) lv st S M kc ks Q) : PM E l mi pc lv (.int y :: .int x :: st) S M kc ks Q := by
  intro p e s m args below meth c H locs ls Z F O hlo hL h1 h2 hR
  exact lv_icmp_gt F.1 F.2.1 hd ht (fun z => kt z p e s m args below meth c H locs ls Z F O hlo hL h1 h2 hR) (fun z => kf z p e s m args below meth c H locs ls Z F O hlo hL h1 h2 hR)
theorem x_if_le {x : Int32} {off : Int} (tgt : Nat) (hd : decode (ib mi) pc = .ok (.ifCond .le off, 3)) (ht : (pc : Int) + off = (tgt : Int)) (kt : x ≤ 0 → PM E l mi tgt lv st S M kc ks Q) (kf : ¬ x ≤ 0 → PM E l mi (pc + 3) lv st S M kc ks Q) : PM E l mi pc lv (.int x :: st) S M kc ks Q := by
  intro p e s m args below meth c H locs ls Z F O hlo hL h1 h2 hR
  exact lv_if_le F.1 F.2.1 hd ht (fun z => kt z p e s m args below meth c H locs ls Z F O hlo hL h1 h2 hR) (fun z => kf z p e s m args below meth c H locs ls Z F O hlo hL h1 h2 hR)
theorem x_icmp_le {x y : Int32} {off : Int} (tgt : Nat) (hd : decode (ib mi) pc = .ok (.if_icmp .le off, 3)) (ht : (pc : Int) + off = (tgt : Int)) (kt : x ≤ y → PM E l mi tgt lv st S M kc ks Q) (kf : ¬ x ≤ y → PM E l mi (pc + 3) lv st S M kc ks Q) : PM E l mi pc lv (.int y :: .int x :: st) S M kc ks Q := by
  intro p e s m args below meth c H locs ls Z F O hlo hL h1 h2 hR
  exact lv_icmp_le F.1 F.2.1 hd ht (fun z => kt z p e s m args below meth c H locs ls Z F O hlo hL h1 h2 hR) (fun z => kf z p e s m args below meth c H locs ls Z F O hlo hL h1 h2 hR)
theorem x_goto {off : Int} (tgt : Nat) (hd : decode (ib mi) pc = .ok (.goto off, 3)) (ht : (pc : Int) + off = (tgt : Int)) (k : PM E l mi tgt lv st S M kc ks Q) : PM E l mi pc lv st S M kc ks Q := by
  intro p e s m args below meth c H locs ls Z F O hlo hL h1 h2 hR
  exact lv_goto F.1 F.2.1 hd ht (k p e s m args below meth c H locs ls Z F O hlo hL h1 h2 hR)
theorem x_tabOut {dflt lo hi : Int} {offs : Array Int} {len : Nat} {x : Int32} (tgt : Nat) (hd : decode (ib mi) pc = .ok (.tableswitch dflt lo hi offs, len)) (h : x.toInt < lo ∨ hi < x.toInt) (ht : (pc : Int) + dflt = (tgt : Int)) (k : PM E l mi tgt lv st S M kc ks Q) : PM E l mi pc lv (.int x :: st) S M kc ks Q := by
  intro p e s m args below meth c H locs ls Z F O hlo hL h1 h2 hR
  exact lv_tableOut F.1 F.2.1 hd h ht (k p e s m args below meth c H locs ls Z F O hlo hL h1 h2 hR)
theorem x_tabIn {dflt lo hi : Int} {offs : Array Int} {len : Nat} {x : Int32} {off : Int} (tgt : Nat) (hd : decode (ib mi) pc = .ok (.tableswitch dflt lo hi offs, len)) (g1 : ¬ x.toInt < lo) (g2 : ¬ hi < x.toInt) (ho : offs[(x.toInt - lo).toNat]? = some off) (ht : (pc : Int) + off = (tgt : Int)) (k : PM E l mi tgt lv st S M kc ks Q) : PM E l mi pc lv (.int x :: st) S M kc ks Q := by
  intro p e s m args below meth c H locs ls Z F O hlo hL h1 h2 hR
  exact lv_tableIn F.1 F.2.1 hd g1 g2 ho ht (k p e s m args below meth c H locs ls Z F O hlo hL h1 h2 hR)
theorem x_lookup {dflt : Int} {ps : Array (Int × Int)} {len : Nat} {x : Int32} {off : Int} (tgt : Nat) (hd : decode (ib mi) pc = .ok (.lookupswitch dflt ps, len)) (hp : (ps.toList.zip (ps.toList.drop 1)).all (fun (a, next) => a.1 < next.1) = true) (ho : Op.lookupswitch.offset ps.toList dflt x.toInt = off) (ht : (pc : Int) + off = (tgt : Int)) (k : PM E l mi tgt lv st S M kc ks Q) : PM E l mi pc lv (.int x :: st) S M kc ks Q := by
  intro p e s m args below meth c H locs ls Z F O hlo hL h1 h2 hR
  exact lv_lookup F.1 F.2.1 hd hp ho ht (k p e s m args below meth c H locs ls Z F O hlo hL h1 h2 hR)
end RA

def prl (E : vE) (lv : List Value) : List (Nat × Value) := (List.range lv.length).filterMap (fun i => match (lv[i]? : Option Value) with
  | some Value.null => none
  | some v => some (i, cv E v)
  | none => none)
theorem prl_in {E : vE} {lv : List Value} {i : Nat} {v : Value} (h : lv[i]? = some v) (hv : v ≠ .null) : (i, cv E v) ∈ prl E lv := by
  unfold prl
  refine List.mem_filterMap.mpr ⟨i, List.mem_range.mpr (List.getElem?_eq_some_iff.mp h).1, ?_⟩
  rw [h]
  cases v <;> first | rfl | exact absurd rfl hv
theorem prl_of {E : vE} {lv : List Value} {q : Nat × Value} (h : q ∈ prl E lv) : ∃ v, lv[q.1]? = some v ∧ v ≠ .null ∧ q.2 = cv E v := by
  unfold prl at h
  obtain ⟨i, -, h1⟩ := List.mem_filterMap.mp h
  cases hv : lv[i]? with
  | none => rw [hv] at h1; cases h1
  | some v =>
    rw [hv] at h1
    cases v <;> first | (cases h1; exact ⟨_, hv, (fun q => by cases q), rfl⟩) | cases h1
theorem Lr.has {E : vE} {ls : Array Slot} {lv : List Value} {n : Nat} (h : Lr E ls lv n) : lv_has ls n (prl E lv) := by
  refine ⟨h.1, h.2.1, fun q hq => ?_⟩
  obtain ⟨v, h1, h2, h3⟩ := prl_of hq
  rw [h3]
  exact h.2.2.2 _ _ h1 h2
theorem Lr.put {E : vE} {ls : Array Slot} {lv : List Value} {n i : Nat} {v : Value} (hn : lv.length = n) (hc : lv.all (fun v => v.category == 1) = true) (h : lv_has ls n ((i, cv E v) :: (prl E lv).filter (fun q => !(q.1 == i) && !(q.1 + 1 == i && q.2.category == 2)))) : Lr E ls (lv.set i v) n := by
  refine ⟨h.1, h.2.1, by rw [List.length_set]; exact hn, fun j w hj hw => ?_⟩
  by_cases hji : j = i
  · subst hji
    have hl : j < lv.length := by
      have := (List.getElem?_eq_some_iff.mp hj).1
      rw [List.length_set] at this
      exact this
    rw [List.getElem?_set_self hl] at hj
    cases hj
    exact h.2.2 (j, cv E v) List.mem_cons_self
  · rw [List.getElem?_set_ne (Ne.symm hji)] at hj
    have h1 := List.all_eq_true.mp hc w (List.mem_of_getElem? hj)
    refine h.2.2 (j, cv E w) (List.mem_cons_of_mem _ (List.mem_filter.mpr ⟨prl_in hj hw, ?_⟩))
    simp only [beq_iff_eq] at h1
    simp [hji, cv_cat, h1]

section RB
variable {E : vE} {l : Launch} {mi : vMI} {pc : Nat} {lv st : List Value} {S : vS} {M : vM} {kc ks : Nat} {Q : Option Value → vS → vM → Prop}
theorem x_istore_n {i : Fin 4} {x : Int32} (hd : decode (ib mi) pc = .ok (.istore_n i, 1)) (hi : (i : Nat) < im mi) (hc : lv.all (fun v => v.category == 1) = true) (k : PM E l mi (pc + 1) (lv.set (i : Nat) (.int x)) st S M kc ks Q) : PM E l mi pc lv (.int x :: st) S M kc ks Q := by
  intro p e s m args below meth c H locs ls Z F O hlo hL h1 h2 hR
  exact lv_istore_n F.1 F.2.1 hd rfl hL.has hi rfl (fun ls' hl' => k p e s m args below meth c H locs ls' Z F O hlo (Lr.put hL.2.2.1 hc hl') h1 h2 hR)
theorem x_istore {i : Nat} {x : Int32} (hd : decode (ib mi) pc = .ok (.istore i, 2)) (hi : (i : Nat) < im mi) (hc : lv.all (fun v => v.category == 1) = true) (k : PM E l mi (pc + 2) (lv.set (i : Nat) (.int x)) st S M kc ks Q) : PM E l mi pc lv (.int x :: st) S M kc ks Q := by
  intro p e s m args below meth c H locs ls Z F O hlo hL h1 h2 hR
  exact lv_istore F.1 F.2.1 hd hL.has hi rfl (fun ls' hl' => k p e s m args below meth c H locs ls' Z F O hlo (Lr.put hL.2.2.1 hc hl') h1 h2 hR)
theorem x_astore_n {i : Fin 4} {x : Nat} (hd : decode (ib mi) pc = .ok (.astore_n i, 1)) (hi : (i : Nat) < im mi) (hc : lv.all (fun v => v.category == 1) = true) (k : PM E l mi (pc + 1) (lv.set (i : Nat) (.ref x)) st S M kc ks Q) : PM E l mi pc lv (.ref x :: st) S M kc ks Q := by
  intro p e s m args below meth c H locs ls Z F O hlo hL h1 h2 hR
  exact lv_astore_n F.1 F.2.1 hd rfl hL.has hi rfl (fun ls' hl' => k p e s m args below meth c H locs ls' Z F O hlo (Lr.put hL.2.2.1 hc hl') h1 h2 hR)
theorem x_astore {i : Nat} {x : Nat} (hd : decode (ib mi) pc = .ok (.astore i, 2)) (hi : (i : Nat) < im mi) (hc : lv.all (fun v => v.category == 1) = true) (k : PM E l mi (pc + 2) (lv.set (i : Nat) (.ref x)) st S M kc ks Q) : PM E l mi pc lv (.ref x :: st) S M kc ks Q := by
  intro p e s m args below meth c H locs ls Z F O hlo hL h1 h2 hR
  exact lv_astore F.1 F.2.1 hd hL.has hi rfl (fun ls' hl' => k p e s m args below meth c H locs ls' Z F O hlo (Lr.put hL.2.2.1 hc hl') h1 h2 hR)
theorem x_iinc {i : Nat} {n : Int} {x v : Int32} (hd : decode (ib mi) pc = .ok (.iinc i n, 3)) (hl : lv[i]? = some (.int x)) (hv : x + Int32.ofInt n = v) (hc : lv.all (fun v => v.category == 1) = true) (k : PM E l mi (pc + 3) (lv.set i (.int v)) st S M kc ks Q) : PM E l mi pc lv st S M kc ks Q := by
  intro p e s m args below meth c H locs ls Z F O hlo hL h1 h2 hR
  have hm := prl_in (E := E) hl (fun q => by cases q)
  obtain ⟨kk, hk⟩ := List.getElem?_of_mem hm
  have hi : i < im mi := by
    have h5 := (List.getElem?_eq_some_iff.mp hl).1
    rw [hL.2.2.1] at h5
    exact h5
  exact lv_iinc F.1 F.2.1 hd hL.has (k := kk) hk hv hi rfl (fun ls' hl' => k p e s m args below meth c H locs ls' Z F O hlo (Lr.put hL.2.2.1 hc hl') h1 h2 hR)
theorem PM.mono {Q2 : Option Value → vS → vM → Prop} (h : ∀ r S M, Q r S M → Q2 r S M) (k : PM E l mi pc lv st S M kc ks Q) : PM E l mi pc lv st S M kc ks Q2 := by
  intro p e s m args below meth c H locs ls Z F O hlo hL h1 h2 hR
  exact k p e s m args below meth c H locs ls Z F O hlo hL h1 h2 (fun r S M kc ks H locs ls pc hq => hR r S M kc ks H locs ls pc (h r S M hq))
theorem x_iret {v : Int32} {ty : FieldType} (hd : decode (ib mi) pc = .ok (.ireturn, 1)) (hr : ir mi = some ty) (hn : narrow ty (.int v) = .int v) (hq : Q (some (.int v)) S M) : PM E l mi pc lv [.int v] S M kc ks Q := by
  intro p e s m args below meth c H locs ls Z F O hlo hL h1 h2 hR
  exact hR (some (.int v)) S M kc ks H locs ls pc hq O hlo h1 h2 (Or.inl ⟨hd, v, ty, rfl, hr, hn⟩)
theorem x_vret (hd : decode (ib mi) pc = .ok (.return_, 1)) (hr : ir mi = none) (hq : Q none S M) : PM E l mi pc lv [] S M kc ks Q := by
  intro p e s m args below meth c H locs ls Z F O hlo hL h1 h2 hR
  exact hR none S M kc ks H locs ls pc hq O hlo h1 h2 (Or.inr (Or.inl ⟨hd, rfl, hr⟩))
theorem x_aret {q : Nat} {n : String} (hd : decode (ib mi) pc = .ok (.areturn, 1)) (hr : ir mi = some (.object n)) (hq : Q (some (.ref q)) S M) : PM E l mi pc lv [.ref q] S M kc ks Q := by
  intro p e s m args below meth c H locs ls Z F O hlo hL h1 h2 hR
  exact hR (some (.ref q)) S M kc ks H locs ls pc hq O hlo h1 h2 (Or.inr (Or.inr ⟨hd, q, n, rfl, hr⟩))
end RB
end
section
theorem gin (ws : List Cond) (ps : List Nat) (hp : ws = ps.filterMap (fun i => lw_tbl[i]?)) (h : ws.all goodWord = true) : ∀ w ∈ ws, w ∈ gTbl := by
  intro w hw
  have h1 := List.all_eq_true.mp h w hw
  rw [hp] at hw
  obtain ⟨i, -, hi⟩ := List.mem_filterMap.mp hw
  exact List.mem_filter.mpr ⟨List.mem_of_getElem? hi, h1⟩
theorem gat {w : Cond} (i : Nat) (h : lw_tbl[i]? = some w) (hg : goodWord w = true) : w ∈ gTbl := List.mem_filter.mpr ⟨List.mem_of_getElem? h, hg⟩
theorem nat_ {w : Cond} (i : Nat) (h : lw_tbl[i]? = some w) (hg : nest? w = true) : w ∈ nTbl := List.mem_filter.mpr ⟨List.mem_of_getElem? h, hg⟩
set_option maxRecDepth 100000 in
theorem inGX0 : ∀ w ∈ u_ws RX0 TX0 11, w ∈ gTbl := gin _ [161, 163, 165, 167, 169, 171, 173, 175, 177, 179, 181] (by decide +kernel) (by decide +kernel)
set_option maxRecDepth 100000 in
theorem inGX1 : ∀ w ∈ u_ws RX1 TX1 4, w ∈ gTbl := gin _ [106, 108, 110, 112] (by decide +kernel) (by decide +kernel)
set_option maxRecDepth 100000 in
theorem inGX2 : ∀ w ∈ u_ws RX2 TX2 5, w ∈ gTbl := gin _ [299, 301, 303, 305, 307] (by decide +kernel) (by decide +kernel)
set_option maxRecDepth 100000 in
theorem inGX3 : ∀ w ∈ u_ws RX3 TX3 2, w ∈ gTbl := gin _ [199, 201] (by decide +kernel) (by decide +kernel)
set_option maxRecDepth 100000 in
theorem inGX4 : ∀ w ∈ u_ws RX4 TX4 8, w ∈ gTbl := gin _ [219, 221, 223, 225, 227, 229, 231, 233] (by decide +kernel) (by decide +kernel)
set_option maxRecDepth 100000 in
theorem inGX5 : ∀ w ∈ u_ws RX5 TX5 4, w ∈ gTbl := gin _ [131, 133, 135, 137] (by decide +kernel) (by decide +kernel)
set_option maxRecDepth 100000 in
theorem inGX6 : ∀ w ∈ u_ws RX6 TX6 7, w ∈ gTbl := gin _ [255, 257, 259, 261, 263, 265, 267] (by decide +kernel) (by decide +kernel)
set_option maxRecDepth 100000 in
theorem inGX7 : ∀ w ∈ u_ws RX7 TX7 3, w ∈ gTbl := gin _ [280, 282, 284] (by decide +kernel) (by decide +kernel)
set_option maxRecDepth 100000 in
theorem inGX8 : ∀ w ∈ u_ws RX8 TX8 10, w ∈ gTbl := gin _ [320, 322, 324, 326, 328, 330, 332, 334, 336, 338] (by decide +kernel) (by decide +kernel)
set_option maxRecDepth 100000 in
theorem inGX9 : ∀ w ∈ u_ws RX9 TX9 33, w ∈ gTbl := gin _ [790, 792, 794, 796, 798, 800, 802, 804, 806, 808, 810, 812, 814, 816, 818, 820, 822, 824, 826, 828, 830, 832, 834, 836, 838, 840, 842, 844, 846, 848, 850, 852, 854] (by decide +kernel) (by decide +kernel)
theorem cls_ok : ∀ {ci : Nat} {C : String} {T : u_T} {N : Nat}, vcl[ci]? = some (C, T, N) → ci < 10 ∧ (∀ w ∈ u_ws C T N, w ∈ gTbl) ∧ (∀ k, k < N → parseFieldDescriptor (T k).2.2.1 = some (vty ci k)) ∧ (∀ a, a < N → ∀ b, b < N → a ≠ b → (T a).2.1 ≠ (T b).2.1) := by
  intro ci C T N h
  match ci, h with
  | 0, h => cases h; exact ⟨by decide, inGX0, tyX0_ok, nmX0⟩
  | 1, h => cases h; exact ⟨by decide, inGX1, tyX1_ok, nmX1⟩
  | 2, h => cases h; exact ⟨by decide, inGX2, tyX2_ok, nmX2⟩
  | 3, h => cases h; exact ⟨by decide, inGX3, tyX3_ok, nmX3⟩
  | 4, h => cases h; exact ⟨by decide, inGX4, tyX4_ok, nmX4⟩
  | 5, h => cases h; exact ⟨by decide, inGX5, tyX5_ok, nmX5⟩
  | 6, h => cases h; exact ⟨by decide, inGX6, tyX6_ok, nmX6⟩
  | 7, h => cases h; exact ⟨by decide, inGX7, tyX7_ok, nmX7⟩
  | 8, h => cases h; exact ⟨by decide, inGX8, tyX8_ok, nmX8⟩
  | 9, h => cases h; exact ⟨by decide, inGX9, tyX9_ok, nmX9⟩
  | k + 10, h => simp [vcl] at h
/-- a field's link: of the class's own, or across the nest -/
def LkF (own : String) (i ci k : Nat) : Prop := ∃ (C : String) (T : u_T) (N : Nat), vcl[ci]? = some (C, T, N) ∧ k < N ∧ (Cond.fieldLink own i (T k).1 (T k).2.1 (T k).2.2.1 ∈ gTbl ∨ ∃ host, Cond.fieldLinkNest own i (T k).1 (T k).2.1 (T k).2.2.1 host ∈ nTbl)
def vfin (ci k : Nat) : Bool := match vcl[ci]? with
  | some q => (q.2.1 k).2.2.2
  | none => true
theorem LkF.kind {own : String} {i ci k : Nat} (h : LkF own i ci k) : ci < 10 := by
  obtain ⟨C, T, N, h1, -⟩ := h
  exact (cls_ok h1).1
theorem Wo.obj {E : vE} {s : State} {H : Heap} {S : vS} {M : vM} (O : Wo E s H S M) {q ci len : Nat} {refs : List Nat} (hs : S[q]? = some (ci, len, refs)) (hc : ci ≠ 100) : ∃ q', q = q' + 3 := by
  obtain ⟨_, _, h3, h4, ⟨L, h5, _⟩, _⟩ := O
  match q, hs with
  | 0, hs => rw [h3] at hs; cases hs; exact absurd rfl hc
  | 1, hs => rw [h4] at hs; cases hs; exact absurd rfl hc
  | 2, hs => rw [h5] at hs; cases hs; exact absurd rfl hc
  | q + 3, _ => exact ⟨q, rfl⟩
theorem ent_obj {E : vE} {k ci len : Nat} {refs : List Nat} {M : vM} (h : ci < 10) : ent E k (ci, len, refs) M = .inr (ci, (List.range len).map (fld E k ci refs M)) := by
  unfold ent
  rw [if_neg (by show ¬ ci = 100; omega), if_neg (by show ¬ ci = 101; omega)]
theorem fld_at {E : vE} {k ci len j : Nat} {refs : List Nat} {M : vM} (h : j < len) : ((List.range len).map (fld E k ci refs M))[j]? = some (fld E k ci refs M j) := by
  rw [List.getElem?_map, List.getElem?_range h]
  rfl
theorem fld_V {E : vE} {k ci len j : Nat} {refs : List Nat} {M : vM} (h : j < len) : vp_V ((List.range len).map (fld E k ci refs M)) j = fld E k ci refs M j := by
  unfold vp_V
  rw [List.getD_eq_getElem?_getD, fld_at h]
  rfl
theorem fld_V0 {E : vE} {k ci len j : Nat} {refs : List Nat} {M : vM} (h : ¬ j < len) : vp_V ((List.range len).map (fld E k ci refs M)) j = .null := by
  unfold vp_V
  rw [List.getD_eq_getElem?_getD, List.getElem?_eq_none (by simp; omega)]
  rfl
section RC
variable {E : vE} {l : Launch} {mi : vMI} {pc : Nat} {lv st : List Value} {S : vS} {M : vM} {kc ks : Nat} {Q : Option Value → vS → vM → Prop}
theorem x_getI {q ci len k i : Nat} {refs : List Nat} (hr : isRf ci k = false) (hf : LkF (iy mi).cls i ci k) (hs : S[q]? = some (ci, len, refs)) (hk : k < len) (hd : decode (ib mi) pc = .ok (.getfield i, 3)) (kk : PM E l mi (pc + 3) lv (.int (M q k) :: st) S M kc ks Q) : PM E l mi pc lv (.ref q :: st) S M kc ks Q := by
  intro p e s m args below meth c H locs ls Z F O hlo hL h1 h2 hR
  have hci := hf.kind
  obtain ⟨q, rfl⟩ := O.obj hs (by omega)
  obtain ⟨C, T, N, hc, hkN, hl⟩ := hf
  have he := wd_at (E := E) (M := M) hs
  rw [ent_obj hci] at he
  have hv : ((List.range len).map (fld E (q + 3) ci refs M))[k]? = some (cv E (.int (M (q + 3) k))) := by
    rw [fld_at hk]
    simp only [fld, hr, Bool.false_eq_true, if_false, cv]
  rcases hl with hl | ⟨host, hl⟩
  · exact va_get F.1 F.2.1 F.2.2.2.2.1 (cls_ok hc).2.1 F.2.2.2.1 F.2.2.2.2.2.2.1 O.1 q he hc k hkN (F.2.2.2.2.1 _ hl) (fun _ h => h) hv hd (kk p e s m args below meth c H locs ls Z F O hlo hL h1 h2 hR)
  · exact va_getN F.1 F.2.1 F.2.2.2.2.1 (cls_ok hc).2.1 F.2.2.2.1 F.2.2.2.2.2.2.1 O.1 q he hc k hkN (va_Nw.use rfl (F.2.2.2.2.2.1 _ hl)) (fun _ h => h) hv hd (kk p e s m args below meth c H locs ls Z F O hlo hL h1 h2 hR)
theorem x_getR {q ci len k i : Nat} {refs : List Nat} {t : Nat} (hr : isRf ci k = true) (ht : refs.getD k 0 = t + 1) (hf : LkF (iy mi).cls i ci k) (hs : S[q]? = some (ci, len, refs)) (hk : k < len) (hd : decode (ib mi) pc = .ok (.getfield i, 3)) (kk : PM E l mi (pc + 3) lv (.ref t :: st) S M kc ks Q) : PM E l mi pc lv (.ref q :: st) S M kc ks Q := by
  intro p e s m args below meth c H locs ls Z F O hlo hL h1 h2 hR
  have hci := hf.kind
  obtain ⟨q, rfl⟩ := O.obj hs (by omega)
  obtain ⟨C, T, N, hc, hkN, hl⟩ := hf
  have he := wd_at (E := E) (M := M) hs
  rw [ent_obj hci] at he
  have hv : ((List.range len).map (fld E (q + 3) ci refs M))[k]? = some (cv E (.ref t)) := by
    rw [fld_at hk]
    simp only [fld, hr, if_true, rfd, ht, cv]
  rcases hl with hl | ⟨host, hl⟩
  · exact va_get F.1 F.2.1 F.2.2.2.2.1 (cls_ok hc).2.1 F.2.2.2.1 F.2.2.2.2.2.2.1 O.1 q he hc k hkN (F.2.2.2.2.1 _ hl) (fun _ h => h) hv hd (kk p e s m args below meth c H locs ls Z F O hlo hL h1 h2 hR)
  · exact va_getN F.1 F.2.1 F.2.2.2.2.1 (cls_ok hc).2.1 F.2.2.2.1 F.2.2.2.2.2.2.1 O.1 q he hc k hkN (va_Nw.use rfl (F.2.2.2.2.2.1 _ hl)) (fun _ h => h) hv hd (kk p e s m args below meth c H locs ls Z F O hlo hL h1 h2 hR)
theorem x_putI {q ci len k i : Nat} {refs : List Nat} {x : Int32} (hr : isRf ci k = false) (hfin : vfin ci k = false) (hn : narrow (vty ci k) (.int x) = .int x) (hfit : fits (vty ci k) (.int x) = true) (hf : LkF (iy mi).cls i ci k) (hs : S[q]? = some (ci, len, refs)) (hk : k < len) (hd : decode (ib mi) pc = .ok (.putfield i, 3)) (kk : PM E l mi (pc + 3) lv st S (sM M q (upd (M q) k x)) kc ks Q) : PM E l mi pc lv (.int x :: .ref q :: st) S M kc ks Q := by
  intro p e s m args below meth c H locs ls Z F O hlo hL h1 h2 hR
  have hci := hf.kind
  obtain ⟨q, rfl⟩ := O.obj hs (by omega)
  obtain ⟨C, T, N, hc, hkN, hl⟩ := hf
  have he := wd_at (E := E) (M := M) hs
  rw [ent_obj hci] at he
  obtain ⟨-, hin, hty, hnm⟩ := cls_ok hc
  have hts := F.2.2.2.2.1
  have hK := F.2.2.2.2.2.2.1
  have hap := va_apart (own := (iy mi).cls) hts hin (vty ci) hty hnm hK hc
  obtain ⟨r, g1, cell, q1, q2, q3, q4⟩ := O.1 q _ he
  have hr2 : r = (C, T, N) := Option.some.inj (g1.symm.trans hc)
  subst hr2
  obtain ⟨hS, hfc, kC, hkC, hkind⟩ := hK.1 ci _ hc
  obtain ⟨cf, kf, fi, f, hi, hsl⟩ := hS k hkN
  have hfin2 : (T k).2.2.2 = false := by
    have h5 : vfin ci k = (T k).2.2.2 := by unfold vfin; rw [hc]
    rw [← h5]; exact hfin
  have hlay := hts _ (hin _ (u_in_lay hkN))
  unfold u_lay at hlay
  rw [if_neg (by rw [hfin2]; decide)] at hlay
  have hst := (u_facts hfc hkC (u_lays hts hin hkN) hi).1
  have h6 := u_store hfc hkC hkind hlay hi (hty k hkN) hn hfit
  have fin : ∀ H' : Heap, H'[eB E + q]? = some (cell.setSlot f.slot (.int x)) → H'.size = H.size → (∀ z, z ≠ eB E + q → H'[z]? = H[z]?) → W p l e (iR mi) s m args below meth c H' (locs ++ [⟨eB E + q, f.slot⟩]) kc ks Z (F0 m (pc + 3) ls (st.map (cv E))) := by
    intro H' e1 e2 e3
    rw [hsl] at e1
    refine kk p e s m args below meth c H' _ ls Z F (O.to ?_ e2 (fun z hz => e3 z (by omega)) (sM_ne _ _ _ (by omega)) (sM_ne _ _ _ (by omega)) (sM_ne _ _ _ (by omega))) ?_ hL h1 h2 hR
    · rw [← wd_set _ hs]
      refine O.1.set (wd_D E S M) he ?_ e3
      rw [ent_obj hci]
      refine ⟨_, hc, t_OB.to (V := updV (vp_V ((List.range len).map (fld E (q + 3) ci refs M))) k (.int x)) ⟨_, e1, q2, q3, t_set q4 hap hkN (.int x)⟩ (fun j hj => ?_)⟩
      by_cases hjk : j = k
      · subst hjk
        rw [fld_V hk]
        simp [updV, fld, hr, sM, upd]
      · by_cases hjl : j < len
        · rw [fld_V hjl]
          simp only [updV, hjk, if_false]
          rw [fld_V hjl]
          simp [fld, sM, upd, hjk]
        · rw [fld_V0 hjl]
          simp only [updV, hjk, if_false]
          rw [fld_V0 hjl]
    · intro z hz
      rcases List.mem_append.mp hz with h | h
      · exact hlo z h
      · rw [List.mem_singleton.mp h]
        exact Nat.le_add_right _ _
  rcases hl with hl | ⟨host, hl⟩
  · exact W.putK F.1 F.2.1 (f := f) ⟨F.2.2.2.1, hts _ hl, ⟨_, _, _, hi⟩, hst⟩ (by rw [q2]; exact h6) q1 q3 (by rw [hsl]; exact k2_hasslot (q4 k hkN)) rfl rfl hd fin
  · exact va_WputK F.1 F.2.1 (f := f) F.2.2.2.1 (va_Nw.use rfl (F.2.2.2.2.2.1 _ hl)) hi hst (by rw [q2]; exact h6) q1 q3 (by rw [hsl]; exact k2_hasslot (q4 k hkN)) rfl rfl hd fin
end RC
end
section
theorem ent_I {E : vE} {k n : Nat} {refs : List Nat} {M : vM} : ent E k (100, n, refs) M = .inl (eI E, n, .inl (M k)) := by
  unfold ent
  rw [if_pos rfl]
theorem ent_Z {E : vE} {k n : Nat} {refs : List Nat} {M : vM} : ent E k (101, n, refs) M = .inl (eZ E, n, .inl (M k)) := by
  unfold ent
  rw [if_neg (by show ¬ (101 : Nat) = 100; decide), if_pos rfl]
section RD
variable {E : vE} {l : Launch} {mi : vMI} {pc : Nat} {lv st : List Value} {S : vS} {M : vM} {kc ks : Nat} {Q : Option Value → vS → vM → Prop}
theorem x_iald {q n : Nat} {refs : List Nat} {i : Int32} (hs : S[q]? = some (100, n, refs)) (hin : vp_in i n) (hd : decode (ib mi) pc = .ok (.iaload, 1)) (kk : PM E l mi (pc + 1) lv (.int (M q i.toNatClampNeg) :: st) S M kc ks Q) : PM E l mi pc lv (.int i :: .ref q :: st) S M kc ks Q := by
  intro p e s m args below meth c H locs ls Z F O hlo hL h1 h2 hR
  have hlt : i.toNatClampNeg < n := Nat.not_le.mp fun z => hin (Or.inr z)
  have old : ∀ (b : Nat) (f : Nat → Int32), va_X b n f s H → W p l e (iR mi) s m args below meth c H locs kc ks Z (F0 m (pc + 1) ls (.int (f i.toNatClampNeg) :: st.map (cv E))) → W p l e (iR mi) s m args below meth c H locs kc ks Z (F0 m pc ls (.int i :: .ref b :: st.map (cv E))) := by
    intro b f hX kw
    obtain ⟨scr, g1, g2, g3, g4, g5⟩ := hX
    exact W.iald (v := .int (f i.toNatClampNeg)) F.1 F.2.1 g1 g2 g3 (by rw [g4]; exact hin) (g5 _ hlt) rfl rfl hd kw
  have kw := kk p e s m args below meth c H locs ls Z F O hlo hL h1 h2 hR
  obtain ⟨hP, hsz, h3, h4, ⟨L, h5, h6⟩, h7, h8, h9, h10, h11⟩ := O
  match q, hs with
  | 0, hs => rw [h3] at hs; cases hs; exact old _ _ h7 kw
  | 1, hs => rw [h4] at hs; cases hs; exact old _ _ h8 kw
  | 2, hs => rw [h5] at hs; cases hs; exact old _ _ h6 kw
  | q + 3, hs =>
    have he := wd_at (E := E) (M := M) hs
    rw [ent_I] at he
    exact va_iald F.1 F.2.1 F.2.2.2.2.2.2.1 hP q 0 he rfl hin hd kw
theorem x_bald {q n : Nat} {refs : List Nat} {i : Int32} (hs : S[q]? = some (101, n, refs)) (hin : vp_in i n) (hd : decode (ib mi) pc = .ok (.baload, 1)) (kk : PM E l mi (pc + 1) lv (.int (M q i.toNatClampNeg) :: st) S M kc ks Q) : PM E l mi pc lv (.int i :: .ref q :: st) S M kc ks Q := by
  intro p e s m args below meth c H locs ls Z F O hlo hL h1 h2 hR
  obtain ⟨q, rfl⟩ := O.obj hs (by decide)
  have he := wd_at (E := E) (M := M) hs
  rw [ent_Z] at he
  exact va_zald F.1 F.2.1 F.2.2.2.2.2.2.1 O.1 q 1 he rfl hin hd (kk p e s m args below meth c H locs ls Z F O hlo hL h1 h2 hR)
theorem x_alen {q n : Nat} {refs : List Nat} (hs : S[q]? = some (100, n, refs)) (hd : decode (ib mi) pc = .ok (.arraylength, 1)) (kk : PM E l mi (pc + 1) lv (.int (Int32.ofNat n) :: st) S M kc ks Q) : PM E l mi pc lv (.ref q :: st) S M kc ks Q := by
  intro p e s m args below meth c H locs ls Z F O hlo hL h1 h2 hR
  have old : ∀ (b : Nat) (f : Nat → Int32), va_X b n f s H → W p l e (iR mi) s m args below meth c H locs kc ks Z (F0 m (pc + 1) ls (.int (Int32.ofNat n) :: st.map (cv E))) → W p l e (iR mi) s m args below meth c H locs kc ks Z (F0 m pc ls (.ref b :: st.map (cv E))) := by
    intro b f hX kw
    obtain ⟨scr, g1, g2, g3, g4, g5⟩ := hX
    exact W.alen (n := Int32.ofNat n) F.1 F.2.1 g1 g2 (by rw [g4] <;> rfl) rfl rfl hd kw
  have kw := kk p e s m args below meth c H locs ls Z F O hlo hL h1 h2 hR
  obtain ⟨hP, hsz, h3, h4, ⟨L, h5, h6⟩, h7, h8, h9, h10, h11⟩ := O
  match q, hs with
  | 0, hs => rw [h3] at hs; cases hs; exact old _ _ h7 kw
  | 1, hs => rw [h4] at hs; cases hs; exact old _ _ h8 kw
  | 2, hs => rw [h5] at hs; cases hs; exact old _ _ h6 kw
  | q + 3, hs =>
    have he := wd_at (E := E) (M := M) hs
    rw [ent_I] at he
    exact va_alen F.1 F.2.1 F.2.2.2.2.2.2.1 hP q 0 he rfl rfl hd kw
theorem x_iast {q n : Nat} {refs : List Nat} {i x : Int32} (hq : 3 ≤ q) (hs : S[q]? = some (100, n, refs)) (hin : vp_in i n) (hd : decode (ib mi) pc = .ok (.iastore, 1)) (kk : PM E l mi (pc + 1) lv st S (sM M q (upd (M q) i.toNatClampNeg (x))) kc ks Q) : PM E l mi pc lv (.int x :: .int i :: .ref q :: st) S M kc ks Q := by
  intro p e s m args below meth c H locs ls Z F O hlo hL h1 h2 hR
  obtain ⟨q, rfl⟩ : ∃ q', q = q' + 3 := ⟨q - 3, by omega⟩
  have he := wd_at (E := E) (M := M) hs
  rw [ent_I] at he
  refine W.iast F.1 F.2.1 (O.1 q _ he) ((F.2.2.2.2.2.2.1.2 0 _ rfl).1 n (fun j => .int (M (q + 3) j))) (fun z => by cases z) (by show ¬ (i < 0 ∨ (arrV _ _ _).slots.size ≤ _); rw [arrV_size]; exact hin) rfl rfl hd fun H1 e1 z1 oq => ?_
  refine kk p e s m args below meth c H1 _ ls Z F (O.to ?_ z1 (fun z hz => oq z (by show z ≠ eB E + q; omega)) (sM_ne _ _ _ (by omega)) (sM_ne _ _ _ (by omega)) (sM_ne _ _ _ (by omega))) ?_ hL h1 h2 hR
  · rw [← wd_set _ hs]
    refine O.1.set (wd_D E S M) he ?_ oq
    rw [ent_I, sM_at]
    show H1[eB E + q]? = some (vp_cell _ _)
    rw [e1, vp_cell_i, vp_cell_i, arrV_store]
    congr 2
    funext z
    by_cases hz : z = i.toNatClampNeg
    · subst hz
      simp [updV, upd, narrow]
    · simp [updV, upd, hz]
  · intro z hz
    rcases List.mem_append.mp hz with h | h
    · exact hlo z h
    · rw [List.mem_singleton.mp h]
      exact Nat.le_add_right _ _
theorem x_bast {q n : Nat} {refs : List Nat} {i x : Int32}  (hs : S[q]? = some (101, n, refs)) (hin : vp_in i n) (hd : decode (ib mi) pc = .ok (.bastore, 1)) (kk : PM E l mi (pc + 1) lv st S (sM M q (upd (M q) i.toNatClampNeg (x &&& 1))) kc ks Q) : PM E l mi pc lv (.int x :: .int i :: .ref q :: st) S M kc ks Q := by
  intro p e s m args below meth c H locs ls Z F O hlo hL h1 h2 hR
  obtain ⟨q, rfl⟩ : ∃ q', q = q' + 3 := O.obj hs (by decide)
  have he := wd_at (E := E) (M := M) hs
  rw [ent_Z] at he
  refine W.zast F.1 F.2.1 (O.1 q _ he) ((F.2.2.2.2.2.2.1.2 1 _ rfl).1 n (fun j => .int (M (q + 3) j))) (fun z => by cases z) (by show ¬ (i < 0 ∨ (arrV _ _ _).slots.size ≤ _); rw [arrV_size]; exact hin) rfl rfl hd fun H1 e1 z1 oq => ?_
  refine kk p e s m args below meth c H1 _ ls Z F (O.to ?_ z1 (fun z hz => oq z (by show z ≠ eB E + q; omega)) (sM_ne _ _ _ (by omega)) (sM_ne _ _ _ (by omega)) (sM_ne _ _ _ (by omega))) ?_ hL h1 h2 hR
  · rw [← wd_set _ hs]
    refine O.1.set (wd_D E S M) he ?_ oq
    rw [ent_Z, sM_at]
    show H1[eB E + q]? = some (vp_cell _ _)
    rw [e1, vp_cell_i, vp_cell_i, arrV_store]
    congr 2
    funext z
    by_cases hz : z = i.toNatClampNeg
    · subst hz
      simp [updV, upd, narrow]
    · simp [updV, upd, hz]
  · intro z hz
    rcases List.mem_append.mp hz with h | h
    · exact hlo z h
    · rw [List.mem_singleton.mp h]
      exact Nat.le_add_right _ _
theorem ad_len (E : vE) {S : vS} (h : 3 ≤ S.length) : ad E S.length = eB E + (S.length - 3) := by
  obtain ⟨n, hn⟩ : ∃ n, S.length = n + 3 := ⟨S.length - 3, by omega⟩
  rw [hn]
  rfl
theorem wd_push {E : vE} {S : vS} {M : vM} {sh : Nat × Nat × List Nat} (f : Nat → Int32) (h : 3 ≤ S.length) : wd E (S ++ [sh]) (sM M S.length f) = wd E S M ++ [(eB E + (S.length - 3), ent E S.length sh (sM M S.length f))] := by
  have hl : (wd E S M).length = S.length - 3 := by unfold wd; simp
  apply List.ext_getElem?
  intro i
  by_cases hi : i + 3 < S.length
  · rw [List.getElem?_append_left (by omega)]
    obtain ⟨s2, hs2⟩ : ∃ s2, S[i + 3]? = some s2 := ⟨S[i + 3], by simp [hi]⟩
    have h1 : (S ++ [sh])[i + 3]? = some s2 := by rw [List.getElem?_append_left hi]; exact hs2
    rw [wd_at h1, wd_at hs2, ent_ne (by omega)]
  · by_cases hi2 : i + 3 = S.length
    · have h1 : (S ++ [sh])[i + 3]? = some sh := by rw [List.getElem?_append_right (by omega), hi2]; simp
      rw [wd_at h1, List.getElem?_append_right (by omega), show i - (wd E S M).length = 0 by omega, ← hi2]
      simp
    · have h1 : (wd E (S ++ [sh]) (sM M S.length f)).length ≤ i := by unfold wd; simp; omega
      rw [List.getElem?_eq_none h1, List.getElem?_eq_none (by simp; omega)]
theorem Wo.push {E : vE} {s : State} {H H1 : Heap} {S : vS} {M : vM} {sh : Nat × Nat × List Nat} {f : Nat → Int32} (O : Wo E s H S M) (hlt : S.length < 67) (hz : H1.size = H.size + 1) (hq : ∀ q, q < H.size → H1[q]? = H[q]?) (hn : va_at (eG E) vcl (H.size, ent E S.length sh (sM M S.length f)) H1) : Wo E s H1 (S ++ [sh]) (sM M S.length f) := by
  have hl := O.len
  obtain ⟨hP, hsz0, h3, h4, ⟨L, h5, h6⟩, h7, h8, ⟨b1, b2, b3⟩, h10, h11⟩ := O
  have hsz := hsz0 hlt
  have old : ∀ {k : Nat} {x : Nat × Nat × List Nat}, S[k]? = some x → (S ++ [sh])[k]? = some x := fun {k x} h => by
    rw [List.getElem?_append_left (List.getElem?_eq_some_iff.mp h).1]; exact h
  refine ⟨?_, fun _ => by rw [hz, hsz]; simp; omega, old h3, old h4, ⟨L, old h5, ?_⟩, ?_, ?_, ⟨b1, b2, b3⟩, h10.kept (fun a h _ => hq a h), h11.kept (fun a h _ => hq a h)⟩
  · rw [wd_push f hl]
    refine va_P.app (hP.kept (fun k q hk => hq _ (hP k q hk).lt)) (fun k q hk => ?_)
    have hk0 : k < 1 := (List.getElem?_eq_some_iff.mp hk).1
    rw [show k = 0 by omega] at hk
    cases hk
    rw [← hsz]
    exact hn
  · rw [sM_ne _ _ _ (by omega)]; exact h6.kept (hq _ (by omega))
  · rw [sM_ne _ _ _ (by omega)]; exact h7.kept (hq _ (by omega))
  · rw [sM_ne _ _ _ (by omega)]; exact h8.kept (hq _ (by omega))
theorem x_newI {n : Int32} {N : Nat} (ha : Cond.arrayClass .int ∈ gTbl) (hn : ¬ n < 0) (hN : n.toNatClampNeg = N) (hb : N * componentBytes .int ≤ 536870912) (hlt : S.length < 67) (g1 : kc + 1 ≤ (iR mi).cells) (g2 : ks + N ≤ (iR mi).slots) (hd : decode (ib mi) pc = .ok (.newarray .int, 2)) (kk : PM E l mi (pc + 2) lv (.ref S.length :: st) (S ++ [(100, N, [])]) (sM M S.length (fun _ => 0)) (kc + 1) (ks + N) Q) : PM E l mi pc lv (.int n :: st) S M kc ks Q := by
  intro p e s m args below meth c H locs ls Z F O hlo hL h1 h2 hR
  have hl := O.len
  refine va_newaK F.1 F.2.1 (atype := .int) (F.2.2.2.2.1 _ ha) rfl hd rfl hn hN hb g1 g2 rfl fun H1 cA e1 z1 o1 hAr hNm => ?_
  have hcA : cA = eI E := Option.some.inj (hNm.symm.trans ((F.2.2.2.2.2.2.1.2 0 _ rfl).2))
  subst hcA
  have O1 : Wo E s H1 (S ++ [(100, N, [])]) (sM M S.length (fun _ => 0)) := by
    refine O.push hlt z1 o1 ?_
    rw [ent_I, sM_at]
    exact e1
  have e2 : H.size = ad E S.length := by rw [ad_len E hl]; exact O.2.1 hlt
  rw [e2]
  exact kk p e s m args below meth c H1 locs ls Z F O1 hlo hL g1 g2 hR
theorem x_newZ {n : Int32} {N : Nat} (ha : Cond.arrayClass .boolean ∈ gTbl) (hn : ¬ n < 0) (hN : n.toNatClampNeg = N) (hb : N * componentBytes .boolean ≤ 536870912) (hlt : S.length < 67) (g1 : kc + 1 ≤ (iR mi).cells) (g2 : ks + N ≤ (iR mi).slots) (hd : decode (ib mi) pc = .ok (.newarray .boolean, 2)) (kk : PM E l mi (pc + 2) lv (.ref S.length :: st) (S ++ [(101, N, [])]) (sM M S.length (fun _ => 0)) (kc + 1) (ks + N) Q) : PM E l mi pc lv (.int n :: st) S M kc ks Q := by
  intro p e s m args below meth c H locs ls Z F O hlo hL h1 h2 hR
  have hl := O.len
  refine va_newaK F.1 F.2.1 (atype := .boolean) (F.2.2.2.2.1 _ ha) rfl hd rfl hn hN hb g1 g2 rfl fun H1 cA e1 z1 o1 hAr hNm => ?_
  have hcA : cA = eZ E := Option.some.inj (hNm.symm.trans ((F.2.2.2.2.2.2.1.2 1 _ rfl).2))
  subst hcA
  have O1 : Wo E s H1 (S ++ [(101, N, [])]) (sM M S.length (fun _ => 0)) := by
    refine O.push hlt z1 o1 ?_
    rw [ent_Z, sM_at]
    exact e1
  have e2 : H.size = ad E S.length := by rw [ad_len E hl]; exact O.2.1 hlt
  rw [e2]
  exact kk p e s m args below meth c H1 locs ls Z F O1 hlo hL g1 g2 hR
/-- a class's link, for new -/
def LkN (own : String) (i ci N : Nat) : Prop := ∃ (C : String) (T : u_T), vcl[ci]? = some (C, T, N) ∧ Cond.classLink own i C ∈ gTbl ∧ Cond.instantiable C N ∈ gTbl ∧ Cond.initialized C ∈ gTbl
theorem x_new {i ci N : Nat} (hk : LkN (iy mi).cls i ci N) (hdef : ∀ j, j < N → defaultValue (vty ci j) = if isRf ci j then Value.null else .int 0) (hlt : S.length < 67) (g1 : kc + 1 ≤ (iR mi).cells) (g2 : ks + N ≤ (iR mi).slots) (hd : decode (ib mi) pc = .ok (.new i, 3)) (kk : PM E l mi (pc + 3) lv (.ref S.length :: st) (S ++ [(ci, N, [])]) (sM M S.length (fun _ => 0)) (kc + 1) (ks + N) Q) : PM E l mi pc lv st S M kc ks Q := by
  intro p e s m args below meth c H locs ls Z F O hlo hL h1 h2 hR
  have hl := O.len
  obtain ⟨C, T, hc, w1, w2, w3⟩ := hk
  obtain ⟨hci, hin, hty, hnm⟩ := cls_ok hc
  have hts := F.2.2.2.2.1
  have hKn := F.2.2.2.2.2.2.1.1 ci _ hc
  refine W.newcK F.1 F.2.1 F.2.2.2.1 (hts _ w1) (hts _ w2) (hts _ w3) rfl hd g1 g2 hKn.2.1 rfl fun H1 kC hkC e1 z1 o1 => ?_
  have O1 : Wo E s H1 (S ++ [(ci, N, [])]) (sM M S.length (fun _ => 0)) := by
    refine O.push hlt z1 o1 ?_
    rw [ent_obj hci]
    refine ⟨_, hc, (u_born (vty ci) hts hin hKn hkC e1 hty).to (fun j hj => ?_)⟩
    rw [fld_V hj, hdef j hj]
    unfold fld
    rw [sM_at]
    rfl
  have e2 : H.size = ad E S.length := by rw [ad_len E hl]; exact O.2.1 hlt
  rw [e2]
  exact kk p e s m args below meth c H1 locs ls Z F O1 hlo hL g1 g2 hR
theorem x_getsX {i : Nat} {host : String} (hw : Cond.fieldLinkNest (iy mi).cls i "BoulderLand" "X_STEP" "[I" host ∈ nTbl) (hd : decode (ib mi) pc = .ok (.getstatic i, 3)) (kk : PM E l mi (pc + 3) lv (.ref 0 :: st) S M kc ks Q) : PM E l mi pc lv st S M kc ks Q := by
  intro p e s m args below meth c H locs ls Z F O hlo hL h1 h2 hR
  have hZ := O.2.2.2.2.2.2.2.2.1
  obtain ⟨cf, kf, fi, f, a, cell, g1, g2, g3, g4, g5, g6, g7, g8⟩ := hZ
  exact va_WgetsN F.1 F.2.1 F.2.2.2.1 (va_Nw.use rfl (F.2.2.2.2.2.1 _ hw)) g1 g2 g3 g4 g5 (fun e => by rw [e] at g6; cases g6) g7 rfl hd (kk p e s m args below meth c H locs ls Z F O hlo hL h1 h2 hR)
theorem x_getsY {i : Nat} {host : String} (hw : Cond.fieldLinkNest (iy mi).cls i "BoulderLand" "Y_STEP" "[I" host ∈ nTbl) (hd : decode (ib mi) pc = .ok (.getstatic i, 3)) (kk : PM E l mi (pc + 3) lv (.ref 1 :: st) S M kc ks Q) : PM E l mi pc lv st S M kc ks Q := by
  intro p e s m args below meth c H locs ls Z F O hlo hL h1 h2 hR
  have hZ := O.2.2.2.2.2.2.2.2.2
  obtain ⟨cf, kf, fi, f, a, cell, g1, g2, g3, g4, g5, g6, g7, g8⟩ := hZ
  exact va_WgetsN F.1 F.2.1 F.2.2.2.1 (va_Nw.use rfl (F.2.2.2.2.2.1 _ hw)) g1 g2 g3 g4 g5 (fun e => by rw [e] at g6; cases g6) g7 rfl hd (kk p e s m args below meth c H locs ls Z F O hlo hL h1 h2 hR)
theorem x_objInit {i : Nat} {q : Nat} (w1 : Cond.methodLink (iy mi).cls i Lib.objectInit ∈ gTbl) (w2 : Cond.instanceMethod Lib.objectInit ∈ gTbl) (w3 : Cond.code Lib.objectInit ⟨#[0xb1]⟩ 1 none ∈ gTbl) (g1 : 1 ≤ (iR mi).frames) (g2 : (st.map fun v => v.category).sum + 12 ≤ (iR mi).locals) (hd : decode (ib mi) pc = .ok (.invokespecial i, 3)) (kk : PM E l mi (pc + 3) lv st S M kc ks Q) : PM E l mi pc lv (.ref q :: st) S M kc ks Q := by
  intro p e s m args below meth c H locs ls Z F O hlo hL h1 h2 hR
  have hts := F.2.2.2.2.1
  exact W.objInit F.1 F.2.1 F.2.2.2.1 (hts _ w1) (hts _ w2) (hts _ w3) rfl (hL.1.trans F.2.2.1.symm) rfl hd g1 (by rw [cv_cats]; exact (by show 2 * 0 + _ + 12 ≤ _; omega)) (kk p e s m args below meth c H locs ls Z F O hlo hL h1 h2 hR)
def rset (refs : List Nat) (k v : Nat) : List Nat := (refs ++ List.replicate (k + 1 - refs.length) 0).set k v
theorem rset_at (refs : List Nat) (k v : Nat) : (rset refs k v).getD k 0 = v := by
  unfold rset
  rw [List.getD_eq_getElem?_getD, List.getElem?_set_self (by simp; omega)]
  rfl
theorem rset_ne (refs : List Nat) {k j : Nat} (v : Nat) (h : j ≠ k) : (rset refs k v).getD j 0 = refs.getD j 0 := by
  unfold rset
  rw [List.getD_eq_getElem?_getD, List.getElem?_set_ne (Ne.symm h), List.getD_eq_getElem?_getD]
  by_cases hj : j < refs.length
  · rw [List.getElem?_append_left hj]
  · rw [List.getElem?_append_right (by omega), List.getElem?_eq_none (l := refs) (by omega)]
    cases hx : (List.replicate (k + 1 - refs.length) 0)[j - refs.length]? with
    | none => rfl
    | some z =>
      have := List.mem_of_getElem? hx
      simp at this
      rw [this.2]
      rfl
theorem wd_setS {E : vE} {S : vS} {M : vM} {k : Nat} {sh sh2 : Nat × Nat × List Nat} (h : S[k + 3]? = some sh) : (wd E S M).set k (eB E + k, ent E (k + 3) sh2 M) = wd E (S.set (k + 3) sh2) M := by
  apply List.ext_getElem?
  intro i
  have hlS : k + 3 < S.length := (List.getElem?_eq_some_iff.mp h).1
  by_cases hi : i = k
  · subst hi
    have hl : i < (wd E S M).length := (List.getElem?_eq_some_iff.mp (wd_at (E := E) (M := M) h)).1
    rw [List.getElem?_set_self hl, wd_at (List.getElem?_set_self hlS)]
  · rw [List.getElem?_set_ne (Ne.symm hi)]
    have e3 : (S.set (k + 3) sh2)[i + 3]? = S[i + 3]? := List.getElem?_set_ne (by omega)
    cases hs : S[i + 3]? with
    | none =>
      have e : ∀ S' : vS, S'[i + 3]? = none → (wd E S' M)[i]? = none := by
        intro S' h5
        cases hw : (wd E S' M)[i]? with
        | none => rfl
        | some q => obtain ⟨_, h1, -⟩ := wd_of hw; rw [h5] at h1; cases h1
      rw [e _ hs, e _ (e3.trans hs)]
    | some s2 => rw [wd_at hs, wd_at (e3.trans hs)]
theorem x_putR {q ci len k i t : Nat} {refs : List Nat} {C : String} {T : u_T} {N : Nat} (hc : vcl[ci]? = some (C, T, N)) (hkN : k < N) (hl : Cond.fieldLink (iy mi).cls i (T k).1 (T k).2.1 (T k).2.2.1 ∈ gTbl) (hr : isRf ci k = true) (hfin : (T k).2.2.2 = true) (hin2 : (iy mi).name = "<init>") (hdecl : (T k).1 = (iy mi).cls) (hn : ∀ z : Nat, narrow (vty ci k) (.ref z) = .ref z) (hfit : ∀ z : Nat, fits (vty ci k) (.ref z) = true) (hs : S[q]? = some (ci, len, refs)) (hk : k < len) (hd : decode (ib mi) pc = .ok (.putfield i, 3)) (kk : PM E l mi (pc + 3) lv st (S.set q (ci, len, rset refs k (t + 1))) M kc ks Q) : PM E l mi pc lv (.ref t :: .ref q :: st) S M kc ks Q := by
  intro p e s m args below meth c H locs ls Z F O hlo hL h1 h2 hR
  obtain ⟨hci, hin, hty, hnm⟩ := cls_ok hc
  obtain ⟨q, rfl⟩ := O.obj hs (by omega)
  have he := wd_at (E := E) (M := M) hs
  rw [ent_obj hci] at he
  have hts := F.2.2.2.2.1
  have hK := F.2.2.2.2.2.2.1
  have hap := va_apart (own := (iy mi).cls) hts hin (vty ci) hty hnm hK hc
  obtain ⟨r, g1, cell, q1, q2, q3, q4⟩ := O.1 q _ he
  have hr2 : r = (C, T, N) := Option.some.inj (g1.symm.trans hc)
  subst hr2
  obtain ⟨hS, hfc, kC, hkC, hkind⟩ := hK.1 ci _ hc
  obtain ⟨cf, kf, fi, f, hi, hsl⟩ := hS k hkN
  have hlay := hts _ (hin _ (u_in_lay hkN))
  unfold u_lay at hlay
  rw [if_pos hfin] at hlay
  have hst := (u_facts hfc hkC (u_lays hts hin hkN) hi).1
  have hcf : m.cls = cf := by
    obtain ⟨_, _, c', _, _, _, -, -, hf', -, -, -, hown2, -⟩ := Cond.laysFinal_spec hlay
    have e1 : c' = cf := by have := hi.symm.trans hf'; simp at this; exact this.1.symm
    rw [hdecl] at hown2
    rw [← e1]; exact Option.some.inj (F.2.2.2.1.symm.trans hown2)
  have h6 := u_fits hfc hkC hkind (Or.inr hlay) hi (hty k hkN) (hn (ad E t)) (hfit (ad E t))
  refine W.putFinK F.1 F.2.1 F.2.2.2.1 (hts _ hl) hi hst hcf (F.2.2.2.2.2.2.2.1.trans hin2) (by rw [q2]; exact h6) q1 q3 (by rw [hsl]; exact k2_hasslot (q4 k hkN)) rfl rfl hd fun H' e1 e2 e3 => ?_
  rw [hsl] at e1
  have hlS : q + 3 < S.length := (List.getElem?_eq_some_iff.mp hs).1
  have O1 : Wo E s H' (S.set (q + 3) (ci, len, rset refs k (t + 1))) M := by
    have O0 := O
    obtain ⟨hP, hsz, h3, h4, ⟨L, h5, h6⟩, h7, h8, ⟨b1, b2, b3⟩, h10, h11⟩ := O
    have lo : ∀ z, z < eB E → H'[z]? = H[z]? := fun z hz => e3 z (by show z ≠ eB E + q; omega)
    refine ⟨?_, fun z => ?_, by rw [List.getElem?_set_ne (by omega)]; exact h3, by rw [List.getElem?_set_ne (by omega)]; exact h4, ⟨L, by rw [List.getElem?_set_ne (by omega)]; exact h5, h6.kept (lo _ b3)⟩, h7.kept (lo _ b1), h8.kept (lo _ b2), ⟨b1, b2, b3⟩, h10.kept (fun a _ hb => lo a (by omega)), h11.kept (fun a _ hb => lo a (by omega))⟩
    · rw [← wd_setS hs]
      refine hP.set (wd_D E S M) he ?_ e3
      rw [ent_obj hci]
      refine ⟨_, hc, t_OB.to (V := updV (vp_V ((List.range len).map (fld E (q + 3) ci refs M))) k (.ref (ad E t))) ⟨_, e1, q2, q3, t_set q4 hap hkN (.ref (ad E t))⟩ (fun j hj => ?_)⟩
      by_cases hjk : j = k
      · subst hjk
        rw [fld_V hk]
        simp only [updV, fld, hr, rfd, if_true]
        rw [rset_at]
      · by_cases hjl : j < len
        · rw [fld_V hjl]
          simp only [updV, hjk, if_false]
          rw [fld_V hjl]
          unfold fld rfd
          rw [rset_ne refs (t + 1) hjk]
        · rw [fld_V0 hjl]
          simp only [updV, hjk, if_false]
          rw [fld_V0 hjl]
    · rw [List.length_set] at z ⊢
      rw [e2]; exact hsz z
  refine kk p e s m args below meth c H' _ ls Z F O1 ?_ hL h1 h2 hR
  intro z hz
  rcases List.mem_append.mp hz with h | h
  · exact hlo z h
  · rw [List.mem_singleton.mp h]
    exact Nat.le_add_right _ _
theorem x_copy {i q0 q1 n0 n1 : Nat} {r0 r1 : List Nat} {sp dp n : Int32} (w1 : Cond.methodLink (iy mi).cls i arraycopyName ∈ gTbl) (w2 : Cond.native arraycopyName ∈ gTbl) (w3 : Cond.static arraycopyName ∈ gTbl) (w4 : Cond.initialized "java/lang/System" ∈ gTbl) (hq0 : 3 ≤ q0) (hq1 : 3 ≤ q1) (hz : 67 ≤ S.length) (hs0 : S[q0]? = some (100, n0, r0)) (hs1 : S[q1]? = some (100, n1, r1))
    (g1 : ¬ sp < 0) (g2 : ¬ dp < 0) (g3 : ¬ n < 0) (g4 : sp.toNatClampNeg + n.toNatClampNeg ≤ n0) (g5 : dp.toNatClampNeg + n.toNatClampNeg ≤ n1) (g6 : 1 ≤ (iR mi).frames) (g7 : (st.map fun v => v.category).sum + (nativeFrameWords "java/lang/System" "arraycopy" 5 + 11) ≤ (iR mi).locals) (hd : decode (ib mi) pc = .ok (.invokestatic i, 3))
    (kk : PM E l mi (pc + 3) lv st S (sM M q1 (va_cpy (M q0) (M q1) sp.toNatClampNeg dp.toNatClampNeg n.toNatClampNeg)) kc ks Q) : PM E l mi pc lv (.int n :: .int dp :: .ref q1 :: .int sp :: .ref q0 :: st) S M kc ks Q := by
  intro p e s m args below meth c H locs ls Z F O hlo hL h1 h2 hR
  obtain ⟨q0, rfl⟩ : ∃ q', q0 = q' + 3 := ⟨q0 - 3, by omega⟩
  obtain ⟨q1, rfl⟩ : ∃ q', q1 = q' + 3 := ⟨q1 - 3, by omega⟩
  have he0 := wd_at (E := E) (M := M) hs0
  have he1 := wd_at (E := E) (M := M) hs1
  rw [ent_I] at he0 he1
  have hts := F.2.2.2.2.1
  refine va_copyi (A := fun z => eB E ≤ z) (H0 := H) F.1 F.2.1 (F.2.2.1.trans hL.1.symm) F.2.2.2.1 (hts _ w1) (hts _ w2) (hts _ w3) (hts _ w4) F.2.2.2.2.2.2.1 O.1 (wd_D E S M) ⟨Nat.le_refl _, fun _ _ _ => rfl, hlo⟩ q0 q1 0 0 (ty := .int) he0 he1 rfl rfl rfl g1 g2 g3 g4 g5 (fun z _ => rfl) g6 (by rw [cv_cats]; exact g7) hd ?_
  intro H1 locs1 hP1 hD1 hS1
  refine kk p e s m args below meth c H1 locs1 ls Z F (O.copied ?_ hz (fun z hz => ?_) (sM_ne _ _ _ (by omega)) (sM_ne _ _ _ (by omega)) (sM_ne _ _ _ (by omega))) hS1.2.2 hL h1 h2 hR
  · rw [← wd_set _ hs1, ent_I, sM_at]
    exact hP1
  · exact hS1.2.1 z (by
      have := O.2.2.2.2.2.2.2.2.1
      have h5 := O.1 q0 _ he0
      have := h5.lt
      have h6 : (eB E + q0) < H.size := this
      omega) (by show ¬ eB E ≤ z; omega)
end RD
end
section
/-- a method's entry: its arguments in its locals -/
def lay2 (vs : List Value) : List Value := vs.flatMap fun v => if v.category = 2 then [v, .null] else [v]
def entl (mj : vMI) (vs : List Value) : List Value := lay2 vs ++ List.replicate (im mj - (lay2 vs).length) .null
theorem lay2_sl (E : vE) : ∀ (vs : List Value) (i : Nat) (v : Value) (n1 n2 : Nat), (lay2 vs ++ List.replicate n1 Value.null)[i]? = some v → v ≠ .null → (lg_sl (vs.map (cv E)) ++ List.replicate n2 Slot.unset)[i]? = some (.val (cv E v))
  | [], i, v, n1, n2, h, hv => by
    have h1 := List.mem_of_getElem? h
    simp [lay2] at h1
    exact absurd h1.2 hv
  | w :: vs, i, v, n1, n2, h, hv => by
    by_cases hw : w.category = 2
    · have e1 : lay2 (w :: vs) = w :: Value.null :: lay2 vs := by simp [lay2, hw]
      have e2 : lg_sl ((w :: vs).map (cv E)) = Slot.val (cv E w) :: Slot.second :: lg_sl (vs.map (cv E)) := by simp [lg_sl, cv_cat, hw]
      rw [e1] at h
      rw [e2]
      match i, h with
      | 0, h => simp at h; subst h; simp
      | 1, h => simp at h; exact absurd h.symm hv
      | i + 2, h => simpa using lay2_sl E vs i v n1 n2 (by simpa using h) hv
    · have e1 : lay2 (w :: vs) = w :: lay2 vs := by simp [lay2, hw]
      have e2 : lg_sl ((w :: vs).map (cv E)) = Slot.val (cv E w) :: lg_sl (vs.map (cv E)) := by simp [lg_sl, cv_cat, hw]
      rw [e1] at h
      rw [e2]
      match i, h with
      | 0, h => simp at h; subst h; simp
      | i + 1, h => simpa using lay2_sl E vs i v n1 n2 (by simpa using h) hv
theorem lay2_len (E : vE) (vs : List Value) : (lg_sl (vs.map (cv E))).length = (lay2 vs).length := by
  induction vs with
  | nil => rfl
  | cons w vs ih =>
    by_cases hw : w.category = 2
    · have e1 : lay2 (w :: vs) = w :: Value.null :: lay2 vs := by simp [lay2, hw]
      have e2 : lg_sl ((w :: vs).map (cv E)) = Slot.val (cv E w) :: Slot.second :: lg_sl (vs.map (cv E)) := by simp [lg_sl, cv_cat, hw]
      rw [e1, e2]; simp [ih]
    · have e1 : lay2 (w :: vs) = w :: lay2 vs := by simp [lay2, hw]
      have e2 : lg_sl ((w :: vs).map (cv E)) = Slot.val (cv E w) :: lg_sl (vs.map (cv E)) := by simp [lg_sl, cv_cat, hw]
      rw [e1, e2]; simp [ih]
theorem entry_Lr (E : vE) (mj : vMI) (vs : List Value) (h : (lay2 vs).length ≤ im mj) : Lr E ((lg_sl (vs.map (cv E)) ++ List.replicate (im mj - (lg_sl (vs.map (cv E))).length) Slot.unset).toArray) (entl mj vs) (im mj) := by
  have h1 := lv_entry (vs.map (cv E)) (n := im mj) (by rw [lay2_len]; exact h)
  refine ⟨h1.1, h1.2.1, by unfold entl; simp; omega, fun i v hv hn => ?_⟩
  rw [List.getElem?_toArray]
  exact lay2_sl E vs i v _ _ hv hn
/-- a method that may be called -/
def MOk (mj : vMI) (n : Nat) : Prop := Cond.code (iy mj) (ib mj) (im mj) (ir mj) ∈ gTbl ∧ Cond.initialized (iy mj).cls ∈ gTbl ∧ plainName (iy mj).cls = true ∧ ((iy mj).cls ≠ "java/lang/invoke/MethodHandle" ∧ (iy mj).cls ≠ "java/lang/invoke/VarHandle" ∧ (parseMethodDescriptor (iy mj).desc).map (fun d => d.parameters.length) = some n)
def wsm (mj : vMI) : List Cond := .code (iy mj) (ib mj) (im mj) (ir mj) :: gTbl
def PcE (E : vE) (vs : List Value) (S : vS) (M : vM) : Array Value → State → Prop := fun a U => a = (vs.map (cv E)).toArray ∧ Wo E U U.heap S M ∧ va_K (eG E) vcl [(eI E, .int), (eZ E, .boolean)] U ∧ ∀ w ∈ nTbl, va_Nw w U
def QcE (E : vE) (Q : Option Value → vS → vM → Prop) : Array Value → State → Outcome → State → Prop := fun _ _ o t => ∃ (r : Option Value) (S : vS) (M : vM), o = .returned (r.map (cv E)) ∧ Q r S M ∧ Wo E t t.heap S M
theorem PcE.blind (E : vE) (vs : List Value) (S : vS) (M : vM) : FrameBlind (PcE E vs S M) := by
  intro a U g mk h
  obtain ⟨h1, h2, h3, h4⟩ := h
  exact ⟨h1, Wo.moved (u := U) (U := U.calling g mk a) (Vm.Alike.refl U.vm) h2, va_K.moved (u := U) (U := U.calling g mk a) (Vm.Alike.refl U.vm) h3, fun w hw => nw_same (s := U) (U := U.calling g mk a) hw rfl (h4 w hw)⟩
theorem met_of {E : vE} {l : Launch} {mj : vMI} {n : Nat} (ok : MOk mj n) {vs : List Value} {S : vS} {M : vM} {Q : Option Value → vS → vM → Prop} (hlen : (lay2 vs).length ≤ im mj) (h : PM E l mj 0 (entl mj vs) [] S M 0 0 Q) :
    Met l (iy mj) (wsm mj) (iR mj) (PcE E vs S M) (QcE E Q) (iR mj).cells (iR mj).slots (fun q => eB E ≤ q) := by
  refine Met.ofW (cc := ib mj) (maxL := im mj) (ret := ir mj) ok.2.2.1 rfl ?_
  intro p e s m args below meth c s₁ B hml hv
  obtain ⟨rfl, hW, hK, hN⟩ := hv
  have hts := atoms_spec (ws := wsm mj) B.pre
  have hown := findClass_of_methodNamed B.named
  have F : Fx E mj p s m (vs.map (cv E)).toArray meth c := ⟨B.exec, B.bytes, hml, hown, fun w hw => hts w (List.mem_cons_of_mem _ hw), hN, hK, (name_of_methodNamed B.named B.method).1, B.returns, B.notSynchronized⟩
  rw [lg_entry_eq]
  refine h p e s m _ below meth c s.heap [] _ _ F hW (fun q hq => by cases hq) (entry_Lr E mj vs hlen) (Nat.zero_le _) (Nat.zero_le _) ?_
  intro r S' M' kc ks H locs ls pc hq O hlo g1 g2 hr
  refine W.widen g1 g2 ?_
  have hpost : ∀ t : State, t.heap = H → s.WarmedH t.vm → QcE E Q (vs.map (cv E)).toArray s (.returned (r.map (cv E))) t := fun t ht hw => ⟨r, S', M', rfl, hq, by rw [ht]; exact O.moved hw.alike⟩
  rcases hr with ⟨hd, v, ty, rfl, hrt, hn⟩ | ⟨hd, rfl, hrt⟩ | ⟨hd, k, nm, rfl, hrt⟩
  · exact W.zret B.exec B.bytes (B.returns.trans hrt) hn hpost hlo hd B.notSynchronized
  · exact W.vret B.exec B.bytes (B.returns.trans hrt) hpost hlo hd B.notSynchronized
  · exact W.aret (v := cv E (.ref k)) B.exec B.bytes (B.returns.trans hrt) (Or.inl ⟨_, rfl⟩) (Or.inr ⟨_, rfl⟩) hpost hlo hd B.notSynchronized
/-- a method's link -/
def LkM (own : String) (i : Nat) (y : MethodName) : Prop := Cond.methodLink own i y ∈ gTbl ∨ ∃ host, Cond.methodLinkNest own i y host ∈ nTbl
theorem good_w {w : Cond} (h : w ∈ gTbl) : (w.onTables && w.keeps) = true ∨ ∃ ty, w = .arrayClass ty := good_of_word (List.mem_filter.mp h).2
theorem good_m {mj : vMI} {n : Nat} (ok : MOk mj n) : GoodIn gTbl (wsm mj) := by
  intro w hw
  rcases List.mem_cons.mp hw with h | h
  · rw [h]; exact ⟨ok.1, good_w ok.1⟩
  · exact ⟨h, good_w h⟩
def Fit (mi mj : vMI) (kc ks : Nat) (rest : List Value) (vs : List Value) : Prop := (iR mj).frames + 1 ≤ (iR mi).frames ∧ 8 + (im mj + 11) + (iR mj).locals ≤ (iR mi).locals ∧ kc + (iR mj).cells ≤ (iR mi).cells ∧ ks + (iR mj).slots ≤ (iR mi).slots ∧ (rest.map fun v => v.category).sum ≤ 8 ∧ (lay2 vs).length ≤ im mj
section RE
variable {E : vE} {l : Launch} {mi mj : vMI} {pc : Nat} {lv st rest : List Value} {S : vS} {M : vM} {kc ks : Nat} {Q : Option Value → vS → vM → Prop}
theorem run_go {p : Program} {e : Env} {s : State} {m : MethodId} {args : Array Value} {below : List Frame} {meth : Method} {c : Code} {H : Heap} {locs : List Loc} {R : Room} {Z : State → Prop} {ls : Array Slot} {st0 rest0 : List Value} {mc ms : Nat} {Q' : Option Value → vS → vM → Prop} {ar : Array Value}
    (hr : va_Run p l e R s m args below meth c H locs kc ks mc ms (F0 m pc ls st0) rest0 (QcE E Q' ar) (fun q => eB E ≤ q)) (hlo : ∀ q ∈ locs, eB E ≤ q.base)
    (kk : ∀ (r : Option Value) (S' : vS) (M' : vM) (H1 : Heap) (locs1 : List Loc), Q' r S' M' → Wo E s H1 S' M' → (∀ q ∈ locs1, eB E ≤ q.base) → W p l e R s m args below meth c H1 locs1 (kc + mc) (ks + ms) Z (F0 m (pc + 3) ls ((r.map (cv E)).toList ++ rest0))) :
    W p l e R s m args below meth c H locs kc ks Z (F0 m pc ls st0) := by
  intro T hT X
  obtain ⟨v, st₀, t, T', L, h0, X', hL, e1, e2, ⟨r, S', M', hv, hq, O⟩, st⟩ := hr T hT X
  cases hv
  have O' : Wo E s T'.heap S' M' := by
    rw [e1]
    exact O.moved (by rw [← e2]; exact X'.warmed.alike.symm)
  obtain ⟨t2, a1, b1⟩ := kk r S' M' T'.heap (locs ++ L) hq O' (fun q hq => (List.mem_append.mp hq).elim (hlo q) (hL q)) T' rfl X'
  exact ⟨t2, st t2 a1, b1⟩
theorem x_callV {i n : Nat} {As lv' : List Value} {q ci len : Nat} {refs : List Nat} {T : u_T} {N : Nat} (lk : LkM (iy mi).cls i (iy mj)) (ok : MOk mj n) (w1 : Cond.instanceMethod (iy mj) ∈ gTbl) (w2 : Cond.selects (iy mj).cls (iy mj) (iy mj) ∈ gTbl) (hs : S[q]? = some (ci, len, refs)) (hc : vcl[ci]? = some ((iy mj).cls, T, N)) (hn : As.length = n) (ft : Fit mi mj kc ks rest (.ref q :: As)) (hd : decode (ib mi) pc = .ok (.invokevirtual i, 3)) (he : entl mj (.ref q :: As) = lv')
    (kk : PM E l mj 0 lv' [] S M 0 0 (fun r S' M' => PM E l mi (pc + 3) lv (r.toList ++ rest) S' M' (kc + (iR mj).cells) (ks + (iR mj).slots) Q)) : PM E l mi pc lv (As.reverse ++ .ref q :: rest) S M kc ks Q := by
  intro p e s m args below meth c H locs ls Z F O hlo hL h1 h2 hR
  subst he
  obtain ⟨f1, f2, f3, f4, f5, f6⟩ := ft
  have hM := met_of ok f6 kk
  have hts := F.2.2.2.2.1
  have hK := F.2.2.2.2.2.2.1
  have hpre : ∀ U : State, U.heap = H → s.WarmedH U.vm → PcE E (.ref q :: As) S M (((.ref q :: As).map (cv E)).toArray) U := fun U hU hW => ⟨rfl, by rw [hU]; exact O.moved hW.alike, va_K.moved hW.alike hK, fun w hw => nw_warm hw hW (F.2.2.2.2.2.1 w hw)⟩
  have hgo : ∀ (r : Option Value) (S' : vS) (M' : vM) (H1 : Heap) (locs1 : List Loc), PM E l mi (pc + 3) lv (r.toList ++ rest) S' M' (kc + (iR mj).cells) (ks + (iR mj).slots) Q → Wo E s H1 S' M' → (∀ q ∈ locs1, eB E ≤ q.base) → W p l e (iR mi) s m args below meth c H1 locs1 (kc + (iR mj).cells) (ks + (iR mj).slots) Z (F0 m (pc + 3) ls ((r.map (cv E)).toList ++ rest.map (cv E))) := by
    intro r S' M' H1 locs1 hq O1 hlo1
    have h := hq p e s m args below meth c H1 locs1 ls Z F O1 hlo1 hL f3 f4 hR
    have e1 : (r.toList ++ rest).map (cv E) = (r.map (cv E)).toList ++ rest.map (cv E) := by cases r <;> simp
    rw [e1] at h
    exact h
  have hst : (As.reverse ++ .ref q :: rest).map (cv E) = (As.map (cv E)).reverse ++ .ref (ad E q) :: rest.map (cv E) := by simp [cv]
  rw [hst]
  have hroom : (((rest.map (cv E)).map fun v => v.category)).sum ≤ 8 := by rw [cv_cats]; exact f5
  have hsz : ls.size = im mi := hL.1
  have hcell : ∃ cell : Cell, H[ad E q]? = some cell ∧ cell.vm.isStatics = false ∧ s.vm.findClass (iy mj).cls = some cell.cls := by
    have hci := (cls_ok hc).1
    obtain ⟨q', rfl⟩ := O.obj hs (by omega)
    have he := wd_at (E := E) (M := M) hs
    rw [ent_obj hci] at he
    exact va_recv (q := ((iy mj).cls, T, N)) hK O.1 hc he
  rcases lk with lk | ⟨host, lk⟩
  · exact run_go (va_runV (As := As.map (cv E)) (rest := rest.map (cv E)) ⟨F.1, F.2.1, F.2.2.1, F.2.2.2.1, hts⟩ hM ⟨callB_of n hts (good_m ok) rfl rfl rfl (hts _ ok.2.1) (hts _ lk) ok.2.2.2 ⟨f1, f2⟩, hts _ w1, hts _ w2⟩ ⟨PcE.blind _ _ _ _, hcell, hpre⟩ rfl (by rw [List.length_map]; exact hn) hsz rfl (lv_room hroom) hd ⟨f3, f4⟩) hlo hgo
  · exact run_go (va_runVN (As := As.map (cv E)) (rest := rest.map (cv E)) ⟨F.1, F.2.1, F.2.2.1, F.2.2.2.1, hts⟩ hM ⟨va_cnB n hts (good_m ok) rfl rfl rfl (F.2.2.2.2.2.1 _ lk) (hts _ ok.2.1) ok.2.2.2 ⟨f1, f2⟩, hts _ w1, hts _ w2⟩ ⟨PcE.blind _ _ _ _, hcell, hpre⟩ rfl (by rw [List.length_map]; exact hn) hsz rfl (lv_room hroom) hd ⟨f3, f4⟩) hlo hgo
theorem x_callS {i n : Nat} {As lv' : List Value}  (lk : LkM (iy mi).cls i (iy mj)) (ok : MOk mj n) (w1 : Cond.static (iy mj) ∈ gTbl) (hn : As.length = n) (ft : Fit mi mj kc ks rest As) (hd : decode (ib mi) pc = .ok (.invokestatic i, 3)) (he : entl mj As = lv')
    (kk : PM E l mj 0 lv' [] S M 0 0 (fun r S' M' => PM E l mi (pc + 3) lv (r.toList ++ rest) S' M' (kc + (iR mj).cells) (ks + (iR mj).slots) Q)) : PM E l mi pc lv (As.reverse ++ rest) S M kc ks Q := by
  intro p e s m args below meth c H locs ls Z F O hlo hL h1 h2 hR
  subst he
  obtain ⟨f1, f2, f3, f4, f5, f6⟩ := ft
  have hM := met_of ok f6 kk
  have hts := F.2.2.2.2.1
  have hK := F.2.2.2.2.2.2.1
  have hpre : ∀ U : State, U.heap = H → s.WarmedH U.vm → PcE E As S M ((As.map (cv E)).toArray) U := fun U hU hW => ⟨rfl, by rw [hU]; exact O.moved hW.alike, va_K.moved hW.alike hK, fun w hw => nw_warm hw hW (F.2.2.2.2.2.1 w hw)⟩
  have hgo : ∀ (r : Option Value) (S' : vS) (M' : vM) (H1 : Heap) (locs1 : List Loc), PM E l mi (pc + 3) lv (r.toList ++ rest) S' M' (kc + (iR mj).cells) (ks + (iR mj).slots) Q → Wo E s H1 S' M' → (∀ q ∈ locs1, eB E ≤ q.base) → W p l e (iR mi) s m args below meth c H1 locs1 (kc + (iR mj).cells) (ks + (iR mj).slots) Z (F0 m (pc + 3) ls ((r.map (cv E)).toList ++ rest.map (cv E))) := by
    intro r S' M' H1 locs1 hq O1 hlo1
    have h := hq p e s m args below meth c H1 locs1 ls Z F O1 hlo1 hL f3 f4 hR
    have e1 : (r.toList ++ rest).map (cv E) = (r.map (cv E)).toList ++ rest.map (cv E) := by cases r <;> simp
    rw [e1] at h
    exact h
  have hst : (As.reverse ++ rest).map (cv E) = (As.map (cv E)).reverse ++ rest.map (cv E) := by simp [cv]
  rw [hst]
  have hroom : (((rest.map (cv E)).map fun v => v.category)).sum ≤ 8 := by rw [cv_cats]; exact f5
  have hsz : ls.size = im mi := hL.1
  rcases lk with lk | ⟨host, lk⟩
  · exact run_go (va_runS (As := As.map (cv E)) (rest := rest.map (cv E)) ⟨F.1, F.2.1, F.2.2.1, F.2.2.2.1, hts⟩ hM ⟨callB_of n hts (good_m ok) rfl rfl rfl (hts _ ok.2.1) (hts _ lk) ok.2.2.2 ⟨f1, f2⟩, hts _ w1⟩ ⟨PcE.blind _ _ _ _, hpre⟩ rfl (by rw [List.length_map]; exact hn) hsz rfl (lv_room hroom) hd ⟨f3, f4⟩) hlo hgo
  · exact run_go (va_runSN (As := As.map (cv E)) (rest := rest.map (cv E)) ⟨F.1, F.2.1, F.2.2.1, F.2.2.2.1, hts⟩ hM ⟨va_cnB n hts (good_m ok) rfl rfl rfl (F.2.2.2.2.2.1 _ lk) (hts _ ok.2.1) ok.2.2.2 ⟨f1, f2⟩, hts _ w1, trivial⟩ ⟨PcE.blind _ _ _ _, hpre⟩ rfl (by rw [List.length_map]; exact hn) hsz rfl (lv_room hroom) hd ⟨f3, f4⟩) hlo hgo
theorem x_callI {i n : Nat} {As lv' : List Value} {q : Nat} (lk : LkM (iy mi).cls i (iy mj)) (ok : MOk mj n) (w1 : Cond.instanceMethod (iy mj) ∈ gTbl) (hy1 : (iy mj).name = "<init>") (hr : ir mj = none) (hn : As.length = n) (ft : Fit mi mj kc ks rest (.ref q :: As)) (hd : decode (ib mi) pc = .ok (.invokespecial i, 3)) (he : entl mj (.ref q :: As) = lv')
    (kk : PM E l mj 0 lv' [] S M 0 0 (fun r S' M' => PM E l mi (pc + 3) lv (r.toList ++ rest) S' M' (kc + (iR mj).cells) (ks + (iR mj).slots) Q)) : PM E l mi pc lv (As.reverse ++ .ref q :: rest) S M kc ks Q := by
  intro p e s m args below meth c H locs ls Z F O hlo hL h1 h2 hR
  subst he
  obtain ⟨f1, f2, f3, f4, f5, f6⟩ := ft
  have hM := met_of ok f6 kk
  have hts := F.2.2.2.2.1
  have hK := F.2.2.2.2.2.2.1
  have hpre : ∀ U : State, U.heap = H → s.WarmedH U.vm → PcE E (.ref q :: As) S M (((.ref q :: As).map (cv E)).toArray) U := fun U hU hW => ⟨rfl, by rw [hU]; exact O.moved hW.alike, va_K.moved hW.alike hK, fun w hw => nw_warm hw hW (F.2.2.2.2.2.1 w hw)⟩
  have hgo : ∀ (r : Option Value) (S' : vS) (M' : vM) (H1 : Heap) (locs1 : List Loc), PM E l mi (pc + 3) lv (r.toList ++ rest) S' M' (kc + (iR mj).cells) (ks + (iR mj).slots) Q → Wo E s H1 S' M' → (∀ q ∈ locs1, eB E ≤ q.base) → W p l e (iR mi) s m args below meth c H1 locs1 (kc + (iR mj).cells) (ks + (iR mj).slots) Z (F0 m (pc + 3) ls ((r.map (cv E)).toList ++ rest.map (cv E))) := by
    intro r S' M' H1 locs1 hq O1 hlo1
    have h := hq p e s m args below meth c H1 locs1 ls Z F O1 hlo1 hL f3 f4 hR
    have e1 : (r.toList ++ rest).map (cv E) = (r.map (cv E)).toList ++ rest.map (cv E) := by cases r <;> simp
    rw [e1] at h
    exact h
  have hst : (As.reverse ++ .ref q :: rest).map (cv E) = (As.map (cv E)).reverse ++ .ref (ad E q) :: rest.map (cv E) := by simp [cv]
  rw [hst]
  have hroom : (((rest.map (cv E)).map fun v => v.category)).sum ≤ 8 := by rw [cv_cats]; exact f5
  have hsz : ls.size = im mi := hL.1
  have hG := good_m ok
  unfold wsm at hG hM
  rw [hr] at hG hM
  rcases lk with lk | ⟨host, lk⟩
  · exact run_go (va_runI (b := ad E q) (As := As.map (cv E)) (rest := rest.map (cv E)) ⟨F.1, F.2.1, F.2.2.1, F.2.2.2.1, hts⟩ hM ⟨callB_of n hts hG rfl rfl rfl (hts _ ok.2.1) (hts _ lk) ok.2.2.2 ⟨f1, f2⟩, hy1, hts _ w1⟩ ⟨PcE.blind _ _ _ _, hpre⟩ rfl (by rw [List.length_map]; exact hn) hsz rfl (lv_room hroom) hd ⟨f3, f4⟩) hlo hgo
  · exact run_go (va_runIN (b := ad E q) (As := As.map (cv E)) (rest := rest.map (cv E)) ⟨F.1, F.2.1, F.2.2.1, F.2.2.2.1, hts⟩ hM ⟨va_cnB n hts hG rfl rfl rfl (F.2.2.2.2.2.1 _ lk) (hts _ ok.2.1) ok.2.2.2 ⟨f1, f2⟩, hy1, hts _ w1⟩ ⟨PcE.blind _ _ _ _, hpre⟩ rfl (by rw [List.length_map]; exact hn) hsz rfl (lv_room hroom) hd ⟨f3, f4⟩) hlo hgo
end RE
end
