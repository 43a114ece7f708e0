section
-- ===== PART A: goes FIRST, ahead of the names: the tables' words, and 'selects' of the private methods out of them =====
/-- a private method of a class that the tables say can be made, by its rows of tables_1 -/
def lw_okq (q : MethodName × Nat) : Prop := (q.1.cls ≠ "java/lang/invoke/MethodHandle" ∧ q.1.cls ≠ "java/lang/invoke/VarHandle") ∧ Cond.instantiable q.1.cls q.2 ∈ tables_1 ∧ Cond.privateMethod q.1 ∈ tables_1 ∧ Cond.instanceMethod q.1 ∈ tables_1
theorem lw_p0 : lw_okq (⟨"FrozenImages$Past", "waiting", "()LFrozenImages$State;"⟩, 3) := ⟨⟨by decide +kernel, by decide +kernel⟩, List.mem_of_getElem? (i := 157) (by decide +kernel), List.mem_of_getElem? (i := 226) (by decide +kernel), List.mem_of_getElem? (i := 227) (by decide +kernel)⟩
theorem lw_p1 : lw_okq (⟨"FrozenImages", "settled", "(I)I"⟩, 6) := ⟨⟨by decide +kernel, by decide +kernel⟩, List.mem_of_getElem? (i := 13) (by decide +kernel), List.mem_of_getElem? (i := 263) (by decide +kernel), List.mem_of_getElem? (i := 264) (by decide +kernel)⟩
theorem lw_p2 : lw_okq (⟨"FrozenImages$Operations", "faultAsBegin", "(I)I"⟩, 3) := ⟨⟨by decide +kernel, by decide +kernel⟩, List.mem_of_getElem? (i := 103) (by decide +kernel), List.mem_of_getElem? (i := 283) (by decide +kernel), List.mem_of_getElem? (i := 284) (by decide +kernel)⟩
theorem lw_p3 : lw_okq (⟨"FrozenImages$Operations", "fault", "(I)I"⟩, 3) := ⟨⟨by decide +kernel, by decide +kernel⟩, List.mem_of_getElem? (i := 103) (by decide +kernel), List.mem_of_getElem? (i := 287) (by decide +kernel), List.mem_of_getElem? (i := 288) (by decide +kernel)⟩
theorem lw_p4 : lw_okq (⟨"FrozenImages$Operations", "moveNumber", "(II)I"⟩, 3) := ⟨⟨by decide +kernel, by decide +kernel⟩, List.mem_of_getElem? (i := 103) (by decide +kernel), List.mem_of_getElem? (i := 345) (by decide +kernel), List.mem_of_getElem? (i := 346) (by decide +kernel)⟩
theorem lw_p5 : lw_okq (⟨"FrozenImages$Operations", "movePointer", "(II)I"⟩, 3) := ⟨⟨by decide +kernel, by decide +kernel⟩, List.mem_of_getElem? (i := 103) (by decide +kernel), List.mem_of_getElem? (i := 350) (by decide +kernel), List.mem_of_getElem? (i := 351) (by decide +kernel)⟩
theorem lw_p6 : lw_okq (⟨"FrozenImages$Operations", "faultForWriting", "(II)I"⟩, 3) := ⟨⟨by decide +kernel, by decide +kernel⟩, List.mem_of_getElem? (i := 103) (by decide +kernel), List.mem_of_getElem? (i := 366) (by decide +kernel), List.mem_of_getElem? (i := 367) (by decide +kernel)⟩
theorem lw_p7 : lw_okq (⟨"FrozenImages$Operations", "hasBytes", "(II)Z"⟩, 3) := ⟨⟨by decide +kernel, by decide +kernel⟩, List.mem_of_getElem? (i := 103) (by decide +kernel), List.mem_of_getElem? (i := 370) (by decide +kernel), List.mem_of_getElem? (i := 371) (by decide +kernel)⟩
theorem lw_p8 : lw_okq (⟨"FrozenImages$Operations", "splitPointers", "(III)V"⟩, 3) := ⟨⟨by decide +kernel, by decide +kernel⟩, List.mem_of_getElem? (i := 103) (by decide +kernel), List.mem_of_getElem? (i := 374) (by decide +kernel), List.mem_of_getElem? (i := 375) (by decide +kernel)⟩
theorem lw_p9 : lw_okq (⟨"FrozenImages$Operations", "putValue", "(IIII)V"⟩, 3) := ⟨⟨by decide +kernel, by decide +kernel⟩, List.mem_of_getElem? (i := 103) (by decide +kernel), List.mem_of_getElem? (i := 386) (by decide +kernel), List.mem_of_getElem? (i := 387) (by decide +kernel)⟩
theorem lw_p10 : lw_okq (⟨"FrozenImages$Operations", "faultForReading", "(II)I"⟩, 3) := ⟨⟨by decide +kernel, by decide +kernel⟩, List.mem_of_getElem? (i := 103) (by decide +kernel), List.mem_of_getElem? (i := 401) (by decide +kernel), List.mem_of_getElem? (i := 402) (by decide +kernel)⟩
theorem lw_p11 : lw_okq (⟨"FrozenImages$Operations", "cutsPointer", "(III)Z"⟩, 3) := ⟨⟨by decide +kernel, by decide +kernel⟩, List.mem_of_getElem? (i := 103) (by decide +kernel), List.mem_of_getElem? (i := 430) (by decide +kernel), List.mem_of_getElem? (i := 431) (by decide +kernel)⟩
theorem lw_p12 : lw_okq (⟨"FrozenImages$Operations", "carryBytes", "(III)V"⟩, 3) := ⟨⟨by decide +kernel, by decide +kernel⟩, List.mem_of_getElem? (i := 103) (by decide +kernel), List.mem_of_getElem? (i := 434) (by decide +kernel), List.mem_of_getElem? (i := 435) (by decide +kernel)⟩
theorem lw_p13 : lw_okq (⟨"FrozenImages$Album", "addReached", "(I)V"⟩, 4) := ⟨⟨by decide +kernel, by decide +kernel⟩, List.mem_of_getElem? (i := 66) (by decide +kernel), List.mem_of_getElem? (i := 450) (by decide +kernel), List.mem_of_getElem? (i := 451) (by decide +kernel)⟩
theorem lw_p14 : lw_okq (⟨"FrozenImages$Album", "addTargets", "(LFrozenImages$State;I)V"⟩, 4) := ⟨⟨by decide +kernel, by decide +kernel⟩, List.mem_of_getElem? (i := 66) (by decide +kernel), List.mem_of_getElem? (i := 454) (by decide +kernel), List.mem_of_getElem? (i := 455) (by decide +kernel)⟩
theorem lw_p15 : lw_okq (⟨"FrozenImages$Album", "codeInImage", "(I)I"⟩, 4) := ⟨⟨by decide +kernel, by decide +kernel⟩, List.mem_of_getElem? (i := 66) (by decide +kernel), List.mem_of_getElem? (i := 483) (by decide +kernel), List.mem_of_getElem? (i := 484) (by decide +kernel)⟩
def lw_privs_1 : List (MethodName × Nat) := [(⟨"FrozenImages$Past", "waiting", "()LFrozenImages$State;"⟩, 3), (⟨"FrozenImages", "settled", "(I)I"⟩, 6), (⟨"FrozenImages$Operations", "faultAsBegin", "(I)I"⟩, 3), (⟨"FrozenImages$Operations", "fault", "(I)I"⟩, 3), (⟨"FrozenImages$Operations", "moveNumber", "(II)I"⟩, 3), (⟨"FrozenImages$Operations", "movePointer", "(II)I"⟩, 3), (⟨"FrozenImages$Operations", "faultForWriting", "(II)I"⟩, 3), (⟨"FrozenImages$Operations", "hasBytes", "(II)Z"⟩, 3), (⟨"FrozenImages$Operations", "splitPointers", "(III)V"⟩, 3), (⟨"FrozenImages$Operations", "putValue", "(IIII)V"⟩, 3), (⟨"FrozenImages$Operations", "faultForReading", "(II)I"⟩, 3), (⟨"FrozenImages$Operations", "cutsPointer", "(III)Z"⟩, 3), (⟨"FrozenImages$Operations", "carryBytes", "(III)V"⟩, 3), (⟨"FrozenImages$Album", "addReached", "(I)V"⟩, 4), (⟨"FrozenImages$Album", "addTargets", "(LFrozenImages$State;I)V"⟩, 4), (⟨"FrozenImages$Album", "codeInImage", "(I)I"⟩, 4)]
theorem lw_r1 : ∀ q ∈ lw_privs_1, lw_okq q := List.forall_mem_cons.mpr ⟨lw_p0, List.forall_mem_cons.mpr ⟨lw_p1, List.forall_mem_cons.mpr ⟨lw_p2, List.forall_mem_cons.mpr ⟨lw_p3, List.forall_mem_cons.mpr ⟨lw_p4, List.forall_mem_cons.mpr ⟨lw_p5, List.forall_mem_cons.mpr ⟨lw_p6, List.forall_mem_cons.mpr ⟨lw_p7, List.forall_mem_cons.mpr ⟨lw_p8, List.forall_mem_cons.mpr ⟨lw_p9, List.forall_mem_cons.mpr ⟨lw_p10, List.forall_mem_cons.mpr ⟨lw_p11, List.forall_mem_cons.mpr ⟨lw_p12, List.forall_mem_cons.mpr ⟨lw_p13, List.forall_mem_cons.mpr ⟨lw_p14, List.forall_mem_cons.mpr ⟨lw_p15, fun _ h => absurd h List.not_mem_nil⟩⟩⟩⟩⟩⟩⟩⟩⟩⟩⟩⟩⟩⟩⟩⟩
theorem lw_p16 : lw_okq (⟨"FrozenImages$State", "uninitializedIn", "(I)I"⟩, 10) := ⟨⟨by decide +kernel, by decide +kernel⟩, List.mem_of_getElem? (i := 21) (by decide +kernel), List.mem_of_getElem? (i := 548) (by decide +kernel), List.mem_of_getElem? (i := 549) (by decide +kernel)⟩
theorem lw_p17 : lw_okq (⟨"FrozenImages$State", "pointersIn", "(I)I"⟩, 10) := ⟨⟨by decide +kernel, by decide +kernel⟩, List.mem_of_getElem? (i := 21) (by decide +kernel), List.mem_of_getElem? (i := 554) (by decide +kernel), List.mem_of_getElem? (i := 555) (by decide +kernel)⟩
theorem lw_p18 : lw_okq (⟨"FrozenImages", "counted", "(I)I"⟩, 6) := ⟨⟨by decide +kernel, by decide +kernel⟩, List.mem_of_getElem? (i := 13) (by decide +kernel), List.mem_of_getElem? (i := 608) (by decide +kernel), List.mem_of_getElem? (i := 609) (by decide +kernel)⟩
theorem lw_p19 : lw_okq (⟨"FrozenImages$Program", "accepts", "(I)Z"⟩, 10) := ⟨⟨by decide +kernel, by decide +kernel⟩, List.mem_of_getElem? (i := 119) (by decide +kernel), List.mem_of_getElem? (i := 653) (by decide +kernel), List.mem_of_getElem? (i := 654) (by decide +kernel)⟩
theorem lw_p20 : lw_okq (⟨"FrozenImages$Program", "acceptsLetter", "(I)Z"⟩, 10) := ⟨⟨by decide +kernel, by decide +kernel⟩, List.mem_of_getElem? (i := 119) (by decide +kernel), List.mem_of_getElem? (i := 657) (by decide +kernel), List.mem_of_getElem? (i := 658) (by decide +kernel)⟩
theorem lw_p21 : lw_okq (⟨"FrozenImages$Program", "acceptsDigit", "(I)Z"⟩, 10) := ⟨⟨by decide +kernel, by decide +kernel⟩, List.mem_of_getElem? (i := 119) (by decide +kernel), List.mem_of_getElem? (i := 664) (by decide +kernel), List.mem_of_getElem? (i := 665) (by decide +kernel)⟩
theorem lw_p22 : lw_okq (⟨"FrozenImages$Program", "putOperand", "(I)V"⟩, 10) := ⟨⟨by decide +kernel, by decide +kernel⟩, List.mem_of_getElem? (i := 119) (by decide +kernel), List.mem_of_getElem? (i := 668) (by decide +kernel), List.mem_of_getElem? (i := 669) (by decide +kernel)⟩
theorem lw_p23 : lw_okq (⟨"FrozenImages$Program", "operand", "(II)I"⟩, 10) := ⟨⟨by decide +kernel, by decide +kernel⟩, List.mem_of_getElem? (i := 119) (by decide +kernel), List.mem_of_getElem? (i := 672) (by decide +kernel), List.mem_of_getElem? (i := 673) (by decide +kernel)⟩
theorem lw_p24 : lw_okq (⟨"FrozenImages$Program", "acceptsMinus", "()Z"⟩, 10) := ⟨⟨by decide +kernel, by decide +kernel⟩, List.mem_of_getElem? (i := 119) (by decide +kernel), List.mem_of_getElem? (i := 676) (by decide +kernel), List.mem_of_getElem? (i := 677) (by decide +kernel)⟩
theorem lw_p25 : lw_okq (⟨"FrozenImages$Program", "acceptsSemicolon", "()Z"⟩, 10) := ⟨⟨by decide +kernel, by decide +kernel⟩, List.mem_of_getElem? (i := 119) (by decide +kernel), List.mem_of_getElem? (i := 680) (by decide +kernel), List.mem_of_getElem? (i := 681) (by decide +kernel)⟩
theorem lw_p26 : lw_okq (⟨"FrozenImages$Program", "carryOut", "(LFrozenImages$Operations;I)I"⟩, 10) := ⟨⟨by decide +kernel, by decide +kernel⟩, List.mem_of_getElem? (i := 119) (by decide +kernel), List.mem_of_getElem? (i := 688) (by decide +kernel), List.mem_of_getElem? (i := 689) (by decide +kernel)⟩
theorem lw_p27 : lw_okq (⟨"FrozenImages$Program", "letterOf", "(I)I"⟩, 10) := ⟨⟨by decide +kernel, by decide +kernel⟩, List.mem_of_getElem? (i := 119) (by decide +kernel), List.mem_of_getElem? (i := 692) (by decide +kernel), List.mem_of_getElem? (i := 693) (by decide +kernel)⟩
theorem lw_p28 : lw_okq (⟨"FrozenImages", "digestOfBlock", "(JI)J"⟩, 6) := ⟨⟨by decide +kernel, by decide +kernel⟩, List.mem_of_getElem? (i := 13) (by decide +kernel), List.mem_of_getElem? (i := 738) (by decide +kernel), List.mem_of_getElem? (i := 739) (by decide +kernel)⟩
theorem lw_p29 : lw_okq (⟨"FrozenImages", "digestOfImage", "(JI)J"⟩, 6) := ⟨⟨by decide +kernel, by decide +kernel⟩, List.mem_of_getElem? (i := 13) (by decide +kernel), List.mem_of_getElem? (i := 742) (by decide +kernel), List.mem_of_getElem? (i := 743) (by decide +kernel)⟩
theorem lw_p30 : lw_okq (⟨"FrozenImagesModel", "calls", "(IIII)I"⟩, 19) := ⟨⟨by decide +kernel, by decide +kernel⟩, List.mem_of_getElem? (i := 746) (by decide +kernel), List.mem_of_getElem? (i := 818) (by decide +kernel), List.mem_of_getElem? (i := 819) (by decide +kernel)⟩
theorem lw_p31 : lw_okq (⟨"FrozenImagesModel", "copies", "()V"⟩, 19) := ⟨⟨by decide +kernel, by decide +kernel⟩, List.mem_of_getElem? (i := 746) (by decide +kernel), List.mem_of_getElem? (i := 822) (by decide +kernel), List.mem_of_getElem? (i := 823) (by decide +kernel)⟩
def lw_privs_2 : List (MethodName × Nat) := [(⟨"FrozenImages$State", "uninitializedIn", "(I)I"⟩, 10), (⟨"FrozenImages$State", "pointersIn", "(I)I"⟩, 10), (⟨"FrozenImages", "counted", "(I)I"⟩, 6), (⟨"FrozenImages$Program", "accepts", "(I)Z"⟩, 10), (⟨"FrozenImages$Program", "acceptsLetter", "(I)Z"⟩, 10), (⟨"FrozenImages$Program", "acceptsDigit", "(I)Z"⟩, 10), (⟨"FrozenImages$Program", "putOperand", "(I)V"⟩, 10), (⟨"FrozenImages$Program", "operand", "(II)I"⟩, 10), (⟨"FrozenImages$Program", "acceptsMinus", "()Z"⟩, 10), (⟨"FrozenImages$Program", "acceptsSemicolon", "()Z"⟩, 10), (⟨"FrozenImages$Program", "carryOut", "(LFrozenImages$Operations;I)I"⟩, 10), (⟨"FrozenImages$Program", "letterOf", "(I)I"⟩, 10), (⟨"FrozenImages", "digestOfBlock", "(JI)J"⟩, 6), (⟨"FrozenImages", "digestOfImage", "(JI)J"⟩, 6), (⟨"FrozenImagesModel", "calls", "(IIII)I"⟩, 19), (⟨"FrozenImagesModel", "copies", "()V"⟩, 19)]
theorem lw_r2 : ∀ q ∈ lw_privs_2, lw_okq q := List.forall_mem_cons.mpr ⟨lw_p16, List.forall_mem_cons.mpr ⟨lw_p17, List.forall_mem_cons.mpr ⟨lw_p18, List.forall_mem_cons.mpr ⟨lw_p19, List.forall_mem_cons.mpr ⟨lw_p20, List.forall_mem_cons.mpr ⟨lw_p21, List.forall_mem_cons.mpr ⟨lw_p22, List.forall_mem_cons.mpr ⟨lw_p23, List.forall_mem_cons.mpr ⟨lw_p24, List.forall_mem_cons.mpr ⟨lw_p25, List.forall_mem_cons.mpr ⟨lw_p26, List.forall_mem_cons.mpr ⟨lw_p27, List.forall_mem_cons.mpr ⟨lw_p28, List.forall_mem_cons.mpr ⟨lw_p29, List.forall_mem_cons.mpr ⟨lw_p30, List.forall_mem_cons.mpr ⟨lw_p31, fun _ h => absurd h List.not_mem_nil⟩⟩⟩⟩⟩⟩⟩⟩⟩⟩⟩⟩⟩⟩⟩⟩
theorem lw_p32 : lw_okq (⟨"FrozenImagesModel", "acts", "(IIII)I"⟩, 19) := ⟨⟨by decide +kernel, by decide +kernel⟩, List.mem_of_getElem? (i := 746) (by decide +kernel), List.mem_of_getElem? (i := 826) (by decide +kernel), List.mem_of_getElem? (i := 827) (by decide +kernel)⟩
theorem lw_p33 : lw_okq (⟨"FrozenImagesModel", "makes", "(II)I"⟩, 19) := ⟨⟨by decide +kernel, by decide +kernel⟩, List.mem_of_getElem? (i := 746) (by decide +kernel), List.mem_of_getElem? (i := 830) (by decide +kernel), List.mem_of_getElem? (i := 831) (by decide +kernel)⟩
theorem lw_p34 : lw_okq (⟨"FrozenImagesModel", "tells", "(IIII)I"⟩, 19) := ⟨⟨by decide +kernel, by decide +kernel⟩, List.mem_of_getElem? (i := 746) (by decide +kernel), List.mem_of_getElem? (i := 843) (by decide +kernel), List.mem_of_getElem? (i := 844) (by decide +kernel)⟩
theorem lw_p35 : lw_okq (⟨"FrozenImagesModel", "ends", "(I)I"⟩, 19) := ⟨⟨by decide +kernel, by decide +kernel⟩, List.mem_of_getElem? (i := 746) (by decide +kernel), List.mem_of_getElem? (i := 847) (by decide +kernel), List.mem_of_getElem? (i := 848) (by decide +kernel)⟩
theorem lw_p36 : lw_okq (⟨"FrozenImagesModel", "notGood", "(I)I"⟩, 19) := ⟨⟨by decide +kernel, by decide +kernel⟩, List.mem_of_getElem? (i := 746) (by decide +kernel), List.mem_of_getElem? (i := 851) (by decide +kernel), List.mem_of_getElem? (i := 852) (by decide +kernel)⟩
theorem lw_p37 : lw_okq (⟨"FrozenImagesModel", "kindOf", "(I)I"⟩, 19) := ⟨⟨by decide +kernel, by decide +kernel⟩, List.mem_of_getElem? (i := 746) (by decide +kernel), List.mem_of_getElem? (i := 855) (by decide +kernel), List.mem_of_getElem? (i := 856) (by decide +kernel)⟩
theorem lw_p38 : lw_okq (⟨"FrozenImagesModel", "valueOf", "(I)I"⟩, 19) := ⟨⟨by decide +kernel, by decide +kernel⟩, List.mem_of_getElem? (i := 746) (by decide +kernel), List.mem_of_getElem? (i := 859) (by decide +kernel), List.mem_of_getElem? (i := 860) (by decide +kernel)⟩
theorem lw_p39 : lw_okq (⟨"FrozenImagesModel", "isLive", "(I)Z"⟩, 19) := ⟨⟨by decide +kernel, by decide +kernel⟩, List.mem_of_getElem? (i := 746) (by decide +kernel), List.mem_of_getElem? (i := 863) (by decide +kernel), List.mem_of_getElem? (i := 864) (by decide +kernel)⟩
theorem lw_p40 : lw_okq (⟨"FrozenImagesModel", "placeOf", "(I)I"⟩, 19) := ⟨⟨by decide +kernel, by decide +kernel⟩, List.mem_of_getElem? (i := 746) (by decide +kernel), List.mem_of_getElem? (i := 867) (by decide +kernel), List.mem_of_getElem? (i := 868) (by decide +kernel)⟩
theorem lw_p41 : lw_okq (⟨"FrozenImagesModel", "isFrozen", "(I)Z"⟩, 19) := ⟨⟨by decide +kernel, by decide +kernel⟩, List.mem_of_getElem? (i := 746) (by decide +kernel), List.mem_of_getElem? (i := 871) (by decide +kernel), List.mem_of_getElem? (i := 872) (by decide +kernel)⟩
theorem lw_p42 : lw_okq (⟨"FrozenImagesModel", "setsTo", "(II)I"⟩, 19) := ⟨⟨by decide +kernel, by decide +kernel⟩, List.mem_of_getElem? (i := 746) (by decide +kernel), List.mem_of_getElem? (i := 878) (by decide +kernel), List.mem_of_getElem? (i := 879) (by decide +kernel)⟩
theorem lw_p43 : lw_okq (⟨"FrozenImagesModel", "copiesTo", "(II)I"⟩, 19) := ⟨⟨by decide +kernel, by decide +kernel⟩, List.mem_of_getElem? (i := 746) (by decide +kernel), List.mem_of_getElem? (i := 883) (by decide +kernel), List.mem_of_getElem? (i := 884) (by decide +kernel)⟩
theorem lw_p44 : lw_okq (⟨"FrozenImagesModel", "movesBy", "(II)I"⟩, 19) := ⟨⟨by decide +kernel, by decide +kernel⟩, List.mem_of_getElem? (i := 746) (by decide +kernel), List.mem_of_getElem? (i := 887) (by decide +kernel), List.mem_of_getElem? (i := 888) (by decide +kernel)⟩
theorem lw_p45 : lw_okq (⟨"FrozenImagesModel", "sizeOf", "(I)I"⟩, 19) := ⟨⟨by decide +kernel, by decide +kernel⟩, List.mem_of_getElem? (i := 746) (by decide +kernel), List.mem_of_getElem? (i := 892) (by decide +kernel), List.mem_of_getElem? (i := 893) (by decide +kernel)⟩
theorem lw_p46 : lw_okq (⟨"FrozenImagesModel", "storesAt", "(III)I"⟩, 19) := ⟨⟨by decide +kernel, by decide +kernel⟩, List.mem_of_getElem? (i := 746) (by decide +kernel), List.mem_of_getElem? (i := 896) (by decide +kernel), List.mem_of_getElem? (i := 897) (by decide +kernel)⟩
theorem lw_p47 : lw_okq (⟨"FrozenImagesModel", "notToWrite", "(II)I"⟩, 19) := ⟨⟨by decide +kernel, by decide +kernel⟩, List.mem_of_getElem? (i := 746) (by decide +kernel), List.mem_of_getElem? (i := 900) (by decide +kernel), List.mem_of_getElem? (i := 901) (by decide +kernel)⟩
def lw_privs_3 : List (MethodName × Nat) := [(⟨"FrozenImagesModel", "acts", "(IIII)I"⟩, 19), (⟨"FrozenImagesModel", "makes", "(II)I"⟩, 19), (⟨"FrozenImagesModel", "tells", "(IIII)I"⟩, 19), (⟨"FrozenImagesModel", "ends", "(I)I"⟩, 19), (⟨"FrozenImagesModel", "notGood", "(I)I"⟩, 19), (⟨"FrozenImagesModel", "kindOf", "(I)I"⟩, 19), (⟨"FrozenImagesModel", "valueOf", "(I)I"⟩, 19), (⟨"FrozenImagesModel", "isLive", "(I)Z"⟩, 19), (⟨"FrozenImagesModel", "placeOf", "(I)I"⟩, 19), (⟨"FrozenImagesModel", "isFrozen", "(I)Z"⟩, 19), (⟨"FrozenImagesModel", "setsTo", "(II)I"⟩, 19), (⟨"FrozenImagesModel", "copiesTo", "(II)I"⟩, 19), (⟨"FrozenImagesModel", "movesBy", "(II)I"⟩, 19), (⟨"FrozenImagesModel", "sizeOf", "(I)I"⟩, 19), (⟨"FrozenImagesModel", "storesAt", "(III)I"⟩, 19), (⟨"FrozenImagesModel", "notToWrite", "(II)I"⟩, 19)]
theorem lw_r3 : ∀ q ∈ lw_privs_3, lw_okq q := List.forall_mem_cons.mpr ⟨lw_p32, List.forall_mem_cons.mpr ⟨lw_p33, List.forall_mem_cons.mpr ⟨lw_p34, List.forall_mem_cons.mpr ⟨lw_p35, List.forall_mem_cons.mpr ⟨lw_p36, List.forall_mem_cons.mpr ⟨lw_p37, List.forall_mem_cons.mpr ⟨lw_p38, List.forall_mem_cons.mpr ⟨lw_p39, List.forall_mem_cons.mpr ⟨lw_p40, List.forall_mem_cons.mpr ⟨lw_p41, List.forall_mem_cons.mpr ⟨lw_p42, List.forall_mem_cons.mpr ⟨lw_p43, List.forall_mem_cons.mpr ⟨lw_p44, List.forall_mem_cons.mpr ⟨lw_p45, List.forall_mem_cons.mpr ⟨lw_p46, List.forall_mem_cons.mpr ⟨lw_p47, fun _ h => absurd h List.not_mem_nil⟩⟩⟩⟩⟩⟩⟩⟩⟩⟩⟩⟩⟩⟩⟩⟩
theorem lw_p48 : lw_okq (⟨"FrozenImagesModel", "isWithin", "(II)Z"⟩, 19) := ⟨⟨by decide +kernel, by decide +kernel⟩, List.mem_of_getElem? (i := 746) (by decide +kernel), List.mem_of_getElem? (i := 904) (by decide +kernel), List.mem_of_getElem? (i := 905) (by decide +kernel)⟩
theorem lw_p49 : lw_okq (⟨"FrozenImagesModel", "cuts", "(III)V"⟩, 19) := ⟨⟨by decide +kernel, by decide +kernel⟩, List.mem_of_getElem? (i := 746) (by decide +kernel), List.mem_of_getElem? (i := 908) (by decide +kernel), List.mem_of_getElem? (i := 909) (by decide +kernel)⟩
theorem lw_p50 : lw_okq (⟨"FrozenImagesModel", "loadsFrom", "(III)I"⟩, 19) := ⟨⟨by decide +kernel, by decide +kernel⟩, List.mem_of_getElem? (i := 746) (by decide +kernel), List.mem_of_getElem? (i := 915) (by decide +kernel), List.mem_of_getElem? (i := 916) (by decide +kernel)⟩
theorem lw_p51 : lw_okq (⟨"FrozenImagesModel", "notGoodFor", "(II)I"⟩, 19) := ⟨⟨by decide +kernel, by decide +kernel⟩, List.mem_of_getElem? (i := 746) (by decide +kernel), List.mem_of_getElem? (i := 919) (by decide +kernel), List.mem_of_getElem? (i := 920) (by decide +kernel)⟩
theorem lw_p52 : lw_okq (⟨"FrozenImagesModel", "blits", "(III)I"⟩, 19) := ⟨⟨by decide +kernel, by decide +kernel⟩, List.mem_of_getElem? (i := 746) (by decide +kernel), List.mem_of_getElem? (i := 923) (by decide +kernel), List.mem_of_getElem? (i := 924) (by decide +kernel)⟩
theorem lw_p53 : lw_okq (⟨"FrozenImagesModel", "freezes", "(I)I"⟩, 19) := ⟨⟨by decide +kernel, by decide +kernel⟩, List.mem_of_getElem? (i := 746) (by decide +kernel), List.mem_of_getElem? (i := 927) (by decide +kernel), List.mem_of_getElem? (i := 928) (by decide +kernel)⟩
theorem lw_p54 : lw_okq (⟨"FrozenImagesModel", "reaches", "(I)V"⟩, 19) := ⟨⟨by decide +kernel, by decide +kernel⟩, List.mem_of_getElem? (i := 746) (by decide +kernel), List.mem_of_getElem? (i := 931) (by decide +kernel), List.mem_of_getElem? (i := 932) (by decide +kernel)⟩
theorem lw_p55 : lw_okq (⟨"FrozenImagesModel", "nodeOf", "(I)I"⟩, 19) := ⟨⟨by decide +kernel, by decide +kernel⟩, List.mem_of_getElem? (i := 746) (by decide +kernel), List.mem_of_getElem? (i := 935) (by decide +kernel), List.mem_of_getElem? (i := 936) (by decide +kernel)⟩
theorem lw_p56 : lw_okq (⟨"FrozenImagesModel", "allLive", "()Z"⟩, 19) := ⟨⟨by decide +kernel, by decide +kernel⟩, List.mem_of_getElem? (i := 746) (by decide +kernel), List.mem_of_getElem? (i := 939) (by decide +kernel), List.mem_of_getElem? (i := 940) (by decide +kernel)⟩
theorem lw_p57 : lw_okq (⟨"FrozenImagesModel", "laysImage", "()V"⟩, 19) := ⟨⟨by decide +kernel, by decide +kernel⟩, List.mem_of_getElem? (i := 746) (by decide +kernel), List.mem_of_getElem? (i := 943) (by decide +kernel), List.mem_of_getElem? (i := 944) (by decide +kernel)⟩
theorem lw_p58 : lw_okq (⟨"FrozenImagesModel", "imageLaid", "()I"⟩, 19) := ⟨⟨by decide +kernel, by decide +kernel⟩, List.mem_of_getElem? (i := 746) (by decide +kernel), List.mem_of_getElem? (i := 947) (by decide +kernel), List.mem_of_getElem? (i := 948) (by decide +kernel)⟩
theorem lw_p59 : lw_okq (⟨"FrozenImagesModel", "remembers", "()V"⟩, 19) := ⟨⟨by decide +kernel, by decide +kernel⟩, List.mem_of_getElem? (i := 746) (by decide +kernel), List.mem_of_getElem? (i := 951) (by decide +kernel), List.mem_of_getElem? (i := 952) (by decide +kernel)⟩
theorem lw_p60 : lw_okq (⟨"FrozenImagesModel", "counted", "(I)I"⟩, 19) := ⟨⟨by decide +kernel, by decide +kernel⟩, List.mem_of_getElem? (i := 746) (by decide +kernel), List.mem_of_getElem? (i := 955) (by decide +kernel), List.mem_of_getElem? (i := 956) (by decide +kernel)⟩
theorem lw_p61 : lw_okq (⟨"FrozenImagesModel", "comparesTo", "(II)I"⟩, 19) := ⟨⟨by decide +kernel, by decide +kernel⟩, List.mem_of_getElem? (i := 746) (by decide +kernel), List.mem_of_getElem? (i := 987) (by decide +kernel), List.mem_of_getElem? (i := 988) (by decide +kernel)⟩
theorem lw_p62 : lw_okq (⟨"FrozenImagesModel", "bad", "()I"⟩, 19) := ⟨⟨by decide +kernel, by decide +kernel⟩, List.mem_of_getElem? (i := 746) (by decide +kernel), List.mem_of_getElem? (i := 1003) (by decide +kernel), List.mem_of_getElem? (i := 1004) (by decide +kernel)⟩
theorem lw_p63 : lw_okq (⟨"FrozenImagesModel", "ofRegister", "(II)I"⟩, 19) := ⟨⟨by decide +kernel, by decide +kernel⟩, List.mem_of_getElem? (i := 746) (by decide +kernel), List.mem_of_getElem? (i := 1015) (by decide +kernel), List.mem_of_getElem? (i := 1016) (by decide +kernel)⟩
def lw_privs_4 : List (MethodName × Nat) := [(⟨"FrozenImagesModel", "isWithin", "(II)Z"⟩, 19), (⟨"FrozenImagesModel", "cuts", "(III)V"⟩, 19), (⟨"FrozenImagesModel", "loadsFrom", "(III)I"⟩, 19), (⟨"FrozenImagesModel", "notGoodFor", "(II)I"⟩, 19), (⟨"FrozenImagesModel", "blits", "(III)I"⟩, 19), (⟨"FrozenImagesModel", "freezes", "(I)I"⟩, 19), (⟨"FrozenImagesModel", "reaches", "(I)V"⟩, 19), (⟨"FrozenImagesModel", "nodeOf", "(I)I"⟩, 19), (⟨"FrozenImagesModel", "allLive", "()Z"⟩, 19), (⟨"FrozenImagesModel", "laysImage", "()V"⟩, 19), (⟨"FrozenImagesModel", "imageLaid", "()I"⟩, 19), (⟨"FrozenImagesModel", "remembers", "()V"⟩, 19), (⟨"FrozenImagesModel", "counted", "(I)I"⟩, 19), (⟨"FrozenImagesModel", "comparesTo", "(II)I"⟩, 19), (⟨"FrozenImagesModel", "bad", "()I"⟩, 19), (⟨"FrozenImagesModel", "ofRegister", "(II)I"⟩, 19)]
theorem lw_r4 : ∀ q ∈ lw_privs_4, lw_okq q := List.forall_mem_cons.mpr ⟨lw_p48, List.forall_mem_cons.mpr ⟨lw_p49, List.forall_mem_cons.mpr ⟨lw_p50, List.forall_mem_cons.mpr ⟨lw_p51, List.forall_mem_cons.mpr ⟨lw_p52, List.forall_mem_cons.mpr ⟨lw_p53, List.forall_mem_cons.mpr ⟨lw_p54, List.forall_mem_cons.mpr ⟨lw_p55, List.forall_mem_cons.mpr ⟨lw_p56, List.forall_mem_cons.mpr ⟨lw_p57, List.forall_mem_cons.mpr ⟨lw_p58, List.forall_mem_cons.mpr ⟨lw_p59, List.forall_mem_cons.mpr ⟨lw_p60, List.forall_mem_cons.mpr ⟨lw_p61, List.forall_mem_cons.mpr ⟨lw_p62, List.forall_mem_cons.mpr ⟨lw_p63, fun _ h => absurd h List.not_mem_nil⟩⟩⟩⟩⟩⟩⟩⟩⟩⟩⟩⟩⟩⟩⟩⟩
theorem lw_p64 : lw_okq (⟨"FrozenImagesModel", "isPiece", "(I)Z"⟩, 19) := ⟨⟨by decide +kernel, by decide +kernel⟩, List.mem_of_getElem? (i := 746) (by decide +kernel), List.mem_of_getElem? (i := 1023) (by decide +kernel), List.mem_of_getElem? (i := 1024) (by decide +kernel)⟩
theorem lw_p65 : lw_okq (⟨"FrozenImagesModel", "ofPiece", "(II)I"⟩, 19) := ⟨⟨by decide +kernel, by decide +kernel⟩, List.mem_of_getElem? (i := 746) (by decide +kernel), List.mem_of_getElem? (i := 1027) (by decide +kernel), List.mem_of_getElem? (i := 1028) (by decide +kernel)⟩
theorem lw_p66 : lw_okq (⟨"FrozenImagesModel", "bytesOf", "(IZ)I"⟩, 19) := ⟨⟨by decide +kernel, by decide +kernel⟩, List.mem_of_getElem? (i := 746) (by decide +kernel), List.mem_of_getElem? (i := 1031) (by decide +kernel), List.mem_of_getElem? (i := 1032) (by decide +kernel)⟩
theorem lw_p67 : lw_okq (⟨"FrozenImagesModel", "reachedOf", "(I)I"⟩, 19) := ⟨⟨by decide +kernel, by decide +kernel⟩, List.mem_of_getElem? (i := 746) (by decide +kernel), List.mem_of_getElem? (i := 1035) (by decide +kernel), List.mem_of_getElem? (i := 1036) (by decide +kernel)⟩
theorem lw_p68 : lw_okq (⟨"FrozenImagesModel", "isImage", "(I)Z"⟩, 19) := ⟨⟨by decide +kernel, by decide +kernel⟩, List.mem_of_getElem? (i := 746) (by decide +kernel), List.mem_of_getElem? (i := 1047) (by decide +kernel), List.mem_of_getElem? (i := 1048) (by decide +kernel)⟩
theorem lw_p69 : lw_okq (⟨"FrozenImagesModel", "ofImage", "(II)I"⟩, 19) := ⟨⟨by decide +kernel, by decide +kernel⟩, List.mem_of_getElem? (i := 746) (by decide +kernel), List.mem_of_getElem? (i := 1051) (by decide +kernel), List.mem_of_getElem? (i := 1052) (by decide +kernel)⟩
theorem lw_p70 : lw_okq (⟨"FrozenImagesModel", "countOf", "(I)I"⟩, 19) := ⟨⟨by decide +kernel, by decide +kernel⟩, List.mem_of_getElem? (i := 746) (by decide +kernel), List.mem_of_getElem? (i := 1067) (by decide +kernel), List.mem_of_getElem? (i := 1068) (by decide +kernel)⟩
theorem lw_p71 : lw_okq (⟨"FrozenImagesModel", "livePieces", "()I"⟩, 19) := ⟨⟨by decide +kernel, by decide +kernel⟩, List.mem_of_getElem? (i := 746) (by decide +kernel), List.mem_of_getElem? (i := 1071) (by decide +kernel), List.mem_of_getElem? (i := 1072) (by decide +kernel)⟩
theorem lw_p72 : lw_okq (⟨"FrozenImagesModel", "isRead", "()Z"⟩, 19) := ⟨⟨by decide +kernel, by decide +kernel⟩, List.mem_of_getElem? (i := 746) (by decide +kernel), List.mem_of_getElem? (i := 1091) (by decide +kernel), List.mem_of_getElem? (i := 1092) (by decide +kernel)⟩
theorem lw_p73 : lw_okq (⟨"FrozenImagesModel", "blanks", "()V"⟩, 19) := ⟨⟨by decide +kernel, by decide +kernel⟩, List.mem_of_getElem? (i := 746) (by decide +kernel), List.mem_of_getElem? (i := 1095) (by decide +kernel), List.mem_of_getElem? (i := 1096) (by decide +kernel)⟩
theorem lw_p74 : lw_okq (⟨"FrozenImagesModel", "isAt", "(II)Z"⟩, 19) := ⟨⟨by decide +kernel, by decide +kernel⟩, List.mem_of_getElem? (i := 746) (by decide +kernel), List.mem_of_getElem? (i := 1099) (by decide +kernel), List.mem_of_getElem? (i := 1100) (by decide +kernel)⟩
theorem lw_p75 : lw_okq (⟨"FrozenImagesModel", "takesOrder", "()Z"⟩, 19) := ⟨⟨by decide +kernel, by decide +kernel⟩, List.mem_of_getElem? (i := 746) (by decide +kernel), List.mem_of_getElem? (i := 1103) (by decide +kernel), List.mem_of_getElem? (i := 1104) (by decide +kernel)⟩
theorem lw_p76 : lw_okq (⟨"FrozenImagesModel", "fails", "(I)Z"⟩, 19) := ⟨⟨by decide +kernel, by decide +kernel⟩, List.mem_of_getElem? (i := 746) (by decide +kernel), List.mem_of_getElem? (i := 1110) (by decide +kernel), List.mem_of_getElem? (i := 1111) (by decide +kernel)⟩
theorem lw_p77 : lw_okq (⟨"FrozenImagesModel", "takesNumber", "(IZ)Z"⟩, 19) := ⟨⟨by decide +kernel, by decide +kernel⟩, List.mem_of_getElem? (i := 746) (by decide +kernel), List.mem_of_getElem? (i := 1114) (by decide +kernel), List.mem_of_getElem? (i := 1115) (by decide +kernel)⟩
theorem lw_p78 : lw_okq (⟨"FrozenImagesModel", "goes", "()I"⟩, 19) := ⟨⟨by decide +kernel, by decide +kernel⟩, List.mem_of_getElem? (i := 746) (by decide +kernel), List.mem_of_getElem? (i := 1118) (by decide +kernel), List.mem_of_getElem? (i := 1119) (by decide +kernel)⟩
theorem lw_p79 : lw_okq (⟨"FrozenImagesModel", "steps", "(I)I"⟩, 19) := ⟨⟨by decide +kernel, by decide +kernel⟩, List.mem_of_getElem? (i := 746) (by decide +kernel), List.mem_of_getElem? (i := 1122) (by decide +kernel), List.mem_of_getElem? (i := 1123) (by decide +kernel)⟩
def lw_privs_5 : List (MethodName × Nat) := [(⟨"FrozenImagesModel", "isPiece", "(I)Z"⟩, 19), (⟨"FrozenImagesModel", "ofPiece", "(II)I"⟩, 19), (⟨"FrozenImagesModel", "bytesOf", "(IZ)I"⟩, 19), (⟨"FrozenImagesModel", "reachedOf", "(I)I"⟩, 19), (⟨"FrozenImagesModel", "isImage", "(I)Z"⟩, 19), (⟨"FrozenImagesModel", "ofImage", "(II)I"⟩, 19), (⟨"FrozenImagesModel", "countOf", "(I)I"⟩, 19), (⟨"FrozenImagesModel", "livePieces", "()I"⟩, 19), (⟨"FrozenImagesModel", "isRead", "()Z"⟩, 19), (⟨"FrozenImagesModel", "blanks", "()V"⟩, 19), (⟨"FrozenImagesModel", "isAt", "(II)Z"⟩, 19), (⟨"FrozenImagesModel", "takesOrder", "()Z"⟩, 19), (⟨"FrozenImagesModel", "fails", "(I)Z"⟩, 19), (⟨"FrozenImagesModel", "takesNumber", "(IZ)Z"⟩, 19), (⟨"FrozenImagesModel", "goes", "()I"⟩, 19), (⟨"FrozenImagesModel", "steps", "(I)I"⟩, 19)]
theorem lw_r5 : ∀ q ∈ lw_privs_5, lw_okq q := List.forall_mem_cons.mpr ⟨lw_p64, List.forall_mem_cons.mpr ⟨lw_p65, List.forall_mem_cons.mpr ⟨lw_p66, List.forall_mem_cons.mpr ⟨lw_p67, List.forall_mem_cons.mpr ⟨lw_p68, List.forall_mem_cons.mpr ⟨lw_p69, List.forall_mem_cons.mpr ⟨lw_p70, List.forall_mem_cons.mpr ⟨lw_p71, List.forall_mem_cons.mpr ⟨lw_p72, List.forall_mem_cons.mpr ⟨lw_p73, List.forall_mem_cons.mpr ⟨lw_p74, List.forall_mem_cons.mpr ⟨lw_p75, List.forall_mem_cons.mpr ⟨lw_p76, List.forall_mem_cons.mpr ⟨lw_p77, List.forall_mem_cons.mpr ⟨lw_p78, List.forall_mem_cons.mpr ⟨lw_p79, fun _ h => absurd h List.not_mem_nil⟩⟩⟩⟩⟩⟩⟩⟩⟩⟩⟩⟩⟩⟩⟩⟩
theorem lw_p80 : lw_okq (⟨"FrozenImagesModel", "jumps", "(II)I"⟩, 19) := ⟨⟨by decide +kernel, by decide +kernel⟩, List.mem_of_getElem? (i := 746) (by decide +kernel), List.mem_of_getElem? (i := 1126) (by decide +kernel), List.mem_of_getElem? (i := 1127) (by decide +kernel)⟩
theorem lw_p81 : lw_okq (⟨"FrozenImagesModel", "mix", "(J)V"⟩, 19) := ⟨⟨by decide +kernel, by decide +kernel⟩, List.mem_of_getElem? (i := 746) (by decide +kernel), List.mem_of_getElem? (i := 1138) (by decide +kernel), List.mem_of_getElem? (i := 1139) (by decide +kernel)⟩
theorem lw_p82 : lw_okq (⟨"FrozenImagesModel", "mixImage", "(I)V"⟩, 19) := ⟨⟨by decide +kernel, by decide +kernel⟩, List.mem_of_getElem? (i := 746) (by decide +kernel), List.mem_of_getElem? (i := 1143) (by decide +kernel), List.mem_of_getElem? (i := 1144) (by decide +kernel)⟩
def lw_privs_6 : List (MethodName × Nat) := [(⟨"FrozenImagesModel", "jumps", "(II)I"⟩, 19), (⟨"FrozenImagesModel", "mix", "(J)V"⟩, 19), (⟨"FrozenImagesModel", "mixImage", "(I)V"⟩, 19)]
theorem lw_r6 : ∀ q ∈ lw_privs_6, lw_okq q := List.forall_mem_cons.mpr ⟨lw_p80, List.forall_mem_cons.mpr ⟨lw_p81, List.forall_mem_cons.mpr ⟨lw_p82, fun _ h => absurd h List.not_mem_nil⟩⟩⟩
def lw_privs : List (MethodName × Nat) := lw_privs_1 ++ (lw_privs_2 ++ (lw_privs_3 ++ (lw_privs_4 ++ (lw_privs_5 ++ (lw_privs_6)))))
def lw_tbl : List Cond := k2_sels lw_privs ++ tables_1
theorem lw_privs_ok : ∀ q ∈ lw_privs, lw_okq q := by
  show ∀ q ∈ lw_privs_1 ++ (lw_privs_2 ++ (lw_privs_3 ++ (lw_privs_4 ++ (lw_privs_5 ++ (lw_privs_6))))), lw_okq q
  exact List.forall_mem_append.mpr ⟨lw_r1, List.forall_mem_append.mpr ⟨lw_r2, List.forall_mem_append.mpr ⟨lw_r3, List.forall_mem_append.mpr ⟨lw_r4, List.forall_mem_append.mpr ⟨lw_r5, lw_r6⟩⟩⟩⟩⟩
end
section
/-! ===== BEGIN words of one list among another's, by their places ===== -/
theorem goodIn_r {big : List Cond} (ws : List Cond) (ps : List Nat) (hp : ws = ps.filterMap (fun i => big[i]?)) (h : ws.all goodWord = true) : GoodIn big ws := by
  intro w hw
  have h1 := List.all_eq_true.mp h w hw
  rw [hp] at hw
  obtain ⟨i, -, hi⟩ := List.mem_filterMap.mp hw
  have hm : w ∈ big := by first | exact List.mem_of_getElem? hi | exact List.getElem?_mem hi
  exact ⟨hm, good_of_word h1⟩
theorem goodIn_app {big a b : List Cond} (ha : GoodIn big a) (hb : GoodIn big b) : GoodIn big (a ++ b) := fun w h => (List.mem_append.mp h).elim (ha w) (hb w)
theorem goodIn_ca {big a b : List Cond} {c : Cond} (ha : GoodIn big (c :: a)) (hb : GoodIn big b) : GoodIn big (c :: (a ++ b)) := fun w h => (List.mem_cons.mp h).elim (fun e => ha w (List.mem_cons.mpr (Or.inl e))) (fun h => (List.mem_append.mp h).elim (fun h => ha w (List.mem_cons.mpr (Or.inr h))) (hb w))
theorem goodIn_sub {big ws : List Cond} (hm : ∀ w ∈ ws, w ∈ big) (h : ws.all goodWord = true) : GoodIn big ws := fun w hw => ⟨hm w hw, good_of_word (List.all_eq_true.mp h w hw)⟩
/-! ===== END ===== -/

/-! ===== BEGIN printed: names, fields, word lists, decode rows ===== -/
def RX0 : String := "FrozenImages$Album"
def TX0 : u_T := fun k => match k with
  | 0 => ("FrozenImages$Album", "images", "[LFrozenImages$Image;", true)
  | 1 => ("FrozenImages$Album", "blockOfNode", "[I", true)
  | 2 => ("FrozenImages$Album", "nodeOfBlock", "[I", true)
  | _ => ("FrozenImages$Album", "reached", "I", false)
def tyX0 : Nat → FieldType := fun k => match k with
  | 0 => .array (.object "FrozenImages$Image")
  | 1 => .array .int
  | 2 => .array .int
  | _ => .int
abbrev wsX00 : List Cond := u_ws RX0 TX0 4
theorem nmX0 : ∀ a, a < 4 → ∀ b, b < 4 → a ≠ b → (TX0 a).2.1 ≠ (TX0 b).2.1 := by decide +kernel
theorem tyX0_ok : ∀ k, k < 4 → parseFieldDescriptor (TX0 k).2.2.1 = some (tyX0 k) := by decide +kernel
abbrev cX0_init : ByteArray := prog_2_method_1_code
def yX0_init : MethodName := ⟨RX0, "<init>", "()V"⟩
abbrev cX0_imageAt : ByteArray := prog_2_method_2_code
def yX0_imageAt : MethodName := ⟨RX0, "imageAt", "(I)LFrozenImages$Image;"⟩
abbrev cX0_reach : ByteArray := prog_2_method_3_code
def yX0_reach : MethodName := ⟨RX0, "reach", "(LFrozenImages$State;I)I"⟩
abbrev cX0_addTargets : ByteArray := prog_2_method_4_code
def yX0_addTargets : MethodName := ⟨RX0, "addTargets", "(LFrozenImages$State;I)V"⟩
abbrev cX0_addReached : ByteArray := prog_2_method_5_code
def yX0_addReached : MethodName := ⟨RX0, "addReached", "(I)V"⟩
abbrev cX0_allReachedLive : ByteArray := prog_2_method_6_code
def yX0_allReachedLive : MethodName := ⟨RX0, "allReachedLive", "(LFrozenImages$State;)Z"⟩
abbrev cX0_markReachedConstant : ByteArray := prog_2_method_7_code
def yX0_markReachedConstant : MethodName := ⟨RX0, "markReachedConstant", "(LFrozenImages$State;)V"⟩
abbrev cX0_draw : ByteArray := prog_2_method_8_code
def yX0_draw : MethodName := ⟨RX0, "draw", "(LFrozenImages$State;)V"⟩
abbrev cX0_indexOfDrawn : ByteArray := prog_2_method_9_code
def yX0_indexOfDrawn : MethodName := ⟨RX0, "indexOfDrawn", "(LFrozenImages$State;)I"⟩
abbrev cX0_codeInImage : ByteArray := prog_2_method_10_code
def yX0_codeInImage : MethodName := ⟨RX0, "codeInImage", "(I)I"⟩
def RX1 : String := "FrozenImages$Image"
def TX1 : u_T := fun k => match k with
  | 0 => ("FrozenImages$Image", "sizes", "[I", true)
  | 1 => ("FrozenImages$Image", "cells", "[I", true)
  | _ => ("FrozenImages$Image", "nodes", "I", false)
def tyX1 : Nat → FieldType := fun k => match k with
  | 0 => .array .int
  | 1 => .array .int
  | _ => .int
abbrev wsX10 : List Cond := u_ws RX1 TX1 3
theorem nmX1 : ∀ a, a < 3 → ∀ b, b < 3 → a ≠ b → (TX1 a).2.1 ≠ (TX1 b).2.1 := by decide +kernel
theorem tyX1_ok : ∀ k, k < 3 → parseFieldDescriptor (TX1 k).2.2.1 = some (tyX1 k) := by decide +kernel
abbrev cX1_init : ByteArray := prog_3_method_1_code
def yX1_init : MethodName := ⟨RX1, "<init>", "()V"⟩
abbrev cX1_isNode : ByteArray := prog_3_method_2_code
def yX1_isNode : MethodName := ⟨RX1, "isNode", "(I)Z"⟩
abbrev cX1_sizeOf : ByteArray := prog_3_method_3_code
def yX1_sizeOf : MethodName := ⟨RX1, "sizeOf", "(I)I"⟩
abbrev cX1_cellAt : ByteArray := prog_3_method_4_code
def yX1_cellAt : MethodName := ⟨RX1, "cellAt", "(II)I"⟩
abbrev cX1_begin : ByteArray := prog_3_method_5_code
def yX1_begin : MethodName := ⟨RX1, "begin", "()V"⟩
abbrev cX1_addNode : ByteArray := prog_3_method_6_code
def yX1_addNode : MethodName := ⟨RX1, "addNode", "(I)V"⟩
abbrev cX1_putCell : ByteArray := prog_3_method_7_code
def yX1_putCell : MethodName := ⟨RX1, "putCell", "(III)V"⟩
abbrev cX1_property : ByteArray := prog_3_method_8_code
def yX1_property : MethodName := ⟨RX1, "property", "(I)I"⟩
abbrev cX1_isSameAs : ByteArray := prog_3_method_9_code
def yX1_isSameAs : MethodName := ⟨RX1, "isSameAs", "(LFrozenImages$Image;)Z"⟩
def RX2 : String := "FrozenImages$Operations"
def TX2 : u_T := fun k => match k with
  | 0 => ("FrozenImages$Operations", "state", "LFrozenImages$State;", true)
  | 1 => ("FrozenImages$Operations", "album", "LFrozenImages$Album;", true)
  | _ => ("FrozenImages$Operations", "carried", "[I", true)
def tyX2 : Nat → FieldType := fun k => match k with
  | 0 => .object "FrozenImages$State"
  | 1 => .object "FrozenImages$Album"
  | _ => .array .int
abbrev wsX20 : List Cond := u_ws RX2 TX2 3
theorem nmX2 : ∀ a, a < 3 → ∀ b, b < 3 → a ≠ b → (TX2 a).2.1 ≠ (TX2 b).2.1 := by decide +kernel
theorem tyX2_ok : ∀ k, k < 3 → parseFieldDescriptor (TX2 k).2.2.1 = some (tyX2 k) := by decide +kernel
abbrev cX2_init : ByteArray := prog_4_method_1_code
def yX2_init : MethodName := ⟨RX2, "<init>", "(LFrozenImages$State;LFrozenImages$Album;)V"⟩
abbrev cX2_makeBlock : ByteArray := prog_4_method_2_code
def yX2_makeBlock : MethodName := ⟨RX2, "makeBlock", "(II)I"⟩
abbrev cX2_endBlock : ByteArray := prog_4_method_3_code
def yX2_endBlock : MethodName := ⟨RX2, "endBlock", "(I)I"⟩
abbrev cX2_setNumber : ByteArray := prog_4_method_4_code
def yX2_setNumber : MethodName := ⟨RX2, "setNumber", "(II)I"⟩
abbrev cX2_copyRegister : ByteArray := prog_4_method_5_code
def yX2_copyRegister : MethodName := ⟨RX2, "copyRegister", "(II)I"⟩
abbrev cX2_forgetRegister : ByteArray := prog_4_method_6_code
def yX2_forgetRegister : MethodName := ⟨RX2, "forgetRegister", "(I)I"⟩
abbrev cX2_changeBudget : ByteArray := prog_4_method_7_code
def yX2_changeBudget : MethodName := ⟨RX2, "changeBudget", "(I)I"⟩
abbrev cX2_moveRegister : ByteArray := prog_4_method_8_code
def yX2_moveRegister : MethodName := ⟨RX2, "moveRegister", "(II)I"⟩
abbrev cX2_moveNumber : ByteArray := prog_4_method_9_code
def yX2_moveNumber : MethodName := ⟨RX2, "moveNumber", "(II)I"⟩
abbrev cX2_movePointer : ByteArray := prog_4_method_10_code
def yX2_movePointer : MethodName := ⟨RX2, "movePointer", "(II)I"⟩
abbrev cX2_storeBytes : ByteArray := prog_4_method_11_code
def yX2_storeBytes : MethodName := ⟨RX2, "storeBytes", "(III)I"⟩
abbrev cX2_putValue : ByteArray := prog_4_method_12_code
def yX2_putValue : MethodName := ⟨RX2, "putValue", "(IIII)V"⟩
abbrev cX2_loadBytes : ByteArray := prog_4_method_13_code
def yX2_loadBytes : MethodName := ⟨RX2, "loadBytes", "(III)I"⟩
abbrev cX2_compareRegisters : ByteArray := prog_4_method_14_code
def yX2_compareRegisters : MethodName := ⟨RX2, "compareRegisters", "(II)I"⟩
abbrev cX2_order : ByteArray := prog_4_method_15_code
def yX2_order : MethodName := ⟨RX2, "order", "(II)I"⟩
abbrev cX2_compareInto : ByteArray := prog_4_method_16_code
def yX2_compareInto : MethodName := ⟨RX2, "compareInto", "(III)I"⟩
abbrev cX2_jumps : ByteArray := prog_4_method_17_code
def yX2_jumps : MethodName := ⟨RX2, "jumps", "(I)I"⟩
abbrev cX2_blitBytes : ByteArray := prog_4_method_18_code
def yX2_blitBytes : MethodName := ⟨RX2, "blitBytes", "(III)I"⟩
abbrev cX2_carryBytes : ByteArray := prog_4_method_19_code
def yX2_carryBytes : MethodName := ⟨RX2, "carryBytes", "(III)V"⟩
abbrev cX2_freezeBlocks : ByteArray := prog_4_method_20_code
def yX2_freezeBlocks : MethodName := ⟨RX2, "freezeBlocks", "(I)I"⟩
abbrev cX2_fault : ByteArray := prog_4_method_21_code
def yX2_fault : MethodName := ⟨RX2, "fault", "(I)I"⟩
abbrev cX2_faultAsBegin : ByteArray := prog_4_method_22_code
def yX2_faultAsBegin : MethodName := ⟨RX2, "faultAsBegin", "(I)I"⟩
abbrev cX2_faultForReading : ByteArray := prog_4_method_23_code
def yX2_faultForReading : MethodName := ⟨RX2, "faultForReading", "(II)I"⟩
abbrev cX2_faultForWriting : ByteArray := prog_4_method_24_code
def yX2_faultForWriting : MethodName := ⟨RX2, "faultForWriting", "(II)I"⟩
abbrev cX2_hasBytes : ByteArray := prog_4_method_25_code
def yX2_hasBytes : MethodName := ⟨RX2, "hasBytes", "(II)Z"⟩
abbrev cX2_cutsPointer : ByteArray := prog_4_method_26_code
def yX2_cutsPointer : MethodName := ⟨RX2, "cutsPointer", "(III)Z"⟩
abbrev cX2_splitPointers : ByteArray := prog_4_method_27_code
def yX2_splitPointers : MethodName := ⟨RX2, "splitPointers", "(III)V"⟩
def RX3 : String := "FrozenImages$Past"
def TX3 : u_T := fun k => match k with
  | 0 => ("FrozenImages$Past", "states", "[LFrozenImages$State;", true)
  | 1 => ("FrozenImages$Past", "place", "I", false)
  | _ => ("FrozenImages$Past", "saved", "I", false)
def tyX3 : Nat → FieldType := fun k => match k with
  | 0 => .array (.object "FrozenImages$State")
  | 1 => .int
  | _ => .int
abbrev wsX30 : List Cond := u_ws RX3 TX3 3
theorem nmX3 : ∀ a, a < 3 → ∀ b, b < 3 → a ≠ b → (TX3 a).2.1 ≠ (TX3 b).2.1 := by decide +kernel
theorem tyX3_ok : ∀ k, k < 3 → parseFieldDescriptor (TX3 k).2.2.1 = some (tyX3 k) := by decide +kernel
abbrev cX3_init : ByteArray := prog_5_method_1_code
def yX3_init : MethodName := ⟨RX3, "<init>", "()V"⟩
abbrev cX3_waiting : ByteArray := prog_5_method_2_code
def yX3_waiting : MethodName := ⟨RX3, "waiting", "()LFrozenImages$State;"⟩
abbrev cX3_stage : ByteArray := prog_5_method_3_code
def yX3_stage : MethodName := ⟨RX3, "stage", "(LFrozenImages$State;)V"⟩
abbrev cX3_keep : ByteArray := prog_5_method_4_code
def yX3_keep : MethodName := ⟨RX3, "keep", "()V"⟩
abbrev cX3_undo : ByteArray := prog_5_method_5_code
def yX3_undo : MethodName := ⟨RX3, "undo", "(LFrozenImages$State;)V"⟩
abbrev cX3_bringBack : ByteArray := prog_5_method_6_code
def yX3_bringBack : MethodName := ⟨RX3, "bringBack", "(LFrozenImages$State;)I"⟩
def RX4 : String := "FrozenImages$Program"
def TX4 : u_T := fun k => match k with
  | 0 => ("FrozenImages$Program", "text", "[I", true)
  | 1 => ("FrozenImages$Program", "letters", "[I", true)
  | 2 => ("FrozenImages$Program", "operands", "[I", true)
  | 3 => ("FrozenImages$Program", "length", "I", false)
  | 4 => ("FrozenImages$Program", "size", "I", false)
  | 5 => ("FrozenImages$Program", "letter", "I", false)
  | 6 => ("FrozenImages$Program", "given", "I", false)
  | 7 => ("FrozenImages$Program", "digits", "I", false)
  | 8 => ("FrozenImages$Program", "afterMinus", "Z", false)
  | _ => ("FrozenImages$Program", "sign", "I", false)
def tyX4 : Nat → FieldType := fun k => match k with
  | 0 => .array .int
  | 1 => .array .int
  | 2 => .array .int
  | 3 => .int
  | 4 => .int
  | 5 => .int
  | 6 => .int
  | 7 => .int
  | 8 => .boolean
  | _ => .int
abbrev wsX40 : List Cond := u_ws RX4 TX4 10
theorem nmX4 : ∀ a, a < 10 → ∀ b, b < 10 → a ≠ b → (TX4 a).2.1 ≠ (TX4 b).2.1 := by decide +kernel
theorem tyX4_ok : ∀ k, k < 10 → parseFieldDescriptor (TX4 k).2.2.1 = some (tyX4 k) := by decide +kernel
abbrev cX4_init : ByteArray := prog_6_method_1_code
def yX4_init : MethodName := ⟨RX4, "<init>", "()V"⟩
abbrev cX4_append : ByteArray := prog_6_method_2_code
def yX4_append : MethodName := ⟨RX4, "append", "(I)I"⟩
abbrev cX4_empty : ByteArray := prog_6_method_3_code
def yX4_empty : MethodName := ⟨RX4, "empty", "()I"⟩
abbrev cX4_parse : ByteArray := prog_6_method_4_code
def yX4_parse : MethodName := ⟨RX4, "parse", "()I"⟩
abbrev cX4_accepts : ByteArray := prog_6_method_5_code
def yX4_accepts : MethodName := ⟨RX4, "accepts", "(I)Z"⟩
abbrev cX4_acceptsLetter : ByteArray := prog_6_method_6_code
def yX4_acceptsLetter : MethodName := ⟨RX4, "acceptsLetter", "(I)Z"⟩
abbrev cX4_acceptsDigit : ByteArray := prog_6_method_7_code
def yX4_acceptsDigit : MethodName := ⟨RX4, "acceptsDigit", "(I)Z"⟩
abbrev cX4_acceptsMinus : ByteArray := prog_6_method_8_code
def yX4_acceptsMinus : MethodName := ⟨RX4, "acceptsMinus", "()Z"⟩
abbrev cX4_acceptsSemicolon : ByteArray := prog_6_method_9_code
def yX4_acceptsSemicolon : MethodName := ⟨RX4, "acceptsSemicolon", "()Z"⟩
abbrev cX4_putOperand : ByteArray := prog_6_method_10_code
def yX4_putOperand : MethodName := ⟨RX4, "putOperand", "(I)V"⟩
abbrev cX4_operand : ByteArray := prog_6_method_11_code
def yX4_operand : MethodName := ⟨RX4, "operand", "(II)I"⟩
abbrev cX4_letterOf : ByteArray := prog_6_method_12_code
def yX4_letterOf : MethodName := ⟨RX4, "letterOf", "(I)I"⟩
abbrev cX4_operandsOf : ByteArray := prog_6_method_13_code
def yX4_operandsOf : MethodName := ⟨RX4, "operandsOf", "(I)I"⟩
abbrev cX4_run : ByteArray := prog_6_method_14_code
def yX4_run : MethodName := ⟨RX4, "run", "(LFrozenImages$Operations;I)I"⟩
abbrev cX4_carryOut : ByteArray := prog_6_method_15_code
def yX4_carryOut : MethodName := ⟨RX4, "carryOut", "(LFrozenImages$Operations;I)I"⟩
abbrev cX4_failure : ByteArray := prog_6_method_16_code
def yX4_failure : MethodName := ⟨RX4, "failure", "(II)I"⟩
def RX5 : String := "FrozenImages$State"
def TX5 : u_T := fun k => match k with
  | 0 => ("FrozenImages$State", "kinds", "[I", true)
  | 1 => ("FrozenImages$State", "values", "[I", true)
  | 2 => ("FrozenImages$State", "offsets", "[I", true)
  | 3 => ("FrozenImages$State", "sizes", "[I", true)
  | 4 => ("FrozenImages$State", "live", "[I", true)
  | 5 => ("FrozenImages$State", "constant", "[I", true)
  | 6 => ("FrozenImages$State", "cells", "[I", true)
  | 7 => ("FrozenImages$State", "blocks", "I", false)
  | 8 => ("FrozenImages$State", "images", "I", false)
  | _ => ("FrozenImages$State", "budget", "I", false)
def tyX5 : Nat → FieldType := fun k => match k with
  | 0 => .array .int
  | 1 => .array .int
  | 2 => .array .int
  | 3 => .array .int
  | 4 => .array .int
  | 5 => .array .int
  | 6 => .array .int
  | 7 => .int
  | 8 => .int
  | _ => .int
abbrev wsX50 : List Cond := u_ws RX5 TX5 10
theorem nmX5 : ∀ a, a < 10 → ∀ b, b < 10 → a ≠ b → (TX5 a).2.1 ≠ (TX5 b).2.1 := by decide +kernel
theorem tyX5_ok : ∀ k, k < 10 → parseFieldDescriptor (TX5 k).2.2.1 = some (tyX5 k) := by decide +kernel
abbrev cX5_init : ByteArray := prog_7_method_1_code
def yX5_init : MethodName := ⟨RX5, "<init>", "()V"⟩
abbrev cX5_become : ByteArray := prog_7_method_2_code
def yX5_become : MethodName := ⟨RX5, "become", "(LFrozenImages$State;)V"⟩
abbrev cX5_isBlock : ByteArray := prog_7_method_3_code
def yX5_isBlock : MethodName := ⟨RX5, "isBlock", "(I)Z"⟩
abbrev cX5_isImage : ByteArray := prog_7_method_4_code
def yX5_isImage : MethodName := ⟨RX5, "isImage", "(I)Z"⟩
abbrev cX5_kindOf : ByteArray := prog_7_method_5_code
def yX5_kindOf : MethodName := ⟨RX5, "kindOf", "(I)I"⟩
abbrev cX5_valueOf : ByteArray := prog_7_method_6_code
def yX5_valueOf : MethodName := ⟨RX5, "valueOf", "(I)I"⟩
abbrev cX5_offsetOf : ByteArray := prog_7_method_7_code
def yX5_offsetOf : MethodName := ⟨RX5, "offsetOf", "(I)I"⟩
abbrev cX5_fillRegister : ByteArray := prog_7_method_8_code
def yX5_fillRegister : MethodName := ⟨RX5, "fillRegister", "(IIII)V"⟩
abbrev cX5_fillWithNumber : ByteArray := prog_7_method_9_code
def yX5_fillWithNumber : MethodName := ⟨RX5, "fillWithNumber", "(II)V"⟩
abbrev cX5_fillWithPointer : ByteArray := prog_7_method_10_code
def yX5_fillWithPointer : MethodName := ⟨RX5, "fillWithPointer", "(III)V"⟩
abbrev cX5_registerProperty : ByteArray := prog_7_method_11_code
def yX5_registerProperty : MethodName := ⟨RX5, "registerProperty", "(II)I"⟩
abbrev cX5_addBlock : ByteArray := prog_7_method_12_code
def yX5_addBlock : MethodName := ⟨RX5, "addBlock", "(I)V"⟩
abbrev cX5_sizeOf : ByteArray := prog_7_method_13_code
def yX5_sizeOf : MethodName := ⟨RX5, "sizeOf", "(I)I"⟩
abbrev cX5_isLive : ByteArray := prog_7_method_14_code
def yX5_isLive : MethodName := ⟨RX5, "isLive", "(I)Z"⟩
abbrev cX5_isConstant : ByteArray := prog_7_method_15_code
def yX5_isConstant : MethodName := ⟨RX5, "isConstant", "(I)Z"⟩
abbrev cX5_markEnded : ByteArray := prog_7_method_16_code
def yX5_markEnded : MethodName := ⟨RX5, "markEnded", "(I)V"⟩
abbrev cX5_markConstant : ByteArray := prog_7_method_17_code
def yX5_markConstant : MethodName := ⟨RX5, "markConstant", "(I)V"⟩
abbrev cX5_cellAt : ByteArray := prog_7_method_18_code
def yX5_cellAt : MethodName := ⟨RX5, "cellAt", "(II)I"⟩
abbrev cX5_putCell : ByteArray := prog_7_method_19_code
def yX5_putCell : MethodName := ⟨RX5, "putCell", "(III)V"⟩
abbrev cX5_liveBlocks : ByteArray := prog_7_method_20_code
def yX5_liveBlocks : MethodName := ⟨RX5, "liveBlocks", "()I"⟩
abbrev cX5_blockProperty : ByteArray := prog_7_method_21_code
def yX5_blockProperty : MethodName := ⟨RX5, "blockProperty", "(II)I"⟩
abbrev cX5_uninitializedIn : ByteArray := prog_7_method_22_code
def yX5_uninitializedIn : MethodName := ⟨RX5, "uninitializedIn", "(I)I"⟩
abbrev cX5_pointersIn : ByteArray := prog_7_method_23_code
def yX5_pointersIn : MethodName := ⟨RX5, "pointersIn", "(I)I"⟩
def RX6 : String := "FrozenImages$Tally"
def TX6 : u_T := fun k => match k with
  | 0 => ("FrozenImages$Tally", "reasons", "[I", true)
  | 1 => ("FrozenImages$Tally", "bad", "I", false)
  | 2 => ("FrozenImages$Tally", "no", "I", false)
  | _ => ("FrozenImages$Tally", "full", "I", false)
def tyX6 : Nat → FieldType := fun k => match k with
  | 0 => .array .int
  | 1 => .int
  | 2 => .int
  | _ => .int
abbrev wsX60 : List Cond := u_ws RX6 TX6 4
theorem nmX6 : ∀ a, a < 4 → ∀ b, b < 4 → a ≠ b → (TX6 a).2.1 ≠ (TX6 b).2.1 := by decide +kernel
theorem tyX6_ok : ∀ k, k < 4 → parseFieldDescriptor (TX6 k).2.2.1 = some (tyX6 k) := by decide +kernel
abbrev cX6_init : ByteArray := prog_8_method_1_code
def yX6_init : MethodName := ⟨RX6, "<init>", "()V"⟩
abbrev cX6_noted : ByteArray := prog_8_method_2_code
def yX6_noted : MethodName := ⟨RX6, "noted", "(I)I"⟩
abbrev cX6_ofReason : ByteArray := prog_8_method_3_code
def yX6_ofReason : MethodName := ⟨RX6, "ofReason", "(I)I"⟩
abbrev cX6_ofAllReasons : ByteArray := prog_8_method_4_code
def yX6_ofAllReasons : MethodName := ⟨RX6, "ofAllReasons", "()I"⟩
def RX7 : String := "FrozenImages"
def TX7 : u_T := fun k => match k with
  | 0 => ("FrozenImages", "state", "LFrozenImages$State;", true)
  | 1 => ("FrozenImages", "album", "LFrozenImages$Album;", true)
  | 2 => ("FrozenImages", "operations", "LFrozenImages$Operations;", true)
  | 3 => ("FrozenImages", "program", "LFrozenImages$Program;", true)
  | 4 => ("FrozenImages", "past", "LFrozenImages$Past;", true)
  | _ => ("FrozenImages", "tally", "LFrozenImages$Tally;", true)
def tyX7 : Nat → FieldType := fun k => match k with
  | 0 => .object "FrozenImages$State"
  | 1 => .object "FrozenImages$Album"
  | 2 => .object "FrozenImages$Operations"
  | 3 => .object "FrozenImages$Program"
  | 4 => .object "FrozenImages$Past"
  | _ => .object "FrozenImages$Tally"
abbrev wsX70 : List Cond := u_ws RX7 TX7 6
theorem nmX7 : ∀ a, a < 6 → ∀ b, b < 6 → a ≠ b → (TX7 a).2.1 ≠ (TX7 b).2.1 := by decide +kernel
theorem tyX7_ok : ∀ k, k < 6 → parseFieldDescriptor (TX7 k).2.2.1 = some (tyX7 k) := by decide +kernel
abbrev cX7_init : ByteArray := prog_1_method_1_code
def yX7_init : MethodName := ⟨RX7, "<init>", "()V"⟩
abbrev cX7_make : ByteArray := prog_1_method_2_code
def yX7_make : MethodName := ⟨RX7, "make", "(II)I"⟩
abbrev cX7_end : ByteArray := prog_1_method_3_code
def yX7_end : MethodName := ⟨RX7, "end", "(I)I"⟩
abbrev cX7_set : ByteArray := prog_1_method_4_code
def yX7_set : MethodName := ⟨RX7, "set", "(II)I"⟩
abbrev cX7_copy : ByteArray := prog_1_method_5_code
def yX7_copy : MethodName := ⟨RX7, "copy", "(II)I"⟩
abbrev cX7_move : ByteArray := prog_1_method_6_code
def yX7_move : MethodName := ⟨RX7, "move", "(II)I"⟩
abbrev cX7_store : ByteArray := prog_1_method_7_code
def yX7_store : MethodName := ⟨RX7, "store", "(III)I"⟩
abbrev cX7_load : ByteArray := prog_1_method_8_code
def yX7_load : MethodName := ⟨RX7, "load", "(III)I"⟩
abbrev cX7_compare : ByteArray := prog_1_method_9_code
def yX7_compare : MethodName := ⟨RX7, "compare", "(II)I"⟩
abbrev cX7_blit : ByteArray := prog_1_method_10_code
def yX7_blit : MethodName := ⟨RX7, "blit", "(III)I"⟩
abbrev cX7_freeze : ByteArray := prog_1_method_11_code
def yX7_freeze : MethodName := ⟨RX7, "freeze", "(I)I"⟩
abbrev cX7_forget : ByteArray := prog_1_method_12_code
def yX7_forget : MethodName := ⟨RX7, "forget", "(I)I"⟩
abbrev cX7_budget : ByteArray := prog_1_method_13_code
def yX7_budget : MethodName := ⟨RX7, "budget", "(I)I"⟩
abbrev cX7_register : ByteArray := prog_1_method_14_code
def yX7_register : MethodName := ⟨RX7, "register", "(II)I"⟩
abbrev cX7_piece : ByteArray := prog_1_method_15_code
def yX7_piece : MethodName := ⟨RX7, "piece", "(II)I"⟩
abbrev cX7_at : ByteArray := prog_1_method_16_code
def yX7_at : MethodName := ⟨RX7, "at", "(II)I"⟩
abbrev cX7_image : ByteArray := prog_1_method_17_code
def yX7_image : MethodName := ⟨RX7, "image", "(II)I"⟩
abbrev cX7_imaged : ByteArray := prog_1_method_18_code
def yX7_imaged : MethodName := ⟨RX7, "imaged", "(III)I"⟩
abbrev cX7_like : ByteArray := prog_1_method_19_code
def yX7_like : MethodName := ⟨RX7, "like", "(I)I"⟩
abbrev cX7_count : ByteArray := prog_1_method_20_code
def yX7_count : MethodName := ⟨RX7, "count", "(I)I"⟩
abbrev cX7_undefined : ByteArray := prog_1_method_21_code
def yX7_undefined : MethodName := ⟨RX7, "undefined", "(I)I"⟩
abbrev cX7_type : ByteArray := prog_1_method_22_code
def yX7_type : MethodName := ⟨RX7, "type", "(I)I"⟩
abbrev cX7_clear : ByteArray := prog_1_method_23_code
def yX7_clear : MethodName := ⟨RX7, "clear", "()I"⟩
abbrev cX7_does : ByteArray := prog_1_method_24_code
def yX7_does : MethodName := ⟨RX7, "does", "()I"⟩
abbrev cX7_back : ByteArray := prog_1_method_25_code
def yX7_back : MethodName := ⟨RX7, "back", "()I"⟩
abbrev cX7_digest : ByteArray := prog_1_method_26_code
def yX7_digest : MethodName := ⟨RX7, "digest", "()J"⟩
abbrev cX7_digestOfBlock : ByteArray := prog_1_method_27_code
def yX7_digestOfBlock : MethodName := ⟨RX7, "digestOfBlock", "(JI)J"⟩
abbrev cX7_digestOfImage : ByteArray := prog_1_method_28_code
def yX7_digestOfImage : MethodName := ⟨RX7, "digestOfImage", "(JI)J"⟩
abbrev cX7_mixed : ByteArray := prog_1_method_29_code
def yX7_mixed : MethodName := ⟨RX7, "mixed", "(JI)J"⟩
abbrev cX7_counted : ByteArray := prog_1_method_30_code
def yX7_counted : MethodName := ⟨RX7, "counted", "(I)I"⟩
abbrev cX7_settled : ByteArray := prog_1_method_31_code
def yX7_settled : MethodName := ⟨RX7, "settled", "(I)I"⟩
abbrev cX7_isRegister : ByteArray := prog_1_method_32_code
def yX7_isRegister : MethodName := ⟨RX7, "isRegister", "(I)Z"⟩
abbrev cX7_isPointerCode : ByteArray := prog_1_method_33_code
def yX7_isPointerCode : MethodName := ⟨RX7, "isPointerCode", "(I)Z"⟩
abbrev cX7_pointerCode : ByteArray := prog_1_method_34_code
def yX7_pointerCode : MethodName := ⟨RX7, "pointerCode", "(II)I"⟩
abbrev cX7_blockOfCode : ByteArray := prog_1_method_35_code
def yX7_blockOfCode : MethodName := ⟨RX7, "blockOfCode", "(I)I"⟩
abbrev cX7_offsetOfCode : ByteArray := prog_1_method_36_code
def yX7_offsetOfCode : MethodName := ⟨RX7, "offsetOfCode", "(I)I"⟩
def RX8 : String := "FrozenImagesModel"
def TX8 : u_T := fun k => match k with
  | 0 => ("FrozenImagesModel", "now", "[I", true)
  | 1 => ("FrozenImagesModel", "aside", "[I", true)
  | 2 => ("FrozenImagesModel", "past", "[I", true)
  | 3 => ("FrozenImagesModel", "states", "I", false)
  | 4 => ("FrozenImagesModel", "refused", "[I", true)
  | 5 => ("FrozenImagesModel", "undefinedBy", "[I", true)
  | 6 => ("FrozenImagesModel", "text", "[I", true)
  | 7 => ("FrozenImagesModel", "bytes", "I", false)
  | 8 => ("FrozenImagesModel", "carried", "[I", true)
  | 9 => ("FrozenImagesModel", "nodes", "[I", true)
  | 10 => ("FrozenImagesModel", "reached", "I", false)
  | 11 => ("FrozenImagesModel", "laid", "[I", true)
  | 12 => ("FrozenImagesModel", "letters", "[I", true)
  | 13 => ("FrozenImagesModel", "numbers", "[I", true)
  | 14 => ("FrozenImagesModel", "orders", "I", false)
  | 15 => ("FrozenImagesModel", "spot", "I", false)
  | 16 => ("FrozenImagesModel", "wrongAt", "I", false)
  | 17 => ("FrozenImagesModel", "next", "I", false)
  | _ => ("FrozenImagesModel", "hash", "J", false)
def tyX8 : Nat → FieldType := fun k => match k with
  | 0 => .array .int
  | 1 => .array .int
  | 2 => .array .int
  | 3 => .int
  | 4 => .array .int
  | 5 => .array .int
  | 6 => .array .int
  | 7 => .int
  | 8 => .array .int
  | 9 => .array .int
  | 10 => .int
  | 11 => .array .int
  | 12 => .array .int
  | 13 => .array .int
  | 14 => .int
  | 15 => .int
  | 16 => .int
  | 17 => .int
  | _ => .long
abbrev wsX80 : List Cond := u_ws RX8 TX8 19
theorem nmX8 : ∀ a, a < 19 → ∀ b, b < 19 → a ≠ b → (TX8 a).2.1 ≠ (TX8 b).2.1 := by decide +kernel
theorem tyX8_ok : ∀ k, k < 19 → parseFieldDescriptor (TX8 k).2.2.1 = some (tyX8 k) := by decide +kernel
abbrev cX8_init : ByteArray := prog_10_method_1_code
def yX8_init : MethodName := ⟨RX8, "<init>", "()V"⟩
abbrev cX8_in : ByteArray := prog_10_method_3_code
def yX8_in : MethodName := ⟨RX8, "in", "(III)Z"⟩
abbrev cX8_bad : ByteArray := prog_10_method_4_code
def yX8_bad : MethodName := ⟨RX8, "bad", "()I"⟩
abbrev cX8_copies : ByteArray := prog_10_method_5_code
def yX8_copies : MethodName := ⟨RX8, "copies", "()V"⟩
abbrev cX8_remembers : ByteArray := prog_10_method_6_code
def yX8_remembers : MethodName := ⟨RX8, "remembers", "()V"⟩
abbrev cX8_back : ByteArray := prog_10_method_7_code
def yX8_back : MethodName := ⟨RX8, "back", "()I"⟩
abbrev cX8_counted : ByteArray := prog_10_method_8_code
def yX8_counted : MethodName := ⟨RX8, "counted", "(I)I"⟩
abbrev cX8_piecePlace : ByteArray := prog_10_method_9_code
def yX8_piecePlace : MethodName := ⟨RX8, "piecePlace", "(I)I"⟩
abbrev cX8_sizeOf : ByteArray := prog_10_method_10_code
def yX8_sizeOf : MethodName := ⟨RX8, "sizeOf", "(I)I"⟩
abbrev cX8_isLive : ByteArray := prog_10_method_11_code
def yX8_isLive : MethodName := ⟨RX8, "isLive", "(I)Z"⟩
abbrev cX8_isFrozen : ByteArray := prog_10_method_12_code
def yX8_isFrozen : MethodName := ⟨RX8, "isFrozen", "(I)Z"⟩
abbrev cX8_bytePlace : ByteArray := prog_10_method_13_code
def yX8_bytePlace : MethodName := ⟨RX8, "bytePlace", "(II)I"⟩
abbrev cX8_isRegister : ByteArray := prog_10_method_14_code
def yX8_isRegister : MethodName := ⟨RX8, "isRegister", "(I)Z"⟩
abbrev cX8_kindOf : ByteArray := prog_10_method_15_code
def yX8_kindOf : MethodName := ⟨RX8, "kindOf", "(I)I"⟩
abbrev cX8_valueOf : ByteArray := prog_10_method_16_code
def yX8_valueOf : MethodName := ⟨RX8, "valueOf", "(I)I"⟩
abbrev cX8_placeOf : ByteArray := prog_10_method_17_code
def yX8_placeOf : MethodName := ⟨RX8, "placeOf", "(I)I"⟩
abbrev cX8_tells : ByteArray := prog_10_method_18_code
def yX8_tells : MethodName := ⟨RX8, "tells", "(IIII)I"⟩
abbrev cX8_undefinedAs : ByteArray := prog_10_method_19_code
def yX8_undefinedAs : MethodName := ⟨RX8, "undefinedAs", "(I)I"⟩
abbrev cX8_notGood : ByteArray := prog_10_method_20_code
def yX8_notGood : MethodName := ⟨RX8, "notGood", "(I)I"⟩
abbrev cX8_isWithin : ByteArray := prog_10_method_21_code
def yX8_isWithin : MethodName := ⟨RX8, "isWithin", "(II)Z"⟩
abbrev cX8_notGoodFor : ByteArray := prog_10_method_22_code
def yX8_notGoodFor : MethodName := ⟨RX8, "notGoodFor", "(II)I"⟩
abbrev cX8_notToWrite : ByteArray := prog_10_method_23_code
def yX8_notToWrite : MethodName := ⟨RX8, "notToWrite", "(II)I"⟩
abbrev cX8_cuts : ByteArray := prog_10_method_24_code
def yX8_cuts : MethodName := ⟨RX8, "cuts", "(III)V"⟩
abbrev cX8_makes : ByteArray := prog_10_method_25_code
def yX8_makes : MethodName := ⟨RX8, "makes", "(II)I"⟩
abbrev cX8_ends : ByteArray := prog_10_method_26_code
def yX8_ends : MethodName := ⟨RX8, "ends", "(I)I"⟩
abbrev cX8_setsTo : ByteArray := prog_10_method_27_code
def yX8_setsTo : MethodName := ⟨RX8, "setsTo", "(II)I"⟩
abbrev cX8_copiesTo : ByteArray := prog_10_method_28_code
def yX8_copiesTo : MethodName := ⟨RX8, "copiesTo", "(II)I"⟩
abbrev cX8_movesBy : ByteArray := prog_10_method_29_code
def yX8_movesBy : MethodName := ⟨RX8, "movesBy", "(II)I"⟩
abbrev cX8_storesAt : ByteArray := prog_10_method_30_code
def yX8_storesAt : MethodName := ⟨RX8, "storesAt", "(III)I"⟩
abbrev cX8_loadsFrom : ByteArray := prog_10_method_31_code
def yX8_loadsFrom : MethodName := ⟨RX8, "loadsFrom", "(III)I"⟩
abbrev cX8_comparesTo : ByteArray := prog_10_method_32_code
def yX8_comparesTo : MethodName := ⟨RX8, "comparesTo", "(II)I"⟩
abbrev cX8_blits : ByteArray := prog_10_method_33_code
def yX8_blits : MethodName := ⟨RX8, "blits", "(III)I"⟩
abbrev cX8_nodeOf : ByteArray := prog_10_method_34_code
def yX8_nodeOf : MethodName := ⟨RX8, "nodeOf", "(I)I"⟩
abbrev cX8_reaches : ByteArray := prog_10_method_35_code
def yX8_reaches : MethodName := ⟨RX8, "reaches", "(I)V"⟩
abbrev cX8_allLive : ByteArray := prog_10_method_36_code
def yX8_allLive : MethodName := ⟨RX8, "allLive", "()Z"⟩
abbrev cX8_laysImage : ByteArray := prog_10_method_37_code
def yX8_laysImage : MethodName := ⟨RX8, "laysImage", "()V"⟩
abbrev cX8_imageLaid : ByteArray := prog_10_method_38_code
def yX8_imageLaid : MethodName := ⟨RX8, "imageLaid", "()I"⟩
abbrev cX8_freezes : ByteArray := prog_10_method_39_code
def yX8_freezes : MethodName := ⟨RX8, "freezes", "(I)I"⟩
abbrev cX8_acts : ByteArray := prog_10_method_40_code
def yX8_acts : MethodName := ⟨RX8, "acts", "(IIII)I"⟩
abbrev cX8_calls : ByteArray := prog_10_method_41_code
def yX8_calls : MethodName := ⟨RX8, "calls", "(IIII)I"⟩
abbrev cX8_make : ByteArray := prog_10_method_42_code
def yX8_make : MethodName := ⟨RX8, "make", "(II)I"⟩
abbrev cX8_end : ByteArray := prog_10_method_43_code
def yX8_end : MethodName := ⟨RX8, "end", "(I)I"⟩
abbrev cX8_set : ByteArray := prog_10_method_44_code
def yX8_set : MethodName := ⟨RX8, "set", "(II)I"⟩
abbrev cX8_copy : ByteArray := prog_10_method_45_code
def yX8_copy : MethodName := ⟨RX8, "copy", "(II)I"⟩
abbrev cX8_move : ByteArray := prog_10_method_46_code
def yX8_move : MethodName := ⟨RX8, "move", "(II)I"⟩
abbrev cX8_store : ByteArray := prog_10_method_47_code
def yX8_store : MethodName := ⟨RX8, "store", "(III)I"⟩
abbrev cX8_load : ByteArray := prog_10_method_48_code
def yX8_load : MethodName := ⟨RX8, "load", "(III)I"⟩
abbrev cX8_compare : ByteArray := prog_10_method_49_code
def yX8_compare : MethodName := ⟨RX8, "compare", "(II)I"⟩
abbrev cX8_blit : ByteArray := prog_10_method_50_code
def yX8_blit : MethodName := ⟨RX8, "blit", "(III)I"⟩
abbrev cX8_freeze : ByteArray := prog_10_method_51_code
def yX8_freeze : MethodName := ⟨RX8, "freeze", "(I)I"⟩
abbrev cX8_forget : ByteArray := prog_10_method_52_code
def yX8_forget : MethodName := ⟨RX8, "forget", "(I)I"⟩
abbrev cX8_budget : ByteArray := prog_10_method_53_code
def yX8_budget : MethodName := ⟨RX8, "budget", "(I)I"⟩
abbrev cX8_ofRegister : ByteArray := prog_10_method_54_code
def yX8_ofRegister : MethodName := ⟨RX8, "ofRegister", "(II)I"⟩
abbrev cX8_register : ByteArray := prog_10_method_55_code
def yX8_register : MethodName := ⟨RX8, "register", "(II)I"⟩
abbrev cX8_isPiece : ByteArray := prog_10_method_56_code
def yX8_isPiece : MethodName := ⟨RX8, "isPiece", "(I)Z"⟩
abbrev cX8_bytesOf : ByteArray := prog_10_method_57_code
def yX8_bytesOf : MethodName := ⟨RX8, "bytesOf", "(IZ)I"⟩
abbrev cX8_reachedOf : ByteArray := prog_10_method_58_code
def yX8_reachedOf : MethodName := ⟨RX8, "reachedOf", "(I)I"⟩
abbrev cX8_ofPiece : ByteArray := prog_10_method_59_code
def yX8_ofPiece : MethodName := ⟨RX8, "ofPiece", "(II)I"⟩
abbrev cX8_piece : ByteArray := prog_10_method_60_code
def yX8_piece : MethodName := ⟨RX8, "piece", "(II)I"⟩
abbrev cX8_at : ByteArray := prog_10_method_61_code
def yX8_at : MethodName := ⟨RX8, "at", "(II)I"⟩
abbrev cX8_isImage : ByteArray := prog_10_method_62_code
def yX8_isImage : MethodName := ⟨RX8, "isImage", "(I)Z"⟩
abbrev cX8_ofImage : ByteArray := prog_10_method_63_code
def yX8_ofImage : MethodName := ⟨RX8, "ofImage", "(II)I"⟩
abbrev cX8_image : ByteArray := prog_10_method_64_code
def yX8_image : MethodName := ⟨RX8, "image", "(II)I"⟩
abbrev cX8_imaged : ByteArray := prog_10_method_65_code
def yX8_imaged : MethodName := ⟨RX8, "imaged", "(III)I"⟩
abbrev cX8_like : ByteArray := prog_10_method_66_code
def yX8_like : MethodName := ⟨RX8, "like", "(I)I"⟩
abbrev cX8_livePieces : ByteArray := prog_10_method_67_code
def yX8_livePieces : MethodName := ⟨RX8, "livePieces", "()I"⟩
abbrev cX8_countOf : ByteArray := prog_10_method_68_code
def yX8_countOf : MethodName := ⟨RX8, "countOf", "(I)I"⟩
abbrev cX8_count : ByteArray := prog_10_method_69_code
def yX8_count : MethodName := ⟨RX8, "count", "(I)I"⟩
abbrev cX8_undefined : ByteArray := prog_10_method_70_code
def yX8_undefined : MethodName := ⟨RX8, "undefined", "(I)I"⟩
abbrev cX8_type : ByteArray := prog_10_method_71_code
def yX8_type : MethodName := ⟨RX8, "type", "(I)I"⟩
abbrev cX8_clear : ByteArray := prog_10_method_72_code
def yX8_clear : MethodName := ⟨RX8, "clear", "()I"⟩
abbrev cX8_isAt : ByteArray := prog_10_method_73_code
def yX8_isAt : MethodName := ⟨RX8, "isAt", "(II)Z"⟩
abbrev cX8_blanks : ByteArray := prog_10_method_74_code
def yX8_blanks : MethodName := ⟨RX8, "blanks", "()V"⟩
abbrev cX8_fails : ByteArray := prog_10_method_75_code
def yX8_fails : MethodName := ⟨RX8, "fails", "(I)Z"⟩
abbrev cX8_manyOf : ByteArray := prog_10_method_76_code
def yX8_manyOf : MethodName := ⟨RX8, "manyOf", "(I)I"⟩
abbrev cX8_takesNumber : ByteArray := prog_10_method_77_code
def yX8_takesNumber : MethodName := ⟨RX8, "takesNumber", "(IZ)Z"⟩
abbrev cX8_takesOrder : ByteArray := prog_10_method_78_code
def yX8_takesOrder : MethodName := ⟨RX8, "takesOrder", "()Z"⟩
abbrev cX8_isRead : ByteArray := prog_10_method_79_code
def yX8_isRead : MethodName := ⟨RX8, "isRead", "()Z"⟩
abbrev cX8_steps : ByteArray := prog_10_method_80_code
def yX8_steps : MethodName := ⟨RX8, "steps", "(I)I"⟩
abbrev cX8_jumps : ByteArray := prog_10_method_81_code
def yX8_jumps : MethodName := ⟨RX8, "jumps", "(II)I"⟩
abbrev cX8_toldAs : ByteArray := prog_10_method_82_code
def yX8_toldAs : MethodName := ⟨RX8, "toldAs", "(II)I"⟩
abbrev cX8_goes : ByteArray := prog_10_method_83_code
def yX8_goes : MethodName := ⟨RX8, "goes", "()I"⟩
abbrev cX8_does : ByteArray := prog_10_method_84_code
def yX8_does : MethodName := ⟨RX8, "does", "()I"⟩
abbrev cX8_mix : ByteArray := prog_10_method_85_code
def yX8_mix : MethodName := ⟨RX8, "mix", "(J)V"⟩
abbrev cX8_mixImage : ByteArray := prog_10_method_86_code
def yX8_mixImage : MethodName := ⟨RX8, "mixImage", "(I)V"⟩
abbrev cX8_digest : ByteArray := prog_10_method_87_code
def yX8_digest : MethodName := ⟨RX8, "digest", "()J"⟩
def RJ9 : String := "java/lang/Math"
def TJ9 : u_T := fun k => match k with
  | _ => ("", "", "", false)
def tyJ9 : Nat → FieldType := fun k => match k with
  | _ => .int
abbrev wsJ90 : List Cond := u_ws RJ9 TJ9 0
theorem nmJ9 : ∀ a, a < 0 → ∀ b, b < 0 → a ≠ b → (TJ9 a).2.1 ≠ (TJ9 b).2.1 := by decide +kernel
theorem tyJ9_ok : ∀ k, k < 0 → parseFieldDescriptor (TJ9 k).2.2.1 = some (tyJ9 k) := by decide +kernel
abbrev cJ9_floorMod_7cf53 : ByteArray := prog_11_method_50_code
def yJ9_floorMod_7cf53 : MethodName := ⟨RJ9, "floorMod", "(II)I"⟩
def RJ10 : String := "java/lang/System"
def TJ10 : u_T := fun k => match k with
  | _ => ("", "", "", false)
def tyJ10 : Nat → FieldType := fun k => match k with
  | _ => .int
abbrev wsJ100 : List Cond := u_ws RJ10 TJ10 0
theorem nmJ10 : ∀ a, a < 0 → ∀ b, b < 0 → a ≠ b → (TJ10 a).2.1 ≠ (TJ10 b).2.1 := by decide +kernel
theorem tyJ10_ok : ∀ k, k < 0 → parseFieldDescriptor (TJ10 k).2.2.1 = some (tyJ10 k) := by decide +kernel
def RL : String := "FrozenImagesLaw"
abbrev cL_law : ByteArray := code
def yL_law : MethodName := ⟨RL, "law", "([I)Z"⟩
def wsL_law_r1 : List Cond := [Cond.classLink RL 7 RX7, Cond.instantiable RX7 6, Cond.initialized RX7, Cond.classLink RL 10 RX8, Cond.instantiable RX8 19, Cond.initialized RX8, Cond.methodLink RL 9 yX7_init, Cond.instanceMethod yX7_init, Cond.code yX7_init cX7_init 1 none, Cond.methodLink RX7 3 objectInit, Cond.instanceMethod objectInit, Cond.code objectInit ⟨#[0xb1]⟩ 1 none, Cond.classLink RX7 9 RX5, Cond.instantiable RX5 10, Cond.initialized RX5, Cond.fieldLink RX7 12 "FrozenImages" "state" "LFrozenImages$State;", Cond.classLink RX7 16 RX0, Cond.instantiable RX0 4, Cond.initialized RX0, Cond.fieldLink RX7 19 "FrozenImages" "album" "LFrozenImages$Album;", Cond.classLink RX7 23 RX2, Cond.instantiable RX2 3, Cond.initialized RX2, Cond.fieldLink RX7 28 "FrozenImages" "operations" "LFrozenImages$Operations;"]
def wsL_law_r2 : List Cond := [Cond.classLink RX7 32 RX4, Cond.instantiable RX4 10, Cond.initialized RX4, Cond.fieldLink RX7 35 "FrozenImages" "program" "LFrozenImages$Program;", Cond.classLink RX7 39 RX3, Cond.instantiable RX3 3, Cond.initialized RX3, Cond.fieldLink RX7 42 "FrozenImages" "past" "LFrozenImages$Past;", Cond.classLink RX7 46 RX6, Cond.instantiable RX6 4, Cond.initialized RX6, Cond.fieldLink RX7 49 "FrozenImages" "tally" "LFrozenImages$Tally;", Cond.methodLink RX7 11 yX5_init, Cond.instanceMethod yX5_init, Cond.code yX5_init cX5_init 1 none, Cond.methodLink RX5 3 objectInit, Cond.arrayClass .int, Cond.fieldLink RX5 9 "FrozenImages$State" "kinds" "[I", Cond.fieldLink RX5 15 "FrozenImages$State" "values" "[I", Cond.fieldLink RX5 18 "FrozenImages$State" "offsets" "[I", Cond.fieldLink RX5 21 "FrozenImages$State" "sizes" "[I", Cond.fieldLink RX5 24 "FrozenImages$State" "live" "[I", Cond.fieldLink RX5 27 "FrozenImages$State" "constant" "[I", Cond.fieldLink RX5 30 "FrozenImages$State" "cells" "[I"]
def wsL_law_r3 : List Cond := [Cond.fieldLink RX5 33 "FrozenImages$State" "budget" "I", Cond.methodLink RX7 18 yX0_init, Cond.instanceMethod yX0_init, Cond.code yX0_init cX0_init 2 none, Cond.methodLink RX0 3 objectInit, Cond.classLink RX0 9 RX1, Cond.fieldLink RX0 11 "FrozenImages$Album" "images" "[LFrozenImages$Image;", Cond.instantiable RX1 3, Cond.initialized RX1, Cond.fieldLink RX0 18 "FrozenImages$Album" "blockOfNode" "[I", Cond.fieldLink RX0 22 "FrozenImages$Album" "nodeOfBlock" "[I", Cond.methodLink RX0 17 yX1_init, Cond.instanceMethod yX1_init, Cond.code yX1_init cX1_init 1 none, Cond.methodLink RX1 3 objectInit, Cond.fieldLink RX1 9 "FrozenImages$Image" "sizes" "[I", Cond.fieldLink RX1 15 "FrozenImages$Image" "cells" "[I", Cond.methodLink RX7 25 yX2_init, Cond.instanceMethod yX2_init, Cond.code yX2_init cX2_init 3 none, Cond.methodLink RX2 3 objectInit, Cond.fieldLink RX2 9 "FrozenImages$Operations" "state" "LFrozenImages$State;", Cond.fieldLink RX2 15 "FrozenImages$Operations" "album" "LFrozenImages$Album;", Cond.fieldLink RX2 19 "FrozenImages$Operations" "carried" "[I"]
def wsL_law_r4 : List Cond := [Cond.methodLink RX7 34 yX4_init, Cond.instanceMethod yX4_init, Cond.code yX4_init cX4_init 1 none, Cond.methodLink RX4 3 objectInit, Cond.fieldLink RX4 9 "FrozenImages$Program" "text" "[I", Cond.fieldLink RX4 15 "FrozenImages$Program" "letters" "[I", Cond.fieldLink RX4 18 "FrozenImages$Program" "operands" "[I", Cond.methodLink RX7 41 yX3_init, Cond.instanceMethod yX3_init, Cond.code yX3_init cX3_init 2 none, Cond.methodLink RX3 3 objectInit, Cond.classLink RX3 11 RX5, Cond.fieldLink RX3 13 "FrozenImages$Past" "states" "[LFrozenImages$State;", Cond.methodLink RX3 17 yX5_init, Cond.methodLink RX7 48 yX6_init, Cond.instanceMethod yX6_init, Cond.code yX6_init cX6_init 1 none, Cond.methodLink RX6 3 objectInit, Cond.fieldLink RX6 9 "FrozenImages$Tally" "reasons" "[I", Cond.methodLink RL 12 yX8_init, Cond.instanceMethod yX8_init, Cond.code yX8_init cX8_init 1 none, Cond.methodLink RX8 1 objectInit, Cond.fieldLink RX8 7 "FrozenImagesModel" "now" "[I"]
def wsL_law_r5 : List Cond := [Cond.fieldLink RX8 13 "FrozenImagesModel" "aside" "[I", Cond.fieldLink RX8 16 "FrozenImagesModel" "past" "[I", Cond.fieldLink RX8 19 "FrozenImagesModel" "refused" "[I", Cond.fieldLink RX8 22 "FrozenImagesModel" "undefinedBy" "[I", Cond.fieldLink RX8 25 "FrozenImagesModel" "text" "[I", Cond.fieldLink RX8 28 "FrozenImagesModel" "carried" "[I", Cond.fieldLink RX8 31 "FrozenImagesModel" "nodes" "[I", Cond.fieldLink RX8 34 "FrozenImagesModel" "laid" "[I", Cond.fieldLink RX8 37 "FrozenImagesModel" "letters" "[I", Cond.fieldLink RX8 40 "FrozenImagesModel" "numbers" "[I", Cond.methodLink RL 13 yX7_make, Cond.instanceMethod yX7_make, Cond.selects RX7 yX7_make yX7_make, Cond.code yX7_make cX7_make 3 (some .int), Cond.methodLink RX7 53 yX3_stage, Cond.instanceMethod yX3_stage, Cond.selects RX3 yX3_stage yX3_stage, Cond.code yX3_stage cX3_stage 2 none, Cond.methodLink RX3 28 yX3_waiting, Cond.instanceMethod yX3_waiting, Cond.selects RX3 yX3_waiting yX3_waiting, Cond.code yX3_waiting cX3_waiting 1 (some (.object "FrozenImages$State")), Cond.fieldLink RX3 18 "FrozenImages$Past" "place" "I", Cond.methodLink RX3 22 yJ9_floorMod_7cf53]
def wsL_law_r6 : List Cond := [Cond.static yJ9_floorMod_7cf53, Cond.initialized RJ9, Cond.code yJ9_floorMod_7cf53 cJ9_floorMod_7cf53 3 (some .int), Cond.methodLink RX3 32 yX5_become, Cond.instanceMethod yX5_become, Cond.selects RX5 yX5_become yX5_become, Cond.code yX5_become cX5_become 2 none, Cond.methodLink RX5 37 arraycopyName, Cond.native arraycopyName, Cond.static arraycopyName, Cond.initialized "java/lang/System", Cond.fieldLink RX5 43 "FrozenImages$State" "blocks" "I", Cond.fieldLink RX5 46 "FrozenImages$State" "images" "I", Cond.methodLink RX7 57 yX2_makeBlock, Cond.instanceMethod yX2_makeBlock, Cond.selects RX2 yX2_makeBlock yX2_makeBlock, Cond.code yX2_makeBlock cX2_makeBlock 4 (some .int), Cond.fieldLink RX2 27 "FrozenImages$State" "blocks" "I", Cond.static yX7_isRegister, Cond.code yX7_isRegister cX7_isRegister 1 (some .boolean), Cond.methodLink RX2 33 yX5_addBlock, Cond.instanceMethod yX5_addBlock, Cond.selects RX5 yX5_addBlock yX5_addBlock, Cond.code yX5_addBlock cX5_addBlock 4 none]
def wsL_law_r7 : List Cond := [Cond.methodLink RX5 57 yX5_putCell, Cond.instanceMethod yX5_putCell, Cond.selects RX5 yX5_putCell yX5_putCell, Cond.code yX5_putCell cX5_putCell 4 none, Cond.methodLink RX2 37 yX5_fillWithPointer, Cond.instanceMethod yX5_fillWithPointer, Cond.selects RX5 yX5_fillWithPointer yX5_fillWithPointer, Cond.code yX5_fillWithPointer cX5_fillWithPointer 4 none, Cond.methodLink RX5 49 yX5_fillRegister, Cond.instanceMethod yX5_fillRegister, Cond.selects RX5 yX5_fillRegister yX5_fillRegister, Cond.code yX5_fillRegister cX5_fillRegister 5 none, Cond.methodLink RX7 61 yX7_settled, Cond.instanceMethod yX7_settled, Cond.selects RX7 yX7_settled yX7_settled, Cond.code yX7_settled cX7_settled 2 (some .int), Cond.methodLink RX7 177 yX3_keep, Cond.instanceMethod yX3_keep, Cond.selects RX3 yX3_keep yX3_keep, Cond.code yX3_keep cX3_keep 1 none, Cond.fieldLink RX3 36 "FrozenImages$Past" "saved" "I", Cond.methodLink RX7 87 yX6_noted, Cond.instanceMethod yX6_noted, Cond.selects RX6 yX6_noted yX6_noted]
def wsL_law_r8 : List Cond := [Cond.code yX6_noted cX6_noted 3 (some .int), Cond.fieldLink RX6 15 "FrozenImages$Tally" "bad" "I", Cond.fieldLink RX6 19 "FrozenImages$Tally" "no" "I", Cond.fieldLink RX6 22 "FrozenImages$Tally" "full" "I", Cond.methodLink RL 17 yX8_make, Cond.instanceMethod yX8_make, Cond.selects RX8 yX8_make yX8_make, Cond.code yX8_make cX8_make 3 (some .int), Cond.methodLink RX8 168 yX8_calls, Cond.instanceMethod yX8_calls, Cond.selects RX8 yX8_calls yX8_calls, Cond.code yX8_calls cX8_calls 6 (some .int), Cond.methodLink RX8 156 yX8_copies, Cond.instanceMethod yX8_copies, Cond.selects RX8 yX8_copies yX8_copies, Cond.code yX8_copies cX8_copies 2 none, Cond.methodLink RX8 159 yX8_acts, Cond.instanceMethod yX8_acts, Cond.selects RX8 yX8_acts yX8_acts, Cond.code yX8_acts cX8_acts 5 (some .int), Cond.methodLink RX8 128 yX8_makes, Cond.instanceMethod yX8_makes, Cond.selects RX8 yX8_makes yX8_makes, Cond.code yX8_makes cX8_makes 6 (some .int)]
def wsL_law_r9 : List Cond := [Cond.methodLink RX8 85 yX8_isRegister, Cond.static yX8_isRegister, Cond.code yX8_isRegister cX8_isRegister 1 (some .boolean), Cond.methodLink RX8 51 yX8_in, Cond.static yX8_in, Cond.code yX8_in cX8_in 3 (some .boolean), Cond.methodLink RX8 47 yX8_piecePlace, Cond.static yX8_piecePlace, Cond.code yX8_piecePlace cX8_piecePlace 1 (some .int), Cond.methodLink RX8 88 yX8_tells, Cond.instanceMethod yX8_tells, Cond.selects RX8 yX8_tells yX8_tells, Cond.code yX8_tells cX8_tells 5 (some .int), Cond.methodLink RX8 131 yX8_ends, Cond.instanceMethod yX8_ends, Cond.selects RX8 yX8_ends yX8_ends, Cond.code yX8_ends cX8_ends 3 (some .int), Cond.methodLink RX8 71 yX8_notGood, Cond.instanceMethod yX8_notGood, Cond.selects RX8 yX8_notGood yX8_notGood, Cond.code yX8_notGood cX8_notGood 2 (some .int), Cond.methodLink RX8 55 yX8_kindOf, Cond.instanceMethod yX8_kindOf, Cond.selects RX8 yX8_kindOf yX8_kindOf]
def wsL_law_r10 : List Cond := [Cond.code yX8_kindOf cX8_kindOf 2 (some .int), Cond.methodLink RX8 58 yX8_valueOf, Cond.instanceMethod yX8_valueOf, Cond.selects RX8 yX8_valueOf yX8_valueOf, Cond.code yX8_valueOf cX8_valueOf 2 (some .int), Cond.methodLink RX8 61 yX8_isLive, Cond.instanceMethod yX8_isLive, Cond.selects RX8 yX8_isLive yX8_isLive, Cond.code yX8_isLive cX8_isLive 2 (some .boolean), Cond.methodLink RX8 65 yX8_placeOf, Cond.instanceMethod yX8_placeOf, Cond.selects RX8 yX8_placeOf yX8_placeOf, Cond.code yX8_placeOf cX8_placeOf 2 (some .int), Cond.methodLink RX8 78 yX8_isFrozen, Cond.instanceMethod yX8_isFrozen, Cond.selects RX8 yX8_isFrozen yX8_isFrozen, Cond.code yX8_isFrozen cX8_isFrozen 2 (some .boolean), Cond.methodLink RX8 92 yX8_undefinedAs, Cond.static yX8_undefinedAs, Cond.code yX8_undefinedAs cX8_undefinedAs 1 (some .int), Cond.methodLink RX8 134 yX8_setsTo, Cond.instanceMethod yX8_setsTo, Cond.selects RX8 yX8_setsTo yX8_setsTo, Cond.code yX8_setsTo cX8_setsTo 3 (some .int)]
def wsL_law_r11 : List Cond := [Cond.constant RX8 95 (65535), Cond.methodLink RX8 137 yX8_copiesTo, Cond.instanceMethod yX8_copiesTo, Cond.selects RX8 yX8_copiesTo yX8_copiesTo, Cond.code yX8_copiesTo cX8_copiesTo 3 (some .int), Cond.methodLink RX8 140 yX8_movesBy, Cond.instanceMethod yX8_movesBy, Cond.selects RX8 yX8_movesBy yX8_movesBy, Cond.code yX8_movesBy cX8_movesBy 5 (some .int), Cond.constant RX8 96 (65536), Cond.methodLink RX8 68 yX8_sizeOf, Cond.instanceMethod yX8_sizeOf, Cond.selects RX8 yX8_sizeOf yX8_sizeOf, Cond.code yX8_sizeOf cX8_sizeOf 2 (some .int), Cond.methodLink RX8 143 yX8_storesAt, Cond.instanceMethod yX8_storesAt, Cond.selects RX8 yX8_storesAt yX8_storesAt, Cond.code yX8_storesAt cX8_storesAt 9 (some .int), Cond.methodLink RX8 97 yX8_notToWrite, Cond.instanceMethod yX8_notToWrite, Cond.selects RX8 yX8_notToWrite yX8_notToWrite, Cond.code yX8_notToWrite cX8_notToWrite 4 (some .int), Cond.methodLink RX8 74 yX8_isWithin, Cond.instanceMethod yX8_isWithin]
def wsL_law_r12 : List Cond := [Cond.selects RX8 yX8_isWithin yX8_isWithin, Cond.code yX8_isWithin cX8_isWithin 3 (some .boolean), Cond.methodLink RX8 100 yX8_cuts, Cond.instanceMethod yX8_cuts, Cond.selects RX8 yX8_cuts yX8_cuts, Cond.code yX8_cuts cX8_cuts 4 none, Cond.methodLink RX8 81 yX8_bytePlace, Cond.static yX8_bytePlace, Cond.code yX8_bytePlace cX8_bytePlace 2 (some .int), Cond.methodLink RX8 147 yX8_loadsFrom, Cond.instanceMethod yX8_loadsFrom, Cond.selects RX8 yX8_loadsFrom yX8_loadsFrom, Cond.code yX8_loadsFrom cX8_loadsFrom 7 (some .int), Cond.methodLink RX8 104 yX8_notGoodFor, Cond.instanceMethod yX8_notGoodFor, Cond.selects RX8 yX8_notGoodFor yX8_notGoodFor, Cond.code yX8_notGoodFor cX8_notGoodFor 4 (some .int), Cond.methodLink RX8 150 yX8_blits, Cond.instanceMethod yX8_blits, Cond.selects RX8 yX8_blits yX8_blits, Cond.code yX8_blits cX8_blits 6 (some .int), Cond.methodLink RX8 153 yX8_freezes, Cond.instanceMethod yX8_freezes, Cond.selects RX8 yX8_freezes yX8_freezes]
def wsL_law_r13 : List Cond := [Cond.code yX8_freezes cX8_freezes 5 (some .int), Cond.fieldLink RX8 107 "FrozenImagesModel" "reached" "I", Cond.methodLink RX8 113 yX8_reaches, Cond.instanceMethod yX8_reaches, Cond.selects RX8 yX8_reaches yX8_reaches, Cond.code yX8_reaches cX8_reaches 6 none, Cond.methodLink RX8 110 yX8_nodeOf, Cond.instanceMethod yX8_nodeOf, Cond.selects RX8 yX8_nodeOf yX8_nodeOf, Cond.code yX8_nodeOf cX8_nodeOf 4 (some .int), Cond.methodLink RX8 117 yX8_allLive, Cond.instanceMethod yX8_allLive, Cond.selects RX8 yX8_allLive yX8_allLive, Cond.code yX8_allLive cX8_allLive 3 (some .boolean), Cond.methodLink RX8 121 yX8_laysImage, Cond.instanceMethod yX8_laysImage, Cond.selects RX8 yX8_laysImage yX8_laysImage, Cond.code yX8_laysImage cX8_laysImage 4 none, Cond.methodLink RX8 124 yX8_imageLaid, Cond.instanceMethod yX8_imageLaid, Cond.selects RX8 yX8_imageLaid yX8_imageLaid, Cond.code yX8_imageLaid cX8_imageLaid 4 (some .int), Cond.methodLink RX8 162 yX8_remembers, Cond.instanceMethod yX8_remembers]
def wsL_law_r14 : List Cond := [Cond.selects RX8 yX8_remembers yX8_remembers, Cond.code yX8_remembers cX8_remembers 2 none, Cond.fieldLink RX8 43 "FrozenImagesModel" "states" "I", Cond.methodLink RX8 165 yX8_counted, Cond.instanceMethod yX8_counted, Cond.selects RX8 yX8_counted yX8_counted, Cond.code yX8_counted cX8_counted 2 (some .int), Cond.methodLink RL 18 yX7_end, Cond.instanceMethod yX7_end, Cond.selects RX7 yX7_end yX7_end, Cond.code yX7_end cX7_end 2 (some .int), Cond.methodLink RX7 65 yX2_endBlock, Cond.instanceMethod yX2_endBlock, Cond.selects RX2 yX2_endBlock yX2_endBlock, Cond.code yX2_endBlock cX2_endBlock 4 (some .int), Cond.methodLink RX2 41 yX2_faultAsBegin, Cond.instanceMethod yX2_faultAsBegin, Cond.selects RX2 yX2_faultAsBegin yX2_faultAsBegin, Cond.code yX2_faultAsBegin cX2_faultAsBegin 3 (some .int), Cond.methodLink RX2 157 yX2_fault, Cond.instanceMethod yX2_fault, Cond.selects RX2 yX2_fault yX2_fault, Cond.code yX2_fault cX2_fault 3 (some .int), Cond.methodLink RX2 59 yX5_kindOf]
def wsL_law_r15 : List Cond := [Cond.instanceMethod yX5_kindOf, Cond.selects RX5 yX5_kindOf yX5_kindOf, Cond.code yX5_kindOf cX5_kindOf 2 (some .int), Cond.methodLink RX2 45 yX5_valueOf, Cond.instanceMethod yX5_valueOf, Cond.selects RX5 yX5_valueOf yX5_valueOf, Cond.code yX5_valueOf cX5_valueOf 2 (some .int), Cond.methodLink RX2 84 yX5_isLive, Cond.instanceMethod yX5_isLive, Cond.selects RX5 yX5_isLive yX5_isLive, Cond.code yX5_isLive cX5_isLive 2 (some .boolean), Cond.methodLink RX2 62 yX5_offsetOf, Cond.instanceMethod yX5_offsetOf, Cond.selects RX5 yX5_offsetOf yX5_offsetOf, Cond.code yX5_offsetOf cX5_offsetOf 2 (some .int), Cond.methodLink RX2 48 yX5_isConstant, Cond.instanceMethod yX5_isConstant, Cond.selects RX5 yX5_isConstant yX5_isConstant, Cond.code yX5_isConstant cX5_isConstant 2 (some .boolean), Cond.methodLink RX2 51 yX5_markEnded, Cond.instanceMethod yX5_markEnded, Cond.selects RX5 yX5_markEnded yX5_markEnded, Cond.code yX5_markEnded cX5_markEnded 2 none, Cond.methodLink RL 22 yX8_end]
def wsL_law_r16 : List Cond := [Cond.instanceMethod yX8_end, Cond.selects RX8 yX8_end yX8_end, Cond.code yX8_end cX8_end 2 (some .int), Cond.methodLink RL 23 yX7_set, Cond.instanceMethod yX7_set, Cond.selects RX7 yX7_set yX7_set, Cond.code yX7_set cX7_set 3 (some .int), Cond.methodLink RX7 68 yX2_setNumber, Cond.instanceMethod yX2_setNumber, Cond.selects RX2 yX2_setNumber yX2_setNumber, Cond.code yX2_setNumber cX2_setNumber 3 (some .int), Cond.constant RX2 54 (65536), Cond.methodLink RX2 55 yX5_fillWithNumber, Cond.instanceMethod yX5_fillWithNumber, Cond.selects RX5 yX5_fillWithNumber yX5_fillWithNumber, Cond.code yX5_fillWithNumber cX5_fillWithNumber 3 none, Cond.methodLink RL 26 yX8_set, Cond.instanceMethod yX8_set, Cond.selects RX8 yX8_set yX8_set, Cond.code yX8_set cX8_set 3 (some .int), Cond.methodLink RL 27 yX7_copy, Cond.instanceMethod yX7_copy, Cond.selects RX7 yX7_copy yX7_copy, Cond.code yX7_copy cX7_copy 3 (some .int)]
def wsL_law_r17 : List Cond := [Cond.methodLink RX7 71 yX2_copyRegister, Cond.instanceMethod yX2_copyRegister, Cond.selects RX2 yX2_copyRegister yX2_copyRegister, Cond.code yX2_copyRegister cX2_copyRegister 4 (some .int), Cond.methodLink RX2 65 yX5_fillRegister, Cond.methodLink RL 30 yX8_copy, Cond.instanceMethod yX8_copy, Cond.selects RX8 yX8_copy yX8_copy, Cond.code yX8_copy cX8_copy 3 (some .int), Cond.methodLink RL 31 yX7_move, Cond.instanceMethod yX7_move, Cond.selects RX7 yX7_move yX7_move, Cond.code yX7_move cX7_move 3 (some .int), Cond.methodLink RX7 74 yX2_moveRegister, Cond.instanceMethod yX2_moveRegister, Cond.selects RX2 yX2_moveRegister yX2_moveRegister, Cond.code yX2_moveRegister cX2_moveRegister 4 (some .int), Cond.methodLink RX2 72 yX2_moveNumber, Cond.instanceMethod yX2_moveNumber, Cond.selects RX2 yX2_moveNumber yX2_moveNumber, Cond.code yX2_moveNumber cX2_moveNumber 4 (some .int), Cond.methodLink RX2 79 yJ9_floorMod_7cf53, Cond.methodLink RX2 76 yX2_movePointer, Cond.instanceMethod yX2_movePointer]
def wsL_law_r18 : List Cond := [Cond.selects RX2 yX2_movePointer yX2_movePointer, Cond.code yX2_movePointer cX2_movePointer 5 (some .int), Cond.methodLink RX2 87 yX5_sizeOf, Cond.instanceMethod yX5_sizeOf, Cond.selects RX5 yX5_sizeOf yX5_sizeOf, Cond.code yX5_sizeOf cX5_sizeOf 2 (some .int), Cond.methodLink RL 34 yX8_move, Cond.instanceMethod yX8_move, Cond.selects RX8 yX8_move yX8_move, Cond.code yX8_move cX8_move 3 (some .int), Cond.methodLink RL 35 yX7_store, Cond.instanceMethod yX7_store, Cond.selects RX7 yX7_store yX7_store, Cond.code yX7_store cX7_store 4 (some .int), Cond.methodLink RX7 77 yX2_storeBytes, Cond.instanceMethod yX2_storeBytes, Cond.selects RX2 yX2_storeBytes yX2_storeBytes, Cond.code yX2_storeBytes cX2_storeBytes 8 (some .int), Cond.methodLink RX2 90 yX2_faultForWriting, Cond.instanceMethod yX2_faultForWriting, Cond.selects RX2 yX2_faultForWriting yX2_faultForWriting, Cond.code yX2_faultForWriting cX2_faultForWriting 4 (some .int), Cond.methodLink RX2 160 yX2_hasBytes, Cond.instanceMethod yX2_hasBytes]
def wsL_law_r19 : List Cond := [Cond.selects RX2 yX2_hasBytes yX2_hasBytes, Cond.code yX2_hasBytes cX2_hasBytes 3 (some .boolean), Cond.methodLink RX2 93 yX2_splitPointers, Cond.instanceMethod yX2_splitPointers, Cond.selects RX2 yX2_splitPointers yX2_splitPointers, Cond.code yX2_splitPointers cX2_splitPointers 4 none, Cond.methodLink RX2 108 yX5_cellAt, Cond.instanceMethod yX5_cellAt, Cond.selects RX5 yX5_cellAt yX5_cellAt, Cond.code yX5_cellAt cX5_cellAt 3 (some .int), Cond.methodLink RX2 102 yX5_putCell, Cond.static yX7_isPointerCode, Cond.code yX7_isPointerCode cX7_isPointerCode 1 (some .boolean), Cond.methodLink RX2 96 yX2_putValue, Cond.instanceMethod yX2_putValue, Cond.selects RX2 yX2_putValue yX2_putValue, Cond.code yX2_putValue cX2_putValue 6 none, Cond.static yX7_pointerCode, Cond.code yX7_pointerCode cX7_pointerCode 2 (some .int), Cond.methodLink RL 39 yX8_store, Cond.instanceMethod yX8_store, Cond.selects RX8 yX8_store yX8_store, Cond.code yX8_store cX8_store 4 (some .int), Cond.methodLink RL 40 yX7_load]
def wsL_law_r20 : List Cond := [Cond.instanceMethod yX7_load, Cond.selects RX7 yX7_load yX7_load, Cond.code yX7_load cX7_load 4 (some .int), Cond.methodLink RX7 81 yX2_loadBytes, Cond.instanceMethod yX2_loadBytes, Cond.selects RX2 yX2_loadBytes yX2_loadBytes, Cond.code yX2_loadBytes cX2_loadBytes 7 (some .int), Cond.methodLink RX2 105 yX2_faultForReading, Cond.instanceMethod yX2_faultForReading, Cond.selects RX2 yX2_faultForReading yX2_faultForReading, Cond.code yX2_faultForReading cX2_faultForReading 4 (some .int), Cond.static yX7_blockOfCode, Cond.code yX7_blockOfCode cX7_blockOfCode 1 (some .int), Cond.static yX7_offsetOfCode, Cond.code yX7_offsetOfCode cX7_offsetOfCode 1 (some .int), Cond.methodLink RL 43 yX8_load, Cond.instanceMethod yX8_load, Cond.selects RX8 yX8_load yX8_load, Cond.code yX8_load cX8_load 4 (some .int), Cond.methodLink RL 44 yX7_compare, Cond.instanceMethod yX7_compare, Cond.selects RX7 yX7_compare yX7_compare, Cond.code yX7_compare cX7_compare 3 (some .int), Cond.methodLink RX7 84 yX2_compareRegisters]
def wsL_law_r21 : List Cond := [Cond.instanceMethod yX2_compareRegisters, Cond.selects RX2 yX2_compareRegisters yX2_compareRegisters, Cond.code yX2_compareRegisters cX2_compareRegisters 4 (some .int), Cond.methodLink RX2 120 yX2_order, Cond.static yX2_order, Cond.code yX2_order cX2_order 2 (some .int), Cond.methodLink RL 47 yX8_compare, Cond.instanceMethod yX8_compare, Cond.selects RX8 yX8_compare yX8_compare, Cond.code yX8_compare cX8_compare 3 (some .int), Cond.methodLink RX8 171 yX8_comparesTo, Cond.instanceMethod yX8_comparesTo, Cond.selects RX8 yX8_comparesTo yX8_comparesTo, Cond.code yX8_comparesTo cX8_comparesTo 6 (some .int), Cond.methodLink RL 48 yX7_blit, Cond.instanceMethod yX7_blit, Cond.selects RX7 yX7_blit yX7_blit, Cond.code yX7_blit cX7_blit 4 (some .int), Cond.methodLink RX7 90 yX2_blitBytes, Cond.instanceMethod yX2_blitBytes, Cond.selects RX2 yX2_blitBytes yX2_blitBytes, Cond.code yX2_blitBytes cX2_blitBytes 5 (some .int), Cond.methodLink RX2 126 yX2_cutsPointer, Cond.instanceMethod yX2_cutsPointer]
def wsL_law_r22 : List Cond := [Cond.selects RX2 yX2_cutsPointer yX2_cutsPointer, Cond.code yX2_cutsPointer cX2_cutsPointer 4 (some .boolean), Cond.methodLink RX2 130 yX2_carryBytes, Cond.instanceMethod yX2_carryBytes, Cond.selects RX2 yX2_carryBytes yX2_carryBytes, Cond.code yX2_carryBytes cX2_carryBytes 7 none, Cond.methodLink RL 51 yX8_blit, Cond.instanceMethod yX8_blit, Cond.selects RX8 yX8_blit yX8_blit, Cond.code yX8_blit cX8_blit 4 (some .int), Cond.methodLink RL 52 yX7_freeze, Cond.instanceMethod yX7_freeze, Cond.selects RX7 yX7_freeze yX7_freeze, Cond.code yX7_freeze cX7_freeze 2 (some .int), Cond.methodLink RX7 93 yX2_freezeBlocks, Cond.instanceMethod yX2_freezeBlocks, Cond.selects RX2 yX2_freezeBlocks yX2_freezeBlocks, Cond.code yX2_freezeBlocks cX2_freezeBlocks 4 (some .int), Cond.fieldLink RX2 151 "FrozenImages$State" "images" "I", Cond.methodLink RX2 133 yX0_reach, Cond.instanceMethod yX0_reach, Cond.selects RX0 yX0_reach yX0_reach, Cond.code yX0_reach cX0_reach 4 (some .int), Cond.fieldLink RX0 25 "FrozenImages$Album" "reached" "I"]
def wsL_law_r23 : List Cond := [Cond.methodLink RX0 29 yX0_addReached, Cond.instanceMethod yX0_addReached, Cond.selects RX0 yX0_addReached yX0_addReached, Cond.code yX0_addReached cX0_addReached 3 none, Cond.methodLink RX0 33 yX0_addTargets, Cond.instanceMethod yX0_addTargets, Cond.selects RX0 yX0_addTargets yX0_addTargets, Cond.code yX0_addTargets cX0_addTargets 5 none, Cond.methodLink RX0 37 yX5_sizeOf, Cond.methodLink RX0 43 yX5_cellAt, Cond.methodLink RX2 139 yX0_allReachedLive, Cond.instanceMethod yX0_allReachedLive, Cond.selects RX0 yX0_allReachedLive yX0_allReachedLive, Cond.code yX0_allReachedLive cX0_allReachedLive 3 (some .boolean), Cond.methodLink RX0 54 yX5_isLive, Cond.methodLink RX2 143 yX0_draw, Cond.instanceMethod yX0_draw, Cond.selects RX0 yX0_draw yX0_draw, Cond.code yX0_draw cX0_draw 6 none, Cond.fieldLink RX0 60 "FrozenImages$State" "images" "I", Cond.methodLink RX0 62 yX0_imageAt, Cond.instanceMethod yX0_imageAt, Cond.selects RX0 yX0_imageAt yX0_imageAt, Cond.code yX0_imageAt cX0_imageAt 2 (some (.object "FrozenImages$Image"))]
def wsL_law_r24 : List Cond := [Cond.methodLink RX0 66 yX1_begin, Cond.instanceMethod yX1_begin, Cond.selects RX1 yX1_begin yX1_begin, Cond.code yX1_begin cX1_begin 1 none, Cond.fieldLink RX1 18 "FrozenImages$Image" "nodes" "I", Cond.methodLink RX0 69 yX1_addNode, Cond.instanceMethod yX1_addNode, Cond.selects RX1 yX1_addNode yX1_addNode, Cond.code yX1_addNode cX1_addNode 2 none, Cond.methodLink RX0 72 yX0_codeInImage, Cond.instanceMethod yX0_codeInImage, Cond.selects RX0 yX0_codeInImage yX0_codeInImage, Cond.code yX0_codeInImage cX0_codeInImage 4 (some .int), Cond.methodLink RX0 75 yX1_putCell, Cond.instanceMethod yX1_putCell, Cond.selects RX1 yX1_putCell yX1_putCell, Cond.code yX1_putCell cX1_putCell 4 none, Cond.methodLink RX2 147 yX0_indexOfDrawn, Cond.instanceMethod yX0_indexOfDrawn, Cond.selects RX0 yX0_indexOfDrawn yX0_indexOfDrawn, Cond.code yX0_indexOfDrawn cX0_indexOfDrawn 4 (some .int), Cond.methodLink RX0 79 yX1_isSameAs, Cond.instanceMethod yX1_isSameAs, Cond.selects RX1 yX1_isSameAs yX1_isSameAs]
def wsL_law_r25 : List Cond := [Cond.code yX1_isSameAs cX1_isSameAs 3 (some .boolean), Cond.methodLink RX2 154 yX0_markReachedConstant, Cond.instanceMethod yX0_markReachedConstant, Cond.selects RX0 yX0_markReachedConstant yX0_markReachedConstant, Cond.code yX0_markReachedConstant cX0_markReachedConstant 3 none, Cond.methodLink RX0 57 yX5_markConstant, Cond.instanceMethod yX5_markConstant, Cond.selects RX5 yX5_markConstant yX5_markConstant, Cond.code yX5_markConstant cX5_markConstant 2 none, Cond.methodLink RL 55 yX8_freeze, Cond.instanceMethod yX8_freeze, Cond.selects RX8 yX8_freeze yX8_freeze, Cond.code yX8_freeze cX8_freeze 2 (some .int), Cond.methodLink RL 56 yX7_forget, Cond.instanceMethod yX7_forget, Cond.selects RX7 yX7_forget yX7_forget, Cond.code yX7_forget cX7_forget 2 (some .int), Cond.methodLink RX7 96 yX2_forgetRegister, Cond.instanceMethod yX2_forgetRegister, Cond.selects RX2 yX2_forgetRegister yX2_forgetRegister, Cond.code yX2_forgetRegister cX2_forgetRegister 3 (some .int), Cond.methodLink RL 59 yX8_forget, Cond.instanceMethod yX8_forget, Cond.selects RX8 yX8_forget yX8_forget]
def wsL_law_r26 : List Cond := [Cond.code yX8_forget cX8_forget 3 (some .int), Cond.methodLink RX8 174 yX8_bad, Cond.instanceMethod yX8_bad, Cond.selects RX8 yX8_bad yX8_bad, Cond.code yX8_bad cX8_bad 1 (some .int), Cond.methodLink RL 60 yX7_budget, Cond.instanceMethod yX7_budget, Cond.selects RX7 yX7_budget yX7_budget, Cond.code yX7_budget cX7_budget 2 (some .int), Cond.methodLink RX7 99 yX2_changeBudget, Cond.instanceMethod yX2_changeBudget, Cond.selects RX2 yX2_changeBudget yX2_changeBudget, Cond.code yX2_changeBudget cX2_changeBudget 3 (some .int), Cond.fieldLink RX2 69 "FrozenImages$State" "budget" "I", Cond.methodLink RL 63 yX8_budget, Cond.instanceMethod yX8_budget, Cond.selects RX8 yX8_budget yX8_budget, Cond.code yX8_budget cX8_budget 3 (some .int), Cond.methodLink RL 64 yX7_register, Cond.instanceMethod yX7_register, Cond.selects RX7 yX7_register yX7_register, Cond.code yX7_register cX7_register 3 (some .int), Cond.methodLink RX7 102 yX5_registerProperty, Cond.instanceMethod yX5_registerProperty]
def wsL_law_r27 : List Cond := [Cond.selects RX5 yX5_registerProperty yX5_registerProperty, Cond.code yX5_registerProperty cX5_registerProperty 3 (some .int), Cond.methodLink RL 67 yX8_register, Cond.instanceMethod yX8_register, Cond.selects RX8 yX8_register yX8_register, Cond.code yX8_register cX8_register 3 (some .int), Cond.methodLink RX8 177 yX8_ofRegister, Cond.instanceMethod yX8_ofRegister, Cond.selects RX8 yX8_ofRegister yX8_ofRegister, Cond.code yX8_ofRegister cX8_ofRegister 3 (some .int), Cond.methodLink RL 68 yX7_piece, Cond.instanceMethod yX7_piece, Cond.selects RX7 yX7_piece yX7_piece, Cond.code yX7_piece cX7_piece 3 (some .int), Cond.methodLink RX7 105 yX5_isBlock, Cond.instanceMethod yX5_isBlock, Cond.selects RX5 yX5_isBlock yX5_isBlock, Cond.code yX5_isBlock cX5_isBlock 2 (some .boolean), Cond.methodLink RX7 109 yX0_reach, Cond.methodLink RX7 113 yX5_blockProperty, Cond.instanceMethod yX5_blockProperty, Cond.selects RX5 yX5_blockProperty yX5_blockProperty, Cond.code yX5_blockProperty cX5_blockProperty 3 (some .int), Cond.methodLink RX5 64 yX5_isBlock]
def wsL_law_r28 : List Cond := [Cond.methodLink RX5 67 yX5_uninitializedIn, Cond.instanceMethod yX5_uninitializedIn, Cond.selects RX5 yX5_uninitializedIn yX5_uninitializedIn, Cond.code yX5_uninitializedIn cX5_uninitializedIn 4 (some .int), Cond.methodLink RX5 74 yX5_sizeOf, Cond.methodLink RX5 77 yX5_cellAt, Cond.methodLink RX5 71 yX5_pointersIn, Cond.instanceMethod yX5_pointersIn, Cond.selects RX5 yX5_pointersIn yX5_pointersIn, Cond.code yX5_pointersIn cX5_pointersIn 4 (some .int), Cond.methodLink RL 71 yX8_piece, Cond.instanceMethod yX8_piece, Cond.selects RX8 yX8_piece yX8_piece, Cond.code yX8_piece cX8_piece 3 (some .int), Cond.methodLink RX8 187 yX8_isPiece, Cond.instanceMethod yX8_isPiece, Cond.selects RX8 yX8_isPiece yX8_isPiece, Cond.code yX8_isPiece cX8_isPiece 2 (some .boolean), Cond.methodLink RX8 190 yX8_ofPiece, Cond.instanceMethod yX8_ofPiece, Cond.selects RX8 yX8_ofPiece yX8_ofPiece, Cond.code yX8_ofPiece cX8_ofPiece 3 (some .int), Cond.methodLink RX8 180 yX8_bytesOf, Cond.instanceMethod yX8_bytesOf]
def wsL_law_r29 : List Cond := [Cond.selects RX8 yX8_bytesOf yX8_bytesOf, Cond.code yX8_bytesOf cX8_bytesOf 6 (some .int), Cond.methodLink RX8 184 yX8_reachedOf, Cond.instanceMethod yX8_reachedOf, Cond.selects RX8 yX8_reachedOf yX8_reachedOf, Cond.code yX8_reachedOf cX8_reachedOf 2 (some .int), Cond.methodLink RL 72 yX7_at, Cond.instanceMethod yX7_at, Cond.selects RX7 yX7_at yX7_at, Cond.code yX7_at cX7_at 4 (some .int), Cond.methodLink RX7 116 yX5_sizeOf, Cond.methodLink RX7 119 yX5_cellAt, Cond.methodLink RL 75 yX8_at, Cond.instanceMethod yX8_at, Cond.selects RX8 yX8_at yX8_at, Cond.code yX8_at cX8_at 3 (some .int), Cond.methodLink RL 76 yX7_image, Cond.instanceMethod yX7_image, Cond.selects RX7 yX7_image yX7_image, Cond.code yX7_image cX7_image 3 (some .int), Cond.methodLink RX7 122 yX5_isImage, Cond.instanceMethod yX5_isImage, Cond.selects RX5 yX5_isImage yX5_isImage, Cond.code yX5_isImage cX5_isImage 2 (some .boolean)]
def wsL_law_r30 : List Cond := [Cond.methodLink RX7 125 yX0_imageAt, Cond.methodLink RX7 129 yX1_property, Cond.instanceMethod yX1_property, Cond.selects RX1 yX1_property yX1_property, Cond.code yX1_property cX1_property 6 (some .int), Cond.methodLink RX1 22 yX1_sizeOf, Cond.instanceMethod yX1_sizeOf, Cond.selects RX1 yX1_sizeOf yX1_sizeOf, Cond.code yX1_sizeOf cX1_sizeOf 2 (some .int), Cond.methodLink RX1 26 yX1_cellAt, Cond.instanceMethod yX1_cellAt, Cond.selects RX1 yX1_cellAt yX1_cellAt, Cond.code yX1_cellAt cX1_cellAt 3 (some .int), Cond.methodLink RL 79 yX8_image, Cond.instanceMethod yX8_image, Cond.selects RX8 yX8_image yX8_image, Cond.code yX8_image cX8_image 3 (some .int), Cond.methodLink RX8 193 yX8_isImage, Cond.instanceMethod yX8_isImage, Cond.selects RX8 yX8_isImage yX8_isImage, Cond.code yX8_isImage cX8_isImage 2 (some .boolean), Cond.methodLink RX8 196 yX8_ofImage, Cond.instanceMethod yX8_ofImage, Cond.selects RX8 yX8_ofImage yX8_ofImage]
def wsL_law_r31 : List Cond := [Cond.code yX8_ofImage cX8_ofImage 8 (some .int), Cond.methodLink RL 80 yX7_imaged, Cond.instanceMethod yX7_imaged, Cond.selects RX7 yX7_imaged yX7_imaged, Cond.code yX7_imaged cX7_imaged 5 (some .int), Cond.methodLink RX7 134 yX1_isNode, Cond.instanceMethod yX1_isNode, Cond.selects RX1 yX1_isNode yX1_isNode, Cond.code yX1_isNode cX1_isNode 2 (some .boolean), Cond.methodLink RX7 137 yX1_sizeOf, Cond.methodLink RX7 138 yX1_cellAt, Cond.methodLink RL 83 yX8_imaged, Cond.instanceMethod yX8_imaged, Cond.selects RX8 yX8_imaged yX8_imaged, Cond.code yX8_imaged cX8_imaged 5 (some .int), Cond.methodLink RL 84 yX7_like, Cond.instanceMethod yX7_like, Cond.selects RX7 yX7_like yX7_like, Cond.code yX7_like cX7_like 3 (some .int), Cond.fieldLink RX7 150 "FrozenImages$State" "images" "I", Cond.methodLink RX7 139 yX0_allReachedLive, Cond.methodLink RX7 143 yX0_draw, Cond.methodLink RX7 146 yX0_indexOfDrawn, Cond.methodLink RL 87 yX8_like]
def wsL_law_r32 : List Cond := [Cond.instanceMethod yX8_like, Cond.selects RX8 yX8_like yX8_like, Cond.code yX8_like cX8_like 2 (some .int), Cond.methodLink RL 88 yX7_count, Cond.instanceMethod yX7_count, Cond.selects RX7 yX7_count yX7_count, Cond.code yX7_count cX7_count 2 (some .int), Cond.methodLink RX7 154 yX7_counted, Cond.instanceMethod yX7_counted, Cond.selects RX7 yX7_counted yX7_counted, Cond.code yX7_counted cX7_counted 2 (some .int), Cond.fieldLink RX7 192 "FrozenImages$State" "blocks" "I", Cond.fieldLink RX7 170 "FrozenImages$State" "budget" "I", Cond.fieldLink RX7 209 "FrozenImages$Tally" "bad" "I", Cond.fieldLink RX7 212 "FrozenImages$Tally" "no" "I", Cond.fieldLink RX7 215 "FrozenImages$Tally" "full" "I", Cond.fieldLink RX7 221 "FrozenImages$Program" "length" "I", Cond.fieldLink RX7 224 "FrozenImages$Past" "saved" "I", Cond.methodLink RX7 206 yX5_liveBlocks, Cond.instanceMethod yX5_liveBlocks, Cond.selects RX5 yX5_liveBlocks yX5_liveBlocks, Cond.code yX5_liveBlocks cX5_liveBlocks 3 (some .int), Cond.methodLink RX5 61 yX5_isLive, Cond.methodLink RX7 218 yX6_ofAllReasons]
def wsL_law_r33 : List Cond := [Cond.instanceMethod yX6_ofAllReasons, Cond.selects RX6 yX6_ofAllReasons yX6_ofAllReasons, Cond.code yX6_ofAllReasons cX6_ofAllReasons 3 (some .int), Cond.methodLink RL 91 yX8_count, Cond.instanceMethod yX8_count, Cond.selects RX8 yX8_count yX8_count, Cond.code yX8_count cX8_count 2 (some .int), Cond.methodLink RX8 205 yX8_countOf, Cond.instanceMethod yX8_countOf, Cond.selects RX8 yX8_countOf yX8_countOf, Cond.code yX8_countOf cX8_countOf 2 (some .int), Cond.fieldLink RX8 202 "FrozenImagesModel" "bytes" "I", Cond.methodLink RX8 199 yX8_livePieces, Cond.instanceMethod yX8_livePieces, Cond.selects RX8 yX8_livePieces yX8_livePieces, Cond.code yX8_livePieces cX8_livePieces 3 (some .int), Cond.methodLink RL 92 yX7_undefined, Cond.instanceMethod yX7_undefined, Cond.selects RX7 yX7_undefined yX7_undefined, Cond.code yX7_undefined cX7_undefined 2 (some .int), Cond.methodLink RX7 157 yX6_ofReason, Cond.instanceMethod yX6_ofReason, Cond.selects RX6 yX6_ofReason yX6_ofReason, Cond.code yX6_ofReason cX6_ofReason 2 (some .int)]
def wsL_law_r34 : List Cond := [Cond.methodLink RL 95 yX8_undefined, Cond.instanceMethod yX8_undefined, Cond.selects RX8 yX8_undefined yX8_undefined, Cond.code yX8_undefined cX8_undefined 2 (some .int), Cond.methodLink RL 96 yX7_type, Cond.instanceMethod yX7_type, Cond.selects RX7 yX7_type yX7_type, Cond.code yX7_type cX7_type 2 (some .int), Cond.methodLink RX7 160 yX4_append, Cond.instanceMethod yX4_append, Cond.selects RX4 yX4_append yX4_append, Cond.code yX4_append cX4_append 2 (some .int), Cond.fieldLink RX4 21 "FrozenImages$Program" "length" "I", Cond.methodLink RL 99 yX8_type, Cond.instanceMethod yX8_type, Cond.selects RX8 yX8_type yX8_type, Cond.code yX8_type cX8_type 2 (some .int), Cond.methodLink RL 100 yX7_clear, Cond.instanceMethod yX7_clear, Cond.selects RX7 yX7_clear yX7_clear, Cond.code yX7_clear cX7_clear 1 (some .int), Cond.methodLink RX7 163 yX4_empty, Cond.instanceMethod yX4_empty, Cond.selects RX4 yX4_empty yX4_empty]
def wsL_law_r35 : List Cond := [Cond.code yX4_empty cX4_empty 2 (some .int), Cond.methodLink RL 104 yX8_clear, Cond.instanceMethod yX8_clear, Cond.selects RX8 yX8_clear yX8_clear, Cond.code yX8_clear cX8_clear 2 (some .int), Cond.methodLink RL 105 yX7_does, Cond.instanceMethod yX7_does, Cond.selects RX7 yX7_does yX7_does, Cond.code yX7_does cX7_does 3 (some .int), Cond.methodLink RX7 167 yX4_parse, Cond.instanceMethod yX4_parse, Cond.selects RX4 yX4_parse yX4_parse, Cond.code yX4_parse cX4_parse 2 (some .int), Cond.fieldLink RX4 25 "FrozenImages$Program" "size" "I", Cond.fieldLink RX4 28 "FrozenImages$Program" "letter" "I", Cond.methodLink RX4 31 yX4_accepts, Cond.instanceMethod yX4_accepts, Cond.selects RX4 yX4_accepts yX4_accepts, Cond.code yX4_accepts cX4_accepts 2 (some .boolean), Cond.fieldLink RX4 41 "FrozenImages$Program" "afterMinus" "Z", Cond.fieldLink RX4 45 "FrozenImages$Program" "digits" "I", Cond.methodLink RX4 35 yX4_acceptsLetter, Cond.instanceMethod yX4_acceptsLetter, Cond.selects RX4 yX4_acceptsLetter yX4_acceptsLetter]
def wsL_law_r36 : List Cond := [Cond.code yX4_acceptsLetter cX4_acceptsLetter 2 (some .boolean), Cond.fieldLink RX4 59 "FrozenImages$Program" "given" "I", Cond.methodLink RX4 55 yX4_operandsOf, Cond.static yX4_operandsOf, Cond.code yX4_operandsOf cX4_operandsOf 1 (some .int), Cond.methodLink RX4 38 yX4_acceptsDigit, Cond.instanceMethod yX4_acceptsDigit, Cond.selects RX4 yX4_acceptsDigit yX4_acceptsDigit, Cond.code yX4_acceptsDigit cX4_acceptsDigit 2 (some .boolean), Cond.fieldLink RX4 62 "FrozenImages$Program" "sign" "I", Cond.methodLink RX4 65 yX4_putOperand, Cond.instanceMethod yX4_putOperand, Cond.selects RX4 yX4_putOperand yX4_putOperand, Cond.code yX4_putOperand cX4_putOperand 3 none, Cond.methodLink RX4 69 yX4_operand, Cond.instanceMethod yX4_operand, Cond.selects RX4 yX4_operand yX4_operand, Cond.code yX4_operand cX4_operand 4 (some .int), Cond.methodLink RX4 48 yX4_acceptsMinus, Cond.instanceMethod yX4_acceptsMinus, Cond.selects RX4 yX4_acceptsMinus yX4_acceptsMinus, Cond.code yX4_acceptsMinus cX4_acceptsMinus 1 (some .boolean), Cond.methodLink RX4 52 yX4_acceptsSemicolon, Cond.instanceMethod yX4_acceptsSemicolon]
def wsL_law_r37 : List Cond := [Cond.selects RX4 yX4_acceptsSemicolon yX4_acceptsSemicolon, Cond.code yX4_acceptsSemicolon cX4_acceptsSemicolon 1 (some .boolean), Cond.methodLink RX7 173 yX4_run, Cond.instanceMethod yX4_run, Cond.selects RX4 yX4_run yX4_run, Cond.code yX4_run cX4_run 6 (some .int), Cond.methodLink RX4 73 yX4_carryOut, Cond.instanceMethod yX4_carryOut, Cond.selects RX4 yX4_carryOut yX4_carryOut, Cond.code yX4_carryOut cX4_carryOut 6 (some .int), Cond.methodLink RX4 80 yX4_letterOf, Cond.instanceMethod yX4_letterOf, Cond.selects RX4 yX4_letterOf yX4_letterOf, Cond.code yX4_letterOf cX4_letterOf 2 (some .int), Cond.methodLink RX4 83 yX2_makeBlock, Cond.methodLink RX4 88 yX2_endBlock, Cond.methodLink RX4 91 yX2_setNumber, Cond.methodLink RX4 94 yX2_copyRegister, Cond.methodLink RX4 97 yX2_moveRegister, Cond.methodLink RX4 100 yX2_storeBytes, Cond.methodLink RX4 104 yX2_loadBytes, Cond.methodLink RX4 107 yX2_compareInto, Cond.instanceMethod yX2_compareInto, Cond.selects RX2 yX2_compareInto yX2_compareInto]
def wsL_law_r38 : List Cond := [Cond.code yX2_compareInto cX2_compareInto 5 (some .int), Cond.methodLink RX2 123 yX2_compareRegisters, Cond.methodLink RX4 110 yX2_blitBytes, Cond.methodLink RX4 113 yX2_freezeBlocks, Cond.methodLink RX4 116 yX2_jumps, Cond.instanceMethod yX2_jumps, Cond.selects RX2 yX2_jumps yX2_jumps, Cond.code yX2_jumps cX2_jumps 3 (some .int), Cond.methodLink RX4 77 yX4_failure, Cond.static yX4_failure, Cond.code yX4_failure cX4_failure 3 (some .int), Cond.methodLink RX7 180 yX3_undo, Cond.instanceMethod yX3_undo, Cond.selects RX3 yX3_undo yX3_undo, Cond.code yX3_undo cX3_undo 2 none, Cond.methodLink RL 108 yX8_does, Cond.instanceMethod yX8_does, Cond.selects RX8 yX8_does yX8_does, Cond.code yX8_does cX8_does 3 (some .int), Cond.fieldLink RX8 214 "FrozenImagesModel" "wrongAt" "I", Cond.methodLink RX8 248 yX8_isRead, Cond.instanceMethod yX8_isRead, Cond.selects RX8 yX8_isRead yX8_isRead, Cond.code yX8_isRead cX8_isRead 1 (some .boolean)]
def wsL_law_r39 : List Cond := [Cond.fieldLink RX8 208 "FrozenImagesModel" "spot" "I", Cond.fieldLink RX8 226 "FrozenImagesModel" "orders" "I", Cond.methodLink RX8 217 yX8_blanks, Cond.instanceMethod yX8_blanks, Cond.selects RX8 yX8_blanks yX8_blanks, Cond.code yX8_blanks cX8_blanks 1 none, Cond.methodLink RX8 211 yX8_isAt, Cond.instanceMethod yX8_isAt, Cond.selects RX8 yX8_isAt yX8_isAt, Cond.code yX8_isAt cX8_isAt 3 (some .boolean), Cond.methodLink RX8 233 yX8_takesOrder, Cond.instanceMethod yX8_takesOrder, Cond.selects RX8 yX8_takesOrder yX8_takesOrder, Cond.code yX8_takesOrder cX8_takesOrder 4 (some .boolean), Cond.methodLink RX8 223 yX8_manyOf, Cond.static yX8_manyOf, Cond.code yX8_manyOf cX8_manyOf 1 (some .int), Cond.methodLink RX8 220 yX8_fails, Cond.instanceMethod yX8_fails, Cond.selects RX8 yX8_fails yX8_fails, Cond.code yX8_fails cX8_fails 2 (some .boolean), Cond.methodLink RX8 229 yX8_takesNumber, Cond.instanceMethod yX8_takesNumber, Cond.selects RX8 yX8_takesNumber yX8_takesNumber]
def wsL_law_r40 : List Cond := [Cond.code yX8_takesNumber cX8_takesNumber 6 (some .boolean), Cond.methodLink RX8 251 yX8_goes, Cond.instanceMethod yX8_goes, Cond.selects RX8 yX8_goes yX8_goes, Cond.code yX8_goes cX8_goes 4 (some .int), Cond.fieldLink RX8 236 "FrozenImagesModel" "next" "I", Cond.methodLink RX8 242 yX8_steps, Cond.instanceMethod yX8_steps, Cond.selects RX8 yX8_steps yX8_steps, Cond.code yX8_steps cX8_steps 6 (some .int), Cond.methodLink RX8 239 yX8_jumps, Cond.instanceMethod yX8_jumps, Cond.selects RX8 yX8_jumps yX8_jumps, Cond.code yX8_jumps cX8_jumps 3 (some .int), Cond.methodLink RX8 245 yX8_toldAs, Cond.static yX8_toldAs, Cond.code yX8_toldAs cX8_toldAs 2 (some .int), Cond.methodLink RL 109 yX7_back, Cond.instanceMethod yX7_back, Cond.selects RX7 yX7_back yX7_back, Cond.code yX7_back cX7_back 1 (some .int), Cond.methodLink RX7 183 yX3_bringBack, Cond.instanceMethod yX3_bringBack, Cond.selects RX3 yX3_bringBack yX3_bringBack]
def wsL_law_r41 : List Cond := [Cond.code yX3_bringBack cX3_bringBack 2 (some .int), Cond.methodLink RL 112 yX8_back, Cond.instanceMethod yX8_back, Cond.selects RX8 yX8_back yX8_back, Cond.code yX8_back cX8_back 2 (some .int), Cond.methodLink RL 113 yX7_digest, Cond.instanceMethod yX7_digest, Cond.selects RX7 yX7_digest yX7_digest, Cond.code yX7_digest cX7_digest 5 (some .long), Cond.constantLong RX7 186 (2010), Cond.methodLink RX7 188 yX7_mixed, Cond.static yX7_mixed, Cond.code yX7_mixed cX7_mixed 3 (some .long), Cond.constantLong RX7 204 (31), Cond.methodLink RX7 195 yX7_digestOfBlock, Cond.instanceMethod yX7_digestOfBlock, Cond.selects RX7 yX7_digestOfBlock yX7_digestOfBlock, Cond.code yX7_digestOfBlock cX7_digestOfBlock 7 (some .long), Cond.methodLink RX7 198 yX7_digestOfImage, Cond.instanceMethod yX7_digestOfImage, Cond.selects RX7 yX7_digestOfImage yX7_digestOfImage, Cond.code yX7_digestOfImage cX7_digestOfImage 9 (some .long), Cond.fieldLink RX7 201 "FrozenImages$Image" "nodes" "I", Cond.methodLink RL 117 yX8_digest]
def wsL_law_r42 : List Cond := [Cond.instanceMethod yX8_digest, Cond.selects RX8 yX8_digest yX8_digest, Cond.code yX8_digest cX8_digest 3 (some .long), Cond.constantLong RX8 264 (2010), Cond.fieldLink RX8 256 "FrozenImagesModel" "hash" "J", Cond.methodLink RX8 260 yX8_mix, Cond.instanceMethod yX8_mix, Cond.selects RX8 yX8_mix yX8_mix, Cond.code yX8_mix cX8_mix 3 none, Cond.constantLong RX8 254 (31), Cond.methodLink RX8 266 yX8_mixImage, Cond.instanceMethod yX8_mixImage, Cond.selects RX8 yX8_mixImage yX8_mixImage, Cond.code yX8_mixImage cX8_mixImage 5 none]
def wsL_law : List Cond := (wsL_law_r1 ++ (wsL_law_r2 ++ (wsL_law_r3 ++ (wsL_law_r4 ++ (wsL_law_r5 ++ (wsL_law_r6 ++ (wsL_law_r7 ++ (wsL_law_r8 ++ (wsL_law_r9 ++ (wsL_law_r10 ++ (wsL_law_r11 ++ (wsL_law_r12 ++ (wsL_law_r13 ++ (wsL_law_r14 ++ (wsL_law_r15 ++ (wsL_law_r16 ++ (wsL_law_r17 ++ (wsL_law_r18 ++ (wsL_law_r19 ++ (wsL_law_r20 ++ (wsL_law_r21 ++ (wsL_law_r22 ++ (wsL_law_r23 ++ (wsL_law_r24 ++ (wsL_law_r25 ++ (wsL_law_r26 ++ (wsL_law_r27 ++ (wsL_law_r28 ++ (wsL_law_r29 ++ (wsL_law_r30 ++ (wsL_law_r31 ++ (wsL_law_r32 ++ (wsL_law_r33 ++ (wsL_law_r34 ++ (wsL_law_r35 ++ (wsL_law_r36 ++ (wsL_law_r37 ++ (wsL_law_r38 ++ (wsL_law_r39 ++ (wsL_law_r40 ++ (wsL_law_r41 ++ wsL_law_r42))))))))))))))))))))))))))))))))))))))))) ++ wsX70 ++ wsX80 ++ wsX50 ++ wsX00 ++ wsX20 ++ wsX40 ++ wsX30 ++ wsX60 ++ wsX10 ++ ([] : List Cond)
abbrev vwCl : List vw_C := [(RX0, TX0, 4), (RX1, TX1, 3), (RX2, TX2, 3), (RX3, TX3, 3), (RX4, TX4, 10), (RX5, TX5, 10), (RX6, TX6, 4), (RX7, TX7, 6), (RX8, TX8, 19)]
end
section
theorem dX0_init_0 : decode cX0_init 0 = .ok (.aload_n 0, 1) := by decide +kernel
theorem dX0_init_1 : decode cX0_init 1 = .ok (.invokespecial 3, 3) := by decide +kernel
theorem dX0_init_4 : decode cX0_init 4 = .ok (.aload_n 0, 1) := by decide +kernel
theorem dX0_init_5 : decode cX0_init 5 = .ok (.bipush 9, 2) := by decide +kernel
theorem dX0_init_7 : decode cX0_init 7 = .ok (.anewarray 9, 3) := by decide +kernel
theorem dX0_init_10 : decode cX0_init 10 = .ok (.putfield 11, 3) := by decide +kernel
theorem dX0_init_13 : decode cX0_init 13 = .ok (.iconst 0, 1) := by decide +kernel
theorem dX0_init_14 : decode cX0_init 14 = .ok (.istore_n 1, 1) := by decide +kernel
theorem dX0_init_15 : decode cX0_init 15 = .ok (.iload_n 1, 1) := by decide +kernel
theorem dX0_init_16 : decode cX0_init 16 = .ok (.bipush 8, 2) := by decide +kernel
theorem dX0_init_18 : decode cX0_init 18 = .ok (.if_icmp .gt 22, 3) := by decide +kernel
theorem dX0_init_21 : decode cX0_init 21 = .ok (.aload_n 0, 1) := by decide +kernel
theorem dX0_init_22 : decode cX0_init 22 = .ok (.getfield 11, 3) := by decide +kernel
theorem dX0_init_25 : decode cX0_init 25 = .ok (.iload_n 1, 1) := by decide +kernel
theorem dX0_init_26 : decode cX0_init 26 = .ok (.new 9, 3) := by decide +kernel
theorem dX0_init_29 : decode cX0_init 29 = .ok (.dup, 1) := by decide +kernel
theorem dX0_init_30 : decode cX0_init 30 = .ok (.invokespecial 17, 3) := by decide +kernel
theorem dX0_init_33 : decode cX0_init 33 = .ok (.aastore, 1) := by decide +kernel
theorem dX0_init_34 : decode cX0_init 34 = .ok (.iinc 1 1, 3) := by decide +kernel
theorem dX0_init_37 : decode cX0_init 37 = .ok (.goto (-22), 3) := by decide +kernel
theorem dX0_init_40 : decode cX0_init 40 = .ok (.aload_n 0, 1) := by decide +kernel
theorem dX0_init_41 : decode cX0_init 41 = .ok (.bipush 10, 2) := by decide +kernel
theorem dX0_init_43 : decode cX0_init 43 = .ok (.newarray .int, 2) := by decide +kernel
theorem dX0_init_45 : decode cX0_init 45 = .ok (.putfield 18, 3) := by decide +kernel
theorem dX0_init_48 : decode cX0_init 48 = .ok (.aload_n 0, 1) := by decide +kernel
theorem dX0_init_49 : decode cX0_init 49 = .ok (.bipush 10, 2) := by decide +kernel
theorem dX0_init_51 : decode cX0_init 51 = .ok (.newarray .int, 2) := by decide +kernel
theorem dX0_init_53 : decode cX0_init 53 = .ok (.putfield 22, 3) := by decide +kernel
theorem dX0_init_56 : decode cX0_init 56 = .ok (.return_, 1) := by decide +kernel
theorem dX0_imageAt_0 : decode cX0_imageAt 0 = .ok (.aload_n 0, 1) := by decide +kernel
theorem dX0_imageAt_1 : decode cX0_imageAt 1 = .ok (.getfield 11, 3) := by decide +kernel
theorem dX0_imageAt_4 : decode cX0_imageAt 4 = .ok (.iload_n 1, 1) := by decide +kernel
theorem dX0_imageAt_5 : decode cX0_imageAt 5 = .ok (.ifCond .lt 13, 3) := by decide +kernel
theorem dX0_imageAt_8 : decode cX0_imageAt 8 = .ok (.iload_n 1, 1) := by decide +kernel
theorem dX0_imageAt_9 : decode cX0_imageAt 9 = .ok (.bipush 8, 2) := by decide +kernel
theorem dX0_imageAt_11 : decode cX0_imageAt 11 = .ok (.if_icmp .gt 7, 3) := by decide +kernel
theorem dX0_imageAt_14 : decode cX0_imageAt 14 = .ok (.iload_n 1, 1) := by decide +kernel
theorem dX0_imageAt_15 : decode cX0_imageAt 15 = .ok (.goto 5, 3) := by decide +kernel
theorem dX0_imageAt_18 : decode cX0_imageAt 18 = .ok (.bipush 8, 2) := by decide +kernel
theorem dX0_imageAt_20 : decode cX0_imageAt 20 = .ok (.aaload, 1) := by decide +kernel
theorem dX0_imageAt_21 : decode cX0_imageAt 21 = .ok (.areturn, 1) := by decide +kernel
theorem dX0_reach_0 : decode cX0_reach 0 = .ok (.iconst 0, 1) := by decide +kernel
theorem dX0_reach_1 : decode cX0_reach 1 = .ok (.istore_n 3, 1) := by decide +kernel
theorem dX0_reach_2 : decode cX0_reach 2 = .ok (.iload_n 3, 1) := by decide +kernel
theorem dX0_reach_3 : decode cX0_reach 3 = .ok (.bipush 10, 2) := by decide +kernel
theorem dX0_reach_5 : decode cX0_reach 5 = .ok (.if_icmp .ge 16, 3) := by decide +kernel
theorem dX0_reach_8 : decode cX0_reach 8 = .ok (.aload_n 0, 1) := by decide +kernel
theorem dX0_reach_9 : decode cX0_reach 9 = .ok (.getfield 22, 3) := by decide +kernel
theorem dX0_reach_12 : decode cX0_reach 12 = .ok (.iload_n 3, 1) := by decide +kernel
theorem dX0_reach_13 : decode cX0_reach 13 = .ok (.iconst (-1), 1) := by decide +kernel
theorem dX0_reach_14 : decode cX0_reach 14 = .ok (.iastore, 1) := by decide +kernel
theorem dX0_reach_15 : decode cX0_reach 15 = .ok (.iinc 3 1, 3) := by decide +kernel
theorem dX0_reach_18 : decode cX0_reach 18 = .ok (.goto (-16), 3) := by decide +kernel
theorem dX0_reach_21 : decode cX0_reach 21 = .ok (.aload_n 0, 1) := by decide +kernel
theorem dX0_reach_22 : decode cX0_reach 22 = .ok (.iconst 0, 1) := by decide +kernel
theorem dX0_reach_23 : decode cX0_reach 23 = .ok (.putfield 25, 3) := by decide +kernel
theorem dX0_reach_26 : decode cX0_reach 26 = .ok (.aload_n 0, 1) := by decide +kernel
theorem dX0_reach_27 : decode cX0_reach 27 = .ok (.iload_n 2, 1) := by decide +kernel
theorem dX0_reach_28 : decode cX0_reach 28 = .ok (.invokevirtual 29, 3) := by decide +kernel
theorem dX0_reach_31 : decode cX0_reach 31 = .ok (.iconst 0, 1) := by decide +kernel
theorem dX0_reach_32 : decode cX0_reach 32 = .ok (.istore_n 3, 1) := by decide +kernel
theorem dX0_reach_33 : decode cX0_reach 33 = .ok (.iload_n 3, 1) := by decide +kernel
theorem dX0_reach_34 : decode cX0_reach 34 = .ok (.aload_n 0, 1) := by decide +kernel
theorem dX0_reach_35 : decode cX0_reach 35 = .ok (.getfield 25, 3) := by decide +kernel
theorem dX0_reach_38 : decode cX0_reach 38 = .ok (.if_icmp .ge 26, 3) := by decide +kernel
theorem dX0_reach_41 : decode cX0_reach 41 = .ok (.iload_n 3, 1) := by decide +kernel
theorem dX0_reach_42 : decode cX0_reach 42 = .ok (.bipush 10, 2) := by decide +kernel
theorem dX0_reach_44 : decode cX0_reach 44 = .ok (.if_icmp .ge 20, 3) := by decide +kernel
theorem dX0_reach_47 : decode cX0_reach 47 = .ok (.aload_n 0, 1) := by decide +kernel
theorem dX0_reach_48 : decode cX0_reach 48 = .ok (.aload_n 1, 1) := by decide +kernel
theorem dX0_reach_49 : decode cX0_reach 49 = .ok (.aload_n 0, 1) := by decide +kernel
theorem dX0_reach_50 : decode cX0_reach 50 = .ok (.getfield 18, 3) := by decide +kernel
theorem dX0_reach_53 : decode cX0_reach 53 = .ok (.iload_n 3, 1) := by decide +kernel
theorem dX0_reach_54 : decode cX0_reach 54 = .ok (.iaload, 1) := by decide +kernel
theorem dX0_reach_55 : decode cX0_reach 55 = .ok (.invokevirtual 33, 3) := by decide +kernel
theorem dX0_reach_58 : decode cX0_reach 58 = .ok (.iinc 3 1, 3) := by decide +kernel
theorem dX0_reach_61 : decode cX0_reach 61 = .ok (.goto (-28), 3) := by decide +kernel
theorem dX0_reach_64 : decode cX0_reach 64 = .ok (.aload_n 0, 1) := by decide +kernel
theorem dX0_reach_65 : decode cX0_reach 65 = .ok (.getfield 25, 3) := by decide +kernel
theorem dX0_reach_68 : decode cX0_reach 68 = .ok (.ireturn, 1) := by decide +kernel
theorem dX0_addTargets_0 : decode cX0_addTargets 0 = .ok (.iconst 0, 1) := by decide +kernel
theorem dX0_addTargets_1 : decode cX0_addTargets 1 = .ok (.istore_n 3, 1) := by decide +kernel
theorem dX0_addTargets_2 : decode cX0_addTargets 2 = .ok (.iload_n 3, 1) := by decide +kernel
theorem dX0_addTargets_3 : decode cX0_addTargets 3 = .ok (.aload_n 1, 1) := by decide +kernel
theorem dX0_addTargets_4 : decode cX0_addTargets 4 = .ok (.iload_n 2, 1) := by decide +kernel
theorem dX0_addTargets_5 : decode cX0_addTargets 5 = .ok (.invokevirtual 37, 3) := by decide +kernel
theorem dX0_addTargets_8 : decode cX0_addTargets 8 = .ok (.if_icmp .ge 34, 3) := by decide +kernel
theorem dX0_addTargets_11 : decode cX0_addTargets 11 = .ok (.aload_n 1, 1) := by decide +kernel
theorem dX0_addTargets_12 : decode cX0_addTargets 12 = .ok (.iload_n 2, 1) := by decide +kernel
theorem dX0_addTargets_13 : decode cX0_addTargets 13 = .ok (.iload_n 3, 1) := by decide +kernel
theorem dX0_addTargets_14 : decode cX0_addTargets 14 = .ok (.invokevirtual 43, 3) := by decide +kernel
theorem dX0_addTargets_17 : decode cX0_addTargets 17 = .ok (.istore 4, 2) := by decide +kernel
theorem dX0_addTargets_19 : decode cX0_addTargets 19 = .ok (.iload 4, 2) := by decide +kernel
theorem dX0_addTargets_21 : decode cX0_addTargets 21 = .ok (.invokestatic 47, 3) := by decide +kernel
theorem dX0_addTargets_24 : decode cX0_addTargets 24 = .ok (.ifCond .eq 12, 3) := by decide +kernel
theorem dX0_addTargets_27 : decode cX0_addTargets 27 = .ok (.aload_n 0, 1) := by decide +kernel
theorem dX0_addTargets_28 : decode cX0_addTargets 28 = .ok (.iload 4, 2) := by decide +kernel
theorem dX0_addTargets_30 : decode cX0_addTargets 30 = .ok (.invokestatic 51, 3) := by decide +kernel
theorem dX0_addTargets_33 : decode cX0_addTargets 33 = .ok (.invokevirtual 29, 3) := by decide +kernel
theorem dX0_addTargets_36 : decode cX0_addTargets 36 = .ok (.iinc 3 1, 3) := by decide +kernel
theorem dX0_addTargets_39 : decode cX0_addTargets 39 = .ok (.goto (-37), 3) := by decide +kernel
theorem dX0_addTargets_42 : decode cX0_addTargets 42 = .ok (.return_, 1) := by decide +kernel
theorem dX0_addReached_0 : decode cX0_addReached 0 = .ok (.iload_n 1, 1) := by decide +kernel
theorem dX0_addReached_1 : decode cX0_addReached 1 = .ok (.ifCond .lt 19, 3) := by decide +kernel
theorem dX0_addReached_4 : decode cX0_addReached 4 = .ok (.iload_n 1, 1) := by decide +kernel
theorem dX0_addReached_5 : decode cX0_addReached 5 = .ok (.bipush 10, 2) := by decide +kernel
theorem dX0_addReached_7 : decode cX0_addReached 7 = .ok (.if_icmp .ge 13, 3) := by decide +kernel
theorem dX0_addReached_10 : decode cX0_addReached 10 = .ok (.aload_n 0, 1) := by decide +kernel
theorem dX0_addReached_11 : decode cX0_addReached 11 = .ok (.getfield 22, 3) := by decide +kernel
theorem dX0_addReached_14 : decode cX0_addReached 14 = .ok (.iload_n 1, 1) := by decide +kernel
theorem dX0_addReached_15 : decode cX0_addReached 15 = .ok (.iaload, 1) := by decide +kernel
theorem dX0_addReached_16 : decode cX0_addReached 16 = .ok (.iconst (-1), 1) := by decide +kernel
theorem dX0_addReached_17 : decode cX0_addReached 17 = .ok (.if_icmp .eq 7, 3) := by decide +kernel
theorem dX0_addReached_20 : decode cX0_addReached 20 = .ok (.iconst 1, 1) := by decide +kernel
theorem dX0_addReached_21 : decode cX0_addReached 21 = .ok (.goto 4, 3) := by decide +kernel
theorem dX0_addReached_24 : decode cX0_addReached 24 = .ok (.iconst 0, 1) := by decide +kernel
theorem dX0_addReached_25 : decode cX0_addReached 25 = .ok (.istore_n 2, 1) := by decide +kernel
theorem dX0_addReached_26 : decode cX0_addReached 26 = .ok (.iload_n 2, 1) := by decide +kernel
theorem dX0_addReached_27 : decode cX0_addReached 27 = .ok (.ifCond .ne 49, 3) := by decide +kernel
theorem dX0_addReached_30 : decode cX0_addReached 30 = .ok (.aload_n 0, 1) := by decide +kernel
theorem dX0_addReached_31 : decode cX0_addReached 31 = .ok (.getfield 25, 3) := by decide +kernel
theorem dX0_addReached_34 : decode cX0_addReached 34 = .ok (.ifCond .lt 42, 3) := by decide +kernel
theorem dX0_addReached_37 : decode cX0_addReached 37 = .ok (.aload_n 0, 1) := by decide +kernel
theorem dX0_addReached_38 : decode cX0_addReached 38 = .ok (.getfield 25, 3) := by decide +kernel
theorem dX0_addReached_41 : decode cX0_addReached 41 = .ok (.bipush 10, 2) := by decide +kernel
theorem dX0_addReached_43 : decode cX0_addReached 43 = .ok (.if_icmp .ge 33, 3) := by decide +kernel
theorem dX0_addReached_46 : decode cX0_addReached 46 = .ok (.aload_n 0, 1) := by decide +kernel
theorem dX0_addReached_47 : decode cX0_addReached 47 = .ok (.getfield 22, 3) := by decide +kernel
theorem dX0_addReached_50 : decode cX0_addReached 50 = .ok (.iload_n 1, 1) := by decide +kernel
theorem dX0_addReached_51 : decode cX0_addReached 51 = .ok (.aload_n 0, 1) := by decide +kernel
theorem dX0_addReached_52 : decode cX0_addReached 52 = .ok (.getfield 25, 3) := by decide +kernel
theorem dX0_addReached_55 : decode cX0_addReached 55 = .ok (.iastore, 1) := by decide +kernel
theorem dX0_addReached_56 : decode cX0_addReached 56 = .ok (.aload_n 0, 1) := by decide +kernel
theorem dX0_addReached_57 : decode cX0_addReached 57 = .ok (.getfield 18, 3) := by decide +kernel
theorem dX0_addReached_60 : decode cX0_addReached 60 = .ok (.aload_n 0, 1) := by decide +kernel
theorem dX0_addReached_61 : decode cX0_addReached 61 = .ok (.getfield 25, 3) := by decide +kernel
theorem dX0_addReached_64 : decode cX0_addReached 64 = .ok (.iload_n 1, 1) := by decide +kernel
theorem dX0_addReached_65 : decode cX0_addReached 65 = .ok (.iastore, 1) := by decide +kernel
theorem dX0_addReached_66 : decode cX0_addReached 66 = .ok (.aload_n 0, 1) := by decide +kernel
theorem dX0_addReached_67 : decode cX0_addReached 67 = .ok (.aload_n 0, 1) := by decide +kernel
theorem dX0_addReached_68 : decode cX0_addReached 68 = .ok (.getfield 25, 3) := by decide +kernel
theorem dX0_addReached_71 : decode cX0_addReached 71 = .ok (.iconst 1, 1) := by decide +kernel
theorem dX0_addReached_72 : decode cX0_addReached 72 = .ok (.iadd, 1) := by decide +kernel
theorem dX0_addReached_73 : decode cX0_addReached 73 = .ok (.putfield 25, 3) := by decide +kernel
theorem dX0_addReached_76 : decode cX0_addReached 76 = .ok (.return_, 1) := by decide +kernel
theorem dX0_allReachedLive_0 : decode cX0_allReachedLive 0 = .ok (.iconst 0, 1) := by decide +kernel
theorem dX0_allReachedLive_1 : decode cX0_allReachedLive 1 = .ok (.istore_n 2, 1) := by decide +kernel
theorem dX0_allReachedLive_2 : decode cX0_allReachedLive 2 = .ok (.iload_n 2, 1) := by decide +kernel
theorem dX0_allReachedLive_3 : decode cX0_allReachedLive 3 = .ok (.aload_n 0, 1) := by decide +kernel
theorem dX0_allReachedLive_4 : decode cX0_allReachedLive 4 = .ok (.getfield 25, 3) := by decide +kernel
theorem dX0_allReachedLive_7 : decode cX0_allReachedLive 7 = .ok (.if_icmp .ge 30, 3) := by decide +kernel
theorem dX0_allReachedLive_10 : decode cX0_allReachedLive 10 = .ok (.iload_n 2, 1) := by decide +kernel
theorem dX0_allReachedLive_11 : decode cX0_allReachedLive 11 = .ok (.bipush 10, 2) := by decide +kernel
theorem dX0_allReachedLive_13 : decode cX0_allReachedLive 13 = .ok (.if_icmp .ge 24, 3) := by decide +kernel
theorem dX0_allReachedLive_16 : decode cX0_allReachedLive 16 = .ok (.aload_n 1, 1) := by decide +kernel
theorem dX0_allReachedLive_17 : decode cX0_allReachedLive 17 = .ok (.aload_n 0, 1) := by decide +kernel
theorem dX0_allReachedLive_18 : decode cX0_allReachedLive 18 = .ok (.getfield 18, 3) := by decide +kernel
theorem dX0_allReachedLive_21 : decode cX0_allReachedLive 21 = .ok (.iload_n 2, 1) := by decide +kernel
theorem dX0_allReachedLive_22 : decode cX0_allReachedLive 22 = .ok (.iaload, 1) := by decide +kernel
theorem dX0_allReachedLive_23 : decode cX0_allReachedLive 23 = .ok (.invokevirtual 54, 3) := by decide +kernel
theorem dX0_allReachedLive_26 : decode cX0_allReachedLive 26 = .ok (.ifCond .ne 5, 3) := by decide +kernel
theorem dX0_allReachedLive_29 : decode cX0_allReachedLive 29 = .ok (.iconst 0, 1) := by decide +kernel
theorem dX0_allReachedLive_30 : decode cX0_allReachedLive 30 = .ok (.ireturn, 1) := by decide +kernel
theorem dX0_allReachedLive_31 : decode cX0_allReachedLive 31 = .ok (.iinc 2 1, 3) := by decide +kernel
theorem dX0_allReachedLive_34 : decode cX0_allReachedLive 34 = .ok (.goto (-32), 3) := by decide +kernel
theorem dX0_allReachedLive_37 : decode cX0_allReachedLive 37 = .ok (.iconst 1, 1) := by decide +kernel
theorem dX0_allReachedLive_38 : decode cX0_allReachedLive 38 = .ok (.ireturn, 1) := by decide +kernel
theorem dX0_markReachedConstant_0 : decode cX0_markReachedConstant 0 = .ok (.iconst 0, 1) := by decide +kernel
theorem dX0_markReachedConstant_1 : decode cX0_markReachedConstant 1 = .ok (.istore_n 2, 1) := by decide +kernel
theorem dX0_markReachedConstant_2 : decode cX0_markReachedConstant 2 = .ok (.iload_n 2, 1) := by decide +kernel
theorem dX0_markReachedConstant_3 : decode cX0_markReachedConstant 3 = .ok (.aload_n 0, 1) := by decide +kernel
theorem dX0_markReachedConstant_4 : decode cX0_markReachedConstant 4 = .ok (.getfield 25, 3) := by decide +kernel
theorem dX0_markReachedConstant_7 : decode cX0_markReachedConstant 7 = .ok (.if_icmp .ge 25, 3) := by decide +kernel
theorem dX0_markReachedConstant_10 : decode cX0_markReachedConstant 10 = .ok (.iload_n 2, 1) := by decide +kernel
theorem dX0_markReachedConstant_11 : decode cX0_markReachedConstant 11 = .ok (.bipush 10, 2) := by decide +kernel
theorem dX0_markReachedConstant_13 : decode cX0_markReachedConstant 13 = .ok (.if_icmp .ge 19, 3) := by decide +kernel
theorem dX0_markReachedConstant_16 : decode cX0_markReachedConstant 16 = .ok (.aload_n 1, 1) := by decide +kernel
theorem dX0_markReachedConstant_17 : decode cX0_markReachedConstant 17 = .ok (.aload_n 0, 1) := by decide +kernel
theorem dX0_markReachedConstant_18 : decode cX0_markReachedConstant 18 = .ok (.getfield 18, 3) := by decide +kernel
theorem dX0_markReachedConstant_21 : decode cX0_markReachedConstant 21 = .ok (.iload_n 2, 1) := by decide +kernel
theorem dX0_markReachedConstant_22 : decode cX0_markReachedConstant 22 = .ok (.iaload, 1) := by decide +kernel
theorem dX0_markReachedConstant_23 : decode cX0_markReachedConstant 23 = .ok (.invokevirtual 57, 3) := by decide +kernel
theorem dX0_markReachedConstant_26 : decode cX0_markReachedConstant 26 = .ok (.iinc 2 1, 3) := by decide +kernel
theorem dX0_markReachedConstant_29 : decode cX0_markReachedConstant 29 = .ok (.goto (-27), 3) := by decide +kernel
theorem dX0_markReachedConstant_32 : decode cX0_markReachedConstant 32 = .ok (.return_, 1) := by decide +kernel
theorem dX0_draw_0 : decode cX0_draw 0 = .ok (.aload_n 0, 1) := by decide +kernel
theorem dX0_draw_1 : decode cX0_draw 1 = .ok (.aload_n 1, 1) := by decide +kernel
theorem dX0_draw_2 : decode cX0_draw 2 = .ok (.getfield 60, 3) := by decide +kernel
theorem dX0_draw_5 : decode cX0_draw 5 = .ok (.invokevirtual 62, 3) := by decide +kernel
theorem dX0_draw_8 : decode cX0_draw 8 = .ok (.astore_n 2, 1) := by decide +kernel
theorem dX0_draw_9 : decode cX0_draw 9 = .ok (.aload_n 2, 1) := by decide +kernel
theorem dX0_draw_10 : decode cX0_draw 10 = .ok (.invokevirtual 66, 3) := by decide +kernel
theorem dX0_draw_13 : decode cX0_draw 13 = .ok (.iconst 0, 1) := by decide +kernel
theorem dX0_draw_14 : decode cX0_draw 14 = .ok (.istore_n 3, 1) := by decide +kernel
theorem dX0_draw_15 : decode cX0_draw 15 = .ok (.iload_n 3, 1) := by decide +kernel
theorem dX0_draw_16 : decode cX0_draw 16 = .ok (.aload_n 0, 1) := by decide +kernel
theorem dX0_draw_17 : decode cX0_draw 17 = .ok (.getfield 25, 3) := by decide +kernel
theorem dX0_draw_20 : decode cX0_draw 20 = .ok (.if_icmp .ge 68, 3) := by decide +kernel
theorem dX0_draw_23 : decode cX0_draw 23 = .ok (.iload_n 3, 1) := by decide +kernel
theorem dX0_draw_24 : decode cX0_draw 24 = .ok (.bipush 10, 2) := by decide +kernel
theorem dX0_draw_26 : decode cX0_draw 26 = .ok (.if_icmp .ge 62, 3) := by decide +kernel
theorem dX0_draw_29 : decode cX0_draw 29 = .ok (.aload_n 0, 1) := by decide +kernel
theorem dX0_draw_30 : decode cX0_draw 30 = .ok (.getfield 18, 3) := by decide +kernel
theorem dX0_draw_33 : decode cX0_draw 33 = .ok (.iload_n 3, 1) := by decide +kernel
theorem dX0_draw_34 : decode cX0_draw 34 = .ok (.iaload, 1) := by decide +kernel
theorem dX0_draw_35 : decode cX0_draw 35 = .ok (.istore 4, 2) := by decide +kernel
theorem dX0_draw_37 : decode cX0_draw 37 = .ok (.aload_n 2, 1) := by decide +kernel
theorem dX0_draw_38 : decode cX0_draw 38 = .ok (.aload_n 1, 1) := by decide +kernel
theorem dX0_draw_39 : decode cX0_draw 39 = .ok (.iload 4, 2) := by decide +kernel
theorem dX0_draw_41 : decode cX0_draw 41 = .ok (.invokevirtual 37, 3) := by decide +kernel
theorem dX0_draw_44 : decode cX0_draw 44 = .ok (.invokevirtual 69, 3) := by decide +kernel
theorem dX0_draw_47 : decode cX0_draw 47 = .ok (.iconst 0, 1) := by decide +kernel
theorem dX0_draw_48 : decode cX0_draw 48 = .ok (.istore 5, 2) := by decide +kernel
theorem dX0_draw_50 : decode cX0_draw 50 = .ok (.iload 5, 2) := by decide +kernel
theorem dX0_draw_52 : decode cX0_draw 52 = .ok (.bipush 12, 2) := by decide +kernel
theorem dX0_draw_54 : decode cX0_draw 54 = .ok (.if_icmp .ge 28, 3) := by decide +kernel
theorem dX0_draw_57 : decode cX0_draw 57 = .ok (.aload_n 2, 1) := by decide +kernel
theorem dX0_draw_58 : decode cX0_draw 58 = .ok (.iload_n 3, 1) := by decide +kernel
theorem dX0_draw_59 : decode cX0_draw 59 = .ok (.iload 5, 2) := by decide +kernel
theorem dX0_draw_61 : decode cX0_draw 61 = .ok (.aload_n 0, 1) := by decide +kernel
theorem dX0_draw_62 : decode cX0_draw 62 = .ok (.aload_n 1, 1) := by decide +kernel
theorem dX0_draw_63 : decode cX0_draw 63 = .ok (.iload 4, 2) := by decide +kernel
theorem dX0_draw_65 : decode cX0_draw 65 = .ok (.iload 5, 2) := by decide +kernel
theorem dX0_draw_67 : decode cX0_draw 67 = .ok (.invokevirtual 43, 3) := by decide +kernel
theorem dX0_draw_70 : decode cX0_draw 70 = .ok (.invokevirtual 72, 3) := by decide +kernel
theorem dX0_draw_73 : decode cX0_draw 73 = .ok (.invokevirtual 75, 3) := by decide +kernel
theorem dX0_draw_76 : decode cX0_draw 76 = .ok (.iinc 5 1, 3) := by decide +kernel
theorem dX0_draw_79 : decode cX0_draw 79 = .ok (.goto (-29), 3) := by decide +kernel
theorem dX0_draw_82 : decode cX0_draw 82 = .ok (.iinc 3 1, 3) := by decide +kernel
theorem dX0_draw_85 : decode cX0_draw 85 = .ok (.goto (-70), 3) := by decide +kernel
theorem dX0_draw_88 : decode cX0_draw 88 = .ok (.return_, 1) := by decide +kernel
theorem dX0_indexOfDrawn_0 : decode cX0_indexOfDrawn 0 = .ok (.aload_n 0, 1) := by decide +kernel
theorem dX0_indexOfDrawn_1 : decode cX0_indexOfDrawn 1 = .ok (.aload_n 1, 1) := by decide +kernel
theorem dX0_indexOfDrawn_2 : decode cX0_indexOfDrawn 2 = .ok (.getfield 60, 3) := by decide +kernel
theorem dX0_indexOfDrawn_5 : decode cX0_indexOfDrawn 5 = .ok (.invokevirtual 62, 3) := by decide +kernel
theorem dX0_indexOfDrawn_8 : decode cX0_indexOfDrawn 8 = .ok (.astore_n 2, 1) := by decide +kernel
theorem dX0_indexOfDrawn_9 : decode cX0_indexOfDrawn 9 = .ok (.iconst 0, 1) := by decide +kernel
theorem dX0_indexOfDrawn_10 : decode cX0_indexOfDrawn 10 = .ok (.istore_n 3, 1) := by decide +kernel
theorem dX0_indexOfDrawn_11 : decode cX0_indexOfDrawn 11 = .ok (.iload_n 3, 1) := by decide +kernel
theorem dX0_indexOfDrawn_12 : decode cX0_indexOfDrawn 12 = .ok (.aload_n 1, 1) := by decide +kernel
theorem dX0_indexOfDrawn_13 : decode cX0_indexOfDrawn 13 = .ok (.getfield 60, 3) := by decide +kernel
theorem dX0_indexOfDrawn_16 : decode cX0_indexOfDrawn 16 = .ok (.if_icmp .ge 23, 3) := by decide +kernel
theorem dX0_indexOfDrawn_19 : decode cX0_indexOfDrawn 19 = .ok (.aload_n 0, 1) := by decide +kernel
theorem dX0_indexOfDrawn_20 : decode cX0_indexOfDrawn 20 = .ok (.iload_n 3, 1) := by decide +kernel
theorem dX0_indexOfDrawn_21 : decode cX0_indexOfDrawn 21 = .ok (.invokevirtual 62, 3) := by decide +kernel
theorem dX0_indexOfDrawn_24 : decode cX0_indexOfDrawn 24 = .ok (.aload_n 2, 1) := by decide +kernel
theorem dX0_indexOfDrawn_25 : decode cX0_indexOfDrawn 25 = .ok (.invokevirtual 79, 3) := by decide +kernel
theorem dX0_indexOfDrawn_28 : decode cX0_indexOfDrawn 28 = .ok (.ifCond .eq 5, 3) := by decide +kernel
theorem dX0_indexOfDrawn_31 : decode cX0_indexOfDrawn 31 = .ok (.iload_n 3, 1) := by decide +kernel
theorem dX0_indexOfDrawn_32 : decode cX0_indexOfDrawn 32 = .ok (.ireturn, 1) := by decide +kernel
theorem dX0_indexOfDrawn_33 : decode cX0_indexOfDrawn 33 = .ok (.iinc 3 1, 3) := by decide +kernel
theorem dX0_indexOfDrawn_36 : decode cX0_indexOfDrawn 36 = .ok (.goto (-25), 3) := by decide +kernel
theorem dX0_indexOfDrawn_39 : decode cX0_indexOfDrawn 39 = .ok (.aload_n 1, 1) := by decide +kernel
theorem dX0_indexOfDrawn_40 : decode cX0_indexOfDrawn 40 = .ok (.getfield 60, 3) := by decide +kernel
theorem dX0_indexOfDrawn_43 : decode cX0_indexOfDrawn 43 = .ok (.ireturn, 1) := by decide +kernel
theorem dX0_codeInImage_0 : decode cX0_codeInImage 0 = .ok (.iload_n 1, 1) := by decide +kernel
theorem dX0_codeInImage_1 : decode cX0_codeInImage 1 = .ok (.invokestatic 47, 3) := by decide +kernel
theorem dX0_codeInImage_4 : decode cX0_codeInImage 4 = .ok (.ifCond .ne 5, 3) := by decide +kernel
theorem dX0_codeInImage_7 : decode cX0_codeInImage 7 = .ok (.iload_n 1, 1) := by decide +kernel
theorem dX0_codeInImage_8 : decode cX0_codeInImage 8 = .ok (.ireturn, 1) := by decide +kernel
theorem dX0_codeInImage_9 : decode cX0_codeInImage 9 = .ok (.iload_n 1, 1) := by decide +kernel
theorem dX0_codeInImage_10 : decode cX0_codeInImage 10 = .ok (.invokestatic 51, 3) := by decide +kernel
theorem dX0_codeInImage_13 : decode cX0_codeInImage 13 = .ok (.istore_n 2, 1) := by decide +kernel
theorem dX0_codeInImage_14 : decode cX0_codeInImage 14 = .ok (.iload_n 2, 1) := by decide +kernel
theorem dX0_codeInImage_15 : decode cX0_codeInImage 15 = .ok (.ifCond .lt 18, 3) := by decide +kernel
theorem dX0_codeInImage_18 : decode cX0_codeInImage 18 = .ok (.iload_n 2, 1) := by decide +kernel
theorem dX0_codeInImage_19 : decode cX0_codeInImage 19 = .ok (.bipush 10, 2) := by decide +kernel
theorem dX0_codeInImage_21 : decode cX0_codeInImage 21 = .ok (.if_icmp .ge 12, 3) := by decide +kernel
theorem dX0_codeInImage_24 : decode cX0_codeInImage 24 = .ok (.aload_n 0, 1) := by decide +kernel
theorem dX0_codeInImage_25 : decode cX0_codeInImage 25 = .ok (.getfield 22, 3) := by decide +kernel
theorem dX0_codeInImage_28 : decode cX0_codeInImage 28 = .ok (.iload_n 2, 1) := by decide +kernel
theorem dX0_codeInImage_29 : decode cX0_codeInImage 29 = .ok (.iaload, 1) := by decide +kernel
theorem dX0_codeInImage_30 : decode cX0_codeInImage 30 = .ok (.goto 4, 3) := by decide +kernel
theorem dX0_codeInImage_33 : decode cX0_codeInImage 33 = .ok (.iconst (-1), 1) := by decide +kernel
theorem dX0_codeInImage_34 : decode cX0_codeInImage 34 = .ok (.istore_n 3, 1) := by decide +kernel
theorem dX0_codeInImage_35 : decode cX0_codeInImage 35 = .ok (.iload_n 3, 1) := by decide +kernel
theorem dX0_codeInImage_36 : decode cX0_codeInImage 36 = .ok (.iload_n 1, 1) := by decide +kernel
theorem dX0_codeInImage_37 : decode cX0_codeInImage 37 = .ok (.invokestatic 83, 3) := by decide +kernel
theorem dX0_codeInImage_40 : decode cX0_codeInImage 40 = .ok (.invokestatic 86, 3) := by decide +kernel
theorem dX0_codeInImage_43 : decode cX0_codeInImage 43 = .ok (.ireturn, 1) := by decide +kernel
theorem dX1_init_0 : decode cX1_init 0 = .ok (.aload_n 0, 1) := by decide +kernel
theorem dX1_init_1 : decode cX1_init 1 = .ok (.invokespecial 3, 3) := by decide +kernel
theorem dX1_init_4 : decode cX1_init 4 = .ok (.aload_n 0, 1) := by decide +kernel
theorem dX1_init_5 : decode cX1_init 5 = .ok (.bipush 10, 2) := by decide +kernel
theorem dX1_init_7 : decode cX1_init 7 = .ok (.newarray .int, 2) := by decide +kernel
theorem dX1_init_9 : decode cX1_init 9 = .ok (.putfield 9, 3) := by decide +kernel
theorem dX1_init_12 : decode cX1_init 12 = .ok (.aload_n 0, 1) := by decide +kernel
theorem dX1_init_13 : decode cX1_init 13 = .ok (.bipush 120, 2) := by decide +kernel
theorem dX1_init_15 : decode cX1_init 15 = .ok (.newarray .int, 2) := by decide +kernel
theorem dX1_init_17 : decode cX1_init 17 = .ok (.putfield 15, 3) := by decide +kernel
theorem dX1_init_20 : decode cX1_init 20 = .ok (.return_, 1) := by decide +kernel
theorem dX1_isNode_0 : decode cX1_isNode 0 = .ok (.iload_n 1, 1) := by decide +kernel
theorem dX1_isNode_1 : decode cX1_isNode 1 = .ok (.ifCond .lt 21, 3) := by decide +kernel
theorem dX1_isNode_4 : decode cX1_isNode 4 = .ok (.iload_n 1, 1) := by decide +kernel
theorem dX1_isNode_5 : decode cX1_isNode 5 = .ok (.aload_n 0, 1) := by decide +kernel
theorem dX1_isNode_6 : decode cX1_isNode 6 = .ok (.getfield 18, 3) := by decide +kernel
theorem dX1_isNode_9 : decode cX1_isNode 9 = .ok (.if_icmp .ge 13, 3) := by decide +kernel
theorem dX1_isNode_12 : decode cX1_isNode 12 = .ok (.iload_n 1, 1) := by decide +kernel
theorem dX1_isNode_13 : decode cX1_isNode 13 = .ok (.bipush 10, 2) := by decide +kernel
theorem dX1_isNode_15 : decode cX1_isNode 15 = .ok (.if_icmp .ge 7, 3) := by decide +kernel
theorem dX1_isNode_18 : decode cX1_isNode 18 = .ok (.iconst 1, 1) := by decide +kernel
theorem dX1_isNode_19 : decode cX1_isNode 19 = .ok (.goto 4, 3) := by decide +kernel
theorem dX1_isNode_22 : decode cX1_isNode 22 = .ok (.iconst 0, 1) := by decide +kernel
theorem dX1_isNode_23 : decode cX1_isNode 23 = .ok (.ireturn, 1) := by decide +kernel
theorem dX1_sizeOf_0 : decode cX1_sizeOf 0 = .ok (.iload_n 1, 1) := by decide +kernel
theorem dX1_sizeOf_1 : decode cX1_sizeOf 1 = .ok (.ifCond .lt 18, 3) := by decide +kernel
theorem dX1_sizeOf_4 : decode cX1_sizeOf 4 = .ok (.iload_n 1, 1) := by decide +kernel
theorem dX1_sizeOf_5 : decode cX1_sizeOf 5 = .ok (.bipush 10, 2) := by decide +kernel
theorem dX1_sizeOf_7 : decode cX1_sizeOf 7 = .ok (.if_icmp .ge 12, 3) := by decide +kernel
theorem dX1_sizeOf_10 : decode cX1_sizeOf 10 = .ok (.aload_n 0, 1) := by decide +kernel
theorem dX1_sizeOf_11 : decode cX1_sizeOf 11 = .ok (.getfield 9, 3) := by decide +kernel
theorem dX1_sizeOf_14 : decode cX1_sizeOf 14 = .ok (.iload_n 1, 1) := by decide +kernel
theorem dX1_sizeOf_15 : decode cX1_sizeOf 15 = .ok (.iaload, 1) := by decide +kernel
theorem dX1_sizeOf_16 : decode cX1_sizeOf 16 = .ok (.goto 4, 3) := by decide +kernel
theorem dX1_sizeOf_19 : decode cX1_sizeOf 19 = .ok (.iconst 0, 1) := by decide +kernel
theorem dX1_sizeOf_20 : decode cX1_sizeOf 20 = .ok (.ireturn, 1) := by decide +kernel
theorem dX1_cellAt_0 : decode cX1_cellAt 0 = .ok (.iload_n 1, 1) := by decide +kernel
theorem dX1_cellAt_1 : decode cX1_cellAt 1 = .ok (.ifCond .lt 33, 3) := by decide +kernel
theorem dX1_cellAt_4 : decode cX1_cellAt 4 = .ok (.iload_n 1, 1) := by decide +kernel
theorem dX1_cellAt_5 : decode cX1_cellAt 5 = .ok (.bipush 10, 2) := by decide +kernel
theorem dX1_cellAt_7 : decode cX1_cellAt 7 = .ok (.if_icmp .ge 27, 3) := by decide +kernel
theorem dX1_cellAt_10 : decode cX1_cellAt 10 = .ok (.iload_n 2, 1) := by decide +kernel
theorem dX1_cellAt_11 : decode cX1_cellAt 11 = .ok (.ifCond .lt 23, 3) := by decide +kernel
theorem dX1_cellAt_14 : decode cX1_cellAt 14 = .ok (.iload_n 2, 1) := by decide +kernel
theorem dX1_cellAt_15 : decode cX1_cellAt 15 = .ok (.bipush 12, 2) := by decide +kernel
theorem dX1_cellAt_17 : decode cX1_cellAt 17 = .ok (.if_icmp .ge 17, 3) := by decide +kernel
theorem dX1_cellAt_20 : decode cX1_cellAt 20 = .ok (.aload_n 0, 1) := by decide +kernel
theorem dX1_cellAt_21 : decode cX1_cellAt 21 = .ok (.getfield 15, 3) := by decide +kernel
theorem dX1_cellAt_24 : decode cX1_cellAt 24 = .ok (.iload_n 1, 1) := by decide +kernel
theorem dX1_cellAt_25 : decode cX1_cellAt 25 = .ok (.bipush 12, 2) := by decide +kernel
theorem dX1_cellAt_27 : decode cX1_cellAt 27 = .ok (.imul, 1) := by decide +kernel
theorem dX1_cellAt_28 : decode cX1_cellAt 28 = .ok (.iload_n 2, 1) := by decide +kernel
theorem dX1_cellAt_29 : decode cX1_cellAt 29 = .ok (.iadd, 1) := by decide +kernel
theorem dX1_cellAt_30 : decode cX1_cellAt 30 = .ok (.iaload, 1) := by decide +kernel
theorem dX1_cellAt_31 : decode cX1_cellAt 31 = .ok (.goto 4, 3) := by decide +kernel
theorem dX1_cellAt_34 : decode cX1_cellAt 34 = .ok (.iconst (-1), 1) := by decide +kernel
theorem dX1_cellAt_35 : decode cX1_cellAt 35 = .ok (.ireturn, 1) := by decide +kernel
theorem dX1_begin_0 : decode cX1_begin 0 = .ok (.aload_n 0, 1) := by decide +kernel
theorem dX1_begin_1 : decode cX1_begin 1 = .ok (.iconst 0, 1) := by decide +kernel
theorem dX1_begin_2 : decode cX1_begin 2 = .ok (.putfield 18, 3) := by decide +kernel
theorem dX1_begin_5 : decode cX1_begin 5 = .ok (.return_, 1) := by decide +kernel
theorem dX1_addNode_0 : decode cX1_addNode 0 = .ok (.aload_n 0, 1) := by decide +kernel
theorem dX1_addNode_1 : decode cX1_addNode 1 = .ok (.getfield 18, 3) := by decide +kernel
theorem dX1_addNode_4 : decode cX1_addNode 4 = .ok (.ifCond .lt 32, 3) := by decide +kernel
theorem dX1_addNode_7 : decode cX1_addNode 7 = .ok (.aload_n 0, 1) := by decide +kernel
theorem dX1_addNode_8 : decode cX1_addNode 8 = .ok (.getfield 18, 3) := by decide +kernel
theorem dX1_addNode_11 : decode cX1_addNode 11 = .ok (.bipush 10, 2) := by decide +kernel
theorem dX1_addNode_13 : decode cX1_addNode 13 = .ok (.if_icmp .ge 23, 3) := by decide +kernel
theorem dX1_addNode_16 : decode cX1_addNode 16 = .ok (.aload_n 0, 1) := by decide +kernel
theorem dX1_addNode_17 : decode cX1_addNode 17 = .ok (.getfield 9, 3) := by decide +kernel
theorem dX1_addNode_20 : decode cX1_addNode 20 = .ok (.aload_n 0, 1) := by decide +kernel
theorem dX1_addNode_21 : decode cX1_addNode 21 = .ok (.getfield 18, 3) := by decide +kernel
theorem dX1_addNode_24 : decode cX1_addNode 24 = .ok (.iload_n 1, 1) := by decide +kernel
theorem dX1_addNode_25 : decode cX1_addNode 25 = .ok (.iastore, 1) := by decide +kernel
theorem dX1_addNode_26 : decode cX1_addNode 26 = .ok (.aload_n 0, 1) := by decide +kernel
theorem dX1_addNode_27 : decode cX1_addNode 27 = .ok (.aload_n 0, 1) := by decide +kernel
theorem dX1_addNode_28 : decode cX1_addNode 28 = .ok (.getfield 18, 3) := by decide +kernel
theorem dX1_addNode_31 : decode cX1_addNode 31 = .ok (.iconst 1, 1) := by decide +kernel
theorem dX1_addNode_32 : decode cX1_addNode 32 = .ok (.iadd, 1) := by decide +kernel
theorem dX1_addNode_33 : decode cX1_addNode 33 = .ok (.putfield 18, 3) := by decide +kernel
theorem dX1_addNode_36 : decode cX1_addNode 36 = .ok (.return_, 1) := by decide +kernel
theorem dX1_putCell_0 : decode cX1_putCell 0 = .ok (.iload_n 1, 1) := by decide +kernel
theorem dX1_putCell_1 : decode cX1_putCell 1 = .ok (.ifCond .lt 31, 3) := by decide +kernel
theorem dX1_putCell_4 : decode cX1_putCell 4 = .ok (.iload_n 1, 1) := by decide +kernel
theorem dX1_putCell_5 : decode cX1_putCell 5 = .ok (.bipush 10, 2) := by decide +kernel
theorem dX1_putCell_7 : decode cX1_putCell 7 = .ok (.if_icmp .ge 25, 3) := by decide +kernel
theorem dX1_putCell_10 : decode cX1_putCell 10 = .ok (.iload_n 2, 1) := by decide +kernel
theorem dX1_putCell_11 : decode cX1_putCell 11 = .ok (.ifCond .lt 21, 3) := by decide +kernel
theorem dX1_putCell_14 : decode cX1_putCell 14 = .ok (.iload_n 2, 1) := by decide +kernel
theorem dX1_putCell_15 : decode cX1_putCell 15 = .ok (.bipush 12, 2) := by decide +kernel
theorem dX1_putCell_17 : decode cX1_putCell 17 = .ok (.if_icmp .ge 15, 3) := by decide +kernel
theorem dX1_putCell_20 : decode cX1_putCell 20 = .ok (.aload_n 0, 1) := by decide +kernel
theorem dX1_putCell_21 : decode cX1_putCell 21 = .ok (.getfield 15, 3) := by decide +kernel
theorem dX1_putCell_24 : decode cX1_putCell 24 = .ok (.iload_n 1, 1) := by decide +kernel
theorem dX1_putCell_25 : decode cX1_putCell 25 = .ok (.bipush 12, 2) := by decide +kernel
theorem dX1_putCell_27 : decode cX1_putCell 27 = .ok (.imul, 1) := by decide +kernel
theorem dX1_putCell_28 : decode cX1_putCell 28 = .ok (.iload_n 2, 1) := by decide +kernel
theorem dX1_putCell_29 : decode cX1_putCell 29 = .ok (.iadd, 1) := by decide +kernel
theorem dX1_putCell_30 : decode cX1_putCell 30 = .ok (.iload_n 3, 1) := by decide +kernel
theorem dX1_putCell_31 : decode cX1_putCell 31 = .ok (.iastore, 1) := by decide +kernel
theorem dX1_putCell_32 : decode cX1_putCell 32 = .ok (.return_, 1) := by decide +kernel
theorem dX1_property_0 : decode cX1_property 0 = .ok (.iconst 0, 1) := by decide +kernel
theorem dX1_property_1 : decode cX1_property 1 = .ok (.istore_n 2, 1) := by decide +kernel
theorem dX1_property_2 : decode cX1_property 2 = .ok (.iconst 0, 1) := by decide +kernel
theorem dX1_property_3 : decode cX1_property 3 = .ok (.istore_n 3, 1) := by decide +kernel
theorem dX1_property_4 : decode cX1_property 4 = .ok (.iconst 0, 1) := by decide +kernel
theorem dX1_property_5 : decode cX1_property 5 = .ok (.istore 4, 2) := by decide +kernel
theorem dX1_property_7 : decode cX1_property 7 = .ok (.iload 4, 2) := by decide +kernel
theorem dX1_property_9 : decode cX1_property 9 = .ok (.aload_n 0, 1) := by decide +kernel
theorem dX1_property_10 : decode cX1_property 10 = .ok (.getfield 18, 3) := by decide +kernel
theorem dX1_property_13 : decode cX1_property 13 = .ok (.if_icmp .ge 55, 3) := by decide +kernel
theorem dX1_property_16 : decode cX1_property 16 = .ok (.iload_n 2, 1) := by decide +kernel
theorem dX1_property_17 : decode cX1_property 17 = .ok (.aload_n 0, 1) := by decide +kernel
theorem dX1_property_18 : decode cX1_property 18 = .ok (.iload 4, 2) := by decide +kernel
theorem dX1_property_20 : decode cX1_property 20 = .ok (.invokevirtual 22, 3) := by decide +kernel
theorem dX1_property_23 : decode cX1_property 23 = .ok (.iadd, 1) := by decide +kernel
theorem dX1_property_24 : decode cX1_property 24 = .ok (.istore_n 2, 1) := by decide +kernel
theorem dX1_property_25 : decode cX1_property 25 = .ok (.iconst 0, 1) := by decide +kernel
theorem dX1_property_26 : decode cX1_property 26 = .ok (.istore 5, 2) := by decide +kernel
theorem dX1_property_28 : decode cX1_property 28 = .ok (.iload 5, 2) := by decide +kernel
theorem dX1_property_30 : decode cX1_property 30 = .ok (.aload_n 0, 1) := by decide +kernel
theorem dX1_property_31 : decode cX1_property 31 = .ok (.iload 4, 2) := by decide +kernel
theorem dX1_property_33 : decode cX1_property 33 = .ok (.invokevirtual 22, 3) := by decide +kernel
theorem dX1_property_36 : decode cX1_property 36 = .ok (.if_icmp .ge 26, 3) := by decide +kernel
theorem dX1_property_39 : decode cX1_property 39 = .ok (.aload_n 0, 1) := by decide +kernel
theorem dX1_property_40 : decode cX1_property 40 = .ok (.iload 4, 2) := by decide +kernel
theorem dX1_property_42 : decode cX1_property 42 = .ok (.iload 5, 2) := by decide +kernel
theorem dX1_property_44 : decode cX1_property 44 = .ok (.invokevirtual 26, 3) := by decide +kernel
theorem dX1_property_47 : decode cX1_property 47 = .ok (.invokestatic 30, 3) := by decide +kernel
theorem dX1_property_50 : decode cX1_property 50 = .ok (.ifCond .eq 6, 3) := by decide +kernel
theorem dX1_property_53 : decode cX1_property 53 = .ok (.iinc 3 1, 3) := by decide +kernel
theorem dX1_property_56 : decode cX1_property 56 = .ok (.iinc 5 1, 3) := by decide +kernel
theorem dX1_property_59 : decode cX1_property 59 = .ok (.goto (-31), 3) := by decide +kernel
theorem dX1_property_62 : decode cX1_property 62 = .ok (.iinc 4 1, 3) := by decide +kernel
theorem dX1_property_65 : decode cX1_property 65 = .ok (.goto (-58), 3) := by decide +kernel
theorem dX1_property_68 : decode cX1_property 68 = .ok (.iload_n 1, 1) := by decide +kernel
theorem dX1_property_69 : decode cX1_property 69 = .ok (.tableswitch 36 0 2 #[27, 32, 34], 27) := by decide +kernel
theorem dX1_property_96 : decode cX1_property 96 = .ok (.aload_n 0, 1) := by decide +kernel
theorem dX1_property_97 : decode cX1_property 97 = .ok (.getfield 18, 3) := by decide +kernel
theorem dX1_property_100 : decode cX1_property 100 = .ok (.ireturn, 1) := by decide +kernel
theorem dX1_property_101 : decode cX1_property 101 = .ok (.iload_n 2, 1) := by decide +kernel
theorem dX1_property_102 : decode cX1_property 102 = .ok (.ireturn, 1) := by decide +kernel
theorem dX1_property_103 : decode cX1_property 103 = .ok (.iload_n 3, 1) := by decide +kernel
theorem dX1_property_104 : decode cX1_property 104 = .ok (.ireturn, 1) := by decide +kernel
theorem dX1_property_105 : decode cX1_property 105 = .ok (.bipush (-2), 2) := by decide +kernel
theorem dX1_property_107 : decode cX1_property 107 = .ok (.ireturn, 1) := by decide +kernel
theorem dX1_isSameAs_0 : decode cX1_isSameAs 0 = .ok (.aload_n 0, 1) := by decide +kernel
theorem dX1_isSameAs_1 : decode cX1_isSameAs 1 = .ok (.getfield 18, 3) := by decide +kernel
theorem dX1_isSameAs_4 : decode cX1_isSameAs 4 = .ok (.aload_n 1, 1) := by decide +kernel
theorem dX1_isSameAs_5 : decode cX1_isSameAs 5 = .ok (.getfield 18, 3) := by decide +kernel
theorem dX1_isSameAs_8 : decode cX1_isSameAs 8 = .ok (.if_icmp .eq 5, 3) := by decide +kernel
theorem dX1_isSameAs_11 : decode cX1_isSameAs 11 = .ok (.iconst 0, 1) := by decide +kernel
theorem dX1_isSameAs_12 : decode cX1_isSameAs 12 = .ok (.ireturn, 1) := by decide +kernel
theorem dX1_isSameAs_13 : decode cX1_isSameAs 13 = .ok (.iconst 0, 1) := by decide +kernel
theorem dX1_isSameAs_14 : decode cX1_isSameAs 14 = .ok (.istore_n 2, 1) := by decide +kernel
theorem dX1_isSameAs_15 : decode cX1_isSameAs 15 = .ok (.iload_n 2, 1) := by decide +kernel
theorem dX1_isSameAs_16 : decode cX1_isSameAs 16 = .ok (.aload_n 0, 1) := by decide +kernel
theorem dX1_isSameAs_17 : decode cX1_isSameAs 17 = .ok (.getfield 18, 3) := by decide +kernel
theorem dX1_isSameAs_20 : decode cX1_isSameAs 20 = .ok (.if_icmp .ge 32, 3) := by decide +kernel
theorem dX1_isSameAs_23 : decode cX1_isSameAs 23 = .ok (.iload_n 2, 1) := by decide +kernel
theorem dX1_isSameAs_24 : decode cX1_isSameAs 24 = .ok (.bipush 10, 2) := by decide +kernel
theorem dX1_isSameAs_26 : decode cX1_isSameAs 26 = .ok (.if_icmp .ge 26, 3) := by decide +kernel
theorem dX1_isSameAs_29 : decode cX1_isSameAs 29 = .ok (.aload_n 0, 1) := by decide +kernel
theorem dX1_isSameAs_30 : decode cX1_isSameAs 30 = .ok (.getfield 9, 3) := by decide +kernel
theorem dX1_isSameAs_33 : decode cX1_isSameAs 33 = .ok (.iload_n 2, 1) := by decide +kernel
theorem dX1_isSameAs_34 : decode cX1_isSameAs 34 = .ok (.iaload, 1) := by decide +kernel
theorem dX1_isSameAs_35 : decode cX1_isSameAs 35 = .ok (.aload_n 1, 1) := by decide +kernel
theorem dX1_isSameAs_36 : decode cX1_isSameAs 36 = .ok (.getfield 9, 3) := by decide +kernel
theorem dX1_isSameAs_39 : decode cX1_isSameAs 39 = .ok (.iload_n 2, 1) := by decide +kernel
theorem dX1_isSameAs_40 : decode cX1_isSameAs 40 = .ok (.iaload, 1) := by decide +kernel
theorem dX1_isSameAs_41 : decode cX1_isSameAs 41 = .ok (.if_icmp .eq 5, 3) := by decide +kernel
theorem dX1_isSameAs_44 : decode cX1_isSameAs 44 = .ok (.iconst 0, 1) := by decide +kernel
theorem dX1_isSameAs_45 : decode cX1_isSameAs 45 = .ok (.ireturn, 1) := by decide +kernel
theorem dX1_isSameAs_46 : decode cX1_isSameAs 46 = .ok (.iinc 2 1, 3) := by decide +kernel
theorem dX1_isSameAs_49 : decode cX1_isSameAs 49 = .ok (.goto (-34), 3) := by decide +kernel
theorem dX1_isSameAs_52 : decode cX1_isSameAs 52 = .ok (.iconst 0, 1) := by decide +kernel
theorem dX1_isSameAs_53 : decode cX1_isSameAs 53 = .ok (.istore_n 2, 1) := by decide +kernel
theorem dX1_isSameAs_54 : decode cX1_isSameAs 54 = .ok (.iload_n 2, 1) := by decide +kernel
theorem dX1_isSameAs_55 : decode cX1_isSameAs 55 = .ok (.aload_n 0, 1) := by decide +kernel
theorem dX1_isSameAs_56 : decode cX1_isSameAs 56 = .ok (.getfield 18, 3) := by decide +kernel
theorem dX1_isSameAs_59 : decode cX1_isSameAs 59 = .ok (.bipush 12, 2) := by decide +kernel
theorem dX1_isSameAs_61 : decode cX1_isSameAs 61 = .ok (.imul, 1) := by decide +kernel
theorem dX1_isSameAs_62 : decode cX1_isSameAs 62 = .ok (.if_icmp .ge 32, 3) := by decide +kernel
theorem dX1_isSameAs_65 : decode cX1_isSameAs 65 = .ok (.iload_n 2, 1) := by decide +kernel
theorem dX1_isSameAs_66 : decode cX1_isSameAs 66 = .ok (.bipush 120, 2) := by decide +kernel
theorem dX1_isSameAs_68 : decode cX1_isSameAs 68 = .ok (.if_icmp .ge 26, 3) := by decide +kernel
theorem dX1_isSameAs_71 : decode cX1_isSameAs 71 = .ok (.aload_n 0, 1) := by decide +kernel
theorem dX1_isSameAs_72 : decode cX1_isSameAs 72 = .ok (.getfield 15, 3) := by decide +kernel
theorem dX1_isSameAs_75 : decode cX1_isSameAs 75 = .ok (.iload_n 2, 1) := by decide +kernel
theorem dX1_isSameAs_76 : decode cX1_isSameAs 76 = .ok (.iaload, 1) := by decide +kernel
theorem dX1_isSameAs_77 : decode cX1_isSameAs 77 = .ok (.aload_n 1, 1) := by decide +kernel
theorem dX1_isSameAs_78 : decode cX1_isSameAs 78 = .ok (.getfield 15, 3) := by decide +kernel
theorem dX1_isSameAs_81 : decode cX1_isSameAs 81 = .ok (.iload_n 2, 1) := by decide +kernel
theorem dX1_isSameAs_82 : decode cX1_isSameAs 82 = .ok (.iaload, 1) := by decide +kernel
theorem dX1_isSameAs_83 : decode cX1_isSameAs 83 = .ok (.if_icmp .eq 5, 3) := by decide +kernel
theorem dX1_isSameAs_86 : decode cX1_isSameAs 86 = .ok (.iconst 0, 1) := by decide +kernel
theorem dX1_isSameAs_87 : decode cX1_isSameAs 87 = .ok (.ireturn, 1) := by decide +kernel
theorem dX1_isSameAs_88 : decode cX1_isSameAs 88 = .ok (.iinc 2 1, 3) := by decide +kernel
theorem dX1_isSameAs_91 : decode cX1_isSameAs 91 = .ok (.goto (-37), 3) := by decide +kernel
theorem dX1_isSameAs_94 : decode cX1_isSameAs 94 = .ok (.iconst 1, 1) := by decide +kernel
theorem dX1_isSameAs_95 : decode cX1_isSameAs 95 = .ok (.ireturn, 1) := by decide +kernel
theorem dX2_init_0 : decode cX2_init 0 = .ok (.aload_n 0, 1) := by decide +kernel
theorem dX2_init_1 : decode cX2_init 1 = .ok (.invokespecial 3, 3) := by decide +kernel
theorem dX2_init_4 : decode cX2_init 4 = .ok (.aload_n 0, 1) := by decide +kernel
theorem dX2_init_5 : decode cX2_init 5 = .ok (.aload_n 1, 1) := by decide +kernel
theorem dX2_init_6 : decode cX2_init 6 = .ok (.putfield 9, 3) := by decide +kernel
theorem dX2_init_9 : decode cX2_init 9 = .ok (.aload_n 0, 1) := by decide +kernel
theorem dX2_init_10 : decode cX2_init 10 = .ok (.aload_n 2, 1) := by decide +kernel
theorem dX2_init_11 : decode cX2_init 11 = .ok (.putfield 15, 3) := by decide +kernel
theorem dX2_init_14 : decode cX2_init 14 = .ok (.aload_n 0, 1) := by decide +kernel
theorem dX2_init_15 : decode cX2_init 15 = .ok (.bipush 12, 2) := by decide +kernel
theorem dX2_init_17 : decode cX2_init 17 = .ok (.newarray .int, 2) := by decide +kernel
theorem dX2_init_19 : decode cX2_init 19 = .ok (.putfield 19, 3) := by decide +kernel
theorem dX2_init_22 : decode cX2_init 22 = .ok (.return_, 1) := by decide +kernel
theorem dX2_makeBlock_0 : decode cX2_makeBlock 0 = .ok (.iload_n 1, 1) := by decide +kernel
theorem dX2_makeBlock_1 : decode cX2_makeBlock 1 = .ok (.invokestatic 23, 3) := by decide +kernel
theorem dX2_makeBlock_4 : decode cX2_makeBlock 4 = .ok (.ifCond .eq 14, 3) := by decide +kernel
theorem dX2_makeBlock_7 : decode cX2_makeBlock 7 = .ok (.iload_n 2, 1) := by decide +kernel
theorem dX2_makeBlock_8 : decode cX2_makeBlock 8 = .ok (.iconst 1, 1) := by decide +kernel
theorem dX2_makeBlock_9 : decode cX2_makeBlock 9 = .ok (.if_icmp .lt 9, 3) := by decide +kernel
theorem dX2_makeBlock_12 : decode cX2_makeBlock 12 = .ok (.iload_n 2, 1) := by decide +kernel
theorem dX2_makeBlock_13 : decode cX2_makeBlock 13 = .ok (.bipush 12, 2) := by decide +kernel
theorem dX2_makeBlock_15 : decode cX2_makeBlock 15 = .ok (.if_icmp .le 6, 3) := by decide +kernel
theorem dX2_makeBlock_18 : decode cX2_makeBlock 18 = .ok (.bipush (-2), 2) := by decide +kernel
theorem dX2_makeBlock_20 : decode cX2_makeBlock 20 = .ok (.ireturn, 1) := by decide +kernel
theorem dX2_makeBlock_21 : decode cX2_makeBlock 21 = .ok (.aload_n 0, 1) := by decide +kernel
theorem dX2_makeBlock_22 : decode cX2_makeBlock 22 = .ok (.getfield 9, 3) := by decide +kernel
theorem dX2_makeBlock_25 : decode cX2_makeBlock 25 = .ok (.getfield 27, 3) := by decide +kernel
theorem dX2_makeBlock_28 : decode cX2_makeBlock 28 = .ok (.bipush 10, 2) := by decide +kernel
theorem dX2_makeBlock_30 : decode cX2_makeBlock 30 = .ok (.if_icmp .lt 6, 3) := by decide +kernel
theorem dX2_makeBlock_33 : decode cX2_makeBlock 33 = .ok (.bipush (-4), 2) := by decide +kernel
theorem dX2_makeBlock_35 : decode cX2_makeBlock 35 = .ok (.ireturn, 1) := by decide +kernel
theorem dX2_makeBlock_36 : decode cX2_makeBlock 36 = .ok (.aload_n 0, 1) := by decide +kernel
theorem dX2_makeBlock_37 : decode cX2_makeBlock 37 = .ok (.getfield 9, 3) := by decide +kernel
theorem dX2_makeBlock_40 : decode cX2_makeBlock 40 = .ok (.getfield 27, 3) := by decide +kernel
theorem dX2_makeBlock_43 : decode cX2_makeBlock 43 = .ok (.istore_n 3, 1) := by decide +kernel
theorem dX2_makeBlock_44 : decode cX2_makeBlock 44 = .ok (.aload_n 0, 1) := by decide +kernel
theorem dX2_makeBlock_45 : decode cX2_makeBlock 45 = .ok (.getfield 9, 3) := by decide +kernel
theorem dX2_makeBlock_48 : decode cX2_makeBlock 48 = .ok (.iload_n 2, 1) := by decide +kernel
theorem dX2_makeBlock_49 : decode cX2_makeBlock 49 = .ok (.invokevirtual 33, 3) := by decide +kernel
theorem dX2_makeBlock_52 : decode cX2_makeBlock 52 = .ok (.aload_n 0, 1) := by decide +kernel
theorem dX2_makeBlock_53 : decode cX2_makeBlock 53 = .ok (.getfield 9, 3) := by decide +kernel
theorem dX2_makeBlock_56 : decode cX2_makeBlock 56 = .ok (.iload_n 1, 1) := by decide +kernel
theorem dX2_makeBlock_57 : decode cX2_makeBlock 57 = .ok (.iload_n 3, 1) := by decide +kernel
theorem dX2_makeBlock_58 : decode cX2_makeBlock 58 = .ok (.iconst 0, 1) := by decide +kernel
theorem dX2_makeBlock_59 : decode cX2_makeBlock 59 = .ok (.invokevirtual 37, 3) := by decide +kernel
theorem dX2_makeBlock_62 : decode cX2_makeBlock 62 = .ok (.iload_n 3, 1) := by decide +kernel
theorem dX2_makeBlock_63 : decode cX2_makeBlock 63 = .ok (.ireturn, 1) := by decide +kernel
theorem dX2_endBlock_0 : decode cX2_endBlock 0 = .ok (.iload_n 1, 1) := by decide +kernel
theorem dX2_endBlock_1 : decode cX2_endBlock 1 = .ok (.invokestatic 23, 3) := by decide +kernel
theorem dX2_endBlock_4 : decode cX2_endBlock 4 = .ok (.ifCond .ne 6, 3) := by decide +kernel
theorem dX2_endBlock_7 : decode cX2_endBlock 7 = .ok (.bipush (-2), 2) := by decide +kernel
theorem dX2_endBlock_9 : decode cX2_endBlock 9 = .ok (.ireturn, 1) := by decide +kernel
theorem dX2_endBlock_10 : decode cX2_endBlock 10 = .ok (.aload_n 0, 1) := by decide +kernel
theorem dX2_endBlock_11 : decode cX2_endBlock 11 = .ok (.iload_n 1, 1) := by decide +kernel
theorem dX2_endBlock_12 : decode cX2_endBlock 12 = .ok (.invokevirtual 41, 3) := by decide +kernel
theorem dX2_endBlock_15 : decode cX2_endBlock 15 = .ok (.istore_n 2, 1) := by decide +kernel
theorem dX2_endBlock_16 : decode cX2_endBlock 16 = .ok (.iload_n 2, 1) := by decide +kernel
theorem dX2_endBlock_17 : decode cX2_endBlock 17 = .ok (.ifCond .eq 5, 3) := by decide +kernel
theorem dX2_endBlock_20 : decode cX2_endBlock 20 = .ok (.iload_n 2, 1) := by decide +kernel
theorem dX2_endBlock_21 : decode cX2_endBlock 21 = .ok (.ireturn, 1) := by decide +kernel
theorem dX2_endBlock_22 : decode cX2_endBlock 22 = .ok (.aload_n 0, 1) := by decide +kernel
theorem dX2_endBlock_23 : decode cX2_endBlock 23 = .ok (.getfield 9, 3) := by decide +kernel
theorem dX2_endBlock_26 : decode cX2_endBlock 26 = .ok (.iload_n 1, 1) := by decide +kernel
theorem dX2_endBlock_27 : decode cX2_endBlock 27 = .ok (.invokevirtual 45, 3) := by decide +kernel
theorem dX2_endBlock_30 : decode cX2_endBlock 30 = .ok (.istore_n 3, 1) := by decide +kernel
theorem dX2_endBlock_31 : decode cX2_endBlock 31 = .ok (.aload_n 0, 1) := by decide +kernel
theorem dX2_endBlock_32 : decode cX2_endBlock 32 = .ok (.getfield 9, 3) := by decide +kernel
theorem dX2_endBlock_35 : decode cX2_endBlock 35 = .ok (.iload_n 3, 1) := by decide +kernel
theorem dX2_endBlock_36 : decode cX2_endBlock 36 = .ok (.invokevirtual 48, 3) := by decide +kernel
theorem dX2_endBlock_39 : decode cX2_endBlock 39 = .ok (.ifCond .eq 6, 3) := by decide +kernel
theorem dX2_endBlock_42 : decode cX2_endBlock 42 = .ok (.bipush (-14), 2) := by decide +kernel
theorem dX2_endBlock_44 : decode cX2_endBlock 44 = .ok (.ireturn, 1) := by decide +kernel
theorem dX2_endBlock_45 : decode cX2_endBlock 45 = .ok (.aload_n 0, 1) := by decide +kernel
theorem dX2_endBlock_46 : decode cX2_endBlock 46 = .ok (.getfield 9, 3) := by decide +kernel
theorem dX2_endBlock_49 : decode cX2_endBlock 49 = .ok (.iload_n 3, 1) := by decide +kernel
theorem dX2_endBlock_50 : decode cX2_endBlock 50 = .ok (.invokevirtual 51, 3) := by decide +kernel
theorem dX2_endBlock_53 : decode cX2_endBlock 53 = .ok (.iload_n 3, 1) := by decide +kernel
theorem dX2_endBlock_54 : decode cX2_endBlock 54 = .ok (.ireturn, 1) := by decide +kernel
theorem dX2_setNumber_0 : decode cX2_setNumber 0 = .ok (.iload_n 1, 1) := by decide +kernel
theorem dX2_setNumber_1 : decode cX2_setNumber 1 = .ok (.invokestatic 23, 3) := by decide +kernel
theorem dX2_setNumber_4 : decode cX2_setNumber 4 = .ok (.ifCond .eq 13, 3) := by decide +kernel
theorem dX2_setNumber_7 : decode cX2_setNumber 7 = .ok (.iload_n 2, 1) := by decide +kernel
theorem dX2_setNumber_8 : decode cX2_setNumber 8 = .ok (.ifCond .lt 9, 3) := by decide +kernel
theorem dX2_setNumber_11 : decode cX2_setNumber 11 = .ok (.iload_n 2, 1) := by decide +kernel
theorem dX2_setNumber_12 : decode cX2_setNumber 12 = .ok (.ldc 54, 2) := by decide +kernel
theorem dX2_setNumber_14 : decode cX2_setNumber 14 = .ok (.if_icmp .lt 6, 3) := by decide +kernel
theorem dX2_setNumber_17 : decode cX2_setNumber 17 = .ok (.bipush (-2), 2) := by decide +kernel
theorem dX2_setNumber_19 : decode cX2_setNumber 19 = .ok (.ireturn, 1) := by decide +kernel
theorem dX2_setNumber_20 : decode cX2_setNumber 20 = .ok (.aload_n 0, 1) := by decide +kernel
theorem dX2_setNumber_21 : decode cX2_setNumber 21 = .ok (.getfield 9, 3) := by decide +kernel
theorem dX2_setNumber_24 : decode cX2_setNumber 24 = .ok (.iload_n 1, 1) := by decide +kernel
theorem dX2_setNumber_25 : decode cX2_setNumber 25 = .ok (.iload_n 2, 1) := by decide +kernel
theorem dX2_setNumber_26 : decode cX2_setNumber 26 = .ok (.invokevirtual 55, 3) := by decide +kernel
theorem dX2_setNumber_29 : decode cX2_setNumber 29 = .ok (.iload_n 2, 1) := by decide +kernel
theorem dX2_setNumber_30 : decode cX2_setNumber 30 = .ok (.ireturn, 1) := by decide +kernel
theorem dX2_copyRegister_0 : decode cX2_copyRegister 0 = .ok (.iload_n 1, 1) := by decide +kernel
theorem dX2_copyRegister_1 : decode cX2_copyRegister 1 = .ok (.invokestatic 23, 3) := by decide +kernel
theorem dX2_copyRegister_4 : decode cX2_copyRegister 4 = .ok (.ifCond .eq 10, 3) := by decide +kernel
theorem dX2_copyRegister_7 : decode cX2_copyRegister 7 = .ok (.iload_n 2, 1) := by decide +kernel
theorem dX2_copyRegister_8 : decode cX2_copyRegister 8 = .ok (.invokestatic 23, 3) := by decide +kernel
theorem dX2_copyRegister_11 : decode cX2_copyRegister 11 = .ok (.ifCond .ne 6, 3) := by decide +kernel
theorem dX2_copyRegister_14 : decode cX2_copyRegister 14 = .ok (.bipush (-2), 2) := by decide +kernel
theorem dX2_copyRegister_16 : decode cX2_copyRegister 16 = .ok (.ireturn, 1) := by decide +kernel
theorem dX2_copyRegister_17 : decode cX2_copyRegister 17 = .ok (.aload_n 0, 1) := by decide +kernel
theorem dX2_copyRegister_18 : decode cX2_copyRegister 18 = .ok (.getfield 9, 3) := by decide +kernel
theorem dX2_copyRegister_21 : decode cX2_copyRegister 21 = .ok (.iload_n 2, 1) := by decide +kernel
theorem dX2_copyRegister_22 : decode cX2_copyRegister 22 = .ok (.invokevirtual 59, 3) := by decide +kernel
theorem dX2_copyRegister_25 : decode cX2_copyRegister 25 = .ok (.istore_n 3, 1) := by decide +kernel
theorem dX2_copyRegister_26 : decode cX2_copyRegister 26 = .ok (.aload_n 0, 1) := by decide +kernel
theorem dX2_copyRegister_27 : decode cX2_copyRegister 27 = .ok (.getfield 9, 3) := by decide +kernel
theorem dX2_copyRegister_30 : decode cX2_copyRegister 30 = .ok (.iload_n 1, 1) := by decide +kernel
theorem dX2_copyRegister_31 : decode cX2_copyRegister 31 = .ok (.iload_n 3, 1) := by decide +kernel
theorem dX2_copyRegister_32 : decode cX2_copyRegister 32 = .ok (.aload_n 0, 1) := by decide +kernel
theorem dX2_copyRegister_33 : decode cX2_copyRegister 33 = .ok (.getfield 9, 3) := by decide +kernel
theorem dX2_copyRegister_36 : decode cX2_copyRegister 36 = .ok (.iload_n 2, 1) := by decide +kernel
theorem dX2_copyRegister_37 : decode cX2_copyRegister 37 = .ok (.invokevirtual 45, 3) := by decide +kernel
theorem dX2_copyRegister_40 : decode cX2_copyRegister 40 = .ok (.aload_n 0, 1) := by decide +kernel
theorem dX2_copyRegister_41 : decode cX2_copyRegister 41 = .ok (.getfield 9, 3) := by decide +kernel
theorem dX2_copyRegister_44 : decode cX2_copyRegister 44 = .ok (.iload_n 2, 1) := by decide +kernel
theorem dX2_copyRegister_45 : decode cX2_copyRegister 45 = .ok (.invokevirtual 62, 3) := by decide +kernel
theorem dX2_copyRegister_48 : decode cX2_copyRegister 48 = .ok (.invokevirtual 65, 3) := by decide +kernel
theorem dX2_copyRegister_51 : decode cX2_copyRegister 51 = .ok (.iload_n 3, 1) := by decide +kernel
theorem dX2_copyRegister_52 : decode cX2_copyRegister 52 = .ok (.ireturn, 1) := by decide +kernel
theorem dX2_forgetRegister_0 : decode cX2_forgetRegister 0 = .ok (.iload_n 1, 1) := by decide +kernel
theorem dX2_forgetRegister_1 : decode cX2_forgetRegister 1 = .ok (.invokestatic 23, 3) := by decide +kernel
theorem dX2_forgetRegister_4 : decode cX2_forgetRegister 4 = .ok (.ifCond .ne 6, 3) := by decide +kernel
theorem dX2_forgetRegister_7 : decode cX2_forgetRegister 7 = .ok (.bipush (-2), 2) := by decide +kernel
theorem dX2_forgetRegister_9 : decode cX2_forgetRegister 9 = .ok (.ireturn, 1) := by decide +kernel
theorem dX2_forgetRegister_10 : decode cX2_forgetRegister 10 = .ok (.aload_n 0, 1) := by decide +kernel
theorem dX2_forgetRegister_11 : decode cX2_forgetRegister 11 = .ok (.getfield 9, 3) := by decide +kernel
theorem dX2_forgetRegister_14 : decode cX2_forgetRegister 14 = .ok (.iload_n 1, 1) := by decide +kernel
theorem dX2_forgetRegister_15 : decode cX2_forgetRegister 15 = .ok (.invokevirtual 59, 3) := by decide +kernel
theorem dX2_forgetRegister_18 : decode cX2_forgetRegister 18 = .ok (.istore_n 2, 1) := by decide +kernel
theorem dX2_forgetRegister_19 : decode cX2_forgetRegister 19 = .ok (.aload_n 0, 1) := by decide +kernel
theorem dX2_forgetRegister_20 : decode cX2_forgetRegister 20 = .ok (.getfield 9, 3) := by decide +kernel
theorem dX2_forgetRegister_23 : decode cX2_forgetRegister 23 = .ok (.iload_n 1, 1) := by decide +kernel
theorem dX2_forgetRegister_24 : decode cX2_forgetRegister 24 = .ok (.iconst 0, 1) := by decide +kernel
theorem dX2_forgetRegister_25 : decode cX2_forgetRegister 25 = .ok (.iconst (-1), 1) := by decide +kernel
theorem dX2_forgetRegister_26 : decode cX2_forgetRegister 26 = .ok (.iconst (-1), 1) := by decide +kernel
theorem dX2_forgetRegister_27 : decode cX2_forgetRegister 27 = .ok (.invokevirtual 65, 3) := by decide +kernel
theorem dX2_forgetRegister_30 : decode cX2_forgetRegister 30 = .ok (.iload_n 2, 1) := by decide +kernel
theorem dX2_forgetRegister_31 : decode cX2_forgetRegister 31 = .ok (.ireturn, 1) := by decide +kernel
theorem dX2_changeBudget_0 : decode cX2_changeBudget 0 = .ok (.iload_n 1, 1) := by decide +kernel
theorem dX2_changeBudget_1 : decode cX2_changeBudget 1 = .ok (.iconst 1, 1) := by decide +kernel
theorem dX2_changeBudget_2 : decode cX2_changeBudget 2 = .ok (.if_icmp .lt 9, 3) := by decide +kernel
theorem dX2_changeBudget_5 : decode cX2_changeBudget 5 = .ok (.iload_n 1, 1) := by decide +kernel
theorem dX2_changeBudget_6 : decode cX2_changeBudget 6 = .ok (.bipush 60, 2) := by decide +kernel
theorem dX2_changeBudget_8 : decode cX2_changeBudget 8 = .ok (.if_icmp .le 6, 3) := by decide +kernel
theorem dX2_changeBudget_11 : decode cX2_changeBudget 11 = .ok (.bipush (-2), 2) := by decide +kernel
theorem dX2_changeBudget_13 : decode cX2_changeBudget 13 = .ok (.ireturn, 1) := by decide +kernel
theorem dX2_changeBudget_14 : decode cX2_changeBudget 14 = .ok (.aload_n 0, 1) := by decide +kernel
theorem dX2_changeBudget_15 : decode cX2_changeBudget 15 = .ok (.getfield 9, 3) := by decide +kernel
theorem dX2_changeBudget_18 : decode cX2_changeBudget 18 = .ok (.getfield 69, 3) := by decide +kernel
theorem dX2_changeBudget_21 : decode cX2_changeBudget 21 = .ok (.istore_n 2, 1) := by decide +kernel
theorem dX2_changeBudget_22 : decode cX2_changeBudget 22 = .ok (.aload_n 0, 1) := by decide +kernel
theorem dX2_changeBudget_23 : decode cX2_changeBudget 23 = .ok (.getfield 9, 3) := by decide +kernel
theorem dX2_changeBudget_26 : decode cX2_changeBudget 26 = .ok (.iload_n 1, 1) := by decide +kernel
theorem dX2_changeBudget_27 : decode cX2_changeBudget 27 = .ok (.putfield 69, 3) := by decide +kernel
theorem dX2_changeBudget_30 : decode cX2_changeBudget 30 = .ok (.iload_n 2, 1) := by decide +kernel
theorem dX2_changeBudget_31 : decode cX2_changeBudget 31 = .ok (.ireturn, 1) := by decide +kernel
theorem dX2_moveRegister_0 : decode cX2_moveRegister 0 = .ok (.iload_n 1, 1) := by decide +kernel
theorem dX2_moveRegister_1 : decode cX2_moveRegister 1 = .ok (.invokestatic 23, 3) := by decide +kernel
theorem dX2_moveRegister_4 : decode cX2_moveRegister 4 = .ok (.ifCond .eq 15, 3) := by decide +kernel
theorem dX2_moveRegister_7 : decode cX2_moveRegister 7 = .ok (.iload_n 2, 1) := by decide +kernel
theorem dX2_moveRegister_8 : decode cX2_moveRegister 8 = .ok (.bipush (-12), 2) := by decide +kernel
theorem dX2_moveRegister_10 : decode cX2_moveRegister 10 = .ok (.if_icmp .lt 9, 3) := by decide +kernel
theorem dX2_moveRegister_13 : decode cX2_moveRegister 13 = .ok (.iload_n 2, 1) := by decide +kernel
theorem dX2_moveRegister_14 : decode cX2_moveRegister 14 = .ok (.bipush 12, 2) := by decide +kernel
theorem dX2_moveRegister_16 : decode cX2_moveRegister 16 = .ok (.if_icmp .le 6, 3) := by decide +kernel
theorem dX2_moveRegister_19 : decode cX2_moveRegister 19 = .ok (.bipush (-2), 2) := by decide +kernel
theorem dX2_moveRegister_21 : decode cX2_moveRegister 21 = .ok (.ireturn, 1) := by decide +kernel
theorem dX2_moveRegister_22 : decode cX2_moveRegister 22 = .ok (.aload_n 0, 1) := by decide +kernel
theorem dX2_moveRegister_23 : decode cX2_moveRegister 23 = .ok (.getfield 9, 3) := by decide +kernel
theorem dX2_moveRegister_26 : decode cX2_moveRegister 26 = .ok (.iload_n 1, 1) := by decide +kernel
theorem dX2_moveRegister_27 : decode cX2_moveRegister 27 = .ok (.invokevirtual 59, 3) := by decide +kernel
theorem dX2_moveRegister_30 : decode cX2_moveRegister 30 = .ok (.istore_n 3, 1) := by decide +kernel
theorem dX2_moveRegister_31 : decode cX2_moveRegister 31 = .ok (.iload_n 3, 1) := by decide +kernel
theorem dX2_moveRegister_32 : decode cX2_moveRegister 32 = .ok (.ifCond .ne 6, 3) := by decide +kernel
theorem dX2_moveRegister_35 : decode cX2_moveRegister 35 = .ok (.bipush (-11), 2) := by decide +kernel
theorem dX2_moveRegister_37 : decode cX2_moveRegister 37 = .ok (.ireturn, 1) := by decide +kernel
theorem dX2_moveRegister_38 : decode cX2_moveRegister 38 = .ok (.iload_n 3, 1) := by decide +kernel
theorem dX2_moveRegister_39 : decode cX2_moveRegister 39 = .ok (.iconst 1, 1) := by decide +kernel
theorem dX2_moveRegister_40 : decode cX2_moveRegister 40 = .ok (.if_icmp .ne 12, 3) := by decide +kernel
theorem dX2_moveRegister_43 : decode cX2_moveRegister 43 = .ok (.aload_n 0, 1) := by decide +kernel
theorem dX2_moveRegister_44 : decode cX2_moveRegister 44 = .ok (.iload_n 1, 1) := by decide +kernel
theorem dX2_moveRegister_45 : decode cX2_moveRegister 45 = .ok (.iload_n 2, 1) := by decide +kernel
theorem dX2_moveRegister_46 : decode cX2_moveRegister 46 = .ok (.invokevirtual 72, 3) := by decide +kernel
theorem dX2_moveRegister_49 : decode cX2_moveRegister 49 = .ok (.goto 9, 3) := by decide +kernel
theorem dX2_moveRegister_52 : decode cX2_moveRegister 52 = .ok (.aload_n 0, 1) := by decide +kernel
theorem dX2_moveRegister_53 : decode cX2_moveRegister 53 = .ok (.iload_n 1, 1) := by decide +kernel
theorem dX2_moveRegister_54 : decode cX2_moveRegister 54 = .ok (.iload_n 2, 1) := by decide +kernel
theorem dX2_moveRegister_55 : decode cX2_moveRegister 55 = .ok (.invokevirtual 76, 3) := by decide +kernel
theorem dX2_moveRegister_58 : decode cX2_moveRegister 58 = .ok (.ireturn, 1) := by decide +kernel
theorem dX2_moveNumber_0 : decode cX2_moveNumber 0 = .ok (.aload_n 0, 1) := by decide +kernel
theorem dX2_moveNumber_1 : decode cX2_moveNumber 1 = .ok (.getfield 9, 3) := by decide +kernel
theorem dX2_moveNumber_4 : decode cX2_moveNumber 4 = .ok (.iload_n 1, 1) := by decide +kernel
theorem dX2_moveNumber_5 : decode cX2_moveNumber 5 = .ok (.invokevirtual 45, 3) := by decide +kernel
theorem dX2_moveNumber_8 : decode cX2_moveNumber 8 = .ok (.iload_n 2, 1) := by decide +kernel
theorem dX2_moveNumber_9 : decode cX2_moveNumber 9 = .ok (.iadd, 1) := by decide +kernel
theorem dX2_moveNumber_10 : decode cX2_moveNumber 10 = .ok (.ldc 54, 2) := by decide +kernel
theorem dX2_moveNumber_12 : decode cX2_moveNumber 12 = .ok (.invokestatic 79, 3) := by decide +kernel
theorem dX2_moveNumber_15 : decode cX2_moveNumber 15 = .ok (.istore_n 3, 1) := by decide +kernel
theorem dX2_moveNumber_16 : decode cX2_moveNumber 16 = .ok (.aload_n 0, 1) := by decide +kernel
theorem dX2_moveNumber_17 : decode cX2_moveNumber 17 = .ok (.getfield 9, 3) := by decide +kernel
theorem dX2_moveNumber_20 : decode cX2_moveNumber 20 = .ok (.iload_n 1, 1) := by decide +kernel
theorem dX2_moveNumber_21 : decode cX2_moveNumber 21 = .ok (.iload_n 3, 1) := by decide +kernel
theorem dX2_moveNumber_22 : decode cX2_moveNumber 22 = .ok (.invokevirtual 55, 3) := by decide +kernel
theorem dX2_moveNumber_25 : decode cX2_moveNumber 25 = .ok (.iload_n 3, 1) := by decide +kernel
theorem dX2_moveNumber_26 : decode cX2_moveNumber 26 = .ok (.ireturn, 1) := by decide +kernel
theorem dX2_movePointer_0 : decode cX2_movePointer 0 = .ok (.aload_n 0, 1) := by decide +kernel
theorem dX2_movePointer_1 : decode cX2_movePointer 1 = .ok (.getfield 9, 3) := by decide +kernel
theorem dX2_movePointer_4 : decode cX2_movePointer 4 = .ok (.iload_n 1, 1) := by decide +kernel
theorem dX2_movePointer_5 : decode cX2_movePointer 5 = .ok (.invokevirtual 45, 3) := by decide +kernel
theorem dX2_movePointer_8 : decode cX2_movePointer 8 = .ok (.istore_n 3, 1) := by decide +kernel
theorem dX2_movePointer_9 : decode cX2_movePointer 9 = .ok (.aload_n 0, 1) := by decide +kernel
theorem dX2_movePointer_10 : decode cX2_movePointer 10 = .ok (.getfield 9, 3) := by decide +kernel
theorem dX2_movePointer_13 : decode cX2_movePointer 13 = .ok (.iload_n 3, 1) := by decide +kernel
theorem dX2_movePointer_14 : decode cX2_movePointer 14 = .ok (.invokevirtual 84, 3) := by decide +kernel
theorem dX2_movePointer_17 : decode cX2_movePointer 17 = .ok (.ifCond .ne 6, 3) := by decide +kernel
theorem dX2_movePointer_20 : decode cX2_movePointer 20 = .ok (.bipush (-13), 2) := by decide +kernel
theorem dX2_movePointer_22 : decode cX2_movePointer 22 = .ok (.ireturn, 1) := by decide +kernel
theorem dX2_movePointer_23 : decode cX2_movePointer 23 = .ok (.aload_n 0, 1) := by decide +kernel
theorem dX2_movePointer_24 : decode cX2_movePointer 24 = .ok (.getfield 9, 3) := by decide +kernel
theorem dX2_movePointer_27 : decode cX2_movePointer 27 = .ok (.iload_n 1, 1) := by decide +kernel
theorem dX2_movePointer_28 : decode cX2_movePointer 28 = .ok (.invokevirtual 62, 3) := by decide +kernel
theorem dX2_movePointer_31 : decode cX2_movePointer 31 = .ok (.iload_n 2, 1) := by decide +kernel
theorem dX2_movePointer_32 : decode cX2_movePointer 32 = .ok (.iadd, 1) := by decide +kernel
theorem dX2_movePointer_33 : decode cX2_movePointer 33 = .ok (.istore 4, 2) := by decide +kernel
theorem dX2_movePointer_35 : decode cX2_movePointer 35 = .ok (.iload 4, 2) := by decide +kernel
theorem dX2_movePointer_37 : decode cX2_movePointer 37 = .ok (.ifCond .lt 16, 3) := by decide +kernel
theorem dX2_movePointer_40 : decode cX2_movePointer 40 = .ok (.iload 4, 2) := by decide +kernel
theorem dX2_movePointer_42 : decode cX2_movePointer 42 = .ok (.aload_n 0, 1) := by decide +kernel
theorem dX2_movePointer_43 : decode cX2_movePointer 43 = .ok (.getfield 9, 3) := by decide +kernel
theorem dX2_movePointer_46 : decode cX2_movePointer 46 = .ok (.iload_n 3, 1) := by decide +kernel
theorem dX2_movePointer_47 : decode cX2_movePointer 47 = .ok (.invokevirtual 87, 3) := by decide +kernel
theorem dX2_movePointer_50 : decode cX2_movePointer 50 = .ok (.if_icmp .le 6, 3) := by decide +kernel
theorem dX2_movePointer_53 : decode cX2_movePointer 53 = .ok (.bipush (-15), 2) := by decide +kernel
theorem dX2_movePointer_55 : decode cX2_movePointer 55 = .ok (.ireturn, 1) := by decide +kernel
theorem dX2_movePointer_56 : decode cX2_movePointer 56 = .ok (.aload_n 0, 1) := by decide +kernel
theorem dX2_movePointer_57 : decode cX2_movePointer 57 = .ok (.getfield 9, 3) := by decide +kernel
theorem dX2_movePointer_60 : decode cX2_movePointer 60 = .ok (.iload_n 1, 1) := by decide +kernel
theorem dX2_movePointer_61 : decode cX2_movePointer 61 = .ok (.iload_n 3, 1) := by decide +kernel
theorem dX2_movePointer_62 : decode cX2_movePointer 62 = .ok (.iload 4, 2) := by decide +kernel
theorem dX2_movePointer_64 : decode cX2_movePointer 64 = .ok (.invokevirtual 37, 3) := by decide +kernel
theorem dX2_movePointer_67 : decode cX2_movePointer 67 = .ok (.iload 4, 2) := by decide +kernel
theorem dX2_movePointer_69 : decode cX2_movePointer 69 = .ok (.ireturn, 1) := by decide +kernel
theorem dX2_storeBytes_0 : decode cX2_storeBytes 0 = .ok (.iload_n 1, 1) := by decide +kernel
theorem dX2_storeBytes_1 : decode cX2_storeBytes 1 = .ok (.invokestatic 23, 3) := by decide +kernel
theorem dX2_storeBytes_4 : decode cX2_storeBytes 4 = .ok (.ifCond .eq 20, 3) := by decide +kernel
theorem dX2_storeBytes_7 : decode cX2_storeBytes 7 = .ok (.iload_n 2, 1) := by decide +kernel
theorem dX2_storeBytes_8 : decode cX2_storeBytes 8 = .ok (.invokestatic 23, 3) := by decide +kernel
theorem dX2_storeBytes_11 : decode cX2_storeBytes 11 = .ok (.ifCond .eq 13, 3) := by decide +kernel
theorem dX2_storeBytes_14 : decode cX2_storeBytes 14 = .ok (.iload_n 3, 1) := by decide +kernel
theorem dX2_storeBytes_15 : decode cX2_storeBytes 15 = .ok (.iconst 1, 1) := by decide +kernel
theorem dX2_storeBytes_16 : decode cX2_storeBytes 16 = .ok (.if_icmp .lt 8, 3) := by decide +kernel
theorem dX2_storeBytes_19 : decode cX2_storeBytes 19 = .ok (.iload_n 3, 1) := by decide +kernel
theorem dX2_storeBytes_20 : decode cX2_storeBytes 20 = .ok (.iconst 2, 1) := by decide +kernel
theorem dX2_storeBytes_21 : decode cX2_storeBytes 21 = .ok (.if_icmp .le 6, 3) := by decide +kernel
theorem dX2_storeBytes_24 : decode cX2_storeBytes 24 = .ok (.bipush (-2), 2) := by decide +kernel
theorem dX2_storeBytes_26 : decode cX2_storeBytes 26 = .ok (.ireturn, 1) := by decide +kernel
theorem dX2_storeBytes_27 : decode cX2_storeBytes 27 = .ok (.aload_n 0, 1) := by decide +kernel
theorem dX2_storeBytes_28 : decode cX2_storeBytes 28 = .ok (.iload_n 1, 1) := by decide +kernel
theorem dX2_storeBytes_29 : decode cX2_storeBytes 29 = .ok (.iload_n 3, 1) := by decide +kernel
theorem dX2_storeBytes_30 : decode cX2_storeBytes 30 = .ok (.invokevirtual 90, 3) := by decide +kernel
theorem dX2_storeBytes_33 : decode cX2_storeBytes 33 = .ok (.istore 4, 2) := by decide +kernel
theorem dX2_storeBytes_35 : decode cX2_storeBytes 35 = .ok (.iload 4, 2) := by decide +kernel
theorem dX2_storeBytes_37 : decode cX2_storeBytes 37 = .ok (.ifCond .eq 6, 3) := by decide +kernel
theorem dX2_storeBytes_40 : decode cX2_storeBytes 40 = .ok (.iload 4, 2) := by decide +kernel
theorem dX2_storeBytes_42 : decode cX2_storeBytes 42 = .ok (.ireturn, 1) := by decide +kernel
theorem dX2_storeBytes_43 : decode cX2_storeBytes 43 = .ok (.aload_n 0, 1) := by decide +kernel
theorem dX2_storeBytes_44 : decode cX2_storeBytes 44 = .ok (.getfield 9, 3) := by decide +kernel
theorem dX2_storeBytes_47 : decode cX2_storeBytes 47 = .ok (.iload_n 2, 1) := by decide +kernel
theorem dX2_storeBytes_48 : decode cX2_storeBytes 48 = .ok (.invokevirtual 59, 3) := by decide +kernel
theorem dX2_storeBytes_51 : decode cX2_storeBytes 51 = .ok (.istore 5, 2) := by decide +kernel
theorem dX2_storeBytes_53 : decode cX2_storeBytes 53 = .ok (.iload 5, 2) := by decide +kernel
theorem dX2_storeBytes_55 : decode cX2_storeBytes 55 = .ok (.ifCond .ne 6, 3) := by decide +kernel
theorem dX2_storeBytes_58 : decode cX2_storeBytes 58 = .ok (.bipush (-11), 2) := by decide +kernel
theorem dX2_storeBytes_60 : decode cX2_storeBytes 60 = .ok (.ireturn, 1) := by decide +kernel
theorem dX2_storeBytes_61 : decode cX2_storeBytes 61 = .ok (.iload_n 3, 1) := by decide +kernel
theorem dX2_storeBytes_62 : decode cX2_storeBytes 62 = .ok (.iconst 1, 1) := by decide +kernel
theorem dX2_storeBytes_63 : decode cX2_storeBytes 63 = .ok (.if_icmp .ne 12, 3) := by decide +kernel
theorem dX2_storeBytes_66 : decode cX2_storeBytes 66 = .ok (.iload 5, 2) := by decide +kernel
theorem dX2_storeBytes_68 : decode cX2_storeBytes 68 = .ok (.iconst 2, 1) := by decide +kernel
theorem dX2_storeBytes_69 : decode cX2_storeBytes 69 = .ok (.if_icmp .ne 6, 3) := by decide +kernel
theorem dX2_storeBytes_72 : decode cX2_storeBytes 72 = .ok (.bipush (-17), 2) := by decide +kernel
theorem dX2_storeBytes_74 : decode cX2_storeBytes 74 = .ok (.ireturn, 1) := by decide +kernel
theorem dX2_storeBytes_75 : decode cX2_storeBytes 75 = .ok (.aload_n 0, 1) := by decide +kernel
theorem dX2_storeBytes_76 : decode cX2_storeBytes 76 = .ok (.getfield 9, 3) := by decide +kernel
theorem dX2_storeBytes_79 : decode cX2_storeBytes 79 = .ok (.iload_n 1, 1) := by decide +kernel
theorem dX2_storeBytes_80 : decode cX2_storeBytes 80 = .ok (.invokevirtual 45, 3) := by decide +kernel
theorem dX2_storeBytes_83 : decode cX2_storeBytes 83 = .ok (.istore 6, 2) := by decide +kernel
theorem dX2_storeBytes_85 : decode cX2_storeBytes 85 = .ok (.aload_n 0, 1) := by decide +kernel
theorem dX2_storeBytes_86 : decode cX2_storeBytes 86 = .ok (.getfield 9, 3) := by decide +kernel
theorem dX2_storeBytes_89 : decode cX2_storeBytes 89 = .ok (.iload_n 1, 1) := by decide +kernel
theorem dX2_storeBytes_90 : decode cX2_storeBytes 90 = .ok (.invokevirtual 62, 3) := by decide +kernel
theorem dX2_storeBytes_93 : decode cX2_storeBytes 93 = .ok (.istore 7, 2) := by decide +kernel
theorem dX2_storeBytes_95 : decode cX2_storeBytes 95 = .ok (.aload_n 0, 1) := by decide +kernel
theorem dX2_storeBytes_96 : decode cX2_storeBytes 96 = .ok (.iload 6, 2) := by decide +kernel
theorem dX2_storeBytes_98 : decode cX2_storeBytes 98 = .ok (.iload 7, 2) := by decide +kernel
theorem dX2_storeBytes_100 : decode cX2_storeBytes 100 = .ok (.iload_n 3, 1) := by decide +kernel
theorem dX2_storeBytes_101 : decode cX2_storeBytes 101 = .ok (.invokevirtual 93, 3) := by decide +kernel
theorem dX2_storeBytes_104 : decode cX2_storeBytes 104 = .ok (.aload_n 0, 1) := by decide +kernel
theorem dX2_storeBytes_105 : decode cX2_storeBytes 105 = .ok (.iload 6, 2) := by decide +kernel
theorem dX2_storeBytes_107 : decode cX2_storeBytes 107 = .ok (.iload 7, 2) := by decide +kernel
theorem dX2_storeBytes_109 : decode cX2_storeBytes 109 = .ok (.iload_n 2, 1) := by decide +kernel
theorem dX2_storeBytes_110 : decode cX2_storeBytes 110 = .ok (.iload_n 3, 1) := by decide +kernel
theorem dX2_storeBytes_111 : decode cX2_storeBytes 111 = .ok (.invokevirtual 96, 3) := by decide +kernel
theorem dX2_storeBytes_114 : decode cX2_storeBytes 114 = .ok (.iload 7, 2) := by decide +kernel
theorem dX2_storeBytes_116 : decode cX2_storeBytes 116 = .ok (.ireturn, 1) := by decide +kernel
theorem dX2_putValue_0 : decode cX2_putValue 0 = .ok (.aload_n 0, 1) := by decide +kernel
theorem dX2_putValue_1 : decode cX2_putValue 1 = .ok (.getfield 9, 3) := by decide +kernel
theorem dX2_putValue_4 : decode cX2_putValue 4 = .ok (.iload_n 3, 1) := by decide +kernel
theorem dX2_putValue_5 : decode cX2_putValue 5 = .ok (.invokevirtual 45, 3) := by decide +kernel
theorem dX2_putValue_8 : decode cX2_putValue 8 = .ok (.istore 5, 2) := by decide +kernel
theorem dX2_putValue_10 : decode cX2_putValue 10 = .ok (.aload_n 0, 1) := by decide +kernel
theorem dX2_putValue_11 : decode cX2_putValue 11 = .ok (.getfield 9, 3) := by decide +kernel
theorem dX2_putValue_14 : decode cX2_putValue 14 = .ok (.iload_n 3, 1) := by decide +kernel
theorem dX2_putValue_15 : decode cX2_putValue 15 = .ok (.invokevirtual 59, 3) := by decide +kernel
theorem dX2_putValue_18 : decode cX2_putValue 18 = .ok (.iconst 2, 1) := by decide +kernel
theorem dX2_putValue_19 : decode cX2_putValue 19 = .ok (.if_icmp .ne 40, 3) := by decide +kernel
theorem dX2_putValue_22 : decode cX2_putValue 22 = .ok (.aload_n 0, 1) := by decide +kernel
theorem dX2_putValue_23 : decode cX2_putValue 23 = .ok (.getfield 9, 3) := by decide +kernel
theorem dX2_putValue_26 : decode cX2_putValue 26 = .ok (.iload_n 1, 1) := by decide +kernel
theorem dX2_putValue_27 : decode cX2_putValue 27 = .ok (.iload_n 2, 1) := by decide +kernel
theorem dX2_putValue_28 : decode cX2_putValue 28 = .ok (.iload 5, 2) := by decide +kernel
theorem dX2_putValue_30 : decode cX2_putValue 30 = .ok (.aload_n 0, 1) := by decide +kernel
theorem dX2_putValue_31 : decode cX2_putValue 31 = .ok (.getfield 9, 3) := by decide +kernel
theorem dX2_putValue_34 : decode cX2_putValue 34 = .ok (.iload_n 3, 1) := by decide +kernel
theorem dX2_putValue_35 : decode cX2_putValue 35 = .ok (.invokevirtual 62, 3) := by decide +kernel
theorem dX2_putValue_38 : decode cX2_putValue 38 = .ok (.invokestatic 99, 3) := by decide +kernel
theorem dX2_putValue_41 : decode cX2_putValue 41 = .ok (.invokevirtual 102, 3) := by decide +kernel
theorem dX2_putValue_44 : decode cX2_putValue 44 = .ok (.aload_n 0, 1) := by decide +kernel
theorem dX2_putValue_45 : decode cX2_putValue 45 = .ok (.getfield 9, 3) := by decide +kernel
theorem dX2_putValue_48 : decode cX2_putValue 48 = .ok (.iload_n 1, 1) := by decide +kernel
theorem dX2_putValue_49 : decode cX2_putValue 49 = .ok (.iload_n 2, 1) := by decide +kernel
theorem dX2_putValue_50 : decode cX2_putValue 50 = .ok (.iconst 1, 1) := by decide +kernel
theorem dX2_putValue_51 : decode cX2_putValue 51 = .ok (.iadd, 1) := by decide +kernel
theorem dX2_putValue_52 : decode cX2_putValue 52 = .ok (.sipush 999, 3) := by decide +kernel
theorem dX2_putValue_55 : decode cX2_putValue 55 = .ok (.invokevirtual 102, 3) := by decide +kernel
theorem dX2_putValue_58 : decode cX2_putValue 58 = .ok (.return_, 1) := by decide +kernel
theorem dX2_putValue_59 : decode cX2_putValue 59 = .ok (.aload_n 0, 1) := by decide +kernel
theorem dX2_putValue_60 : decode cX2_putValue 60 = .ok (.getfield 9, 3) := by decide +kernel
theorem dX2_putValue_63 : decode cX2_putValue 63 = .ok (.iload_n 1, 1) := by decide +kernel
theorem dX2_putValue_64 : decode cX2_putValue 64 = .ok (.iload_n 2, 1) := by decide +kernel
theorem dX2_putValue_65 : decode cX2_putValue 65 = .ok (.iload 5, 2) := by decide +kernel
theorem dX2_putValue_67 : decode cX2_putValue 67 = .ok (.sipush 255, 3) := by decide +kernel
theorem dX2_putValue_70 : decode cX2_putValue 70 = .ok (.iand, 1) := by decide +kernel
theorem dX2_putValue_71 : decode cX2_putValue 71 = .ok (.invokevirtual 102, 3) := by decide +kernel
theorem dX2_putValue_74 : decode cX2_putValue 74 = .ok (.iload 4, 2) := by decide +kernel
theorem dX2_putValue_76 : decode cX2_putValue 76 = .ok (.iconst 2, 1) := by decide +kernel
theorem dX2_putValue_77 : decode cX2_putValue 77 = .ok (.if_icmp .ne 23, 3) := by decide +kernel
theorem dX2_putValue_80 : decode cX2_putValue 80 = .ok (.aload_n 0, 1) := by decide +kernel
theorem dX2_putValue_81 : decode cX2_putValue 81 = .ok (.getfield 9, 3) := by decide +kernel
theorem dX2_putValue_84 : decode cX2_putValue 84 = .ok (.iload_n 1, 1) := by decide +kernel
theorem dX2_putValue_85 : decode cX2_putValue 85 = .ok (.iload_n 2, 1) := by decide +kernel
theorem dX2_putValue_86 : decode cX2_putValue 86 = .ok (.iconst 1, 1) := by decide +kernel
theorem dX2_putValue_87 : decode cX2_putValue 87 = .ok (.iadd, 1) := by decide +kernel
theorem dX2_putValue_88 : decode cX2_putValue 88 = .ok (.iload 5, 2) := by decide +kernel
theorem dX2_putValue_90 : decode cX2_putValue 90 = .ok (.bipush 8, 2) := by decide +kernel
theorem dX2_putValue_92 : decode cX2_putValue 92 = .ok (.ishr, 1) := by decide +kernel
theorem dX2_putValue_93 : decode cX2_putValue 93 = .ok (.sipush 255, 3) := by decide +kernel
theorem dX2_putValue_96 : decode cX2_putValue 96 = .ok (.iand, 1) := by decide +kernel
theorem dX2_putValue_97 : decode cX2_putValue 97 = .ok (.invokevirtual 102, 3) := by decide +kernel
theorem dX2_putValue_100 : decode cX2_putValue 100 = .ok (.return_, 1) := by decide +kernel
theorem dX2_loadBytes_0 : decode cX2_loadBytes 0 = .ok (.iload_n 1, 1) := by decide +kernel
theorem dX2_loadBytes_1 : decode cX2_loadBytes 1 = .ok (.invokestatic 23, 3) := by decide +kernel
theorem dX2_loadBytes_4 : decode cX2_loadBytes 4 = .ok (.ifCond .eq 20, 3) := by decide +kernel
theorem dX2_loadBytes_7 : decode cX2_loadBytes 7 = .ok (.iload_n 2, 1) := by decide +kernel
theorem dX2_loadBytes_8 : decode cX2_loadBytes 8 = .ok (.invokestatic 23, 3) := by decide +kernel
theorem dX2_loadBytes_11 : decode cX2_loadBytes 11 = .ok (.ifCond .eq 13, 3) := by decide +kernel
theorem dX2_loadBytes_14 : decode cX2_loadBytes 14 = .ok (.iload_n 3, 1) := by decide +kernel
theorem dX2_loadBytes_15 : decode cX2_loadBytes 15 = .ok (.iconst 1, 1) := by decide +kernel
theorem dX2_loadBytes_16 : decode cX2_loadBytes 16 = .ok (.if_icmp .lt 8, 3) := by decide +kernel
theorem dX2_loadBytes_19 : decode cX2_loadBytes 19 = .ok (.iload_n 3, 1) := by decide +kernel
theorem dX2_loadBytes_20 : decode cX2_loadBytes 20 = .ok (.iconst 2, 1) := by decide +kernel
theorem dX2_loadBytes_21 : decode cX2_loadBytes 21 = .ok (.if_icmp .le 6, 3) := by decide +kernel
theorem dX2_loadBytes_24 : decode cX2_loadBytes 24 = .ok (.bipush (-2), 2) := by decide +kernel
theorem dX2_loadBytes_26 : decode cX2_loadBytes 26 = .ok (.ireturn, 1) := by decide +kernel
theorem dX2_loadBytes_27 : decode cX2_loadBytes 27 = .ok (.aload_n 0, 1) := by decide +kernel
theorem dX2_loadBytes_28 : decode cX2_loadBytes 28 = .ok (.iload_n 2, 1) := by decide +kernel
theorem dX2_loadBytes_29 : decode cX2_loadBytes 29 = .ok (.iload_n 3, 1) := by decide +kernel
theorem dX2_loadBytes_30 : decode cX2_loadBytes 30 = .ok (.invokevirtual 105, 3) := by decide +kernel
theorem dX2_loadBytes_33 : decode cX2_loadBytes 33 = .ok (.istore 4, 2) := by decide +kernel
theorem dX2_loadBytes_35 : decode cX2_loadBytes 35 = .ok (.iload 4, 2) := by decide +kernel
theorem dX2_loadBytes_37 : decode cX2_loadBytes 37 = .ok (.ifCond .eq 6, 3) := by decide +kernel
theorem dX2_loadBytes_40 : decode cX2_loadBytes 40 = .ok (.iload 4, 2) := by decide +kernel
theorem dX2_loadBytes_42 : decode cX2_loadBytes 42 = .ok (.ireturn, 1) := by decide +kernel
theorem dX2_loadBytes_43 : decode cX2_loadBytes 43 = .ok (.aload_n 0, 1) := by decide +kernel
theorem dX2_loadBytes_44 : decode cX2_loadBytes 44 = .ok (.getfield 9, 3) := by decide +kernel
theorem dX2_loadBytes_47 : decode cX2_loadBytes 47 = .ok (.aload_n 0, 1) := by decide +kernel
theorem dX2_loadBytes_48 : decode cX2_loadBytes 48 = .ok (.getfield 9, 3) := by decide +kernel
theorem dX2_loadBytes_51 : decode cX2_loadBytes 51 = .ok (.iload_n 2, 1) := by decide +kernel
theorem dX2_loadBytes_52 : decode cX2_loadBytes 52 = .ok (.invokevirtual 45, 3) := by decide +kernel
theorem dX2_loadBytes_55 : decode cX2_loadBytes 55 = .ok (.aload_n 0, 1) := by decide +kernel
theorem dX2_loadBytes_56 : decode cX2_loadBytes 56 = .ok (.getfield 9, 3) := by decide +kernel
theorem dX2_loadBytes_59 : decode cX2_loadBytes 59 = .ok (.iload_n 2, 1) := by decide +kernel
theorem dX2_loadBytes_60 : decode cX2_loadBytes 60 = .ok (.invokevirtual 62, 3) := by decide +kernel
theorem dX2_loadBytes_63 : decode cX2_loadBytes 63 = .ok (.invokevirtual 108, 3) := by decide +kernel
theorem dX2_loadBytes_66 : decode cX2_loadBytes 66 = .ok (.istore 5, 2) := by decide +kernel
theorem dX2_loadBytes_68 : decode cX2_loadBytes 68 = .ok (.iload_n 3, 1) := by decide +kernel
theorem dX2_loadBytes_69 : decode cX2_loadBytes 69 = .ok (.iconst 2, 1) := by decide +kernel
theorem dX2_loadBytes_70 : decode cX2_loadBytes 70 = .ok (.if_icmp .ne 31, 3) := by decide +kernel
theorem dX2_loadBytes_73 : decode cX2_loadBytes 73 = .ok (.aload_n 0, 1) := by decide +kernel
theorem dX2_loadBytes_74 : decode cX2_loadBytes 74 = .ok (.getfield 9, 3) := by decide +kernel
theorem dX2_loadBytes_77 : decode cX2_loadBytes 77 = .ok (.aload_n 0, 1) := by decide +kernel
theorem dX2_loadBytes_78 : decode cX2_loadBytes 78 = .ok (.getfield 9, 3) := by decide +kernel
theorem dX2_loadBytes_81 : decode cX2_loadBytes 81 = .ok (.iload_n 2, 1) := by decide +kernel
theorem dX2_loadBytes_82 : decode cX2_loadBytes 82 = .ok (.invokevirtual 45, 3) := by decide +kernel
theorem dX2_loadBytes_85 : decode cX2_loadBytes 85 = .ok (.aload_n 0, 1) := by decide +kernel
theorem dX2_loadBytes_86 : decode cX2_loadBytes 86 = .ok (.getfield 9, 3) := by decide +kernel
theorem dX2_loadBytes_89 : decode cX2_loadBytes 89 = .ok (.iload_n 2, 1) := by decide +kernel
theorem dX2_loadBytes_90 : decode cX2_loadBytes 90 = .ok (.invokevirtual 62, 3) := by decide +kernel
theorem dX2_loadBytes_93 : decode cX2_loadBytes 93 = .ok (.iconst 1, 1) := by decide +kernel
theorem dX2_loadBytes_94 : decode cX2_loadBytes 94 = .ok (.iadd, 1) := by decide +kernel
theorem dX2_loadBytes_95 : decode cX2_loadBytes 95 = .ok (.invokevirtual 108, 3) := by decide +kernel
theorem dX2_loadBytes_98 : decode cX2_loadBytes 98 = .ok (.goto 4, 3) := by decide +kernel
theorem dX2_loadBytes_101 : decode cX2_loadBytes 101 = .ok (.iconst 0, 1) := by decide +kernel
theorem dX2_loadBytes_102 : decode cX2_loadBytes 102 = .ok (.istore 6, 2) := by decide +kernel
theorem dX2_loadBytes_104 : decode cX2_loadBytes 104 = .ok (.iload_n 3, 1) := by decide +kernel
theorem dX2_loadBytes_105 : decode cX2_loadBytes 105 = .ok (.iconst 2, 1) := by decide +kernel
theorem dX2_loadBytes_106 : decode cX2_loadBytes 106 = .ok (.if_icmp .ne 31, 3) := by decide +kernel
theorem dX2_loadBytes_109 : decode cX2_loadBytes 109 = .ok (.iload 5, 2) := by decide +kernel
theorem dX2_loadBytes_111 : decode cX2_loadBytes 111 = .ok (.invokestatic 111, 3) := by decide +kernel
theorem dX2_loadBytes_114 : decode cX2_loadBytes 114 = .ok (.ifCond .eq 23, 3) := by decide +kernel
theorem dX2_loadBytes_117 : decode cX2_loadBytes 117 = .ok (.aload_n 0, 1) := by decide +kernel
theorem dX2_loadBytes_118 : decode cX2_loadBytes 118 = .ok (.getfield 9, 3) := by decide +kernel
theorem dX2_loadBytes_121 : decode cX2_loadBytes 121 = .ok (.iload_n 1, 1) := by decide +kernel
theorem dX2_loadBytes_122 : decode cX2_loadBytes 122 = .ok (.iload 5, 2) := by decide +kernel
theorem dX2_loadBytes_124 : decode cX2_loadBytes 124 = .ok (.invokestatic 114, 3) := by decide +kernel
theorem dX2_loadBytes_127 : decode cX2_loadBytes 127 = .ok (.iload 5, 2) := by decide +kernel
theorem dX2_loadBytes_129 : decode cX2_loadBytes 129 = .ok (.invokestatic 117, 3) := by decide +kernel
theorem dX2_loadBytes_132 : decode cX2_loadBytes 132 = .ok (.invokevirtual 37, 3) := by decide +kernel
theorem dX2_loadBytes_135 : decode cX2_loadBytes 135 = .ok (.iconst 2, 1) := by decide +kernel
theorem dX2_loadBytes_136 : decode cX2_loadBytes 136 = .ok (.ireturn, 1) := by decide +kernel
theorem dX2_loadBytes_137 : decode cX2_loadBytes 137 = .ok (.iload 5, 2) := by decide +kernel
theorem dX2_loadBytes_139 : decode cX2_loadBytes 139 = .ok (.sipush 999, 3) := by decide +kernel
theorem dX2_loadBytes_142 : decode cX2_loadBytes 142 = .ok (.if_icmp .ge 11, 3) := by decide +kernel
theorem dX2_loadBytes_145 : decode cX2_loadBytes 145 = .ok (.iload 6, 2) := by decide +kernel
theorem dX2_loadBytes_147 : decode cX2_loadBytes 147 = .ok (.sipush 999, 3) := by decide +kernel
theorem dX2_loadBytes_150 : decode cX2_loadBytes 150 = .ok (.if_icmp .lt 6, 3) := by decide +kernel
theorem dX2_loadBytes_153 : decode cX2_loadBytes 153 = .ok (.bipush (-16), 2) := by decide +kernel
theorem dX2_loadBytes_155 : decode cX2_loadBytes 155 = .ok (.ireturn, 1) := by decide +kernel
theorem dX2_loadBytes_156 : decode cX2_loadBytes 156 = .ok (.iload 5, 2) := by decide +kernel
theorem dX2_loadBytes_158 : decode cX2_loadBytes 158 = .ok (.iconst (-1), 1) := by decide +kernel
theorem dX2_loadBytes_159 : decode cX2_loadBytes 159 = .ok (.if_icmp .eq 9, 3) := by decide +kernel
theorem dX2_loadBytes_162 : decode cX2_loadBytes 162 = .ok (.iload 6, 2) := by decide +kernel
theorem dX2_loadBytes_164 : decode cX2_loadBytes 164 = .ok (.iconst (-1), 1) := by decide +kernel
theorem dX2_loadBytes_165 : decode cX2_loadBytes 165 = .ok (.if_icmp .ne 6, 3) := by decide +kernel
theorem dX2_loadBytes_168 : decode cX2_loadBytes 168 = .ok (.bipush (-11), 2) := by decide +kernel
theorem dX2_loadBytes_170 : decode cX2_loadBytes 170 = .ok (.ireturn, 1) := by decide +kernel
theorem dX2_loadBytes_171 : decode cX2_loadBytes 171 = .ok (.aload_n 0, 1) := by decide +kernel
theorem dX2_loadBytes_172 : decode cX2_loadBytes 172 = .ok (.getfield 9, 3) := by decide +kernel
theorem dX2_loadBytes_175 : decode cX2_loadBytes 175 = .ok (.iload_n 1, 1) := by decide +kernel
theorem dX2_loadBytes_176 : decode cX2_loadBytes 176 = .ok (.iload 6, 2) := by decide +kernel
theorem dX2_loadBytes_178 : decode cX2_loadBytes 178 = .ok (.sipush 256, 3) := by decide +kernel
theorem dX2_loadBytes_181 : decode cX2_loadBytes 181 = .ok (.imul, 1) := by decide +kernel
theorem dX2_loadBytes_182 : decode cX2_loadBytes 182 = .ok (.iload 5, 2) := by decide +kernel
theorem dX2_loadBytes_184 : decode cX2_loadBytes 184 = .ok (.iadd, 1) := by decide +kernel
theorem dX2_loadBytes_185 : decode cX2_loadBytes 185 = .ok (.invokevirtual 55, 3) := by decide +kernel
theorem dX2_loadBytes_188 : decode cX2_loadBytes 188 = .ok (.iconst 1, 1) := by decide +kernel
theorem dX2_loadBytes_189 : decode cX2_loadBytes 189 = .ok (.ireturn, 1) := by decide +kernel
theorem dX2_compareRegisters_0 : decode cX2_compareRegisters 0 = .ok (.iload_n 1, 1) := by decide +kernel
theorem dX2_compareRegisters_1 : decode cX2_compareRegisters 1 = .ok (.invokestatic 23, 3) := by decide +kernel
theorem dX2_compareRegisters_4 : decode cX2_compareRegisters 4 = .ok (.ifCond .eq 10, 3) := by decide +kernel
theorem dX2_compareRegisters_7 : decode cX2_compareRegisters 7 = .ok (.iload_n 2, 1) := by decide +kernel
theorem dX2_compareRegisters_8 : decode cX2_compareRegisters 8 = .ok (.invokestatic 23, 3) := by decide +kernel
theorem dX2_compareRegisters_11 : decode cX2_compareRegisters 11 = .ok (.ifCond .ne 6, 3) := by decide +kernel
theorem dX2_compareRegisters_14 : decode cX2_compareRegisters 14 = .ok (.bipush (-2), 2) := by decide +kernel
theorem dX2_compareRegisters_16 : decode cX2_compareRegisters 16 = .ok (.ireturn, 1) := by decide +kernel
theorem dX2_compareRegisters_17 : decode cX2_compareRegisters 17 = .ok (.aload_n 0, 1) := by decide +kernel
theorem dX2_compareRegisters_18 : decode cX2_compareRegisters 18 = .ok (.getfield 9, 3) := by decide +kernel
theorem dX2_compareRegisters_21 : decode cX2_compareRegisters 21 = .ok (.iload_n 1, 1) := by decide +kernel
theorem dX2_compareRegisters_22 : decode cX2_compareRegisters 22 = .ok (.invokevirtual 59, 3) := by decide +kernel
theorem dX2_compareRegisters_25 : decode cX2_compareRegisters 25 = .ok (.istore_n 3, 1) := by decide +kernel
theorem dX2_compareRegisters_26 : decode cX2_compareRegisters 26 = .ok (.iload_n 3, 1) := by decide +kernel
theorem dX2_compareRegisters_27 : decode cX2_compareRegisters 27 = .ok (.ifCond .eq 14, 3) := by decide +kernel
theorem dX2_compareRegisters_30 : decode cX2_compareRegisters 30 = .ok (.aload_n 0, 1) := by decide +kernel
theorem dX2_compareRegisters_31 : decode cX2_compareRegisters 31 = .ok (.getfield 9, 3) := by decide +kernel
theorem dX2_compareRegisters_34 : decode cX2_compareRegisters 34 = .ok (.iload_n 2, 1) := by decide +kernel
theorem dX2_compareRegisters_35 : decode cX2_compareRegisters 35 = .ok (.invokevirtual 59, 3) := by decide +kernel
theorem dX2_compareRegisters_38 : decode cX2_compareRegisters 38 = .ok (.ifCond .ne 6, 3) := by decide +kernel
theorem dX2_compareRegisters_41 : decode cX2_compareRegisters 41 = .ok (.bipush (-11), 2) := by decide +kernel
theorem dX2_compareRegisters_43 : decode cX2_compareRegisters 43 = .ok (.ireturn, 1) := by decide +kernel
theorem dX2_compareRegisters_44 : decode cX2_compareRegisters 44 = .ok (.iload_n 3, 1) := by decide +kernel
theorem dX2_compareRegisters_45 : decode cX2_compareRegisters 45 = .ok (.aload_n 0, 1) := by decide +kernel
theorem dX2_compareRegisters_46 : decode cX2_compareRegisters 46 = .ok (.getfield 9, 3) := by decide +kernel
theorem dX2_compareRegisters_49 : decode cX2_compareRegisters 49 = .ok (.iload_n 2, 1) := by decide +kernel
theorem dX2_compareRegisters_50 : decode cX2_compareRegisters 50 = .ok (.invokevirtual 59, 3) := by decide +kernel
theorem dX2_compareRegisters_53 : decode cX2_compareRegisters 53 = .ok (.if_icmp .eq 6, 3) := by decide +kernel
theorem dX2_compareRegisters_56 : decode cX2_compareRegisters 56 = .ok (.bipush (-17), 2) := by decide +kernel
theorem dX2_compareRegisters_58 : decode cX2_compareRegisters 58 = .ok (.ireturn, 1) := by decide +kernel
theorem dX2_compareRegisters_59 : decode cX2_compareRegisters 59 = .ok (.iload_n 3, 1) := by decide +kernel
theorem dX2_compareRegisters_60 : decode cX2_compareRegisters 60 = .ok (.iconst 1, 1) := by decide +kernel
theorem dX2_compareRegisters_61 : decode cX2_compareRegisters 61 = .ok (.if_icmp .ne 23, 3) := by decide +kernel
theorem dX2_compareRegisters_64 : decode cX2_compareRegisters 64 = .ok (.aload_n 0, 1) := by decide +kernel
theorem dX2_compareRegisters_65 : decode cX2_compareRegisters 65 = .ok (.getfield 9, 3) := by decide +kernel
theorem dX2_compareRegisters_68 : decode cX2_compareRegisters 68 = .ok (.iload_n 1, 1) := by decide +kernel
theorem dX2_compareRegisters_69 : decode cX2_compareRegisters 69 = .ok (.invokevirtual 45, 3) := by decide +kernel
theorem dX2_compareRegisters_72 : decode cX2_compareRegisters 72 = .ok (.aload_n 0, 1) := by decide +kernel
theorem dX2_compareRegisters_73 : decode cX2_compareRegisters 73 = .ok (.getfield 9, 3) := by decide +kernel
theorem dX2_compareRegisters_76 : decode cX2_compareRegisters 76 = .ok (.iload_n 2, 1) := by decide +kernel
theorem dX2_compareRegisters_77 : decode cX2_compareRegisters 77 = .ok (.invokevirtual 45, 3) := by decide +kernel
theorem dX2_compareRegisters_80 : decode cX2_compareRegisters 80 = .ok (.invokestatic 120, 3) := by decide +kernel
theorem dX2_compareRegisters_83 : decode cX2_compareRegisters 83 = .ok (.ireturn, 1) := by decide +kernel
theorem dX2_compareRegisters_84 : decode cX2_compareRegisters 84 = .ok (.aload_n 0, 1) := by decide +kernel
theorem dX2_compareRegisters_85 : decode cX2_compareRegisters 85 = .ok (.getfield 9, 3) := by decide +kernel
theorem dX2_compareRegisters_88 : decode cX2_compareRegisters 88 = .ok (.iload_n 1, 1) := by decide +kernel
theorem dX2_compareRegisters_89 : decode cX2_compareRegisters 89 = .ok (.invokevirtual 45, 3) := by decide +kernel
theorem dX2_compareRegisters_92 : decode cX2_compareRegisters 92 = .ok (.aload_n 0, 1) := by decide +kernel
theorem dX2_compareRegisters_93 : decode cX2_compareRegisters 93 = .ok (.getfield 9, 3) := by decide +kernel
theorem dX2_compareRegisters_96 : decode cX2_compareRegisters 96 = .ok (.iload_n 2, 1) := by decide +kernel
theorem dX2_compareRegisters_97 : decode cX2_compareRegisters 97 = .ok (.invokevirtual 45, 3) := by decide +kernel
theorem dX2_compareRegisters_100 : decode cX2_compareRegisters 100 = .ok (.if_icmp .eq 6, 3) := by decide +kernel
theorem dX2_compareRegisters_103 : decode cX2_compareRegisters 103 = .ok (.bipush (-18), 2) := by decide +kernel
theorem dX2_compareRegisters_105 : decode cX2_compareRegisters 105 = .ok (.ireturn, 1) := by decide +kernel
theorem dX2_compareRegisters_106 : decode cX2_compareRegisters 106 = .ok (.aload_n 0, 1) := by decide +kernel
theorem dX2_compareRegisters_107 : decode cX2_compareRegisters 107 = .ok (.getfield 9, 3) := by decide +kernel
theorem dX2_compareRegisters_110 : decode cX2_compareRegisters 110 = .ok (.iload_n 1, 1) := by decide +kernel
theorem dX2_compareRegisters_111 : decode cX2_compareRegisters 111 = .ok (.invokevirtual 62, 3) := by decide +kernel
theorem dX2_compareRegisters_114 : decode cX2_compareRegisters 114 = .ok (.aload_n 0, 1) := by decide +kernel
theorem dX2_compareRegisters_115 : decode cX2_compareRegisters 115 = .ok (.getfield 9, 3) := by decide +kernel
theorem dX2_compareRegisters_118 : decode cX2_compareRegisters 118 = .ok (.iload_n 2, 1) := by decide +kernel
theorem dX2_compareRegisters_119 : decode cX2_compareRegisters 119 = .ok (.invokevirtual 62, 3) := by decide +kernel
theorem dX2_compareRegisters_122 : decode cX2_compareRegisters 122 = .ok (.invokestatic 120, 3) := by decide +kernel
theorem dX2_compareRegisters_125 : decode cX2_compareRegisters 125 = .ok (.ireturn, 1) := by decide +kernel
theorem dX2_order_0 : decode cX2_order 0 = .ok (.iload_n 0, 1) := by decide +kernel
theorem dX2_order_1 : decode cX2_order 1 = .ok (.iload_n 1, 1) := by decide +kernel
theorem dX2_order_2 : decode cX2_order 2 = .ok (.if_icmp .ne 5, 3) := by decide +kernel
theorem dX2_order_5 : decode cX2_order 5 = .ok (.iconst 1, 1) := by decide +kernel
theorem dX2_order_6 : decode cX2_order 6 = .ok (.ireturn, 1) := by decide +kernel
theorem dX2_order_7 : decode cX2_order 7 = .ok (.iload_n 0, 1) := by decide +kernel
theorem dX2_order_8 : decode cX2_order 8 = .ok (.iload_n 1, 1) := by decide +kernel
theorem dX2_order_9 : decode cX2_order 9 = .ok (.if_icmp .ge 7, 3) := by decide +kernel
theorem dX2_order_12 : decode cX2_order 12 = .ok (.iconst 0, 1) := by decide +kernel
theorem dX2_order_13 : decode cX2_order 13 = .ok (.goto 4, 3) := by decide +kernel
theorem dX2_order_16 : decode cX2_order 16 = .ok (.iconst 2, 1) := by decide +kernel
theorem dX2_order_17 : decode cX2_order 17 = .ok (.ireturn, 1) := by decide +kernel
theorem dX2_compareInto_0 : decode cX2_compareInto 0 = .ok (.iload_n 3, 1) := by decide +kernel
theorem dX2_compareInto_1 : decode cX2_compareInto 1 = .ok (.invokestatic 23, 3) := by decide +kernel
theorem dX2_compareInto_4 : decode cX2_compareInto 4 = .ok (.ifCond .ne 6, 3) := by decide +kernel
theorem dX2_compareInto_7 : decode cX2_compareInto 7 = .ok (.bipush (-2), 2) := by decide +kernel
theorem dX2_compareInto_9 : decode cX2_compareInto 9 = .ok (.ireturn, 1) := by decide +kernel
theorem dX2_compareInto_10 : decode cX2_compareInto 10 = .ok (.aload_n 0, 1) := by decide +kernel
theorem dX2_compareInto_11 : decode cX2_compareInto 11 = .ok (.iload_n 1, 1) := by decide +kernel
theorem dX2_compareInto_12 : decode cX2_compareInto 12 = .ok (.iload_n 2, 1) := by decide +kernel
theorem dX2_compareInto_13 : decode cX2_compareInto 13 = .ok (.invokevirtual 123, 3) := by decide +kernel
theorem dX2_compareInto_16 : decode cX2_compareInto 16 = .ok (.istore 4, 2) := by decide +kernel
theorem dX2_compareInto_18 : decode cX2_compareInto 18 = .ok (.iload 4, 2) := by decide +kernel
theorem dX2_compareInto_20 : decode cX2_compareInto 20 = .ok (.ifCond .lt 13, 3) := by decide +kernel
theorem dX2_compareInto_23 : decode cX2_compareInto 23 = .ok (.aload_n 0, 1) := by decide +kernel
theorem dX2_compareInto_24 : decode cX2_compareInto 24 = .ok (.getfield 9, 3) := by decide +kernel
theorem dX2_compareInto_27 : decode cX2_compareInto 27 = .ok (.iload_n 3, 1) := by decide +kernel
theorem dX2_compareInto_28 : decode cX2_compareInto 28 = .ok (.iload 4, 2) := by decide +kernel
theorem dX2_compareInto_30 : decode cX2_compareInto 30 = .ok (.invokevirtual 55, 3) := by decide +kernel
theorem dX2_compareInto_33 : decode cX2_compareInto 33 = .ok (.iload 4, 2) := by decide +kernel
theorem dX2_compareInto_35 : decode cX2_compareInto 35 = .ok (.ireturn, 1) := by decide +kernel
theorem dX2_jumps_0 : decode cX2_jumps 0 = .ok (.iload_n 1, 1) := by decide +kernel
theorem dX2_jumps_1 : decode cX2_jumps 1 = .ok (.invokestatic 23, 3) := by decide +kernel
theorem dX2_jumps_4 : decode cX2_jumps 4 = .ok (.ifCond .ne 6, 3) := by decide +kernel
theorem dX2_jumps_7 : decode cX2_jumps 7 = .ok (.bipush (-2), 2) := by decide +kernel
theorem dX2_jumps_9 : decode cX2_jumps 9 = .ok (.ireturn, 1) := by decide +kernel
theorem dX2_jumps_10 : decode cX2_jumps 10 = .ok (.aload_n 0, 1) := by decide +kernel
theorem dX2_jumps_11 : decode cX2_jumps 11 = .ok (.getfield 9, 3) := by decide +kernel
theorem dX2_jumps_14 : decode cX2_jumps 14 = .ok (.iload_n 1, 1) := by decide +kernel
theorem dX2_jumps_15 : decode cX2_jumps 15 = .ok (.invokevirtual 59, 3) := by decide +kernel
theorem dX2_jumps_18 : decode cX2_jumps 18 = .ok (.istore_n 2, 1) := by decide +kernel
theorem dX2_jumps_19 : decode cX2_jumps 19 = .ok (.iload_n 2, 1) := by decide +kernel
theorem dX2_jumps_20 : decode cX2_jumps 20 = .ok (.ifCond .ne 6, 3) := by decide +kernel
theorem dX2_jumps_23 : decode cX2_jumps 23 = .ok (.bipush (-11), 2) := by decide +kernel
theorem dX2_jumps_25 : decode cX2_jumps 25 = .ok (.ireturn, 1) := by decide +kernel
theorem dX2_jumps_26 : decode cX2_jumps 26 = .ok (.iload_n 2, 1) := by decide +kernel
theorem dX2_jumps_27 : decode cX2_jumps 27 = .ok (.iconst 2, 1) := by decide +kernel
theorem dX2_jumps_28 : decode cX2_jumps 28 = .ok (.if_icmp .ne 6, 3) := by decide +kernel
theorem dX2_jumps_31 : decode cX2_jumps 31 = .ok (.bipush (-17), 2) := by decide +kernel
theorem dX2_jumps_33 : decode cX2_jumps 33 = .ok (.ireturn, 1) := by decide +kernel
theorem dX2_jumps_34 : decode cX2_jumps 34 = .ok (.aload_n 0, 1) := by decide +kernel
theorem dX2_jumps_35 : decode cX2_jumps 35 = .ok (.getfield 9, 3) := by decide +kernel
theorem dX2_jumps_38 : decode cX2_jumps 38 = .ok (.iload_n 1, 1) := by decide +kernel
theorem dX2_jumps_39 : decode cX2_jumps 39 = .ok (.invokevirtual 45, 3) := by decide +kernel
theorem dX2_jumps_42 : decode cX2_jumps 42 = .ok (.ifCond .eq 7, 3) := by decide +kernel
theorem dX2_jumps_45 : decode cX2_jumps 45 = .ok (.iconst 1, 1) := by decide +kernel
theorem dX2_jumps_46 : decode cX2_jumps 46 = .ok (.goto 4, 3) := by decide +kernel
theorem dX2_jumps_49 : decode cX2_jumps 49 = .ok (.iconst 0, 1) := by decide +kernel
theorem dX2_jumps_50 : decode cX2_jumps 50 = .ok (.ireturn, 1) := by decide +kernel
theorem dX2_blitBytes_0 : decode cX2_blitBytes 0 = .ok (.iload_n 1, 1) := by decide +kernel
theorem dX2_blitBytes_1 : decode cX2_blitBytes 1 = .ok (.invokestatic 23, 3) := by decide +kernel
theorem dX2_blitBytes_4 : decode cX2_blitBytes 4 = .ok (.ifCond .eq 21, 3) := by decide +kernel
theorem dX2_blitBytes_7 : decode cX2_blitBytes 7 = .ok (.iload_n 2, 1) := by decide +kernel
theorem dX2_blitBytes_8 : decode cX2_blitBytes 8 = .ok (.invokestatic 23, 3) := by decide +kernel
theorem dX2_blitBytes_11 : decode cX2_blitBytes 11 = .ok (.ifCond .eq 14, 3) := by decide +kernel
theorem dX2_blitBytes_14 : decode cX2_blitBytes 14 = .ok (.iload_n 3, 1) := by decide +kernel
theorem dX2_blitBytes_15 : decode cX2_blitBytes 15 = .ok (.iconst 1, 1) := by decide +kernel
theorem dX2_blitBytes_16 : decode cX2_blitBytes 16 = .ok (.if_icmp .lt 9, 3) := by decide +kernel
theorem dX2_blitBytes_19 : decode cX2_blitBytes 19 = .ok (.iload_n 3, 1) := by decide +kernel
theorem dX2_blitBytes_20 : decode cX2_blitBytes 20 = .ok (.bipush 12, 2) := by decide +kernel
theorem dX2_blitBytes_22 : decode cX2_blitBytes 22 = .ok (.if_icmp .le 6, 3) := by decide +kernel
theorem dX2_blitBytes_25 : decode cX2_blitBytes 25 = .ok (.bipush (-2), 2) := by decide +kernel
theorem dX2_blitBytes_27 : decode cX2_blitBytes 27 = .ok (.ireturn, 1) := by decide +kernel
theorem dX2_blitBytes_28 : decode cX2_blitBytes 28 = .ok (.aload_n 0, 1) := by decide +kernel
theorem dX2_blitBytes_29 : decode cX2_blitBytes 29 = .ok (.iload_n 1, 1) := by decide +kernel
theorem dX2_blitBytes_30 : decode cX2_blitBytes 30 = .ok (.iload_n 3, 1) := by decide +kernel
theorem dX2_blitBytes_31 : decode cX2_blitBytes 31 = .ok (.invokevirtual 90, 3) := by decide +kernel
theorem dX2_blitBytes_34 : decode cX2_blitBytes 34 = .ok (.istore 4, 2) := by decide +kernel
theorem dX2_blitBytes_36 : decode cX2_blitBytes 36 = .ok (.iload 4, 2) := by decide +kernel
theorem dX2_blitBytes_38 : decode cX2_blitBytes 38 = .ok (.ifCond .ne 11, 3) := by decide +kernel
theorem dX2_blitBytes_41 : decode cX2_blitBytes 41 = .ok (.aload_n 0, 1) := by decide +kernel
theorem dX2_blitBytes_42 : decode cX2_blitBytes 42 = .ok (.iload_n 2, 1) := by decide +kernel
theorem dX2_blitBytes_43 : decode cX2_blitBytes 43 = .ok (.iload_n 3, 1) := by decide +kernel
theorem dX2_blitBytes_44 : decode cX2_blitBytes 44 = .ok (.invokevirtual 105, 3) := by decide +kernel
theorem dX2_blitBytes_47 : decode cX2_blitBytes 47 = .ok (.istore 4, 2) := by decide +kernel
theorem dX2_blitBytes_49 : decode cX2_blitBytes 49 = .ok (.iload 4, 2) := by decide +kernel
theorem dX2_blitBytes_51 : decode cX2_blitBytes 51 = .ok (.ifCond .eq 6, 3) := by decide +kernel
theorem dX2_blitBytes_54 : decode cX2_blitBytes 54 = .ok (.iload 4, 2) := by decide +kernel
theorem dX2_blitBytes_56 : decode cX2_blitBytes 56 = .ok (.ireturn, 1) := by decide +kernel
theorem dX2_blitBytes_57 : decode cX2_blitBytes 57 = .ok (.aload_n 0, 1) := by decide +kernel
theorem dX2_blitBytes_58 : decode cX2_blitBytes 58 = .ok (.aload_n 0, 1) := by decide +kernel
theorem dX2_blitBytes_59 : decode cX2_blitBytes 59 = .ok (.getfield 9, 3) := by decide +kernel
theorem dX2_blitBytes_62 : decode cX2_blitBytes 62 = .ok (.iload_n 2, 1) := by decide +kernel
theorem dX2_blitBytes_63 : decode cX2_blitBytes 63 = .ok (.invokevirtual 45, 3) := by decide +kernel
theorem dX2_blitBytes_66 : decode cX2_blitBytes 66 = .ok (.aload_n 0, 1) := by decide +kernel
theorem dX2_blitBytes_67 : decode cX2_blitBytes 67 = .ok (.getfield 9, 3) := by decide +kernel
theorem dX2_blitBytes_70 : decode cX2_blitBytes 70 = .ok (.iload_n 2, 1) := by decide +kernel
theorem dX2_blitBytes_71 : decode cX2_blitBytes 71 = .ok (.invokevirtual 62, 3) := by decide +kernel
theorem dX2_blitBytes_74 : decode cX2_blitBytes 74 = .ok (.iload_n 3, 1) := by decide +kernel
theorem dX2_blitBytes_75 : decode cX2_blitBytes 75 = .ok (.invokevirtual 126, 3) := by decide +kernel
theorem dX2_blitBytes_78 : decode cX2_blitBytes 78 = .ok (.ifCond .eq 6, 3) := by decide +kernel
theorem dX2_blitBytes_81 : decode cX2_blitBytes 81 = .ok (.bipush (-16), 2) := by decide +kernel
theorem dX2_blitBytes_83 : decode cX2_blitBytes 83 = .ok (.ireturn, 1) := by decide +kernel
theorem dX2_blitBytes_84 : decode cX2_blitBytes 84 = .ok (.aload_n 0, 1) := by decide +kernel
theorem dX2_blitBytes_85 : decode cX2_blitBytes 85 = .ok (.iload_n 1, 1) := by decide +kernel
theorem dX2_blitBytes_86 : decode cX2_blitBytes 86 = .ok (.iload_n 2, 1) := by decide +kernel
theorem dX2_blitBytes_87 : decode cX2_blitBytes 87 = .ok (.iload_n 3, 1) := by decide +kernel
theorem dX2_blitBytes_88 : decode cX2_blitBytes 88 = .ok (.invokevirtual 130, 3) := by decide +kernel
theorem dX2_blitBytes_91 : decode cX2_blitBytes 91 = .ok (.iload_n 3, 1) := by decide +kernel
theorem dX2_blitBytes_92 : decode cX2_blitBytes 92 = .ok (.ireturn, 1) := by decide +kernel
theorem dX2_carryBytes_0 : decode cX2_carryBytes 0 = .ok (.iconst 0, 1) := by decide +kernel
theorem dX2_carryBytes_1 : decode cX2_carryBytes 1 = .ok (.istore 4, 2) := by decide +kernel
theorem dX2_carryBytes_3 : decode cX2_carryBytes 3 = .ok (.iload 4, 2) := by decide +kernel
theorem dX2_carryBytes_5 : decode cX2_carryBytes 5 = .ok (.iload_n 3, 1) := by decide +kernel
theorem dX2_carryBytes_6 : decode cX2_carryBytes 6 = .ok (.if_icmp .ge 49, 3) := by decide +kernel
theorem dX2_carryBytes_9 : decode cX2_carryBytes 9 = .ok (.iload 4, 2) := by decide +kernel
theorem dX2_carryBytes_11 : decode cX2_carryBytes 11 = .ok (.bipush 12, 2) := by decide +kernel
theorem dX2_carryBytes_13 : decode cX2_carryBytes 13 = .ok (.if_icmp .ge 42, 3) := by decide +kernel
theorem dX2_carryBytes_16 : decode cX2_carryBytes 16 = .ok (.aload_n 0, 1) := by decide +kernel
theorem dX2_carryBytes_17 : decode cX2_carryBytes 17 = .ok (.getfield 19, 3) := by decide +kernel
theorem dX2_carryBytes_20 : decode cX2_carryBytes 20 = .ok (.iload 4, 2) := by decide +kernel
theorem dX2_carryBytes_22 : decode cX2_carryBytes 22 = .ok (.aload_n 0, 1) := by decide +kernel
theorem dX2_carryBytes_23 : decode cX2_carryBytes 23 = .ok (.getfield 9, 3) := by decide +kernel
theorem dX2_carryBytes_26 : decode cX2_carryBytes 26 = .ok (.aload_n 0, 1) := by decide +kernel
theorem dX2_carryBytes_27 : decode cX2_carryBytes 27 = .ok (.getfield 9, 3) := by decide +kernel
theorem dX2_carryBytes_30 : decode cX2_carryBytes 30 = .ok (.iload_n 2, 1) := by decide +kernel
theorem dX2_carryBytes_31 : decode cX2_carryBytes 31 = .ok (.invokevirtual 45, 3) := by decide +kernel
theorem dX2_carryBytes_34 : decode cX2_carryBytes 34 = .ok (.aload_n 0, 1) := by decide +kernel
theorem dX2_carryBytes_35 : decode cX2_carryBytes 35 = .ok (.getfield 9, 3) := by decide +kernel
theorem dX2_carryBytes_38 : decode cX2_carryBytes 38 = .ok (.iload_n 2, 1) := by decide +kernel
theorem dX2_carryBytes_39 : decode cX2_carryBytes 39 = .ok (.invokevirtual 62, 3) := by decide +kernel
theorem dX2_carryBytes_42 : decode cX2_carryBytes 42 = .ok (.iload 4, 2) := by decide +kernel
theorem dX2_carryBytes_44 : decode cX2_carryBytes 44 = .ok (.iadd, 1) := by decide +kernel
theorem dX2_carryBytes_45 : decode cX2_carryBytes 45 = .ok (.invokevirtual 108, 3) := by decide +kernel
theorem dX2_carryBytes_48 : decode cX2_carryBytes 48 = .ok (.iastore, 1) := by decide +kernel
theorem dX2_carryBytes_49 : decode cX2_carryBytes 49 = .ok (.iinc 4 1, 3) := by decide +kernel
theorem dX2_carryBytes_52 : decode cX2_carryBytes 52 = .ok (.goto (-49), 3) := by decide +kernel
theorem dX2_carryBytes_55 : decode cX2_carryBytes 55 = .ok (.aload_n 0, 1) := by decide +kernel
theorem dX2_carryBytes_56 : decode cX2_carryBytes 56 = .ok (.getfield 9, 3) := by decide +kernel
theorem dX2_carryBytes_59 : decode cX2_carryBytes 59 = .ok (.iload_n 1, 1) := by decide +kernel
theorem dX2_carryBytes_60 : decode cX2_carryBytes 60 = .ok (.invokevirtual 45, 3) := by decide +kernel
theorem dX2_carryBytes_63 : decode cX2_carryBytes 63 = .ok (.istore 4, 2) := by decide +kernel
theorem dX2_carryBytes_65 : decode cX2_carryBytes 65 = .ok (.aload_n 0, 1) := by decide +kernel
theorem dX2_carryBytes_66 : decode cX2_carryBytes 66 = .ok (.getfield 9, 3) := by decide +kernel
theorem dX2_carryBytes_69 : decode cX2_carryBytes 69 = .ok (.iload_n 1, 1) := by decide +kernel
theorem dX2_carryBytes_70 : decode cX2_carryBytes 70 = .ok (.invokevirtual 62, 3) := by decide +kernel
theorem dX2_carryBytes_73 : decode cX2_carryBytes 73 = .ok (.istore 5, 2) := by decide +kernel
theorem dX2_carryBytes_75 : decode cX2_carryBytes 75 = .ok (.aload_n 0, 1) := by decide +kernel
theorem dX2_carryBytes_76 : decode cX2_carryBytes 76 = .ok (.iload 4, 2) := by decide +kernel
theorem dX2_carryBytes_78 : decode cX2_carryBytes 78 = .ok (.iload 5, 2) := by decide +kernel
theorem dX2_carryBytes_80 : decode cX2_carryBytes 80 = .ok (.iload_n 3, 1) := by decide +kernel
theorem dX2_carryBytes_81 : decode cX2_carryBytes 81 = .ok (.invokevirtual 93, 3) := by decide +kernel
theorem dX2_carryBytes_84 : decode cX2_carryBytes 84 = .ok (.iconst 0, 1) := by decide +kernel
theorem dX2_carryBytes_85 : decode cX2_carryBytes 85 = .ok (.istore 6, 2) := by decide +kernel
theorem dX2_carryBytes_87 : decode cX2_carryBytes 87 = .ok (.iload 6, 2) := by decide +kernel
theorem dX2_carryBytes_89 : decode cX2_carryBytes 89 = .ok (.iload_n 3, 1) := by decide +kernel
theorem dX2_carryBytes_90 : decode cX2_carryBytes 90 = .ok (.if_icmp .ge 37, 3) := by decide +kernel
theorem dX2_carryBytes_93 : decode cX2_carryBytes 93 = .ok (.iload 6, 2) := by decide +kernel
theorem dX2_carryBytes_95 : decode cX2_carryBytes 95 = .ok (.bipush 12, 2) := by decide +kernel
theorem dX2_carryBytes_97 : decode cX2_carryBytes 97 = .ok (.if_icmp .ge 30, 3) := by decide +kernel
theorem dX2_carryBytes_100 : decode cX2_carryBytes 100 = .ok (.aload_n 0, 1) := by decide +kernel
theorem dX2_carryBytes_101 : decode cX2_carryBytes 101 = .ok (.getfield 9, 3) := by decide +kernel
theorem dX2_carryBytes_104 : decode cX2_carryBytes 104 = .ok (.iload 4, 2) := by decide +kernel
theorem dX2_carryBytes_106 : decode cX2_carryBytes 106 = .ok (.iload 5, 2) := by decide +kernel
theorem dX2_carryBytes_108 : decode cX2_carryBytes 108 = .ok (.iload 6, 2) := by decide +kernel
theorem dX2_carryBytes_110 : decode cX2_carryBytes 110 = .ok (.iadd, 1) := by decide +kernel
theorem dX2_carryBytes_111 : decode cX2_carryBytes 111 = .ok (.aload_n 0, 1) := by decide +kernel
theorem dX2_carryBytes_112 : decode cX2_carryBytes 112 = .ok (.getfield 19, 3) := by decide +kernel
theorem dX2_carryBytes_115 : decode cX2_carryBytes 115 = .ok (.iload 6, 2) := by decide +kernel
theorem dX2_carryBytes_117 : decode cX2_carryBytes 117 = .ok (.iaload, 1) := by decide +kernel
theorem dX2_carryBytes_118 : decode cX2_carryBytes 118 = .ok (.invokevirtual 102, 3) := by decide +kernel
theorem dX2_carryBytes_121 : decode cX2_carryBytes 121 = .ok (.iinc 6 1, 3) := by decide +kernel
theorem dX2_carryBytes_124 : decode cX2_carryBytes 124 = .ok (.goto (-37), 3) := by decide +kernel
theorem dX2_carryBytes_127 : decode cX2_carryBytes 127 = .ok (.return_, 1) := by decide +kernel
theorem dX2_freezeBlocks_0 : decode cX2_freezeBlocks 0 = .ok (.iload_n 1, 1) := by decide +kernel
theorem dX2_freezeBlocks_1 : decode cX2_freezeBlocks 1 = .ok (.invokestatic 23, 3) := by decide +kernel
theorem dX2_freezeBlocks_4 : decode cX2_freezeBlocks 4 = .ok (.ifCond .ne 6, 3) := by decide +kernel
theorem dX2_freezeBlocks_7 : decode cX2_freezeBlocks 7 = .ok (.bipush (-2), 2) := by decide +kernel
theorem dX2_freezeBlocks_9 : decode cX2_freezeBlocks 9 = .ok (.ireturn, 1) := by decide +kernel
theorem dX2_freezeBlocks_10 : decode cX2_freezeBlocks 10 = .ok (.aload_n 0, 1) := by decide +kernel
theorem dX2_freezeBlocks_11 : decode cX2_freezeBlocks 11 = .ok (.iload_n 1, 1) := by decide +kernel
theorem dX2_freezeBlocks_12 : decode cX2_freezeBlocks 12 = .ok (.invokevirtual 41, 3) := by decide +kernel
theorem dX2_freezeBlocks_15 : decode cX2_freezeBlocks 15 = .ok (.istore_n 2, 1) := by decide +kernel
theorem dX2_freezeBlocks_16 : decode cX2_freezeBlocks 16 = .ok (.iload_n 2, 1) := by decide +kernel
theorem dX2_freezeBlocks_17 : decode cX2_freezeBlocks 17 = .ok (.ifCond .eq 5, 3) := by decide +kernel
theorem dX2_freezeBlocks_20 : decode cX2_freezeBlocks 20 = .ok (.iload_n 2, 1) := by decide +kernel
theorem dX2_freezeBlocks_21 : decode cX2_freezeBlocks 21 = .ok (.ireturn, 1) := by decide +kernel
theorem dX2_freezeBlocks_22 : decode cX2_freezeBlocks 22 = .ok (.aload_n 0, 1) := by decide +kernel
theorem dX2_freezeBlocks_23 : decode cX2_freezeBlocks 23 = .ok (.getfield 15, 3) := by decide +kernel
theorem dX2_freezeBlocks_26 : decode cX2_freezeBlocks 26 = .ok (.aload_n 0, 1) := by decide +kernel
theorem dX2_freezeBlocks_27 : decode cX2_freezeBlocks 27 = .ok (.getfield 9, 3) := by decide +kernel
theorem dX2_freezeBlocks_30 : decode cX2_freezeBlocks 30 = .ok (.aload_n 0, 1) := by decide +kernel
theorem dX2_freezeBlocks_31 : decode cX2_freezeBlocks 31 = .ok (.getfield 9, 3) := by decide +kernel
theorem dX2_freezeBlocks_34 : decode cX2_freezeBlocks 34 = .ok (.iload_n 1, 1) := by decide +kernel
theorem dX2_freezeBlocks_35 : decode cX2_freezeBlocks 35 = .ok (.invokevirtual 45, 3) := by decide +kernel
theorem dX2_freezeBlocks_38 : decode cX2_freezeBlocks 38 = .ok (.invokevirtual 133, 3) := by decide +kernel
theorem dX2_freezeBlocks_41 : decode cX2_freezeBlocks 41 = .ok (.pop, 1) := by decide +kernel
theorem dX2_freezeBlocks_42 : decode cX2_freezeBlocks 42 = .ok (.aload_n 0, 1) := by decide +kernel
theorem dX2_freezeBlocks_43 : decode cX2_freezeBlocks 43 = .ok (.getfield 15, 3) := by decide +kernel
theorem dX2_freezeBlocks_46 : decode cX2_freezeBlocks 46 = .ok (.aload_n 0, 1) := by decide +kernel
theorem dX2_freezeBlocks_47 : decode cX2_freezeBlocks 47 = .ok (.getfield 9, 3) := by decide +kernel
theorem dX2_freezeBlocks_50 : decode cX2_freezeBlocks 50 = .ok (.invokevirtual 139, 3) := by decide +kernel
theorem dX2_freezeBlocks_53 : decode cX2_freezeBlocks 53 = .ok (.ifCond .ne 6, 3) := by decide +kernel
theorem dX2_freezeBlocks_56 : decode cX2_freezeBlocks 56 = .ok (.bipush (-13), 2) := by decide +kernel
theorem dX2_freezeBlocks_58 : decode cX2_freezeBlocks 58 = .ok (.ireturn, 1) := by decide +kernel
theorem dX2_freezeBlocks_59 : decode cX2_freezeBlocks 59 = .ok (.aload_n 0, 1) := by decide +kernel
theorem dX2_freezeBlocks_60 : decode cX2_freezeBlocks 60 = .ok (.getfield 15, 3) := by decide +kernel
theorem dX2_freezeBlocks_63 : decode cX2_freezeBlocks 63 = .ok (.aload_n 0, 1) := by decide +kernel
theorem dX2_freezeBlocks_64 : decode cX2_freezeBlocks 64 = .ok (.getfield 9, 3) := by decide +kernel
theorem dX2_freezeBlocks_67 : decode cX2_freezeBlocks 67 = .ok (.invokevirtual 143, 3) := by decide +kernel
theorem dX2_freezeBlocks_70 : decode cX2_freezeBlocks 70 = .ok (.aload_n 0, 1) := by decide +kernel
theorem dX2_freezeBlocks_71 : decode cX2_freezeBlocks 71 = .ok (.getfield 15, 3) := by decide +kernel
theorem dX2_freezeBlocks_74 : decode cX2_freezeBlocks 74 = .ok (.aload_n 0, 1) := by decide +kernel
theorem dX2_freezeBlocks_75 : decode cX2_freezeBlocks 75 = .ok (.getfield 9, 3) := by decide +kernel
theorem dX2_freezeBlocks_78 : decode cX2_freezeBlocks 78 = .ok (.invokevirtual 147, 3) := by decide +kernel
theorem dX2_freezeBlocks_81 : decode cX2_freezeBlocks 81 = .ok (.istore_n 3, 1) := by decide +kernel
theorem dX2_freezeBlocks_82 : decode cX2_freezeBlocks 82 = .ok (.iload_n 3, 1) := by decide +kernel
theorem dX2_freezeBlocks_83 : decode cX2_freezeBlocks 83 = .ok (.bipush 8, 2) := by decide +kernel
theorem dX2_freezeBlocks_85 : decode cX2_freezeBlocks 85 = .ok (.if_icmp .lt 6, 3) := by decide +kernel
theorem dX2_freezeBlocks_88 : decode cX2_freezeBlocks 88 = .ok (.bipush (-4), 2) := by decide +kernel
theorem dX2_freezeBlocks_90 : decode cX2_freezeBlocks 90 = .ok (.ireturn, 1) := by decide +kernel
theorem dX2_freezeBlocks_91 : decode cX2_freezeBlocks 91 = .ok (.iload_n 3, 1) := by decide +kernel
theorem dX2_freezeBlocks_92 : decode cX2_freezeBlocks 92 = .ok (.aload_n 0, 1) := by decide +kernel
theorem dX2_freezeBlocks_93 : decode cX2_freezeBlocks 93 = .ok (.getfield 9, 3) := by decide +kernel
theorem dX2_freezeBlocks_96 : decode cX2_freezeBlocks 96 = .ok (.getfield 151, 3) := by decide +kernel
theorem dX2_freezeBlocks_99 : decode cX2_freezeBlocks 99 = .ok (.if_icmp .ne 13, 3) := by decide +kernel
theorem dX2_freezeBlocks_102 : decode cX2_freezeBlocks 102 = .ok (.aload_n 0, 1) := by decide +kernel
theorem dX2_freezeBlocks_103 : decode cX2_freezeBlocks 103 = .ok (.getfield 9, 3) := by decide +kernel
theorem dX2_freezeBlocks_106 : decode cX2_freezeBlocks 106 = .ok (.iload_n 3, 1) := by decide +kernel
theorem dX2_freezeBlocks_107 : decode cX2_freezeBlocks 107 = .ok (.iconst 1, 1) := by decide +kernel
theorem dX2_freezeBlocks_108 : decode cX2_freezeBlocks 108 = .ok (.iadd, 1) := by decide +kernel
theorem dX2_freezeBlocks_109 : decode cX2_freezeBlocks 109 = .ok (.putfield 151, 3) := by decide +kernel
theorem dX2_freezeBlocks_112 : decode cX2_freezeBlocks 112 = .ok (.aload_n 0, 1) := by decide +kernel
theorem dX2_freezeBlocks_113 : decode cX2_freezeBlocks 113 = .ok (.getfield 15, 3) := by decide +kernel
theorem dX2_freezeBlocks_116 : decode cX2_freezeBlocks 116 = .ok (.aload_n 0, 1) := by decide +kernel
theorem dX2_freezeBlocks_117 : decode cX2_freezeBlocks 117 = .ok (.getfield 9, 3) := by decide +kernel
theorem dX2_freezeBlocks_120 : decode cX2_freezeBlocks 120 = .ok (.invokevirtual 154, 3) := by decide +kernel
theorem dX2_freezeBlocks_123 : decode cX2_freezeBlocks 123 = .ok (.iload_n 3, 1) := by decide +kernel
theorem dX2_freezeBlocks_124 : decode cX2_freezeBlocks 124 = .ok (.ireturn, 1) := by decide +kernel
theorem dX2_fault_0 : decode cX2_fault 0 = .ok (.aload_n 0, 1) := by decide +kernel
theorem dX2_fault_1 : decode cX2_fault 1 = .ok (.getfield 9, 3) := by decide +kernel
theorem dX2_fault_4 : decode cX2_fault 4 = .ok (.iload_n 1, 1) := by decide +kernel
theorem dX2_fault_5 : decode cX2_fault 5 = .ok (.invokevirtual 59, 3) := by decide +kernel
theorem dX2_fault_8 : decode cX2_fault 8 = .ok (.istore_n 2, 1) := by decide +kernel
theorem dX2_fault_9 : decode cX2_fault 9 = .ok (.iload_n 2, 1) := by decide +kernel
theorem dX2_fault_10 : decode cX2_fault 10 = .ok (.ifCond .ne 6, 3) := by decide +kernel
theorem dX2_fault_13 : decode cX2_fault 13 = .ok (.bipush (-11), 2) := by decide +kernel
theorem dX2_fault_15 : decode cX2_fault 15 = .ok (.ireturn, 1) := by decide +kernel
theorem dX2_fault_16 : decode cX2_fault 16 = .ok (.iload_n 2, 1) := by decide +kernel
theorem dX2_fault_17 : decode cX2_fault 17 = .ok (.iconst 1, 1) := by decide +kernel
theorem dX2_fault_18 : decode cX2_fault 18 = .ok (.if_icmp .ne 6, 3) := by decide +kernel
theorem dX2_fault_21 : decode cX2_fault 21 = .ok (.bipush (-12), 2) := by decide +kernel
theorem dX2_fault_23 : decode cX2_fault 23 = .ok (.ireturn, 1) := by decide +kernel
theorem dX2_fault_24 : decode cX2_fault 24 = .ok (.aload_n 0, 1) := by decide +kernel
theorem dX2_fault_25 : decode cX2_fault 25 = .ok (.getfield 9, 3) := by decide +kernel
theorem dX2_fault_28 : decode cX2_fault 28 = .ok (.aload_n 0, 1) := by decide +kernel
theorem dX2_fault_29 : decode cX2_fault 29 = .ok (.getfield 9, 3) := by decide +kernel
theorem dX2_fault_32 : decode cX2_fault 32 = .ok (.iload_n 1, 1) := by decide +kernel
theorem dX2_fault_33 : decode cX2_fault 33 = .ok (.invokevirtual 45, 3) := by decide +kernel
theorem dX2_fault_36 : decode cX2_fault 36 = .ok (.invokevirtual 84, 3) := by decide +kernel
theorem dX2_fault_39 : decode cX2_fault 39 = .ok (.ifCond .eq 7, 3) := by decide +kernel
theorem dX2_fault_42 : decode cX2_fault 42 = .ok (.iconst 0, 1) := by decide +kernel
theorem dX2_fault_43 : decode cX2_fault 43 = .ok (.goto 5, 3) := by decide +kernel
theorem dX2_fault_46 : decode cX2_fault 46 = .ok (.bipush (-13), 2) := by decide +kernel
theorem dX2_fault_48 : decode cX2_fault 48 = .ok (.ireturn, 1) := by decide +kernel
theorem dX2_faultAsBegin_0 : decode cX2_faultAsBegin 0 = .ok (.aload_n 0, 1) := by decide +kernel
theorem dX2_faultAsBegin_1 : decode cX2_faultAsBegin 1 = .ok (.iload_n 1, 1) := by decide +kernel
theorem dX2_faultAsBegin_2 : decode cX2_faultAsBegin 2 = .ok (.invokevirtual 157, 3) := by decide +kernel
theorem dX2_faultAsBegin_5 : decode cX2_faultAsBegin 5 = .ok (.istore_n 2, 1) := by decide +kernel
theorem dX2_faultAsBegin_6 : decode cX2_faultAsBegin 6 = .ok (.iload_n 2, 1) := by decide +kernel
theorem dX2_faultAsBegin_7 : decode cX2_faultAsBegin 7 = .ok (.ifCond .eq 5, 3) := by decide +kernel
theorem dX2_faultAsBegin_10 : decode cX2_faultAsBegin 10 = .ok (.iload_n 2, 1) := by decide +kernel
theorem dX2_faultAsBegin_11 : decode cX2_faultAsBegin 11 = .ok (.ireturn, 1) := by decide +kernel
theorem dX2_faultAsBegin_12 : decode cX2_faultAsBegin 12 = .ok (.aload_n 0, 1) := by decide +kernel
theorem dX2_faultAsBegin_13 : decode cX2_faultAsBegin 13 = .ok (.getfield 9, 3) := by decide +kernel
theorem dX2_faultAsBegin_16 : decode cX2_faultAsBegin 16 = .ok (.iload_n 1, 1) := by decide +kernel
theorem dX2_faultAsBegin_17 : decode cX2_faultAsBegin 17 = .ok (.invokevirtual 62, 3) := by decide +kernel
theorem dX2_faultAsBegin_20 : decode cX2_faultAsBegin 20 = .ok (.ifCond .ne 7, 3) := by decide +kernel
theorem dX2_faultAsBegin_23 : decode cX2_faultAsBegin 23 = .ok (.iconst 0, 1) := by decide +kernel
theorem dX2_faultAsBegin_24 : decode cX2_faultAsBegin 24 = .ok (.goto 5, 3) := by decide +kernel
theorem dX2_faultAsBegin_27 : decode cX2_faultAsBegin 27 = .ok (.bipush (-19), 2) := by decide +kernel
theorem dX2_faultAsBegin_29 : decode cX2_faultAsBegin 29 = .ok (.ireturn, 1) := by decide +kernel
theorem dX2_faultForReading_0 : decode cX2_faultForReading 0 = .ok (.aload_n 0, 1) := by decide +kernel
theorem dX2_faultForReading_1 : decode cX2_faultForReading 1 = .ok (.iload_n 1, 1) := by decide +kernel
theorem dX2_faultForReading_2 : decode cX2_faultForReading 2 = .ok (.invokevirtual 157, 3) := by decide +kernel
theorem dX2_faultForReading_5 : decode cX2_faultForReading 5 = .ok (.istore_n 3, 1) := by decide +kernel
theorem dX2_faultForReading_6 : decode cX2_faultForReading 6 = .ok (.iload_n 3, 1) := by decide +kernel
theorem dX2_faultForReading_7 : decode cX2_faultForReading 7 = .ok (.ifCond .eq 5, 3) := by decide +kernel
theorem dX2_faultForReading_10 : decode cX2_faultForReading 10 = .ok (.iload_n 3, 1) := by decide +kernel
theorem dX2_faultForReading_11 : decode cX2_faultForReading 11 = .ok (.ireturn, 1) := by decide +kernel
theorem dX2_faultForReading_12 : decode cX2_faultForReading 12 = .ok (.aload_n 0, 1) := by decide +kernel
theorem dX2_faultForReading_13 : decode cX2_faultForReading 13 = .ok (.iload_n 1, 1) := by decide +kernel
theorem dX2_faultForReading_14 : decode cX2_faultForReading 14 = .ok (.iload_n 2, 1) := by decide +kernel
theorem dX2_faultForReading_15 : decode cX2_faultForReading 15 = .ok (.invokevirtual 160, 3) := by decide +kernel
theorem dX2_faultForReading_18 : decode cX2_faultForReading 18 = .ok (.ifCond .eq 7, 3) := by decide +kernel
theorem dX2_faultForReading_21 : decode cX2_faultForReading 21 = .ok (.iconst 0, 1) := by decide +kernel
theorem dX2_faultForReading_22 : decode cX2_faultForReading 22 = .ok (.goto 5, 3) := by decide +kernel
theorem dX2_faultForReading_25 : decode cX2_faultForReading 25 = .ok (.bipush (-15), 2) := by decide +kernel
theorem dX2_faultForReading_27 : decode cX2_faultForReading 27 = .ok (.ireturn, 1) := by decide +kernel
theorem dX2_faultForWriting_0 : decode cX2_faultForWriting 0 = .ok (.aload_n 0, 1) := by decide +kernel
theorem dX2_faultForWriting_1 : decode cX2_faultForWriting 1 = .ok (.iload_n 1, 1) := by decide +kernel
theorem dX2_faultForWriting_2 : decode cX2_faultForWriting 2 = .ok (.invokevirtual 157, 3) := by decide +kernel
theorem dX2_faultForWriting_5 : decode cX2_faultForWriting 5 = .ok (.istore_n 3, 1) := by decide +kernel
theorem dX2_faultForWriting_6 : decode cX2_faultForWriting 6 = .ok (.iload_n 3, 1) := by decide +kernel
theorem dX2_faultForWriting_7 : decode cX2_faultForWriting 7 = .ok (.ifCond .eq 5, 3) := by decide +kernel
theorem dX2_faultForWriting_10 : decode cX2_faultForWriting 10 = .ok (.iload_n 3, 1) := by decide +kernel
theorem dX2_faultForWriting_11 : decode cX2_faultForWriting 11 = .ok (.ireturn, 1) := by decide +kernel
theorem dX2_faultForWriting_12 : decode cX2_faultForWriting 12 = .ok (.aload_n 0, 1) := by decide +kernel
theorem dX2_faultForWriting_13 : decode cX2_faultForWriting 13 = .ok (.getfield 9, 3) := by decide +kernel
theorem dX2_faultForWriting_16 : decode cX2_faultForWriting 16 = .ok (.aload_n 0, 1) := by decide +kernel
theorem dX2_faultForWriting_17 : decode cX2_faultForWriting 17 = .ok (.getfield 9, 3) := by decide +kernel
theorem dX2_faultForWriting_20 : decode cX2_faultForWriting 20 = .ok (.iload_n 1, 1) := by decide +kernel
theorem dX2_faultForWriting_21 : decode cX2_faultForWriting 21 = .ok (.invokevirtual 45, 3) := by decide +kernel
theorem dX2_faultForWriting_24 : decode cX2_faultForWriting 24 = .ok (.invokevirtual 48, 3) := by decide +kernel
theorem dX2_faultForWriting_27 : decode cX2_faultForWriting 27 = .ok (.ifCond .eq 6, 3) := by decide +kernel
theorem dX2_faultForWriting_30 : decode cX2_faultForWriting 30 = .ok (.bipush (-14), 2) := by decide +kernel
theorem dX2_faultForWriting_32 : decode cX2_faultForWriting 32 = .ok (.ireturn, 1) := by decide +kernel
theorem dX2_faultForWriting_33 : decode cX2_faultForWriting 33 = .ok (.aload_n 0, 1) := by decide +kernel
theorem dX2_faultForWriting_34 : decode cX2_faultForWriting 34 = .ok (.iload_n 1, 1) := by decide +kernel
theorem dX2_faultForWriting_35 : decode cX2_faultForWriting 35 = .ok (.iload_n 2, 1) := by decide +kernel
theorem dX2_faultForWriting_36 : decode cX2_faultForWriting 36 = .ok (.invokevirtual 160, 3) := by decide +kernel
theorem dX2_faultForWriting_39 : decode cX2_faultForWriting 39 = .ok (.ifCond .eq 7, 3) := by decide +kernel
theorem dX2_faultForWriting_42 : decode cX2_faultForWriting 42 = .ok (.iconst 0, 1) := by decide +kernel
theorem dX2_faultForWriting_43 : decode cX2_faultForWriting 43 = .ok (.goto 5, 3) := by decide +kernel
theorem dX2_faultForWriting_46 : decode cX2_faultForWriting 46 = .ok (.bipush (-15), 2) := by decide +kernel
theorem dX2_faultForWriting_48 : decode cX2_faultForWriting 48 = .ok (.ireturn, 1) := by decide +kernel
theorem dX2_hasBytes_0 : decode cX2_hasBytes 0 = .ok (.aload_n 0, 1) := by decide +kernel
theorem dX2_hasBytes_1 : decode cX2_hasBytes 1 = .ok (.getfield 9, 3) := by decide +kernel
theorem dX2_hasBytes_4 : decode cX2_hasBytes 4 = .ok (.iload_n 1, 1) := by decide +kernel
theorem dX2_hasBytes_5 : decode cX2_hasBytes 5 = .ok (.invokevirtual 62, 3) := by decide +kernel
theorem dX2_hasBytes_8 : decode cX2_hasBytes 8 = .ok (.iload_n 2, 1) := by decide +kernel
theorem dX2_hasBytes_9 : decode cX2_hasBytes 9 = .ok (.iadd, 1) := by decide +kernel
theorem dX2_hasBytes_10 : decode cX2_hasBytes 10 = .ok (.aload_n 0, 1) := by decide +kernel
theorem dX2_hasBytes_11 : decode cX2_hasBytes 11 = .ok (.getfield 9, 3) := by decide +kernel
theorem dX2_hasBytes_14 : decode cX2_hasBytes 14 = .ok (.aload_n 0, 1) := by decide +kernel
theorem dX2_hasBytes_15 : decode cX2_hasBytes 15 = .ok (.getfield 9, 3) := by decide +kernel
theorem dX2_hasBytes_18 : decode cX2_hasBytes 18 = .ok (.iload_n 1, 1) := by decide +kernel
theorem dX2_hasBytes_19 : decode cX2_hasBytes 19 = .ok (.invokevirtual 45, 3) := by decide +kernel
theorem dX2_hasBytes_22 : decode cX2_hasBytes 22 = .ok (.invokevirtual 87, 3) := by decide +kernel
theorem dX2_hasBytes_25 : decode cX2_hasBytes 25 = .ok (.if_icmp .gt 7, 3) := by decide +kernel
theorem dX2_hasBytes_28 : decode cX2_hasBytes 28 = .ok (.iconst 1, 1) := by decide +kernel
theorem dX2_hasBytes_29 : decode cX2_hasBytes 29 = .ok (.goto 4, 3) := by decide +kernel
theorem dX2_hasBytes_32 : decode cX2_hasBytes 32 = .ok (.iconst 0, 1) := by decide +kernel
theorem dX2_hasBytes_33 : decode cX2_hasBytes 33 = .ok (.ireturn, 1) := by decide +kernel
theorem dX2_cutsPointer_0 : decode cX2_cutsPointer 0 = .ok (.aload_n 0, 1) := by decide +kernel
theorem dX2_cutsPointer_1 : decode cX2_cutsPointer 1 = .ok (.getfield 9, 3) := by decide +kernel
theorem dX2_cutsPointer_4 : decode cX2_cutsPointer 4 = .ok (.iload_n 1, 1) := by decide +kernel
theorem dX2_cutsPointer_5 : decode cX2_cutsPointer 5 = .ok (.iload_n 2, 1) := by decide +kernel
theorem dX2_cutsPointer_6 : decode cX2_cutsPointer 6 = .ok (.invokevirtual 108, 3) := by decide +kernel
theorem dX2_cutsPointer_9 : decode cX2_cutsPointer 9 = .ok (.sipush 999, 3) := by decide +kernel
theorem dX2_cutsPointer_12 : decode cX2_cutsPointer 12 = .ok (.if_icmp .eq 22, 3) := by decide +kernel
theorem dX2_cutsPointer_15 : decode cX2_cutsPointer 15 = .ok (.aload_n 0, 1) := by decide +kernel
theorem dX2_cutsPointer_16 : decode cX2_cutsPointer 16 = .ok (.getfield 9, 3) := by decide +kernel
theorem dX2_cutsPointer_19 : decode cX2_cutsPointer 19 = .ok (.iload_n 1, 1) := by decide +kernel
theorem dX2_cutsPointer_20 : decode cX2_cutsPointer 20 = .ok (.iload_n 2, 1) := by decide +kernel
theorem dX2_cutsPointer_21 : decode cX2_cutsPointer 21 = .ok (.iload_n 3, 1) := by decide +kernel
theorem dX2_cutsPointer_22 : decode cX2_cutsPointer 22 = .ok (.iadd, 1) := by decide +kernel
theorem dX2_cutsPointer_23 : decode cX2_cutsPointer 23 = .ok (.iconst 1, 1) := by decide +kernel
theorem dX2_cutsPointer_24 : decode cX2_cutsPointer 24 = .ok (.isub, 1) := by decide +kernel
theorem dX2_cutsPointer_25 : decode cX2_cutsPointer 25 = .ok (.invokevirtual 108, 3) := by decide +kernel
theorem dX2_cutsPointer_28 : decode cX2_cutsPointer 28 = .ok (.invokestatic 111, 3) := by decide +kernel
theorem dX2_cutsPointer_31 : decode cX2_cutsPointer 31 = .ok (.ifCond .eq 7, 3) := by decide +kernel
theorem dX2_cutsPointer_34 : decode cX2_cutsPointer 34 = .ok (.iconst 1, 1) := by decide +kernel
theorem dX2_cutsPointer_35 : decode cX2_cutsPointer 35 = .ok (.goto 4, 3) := by decide +kernel
theorem dX2_cutsPointer_38 : decode cX2_cutsPointer 38 = .ok (.iconst 0, 1) := by decide +kernel
theorem dX2_cutsPointer_39 : decode cX2_cutsPointer 39 = .ok (.ireturn, 1) := by decide +kernel
theorem dX2_splitPointers_0 : decode cX2_splitPointers 0 = .ok (.aload_n 0, 1) := by decide +kernel
theorem dX2_splitPointers_1 : decode cX2_splitPointers 1 = .ok (.getfield 9, 3) := by decide +kernel
theorem dX2_splitPointers_4 : decode cX2_splitPointers 4 = .ok (.iload_n 1, 1) := by decide +kernel
theorem dX2_splitPointers_5 : decode cX2_splitPointers 5 = .ok (.iload_n 2, 1) := by decide +kernel
theorem dX2_splitPointers_6 : decode cX2_splitPointers 6 = .ok (.invokevirtual 108, 3) := by decide +kernel
theorem dX2_splitPointers_9 : decode cX2_splitPointers 9 = .ok (.sipush 999, 3) := by decide +kernel
theorem dX2_splitPointers_12 : decode cX2_splitPointers 12 = .ok (.if_icmp .ne 15, 3) := by decide +kernel
theorem dX2_splitPointers_15 : decode cX2_splitPointers 15 = .ok (.aload_n 0, 1) := by decide +kernel
theorem dX2_splitPointers_16 : decode cX2_splitPointers 16 = .ok (.getfield 9, 3) := by decide +kernel
theorem dX2_splitPointers_19 : decode cX2_splitPointers 19 = .ok (.iload_n 1, 1) := by decide +kernel
theorem dX2_splitPointers_20 : decode cX2_splitPointers 20 = .ok (.iload_n 2, 1) := by decide +kernel
theorem dX2_splitPointers_21 : decode cX2_splitPointers 21 = .ok (.iconst 1, 1) := by decide +kernel
theorem dX2_splitPointers_22 : decode cX2_splitPointers 22 = .ok (.isub, 1) := by decide +kernel
theorem dX2_splitPointers_23 : decode cX2_splitPointers 23 = .ok (.iconst (-1), 1) := by decide +kernel
theorem dX2_splitPointers_24 : decode cX2_splitPointers 24 = .ok (.invokevirtual 102, 3) := by decide +kernel
theorem dX2_splitPointers_27 : decode cX2_splitPointers 27 = .ok (.aload_n 0, 1) := by decide +kernel
theorem dX2_splitPointers_28 : decode cX2_splitPointers 28 = .ok (.getfield 9, 3) := by decide +kernel
theorem dX2_splitPointers_31 : decode cX2_splitPointers 31 = .ok (.iload_n 1, 1) := by decide +kernel
theorem dX2_splitPointers_32 : decode cX2_splitPointers 32 = .ok (.iload_n 2, 1) := by decide +kernel
theorem dX2_splitPointers_33 : decode cX2_splitPointers 33 = .ok (.iload_n 3, 1) := by decide +kernel
theorem dX2_splitPointers_34 : decode cX2_splitPointers 34 = .ok (.iadd, 1) := by decide +kernel
theorem dX2_splitPointers_35 : decode cX2_splitPointers 35 = .ok (.iconst 1, 1) := by decide +kernel
theorem dX2_splitPointers_36 : decode cX2_splitPointers 36 = .ok (.isub, 1) := by decide +kernel
theorem dX2_splitPointers_37 : decode cX2_splitPointers 37 = .ok (.invokevirtual 108, 3) := by decide +kernel
theorem dX2_splitPointers_40 : decode cX2_splitPointers 40 = .ok (.invokestatic 111, 3) := by decide +kernel
theorem dX2_splitPointers_43 : decode cX2_splitPointers 43 = .ok (.ifCond .eq 15, 3) := by decide +kernel
theorem dX2_splitPointers_46 : decode cX2_splitPointers 46 = .ok (.aload_n 0, 1) := by decide +kernel
theorem dX2_splitPointers_47 : decode cX2_splitPointers 47 = .ok (.getfield 9, 3) := by decide +kernel
theorem dX2_splitPointers_50 : decode cX2_splitPointers 50 = .ok (.iload_n 1, 1) := by decide +kernel
theorem dX2_splitPointers_51 : decode cX2_splitPointers 51 = .ok (.iload_n 2, 1) := by decide +kernel
theorem dX2_splitPointers_52 : decode cX2_splitPointers 52 = .ok (.iload_n 3, 1) := by decide +kernel
theorem dX2_splitPointers_53 : decode cX2_splitPointers 53 = .ok (.iadd, 1) := by decide +kernel
theorem dX2_splitPointers_54 : decode cX2_splitPointers 54 = .ok (.iconst (-1), 1) := by decide +kernel
theorem dX2_splitPointers_55 : decode cX2_splitPointers 55 = .ok (.invokevirtual 102, 3) := by decide +kernel
theorem dX2_splitPointers_58 : decode cX2_splitPointers 58 = .ok (.return_, 1) := by decide +kernel
theorem dX3_init_0 : decode cX3_init 0 = .ok (.aload_n 0, 1) := by decide +kernel
theorem dX3_init_1 : decode cX3_init 1 = .ok (.invokespecial 3, 3) := by decide +kernel
theorem dX3_init_4 : decode cX3_init 4 = .ok (.aload_n 0, 1) := by decide +kernel
theorem dX3_init_5 : decode cX3_init 5 = .ok (.bipush 6, 2) := by decide +kernel
theorem dX3_init_7 : decode cX3_init 7 = .ok (.anewarray 11, 3) := by decide +kernel
theorem dX3_init_10 : decode cX3_init 10 = .ok (.putfield 13, 3) := by decide +kernel
theorem dX3_init_13 : decode cX3_init 13 = .ok (.iconst 0, 1) := by decide +kernel
theorem dX3_init_14 : decode cX3_init 14 = .ok (.istore_n 1, 1) := by decide +kernel
theorem dX3_init_15 : decode cX3_init 15 = .ok (.iload_n 1, 1) := by decide +kernel
theorem dX3_init_16 : decode cX3_init 16 = .ok (.bipush 6, 2) := by decide +kernel
theorem dX3_init_18 : decode cX3_init 18 = .ok (.if_icmp .ge 22, 3) := by decide +kernel
theorem dX3_init_21 : decode cX3_init 21 = .ok (.aload_n 0, 1) := by decide +kernel
theorem dX3_init_22 : decode cX3_init 22 = .ok (.getfield 13, 3) := by decide +kernel
theorem dX3_init_25 : decode cX3_init 25 = .ok (.iload_n 1, 1) := by decide +kernel
theorem dX3_init_26 : decode cX3_init 26 = .ok (.new 11, 3) := by decide +kernel
theorem dX3_init_29 : decode cX3_init 29 = .ok (.dup, 1) := by decide +kernel
theorem dX3_init_30 : decode cX3_init 30 = .ok (.invokespecial 17, 3) := by decide +kernel
theorem dX3_init_33 : decode cX3_init 33 = .ok (.aastore, 1) := by decide +kernel
theorem dX3_init_34 : decode cX3_init 34 = .ok (.iinc 1 1, 3) := by decide +kernel
theorem dX3_init_37 : decode cX3_init 37 = .ok (.goto (-22), 3) := by decide +kernel
theorem dX3_init_40 : decode cX3_init 40 = .ok (.return_, 1) := by decide +kernel
theorem dX3_waiting_0 : decode cX3_waiting 0 = .ok (.aload_n 0, 1) := by decide +kernel
theorem dX3_waiting_1 : decode cX3_waiting 1 = .ok (.getfield 13, 3) := by decide +kernel
theorem dX3_waiting_4 : decode cX3_waiting 4 = .ok (.aload_n 0, 1) := by decide +kernel
theorem dX3_waiting_5 : decode cX3_waiting 5 = .ok (.getfield 18, 3) := by decide +kernel
theorem dX3_waiting_8 : decode cX3_waiting 8 = .ok (.bipush 6, 2) := by decide +kernel
theorem dX3_waiting_10 : decode cX3_waiting 10 = .ok (.invokestatic 22, 3) := by decide +kernel
theorem dX3_waiting_13 : decode cX3_waiting 13 = .ok (.aaload, 1) := by decide +kernel
theorem dX3_waiting_14 : decode cX3_waiting 14 = .ok (.areturn, 1) := by decide +kernel
theorem dX3_stage_0 : decode cX3_stage 0 = .ok (.aload_n 0, 1) := by decide +kernel
theorem dX3_stage_1 : decode cX3_stage 1 = .ok (.invokevirtual 28, 3) := by decide +kernel
theorem dX3_stage_4 : decode cX3_stage 4 = .ok (.aload_n 1, 1) := by decide +kernel
theorem dX3_stage_5 : decode cX3_stage 5 = .ok (.invokevirtual 32, 3) := by decide +kernel
theorem dX3_stage_8 : decode cX3_stage 8 = .ok (.return_, 1) := by decide +kernel
theorem dX3_keep_0 : decode cX3_keep 0 = .ok (.aload_n 0, 1) := by decide +kernel
theorem dX3_keep_1 : decode cX3_keep 1 = .ok (.aload_n 0, 1) := by decide +kernel
theorem dX3_keep_2 : decode cX3_keep 2 = .ok (.getfield 18, 3) := by decide +kernel
theorem dX3_keep_5 : decode cX3_keep 5 = .ok (.iconst 1, 1) := by decide +kernel
theorem dX3_keep_6 : decode cX3_keep 6 = .ok (.iadd, 1) := by decide +kernel
theorem dX3_keep_7 : decode cX3_keep 7 = .ok (.bipush 6, 2) := by decide +kernel
theorem dX3_keep_9 : decode cX3_keep 9 = .ok (.irem, 1) := by decide +kernel
theorem dX3_keep_10 : decode cX3_keep 10 = .ok (.putfield 18, 3) := by decide +kernel
theorem dX3_keep_13 : decode cX3_keep 13 = .ok (.aload_n 0, 1) := by decide +kernel
theorem dX3_keep_14 : decode cX3_keep 14 = .ok (.getfield 36, 3) := by decide +kernel
theorem dX3_keep_17 : decode cX3_keep 17 = .ok (.iconst 5, 1) := by decide +kernel
theorem dX3_keep_18 : decode cX3_keep 18 = .ok (.if_icmp .ge 13, 3) := by decide +kernel
theorem dX3_keep_21 : decode cX3_keep 21 = .ok (.aload_n 0, 1) := by decide +kernel
theorem dX3_keep_22 : decode cX3_keep 22 = .ok (.aload_n 0, 1) := by decide +kernel
theorem dX3_keep_23 : decode cX3_keep 23 = .ok (.getfield 36, 3) := by decide +kernel
theorem dX3_keep_26 : decode cX3_keep 26 = .ok (.iconst 1, 1) := by decide +kernel
theorem dX3_keep_27 : decode cX3_keep 27 = .ok (.iadd, 1) := by decide +kernel
theorem dX3_keep_28 : decode cX3_keep 28 = .ok (.putfield 36, 3) := by decide +kernel
theorem dX3_keep_31 : decode cX3_keep 31 = .ok (.return_, 1) := by decide +kernel
theorem dX3_undo_0 : decode cX3_undo 0 = .ok (.aload_n 1, 1) := by decide +kernel
theorem dX3_undo_1 : decode cX3_undo 1 = .ok (.aload_n 0, 1) := by decide +kernel
theorem dX3_undo_2 : decode cX3_undo 2 = .ok (.invokevirtual 28, 3) := by decide +kernel
theorem dX3_undo_5 : decode cX3_undo 5 = .ok (.invokevirtual 32, 3) := by decide +kernel
theorem dX3_undo_8 : decode cX3_undo 8 = .ok (.return_, 1) := by decide +kernel
theorem dX3_bringBack_0 : decode cX3_bringBack 0 = .ok (.aload_n 0, 1) := by decide +kernel
theorem dX3_bringBack_1 : decode cX3_bringBack 1 = .ok (.getfield 36, 3) := by decide +kernel
theorem dX3_bringBack_4 : decode cX3_bringBack 4 = .ok (.ifCond .ne 6, 3) := by decide +kernel
theorem dX3_bringBack_7 : decode cX3_bringBack 7 = .ok (.bipush (-3), 2) := by decide +kernel
theorem dX3_bringBack_9 : decode cX3_bringBack 9 = .ok (.ireturn, 1) := by decide +kernel
theorem dX3_bringBack_10 : decode cX3_bringBack 10 = .ok (.aload_n 0, 1) := by decide +kernel
theorem dX3_bringBack_11 : decode cX3_bringBack 11 = .ok (.aload_n 0, 1) := by decide +kernel
theorem dX3_bringBack_12 : decode cX3_bringBack 12 = .ok (.getfield 18, 3) := by decide +kernel
theorem dX3_bringBack_15 : decode cX3_bringBack 15 = .ok (.bipush 6, 2) := by decide +kernel
theorem dX3_bringBack_17 : decode cX3_bringBack 17 = .ok (.iadd, 1) := by decide +kernel
theorem dX3_bringBack_18 : decode cX3_bringBack 18 = .ok (.iconst 1, 1) := by decide +kernel
theorem dX3_bringBack_19 : decode cX3_bringBack 19 = .ok (.isub, 1) := by decide +kernel
theorem dX3_bringBack_20 : decode cX3_bringBack 20 = .ok (.bipush 6, 2) := by decide +kernel
theorem dX3_bringBack_22 : decode cX3_bringBack 22 = .ok (.irem, 1) := by decide +kernel
theorem dX3_bringBack_23 : decode cX3_bringBack 23 = .ok (.putfield 18, 3) := by decide +kernel
theorem dX3_bringBack_26 : decode cX3_bringBack 26 = .ok (.aload_n 0, 1) := by decide +kernel
theorem dX3_bringBack_27 : decode cX3_bringBack 27 = .ok (.aload_n 0, 1) := by decide +kernel
theorem dX3_bringBack_28 : decode cX3_bringBack 28 = .ok (.getfield 36, 3) := by decide +kernel
theorem dX3_bringBack_31 : decode cX3_bringBack 31 = .ok (.iconst 1, 1) := by decide +kernel
theorem dX3_bringBack_32 : decode cX3_bringBack 32 = .ok (.isub, 1) := by decide +kernel
theorem dX3_bringBack_33 : decode cX3_bringBack 33 = .ok (.putfield 36, 3) := by decide +kernel
theorem dX3_bringBack_36 : decode cX3_bringBack 36 = .ok (.aload_n 1, 1) := by decide +kernel
theorem dX3_bringBack_37 : decode cX3_bringBack 37 = .ok (.aload_n 0, 1) := by decide +kernel
theorem dX3_bringBack_38 : decode cX3_bringBack 38 = .ok (.invokevirtual 28, 3) := by decide +kernel
theorem dX3_bringBack_41 : decode cX3_bringBack 41 = .ok (.invokevirtual 32, 3) := by decide +kernel
theorem dX3_bringBack_44 : decode cX3_bringBack 44 = .ok (.aload_n 0, 1) := by decide +kernel
theorem dX3_bringBack_45 : decode cX3_bringBack 45 = .ok (.getfield 36, 3) := by decide +kernel
theorem dX3_bringBack_48 : decode cX3_bringBack 48 = .ok (.ireturn, 1) := by decide +kernel
theorem dX4_init_0 : decode cX4_init 0 = .ok (.aload_n 0, 1) := by decide +kernel
theorem dX4_init_1 : decode cX4_init 1 = .ok (.invokespecial 3, 3) := by decide +kernel
theorem dX4_init_4 : decode cX4_init 4 = .ok (.aload_n 0, 1) := by decide +kernel
theorem dX4_init_5 : decode cX4_init 5 = .ok (.bipush 120, 2) := by decide +kernel
theorem dX4_init_7 : decode cX4_init 7 = .ok (.newarray .int, 2) := by decide +kernel
theorem dX4_init_9 : decode cX4_init 9 = .ok (.putfield 9, 3) := by decide +kernel
theorem dX4_init_12 : decode cX4_init 12 = .ok (.aload_n 0, 1) := by decide +kernel
theorem dX4_init_13 : decode cX4_init 13 = .ok (.bipush 40, 2) := by decide +kernel
theorem dX4_init_15 : decode cX4_init 15 = .ok (.newarray .int, 2) := by decide +kernel
theorem dX4_init_17 : decode cX4_init 17 = .ok (.putfield 15, 3) := by decide +kernel
theorem dX4_init_20 : decode cX4_init 20 = .ok (.aload_n 0, 1) := by decide +kernel
theorem dX4_init_21 : decode cX4_init 21 = .ok (.bipush 120, 2) := by decide +kernel
theorem dX4_init_23 : decode cX4_init 23 = .ok (.newarray .int, 2) := by decide +kernel
theorem dX4_init_25 : decode cX4_init 25 = .ok (.putfield 18, 3) := by decide +kernel
theorem dX4_init_28 : decode cX4_init 28 = .ok (.return_, 1) := by decide +kernel
theorem dX4_append_0 : decode cX4_append 0 = .ok (.iload_n 1, 1) := by decide +kernel
theorem dX4_append_1 : decode cX4_append 1 = .ok (.ifCond .lt 9, 3) := by decide +kernel
theorem dX4_append_4 : decode cX4_append 4 = .ok (.iload_n 1, 1) := by decide +kernel
theorem dX4_append_5 : decode cX4_append 5 = .ok (.bipush 127, 2) := by decide +kernel
theorem dX4_append_7 : decode cX4_append 7 = .ok (.if_icmp .le 6, 3) := by decide +kernel
theorem dX4_append_10 : decode cX4_append 10 = .ok (.bipush (-2), 2) := by decide +kernel
theorem dX4_append_12 : decode cX4_append 12 = .ok (.ireturn, 1) := by decide +kernel
theorem dX4_append_13 : decode cX4_append 13 = .ok (.aload_n 0, 1) := by decide +kernel
theorem dX4_append_14 : decode cX4_append 14 = .ok (.getfield 21, 3) := by decide +kernel
theorem dX4_append_17 : decode cX4_append 17 = .ok (.ifCond .lt 12, 3) := by decide +kernel
theorem dX4_append_20 : decode cX4_append 20 = .ok (.aload_n 0, 1) := by decide +kernel
theorem dX4_append_21 : decode cX4_append 21 = .ok (.getfield 21, 3) := by decide +kernel
theorem dX4_append_24 : decode cX4_append 24 = .ok (.bipush 120, 2) := by decide +kernel
theorem dX4_append_26 : decode cX4_append 26 = .ok (.if_icmp .lt 6, 3) := by decide +kernel
theorem dX4_append_29 : decode cX4_append 29 = .ok (.bipush (-4), 2) := by decide +kernel
theorem dX4_append_31 : decode cX4_append 31 = .ok (.ireturn, 1) := by decide +kernel
theorem dX4_append_32 : decode cX4_append 32 = .ok (.aload_n 0, 1) := by decide +kernel
theorem dX4_append_33 : decode cX4_append 33 = .ok (.getfield 9, 3) := by decide +kernel
theorem dX4_append_36 : decode cX4_append 36 = .ok (.aload_n 0, 1) := by decide +kernel
theorem dX4_append_37 : decode cX4_append 37 = .ok (.getfield 21, 3) := by decide +kernel
theorem dX4_append_40 : decode cX4_append 40 = .ok (.iload_n 1, 1) := by decide +kernel
theorem dX4_append_41 : decode cX4_append 41 = .ok (.iastore, 1) := by decide +kernel
theorem dX4_append_42 : decode cX4_append 42 = .ok (.aload_n 0, 1) := by decide +kernel
theorem dX4_append_43 : decode cX4_append 43 = .ok (.aload_n 0, 1) := by decide +kernel
theorem dX4_append_44 : decode cX4_append 44 = .ok (.getfield 21, 3) := by decide +kernel
theorem dX4_append_47 : decode cX4_append 47 = .ok (.iconst 1, 1) := by decide +kernel
theorem dX4_append_48 : decode cX4_append 48 = .ok (.iadd, 1) := by decide +kernel
theorem dX4_append_49 : decode cX4_append 49 = .ok (.putfield 21, 3) := by decide +kernel
theorem dX4_append_52 : decode cX4_append 52 = .ok (.aload_n 0, 1) := by decide +kernel
theorem dX4_append_53 : decode cX4_append 53 = .ok (.getfield 21, 3) := by decide +kernel
theorem dX4_append_56 : decode cX4_append 56 = .ok (.ireturn, 1) := by decide +kernel
theorem dX4_empty_0 : decode cX4_empty 0 = .ok (.aload_n 0, 1) := by decide +kernel
theorem dX4_empty_1 : decode cX4_empty 1 = .ok (.getfield 21, 3) := by decide +kernel
theorem dX4_empty_4 : decode cX4_empty 4 = .ok (.istore_n 1, 1) := by decide +kernel
theorem dX4_empty_5 : decode cX4_empty 5 = .ok (.aload_n 0, 1) := by decide +kernel
theorem dX4_empty_6 : decode cX4_empty 6 = .ok (.iconst 0, 1) := by decide +kernel
theorem dX4_empty_7 : decode cX4_empty 7 = .ok (.putfield 21, 3) := by decide +kernel
theorem dX4_empty_10 : decode cX4_empty 10 = .ok (.iload_n 1, 1) := by decide +kernel
theorem dX4_empty_11 : decode cX4_empty 11 = .ok (.ireturn, 1) := by decide +kernel
theorem dX4_parse_0 : decode cX4_parse 0 = .ok (.aload_n 0, 1) := by decide +kernel
theorem dX4_parse_1 : decode cX4_parse 1 = .ok (.iconst 0, 1) := by decide +kernel
theorem dX4_parse_2 : decode cX4_parse 2 = .ok (.putfield 25, 3) := by decide +kernel
theorem dX4_parse_5 : decode cX4_parse 5 = .ok (.aload_n 0, 1) := by decide +kernel
theorem dX4_parse_6 : decode cX4_parse 6 = .ok (.iconst (-1), 1) := by decide +kernel
theorem dX4_parse_7 : decode cX4_parse 7 = .ok (.putfield 28, 3) := by decide +kernel
theorem dX4_parse_10 : decode cX4_parse 10 = .ok (.iconst 0, 1) := by decide +kernel
theorem dX4_parse_11 : decode cX4_parse 11 = .ok (.istore_n 1, 1) := by decide +kernel
theorem dX4_parse_12 : decode cX4_parse 12 = .ok (.iload_n 1, 1) := by decide +kernel
theorem dX4_parse_13 : decode cX4_parse 13 = .ok (.aload_n 0, 1) := by decide +kernel
theorem dX4_parse_14 : decode cX4_parse 14 = .ok (.getfield 21, 3) := by decide +kernel
theorem dX4_parse_17 : decode cX4_parse 17 = .ok (.if_icmp .ge 30, 3) := by decide +kernel
theorem dX4_parse_20 : decode cX4_parse 20 = .ok (.iload_n 1, 1) := by decide +kernel
theorem dX4_parse_21 : decode cX4_parse 21 = .ok (.bipush 120, 2) := by decide +kernel
theorem dX4_parse_23 : decode cX4_parse 23 = .ok (.if_icmp .ge 24, 3) := by decide +kernel
theorem dX4_parse_26 : decode cX4_parse 26 = .ok (.aload_n 0, 1) := by decide +kernel
theorem dX4_parse_27 : decode cX4_parse 27 = .ok (.aload_n 0, 1) := by decide +kernel
theorem dX4_parse_28 : decode cX4_parse 28 = .ok (.getfield 9, 3) := by decide +kernel
theorem dX4_parse_31 : decode cX4_parse 31 = .ok (.iload_n 1, 1) := by decide +kernel
theorem dX4_parse_32 : decode cX4_parse 32 = .ok (.iaload, 1) := by decide +kernel
theorem dX4_parse_33 : decode cX4_parse 33 = .ok (.invokevirtual 31, 3) := by decide +kernel
theorem dX4_parse_36 : decode cX4_parse 36 = .ok (.ifCond .ne 5, 3) := by decide +kernel
theorem dX4_parse_39 : decode cX4_parse 39 = .ok (.iload_n 1, 1) := by decide +kernel
theorem dX4_parse_40 : decode cX4_parse 40 = .ok (.ireturn, 1) := by decide +kernel
theorem dX4_parse_41 : decode cX4_parse 41 = .ok (.iinc 1 1, 3) := by decide +kernel
theorem dX4_parse_44 : decode cX4_parse 44 = .ok (.goto (-32), 3) := by decide +kernel
theorem dX4_parse_47 : decode cX4_parse 47 = .ok (.aload_n 0, 1) := by decide +kernel
theorem dX4_parse_48 : decode cX4_parse 48 = .ok (.getfield 28, 3) := by decide +kernel
theorem dX4_parse_51 : decode cX4_parse 51 = .ok (.iconst (-1), 1) := by decide +kernel
theorem dX4_parse_52 : decode cX4_parse 52 = .ok (.if_icmp .ne 14, 3) := by decide +kernel
theorem dX4_parse_55 : decode cX4_parse 55 = .ok (.aload_n 0, 1) := by decide +kernel
theorem dX4_parse_56 : decode cX4_parse 56 = .ok (.getfield 25, 3) := by decide +kernel
theorem dX4_parse_59 : decode cX4_parse 59 = .ok (.ifCond .le 7, 3) := by decide +kernel
theorem dX4_parse_62 : decode cX4_parse 62 = .ok (.iconst (-1), 1) := by decide +kernel
theorem dX4_parse_63 : decode cX4_parse 63 = .ok (.goto 7, 3) := by decide +kernel
theorem dX4_parse_66 : decode cX4_parse 66 = .ok (.aload_n 0, 1) := by decide +kernel
theorem dX4_parse_67 : decode cX4_parse 67 = .ok (.getfield 21, 3) := by decide +kernel
theorem dX4_parse_70 : decode cX4_parse 70 = .ok (.ireturn, 1) := by decide +kernel
theorem dX4_accepts_0 : decode cX4_accepts 0 = .ok (.aload_n 0, 1) := by decide +kernel
theorem dX4_accepts_1 : decode cX4_accepts 1 = .ok (.getfield 28, 3) := by decide +kernel
theorem dX4_accepts_4 : decode cX4_accepts 4 = .ok (.iconst (-1), 1) := by decide +kernel
theorem dX4_accepts_5 : decode cX4_accepts 5 = .ok (.if_icmp .ne 23, 3) := by decide +kernel
theorem dX4_accepts_8 : decode cX4_accepts 8 = .ok (.iload_n 1, 1) := by decide +kernel
theorem dX4_accepts_9 : decode cX4_accepts 9 = .ok (.bipush 32, 2) := by decide +kernel
theorem dX4_accepts_11 : decode cX4_accepts 11 = .ok (.if_icmp .eq 11, 3) := by decide +kernel
theorem dX4_accepts_14 : decode cX4_accepts 14 = .ok (.aload_n 0, 1) := by decide +kernel
theorem dX4_accepts_15 : decode cX4_accepts 15 = .ok (.iload_n 1, 1) := by decide +kernel
theorem dX4_accepts_16 : decode cX4_accepts 16 = .ok (.invokevirtual 35, 3) := by decide +kernel
theorem dX4_accepts_19 : decode cX4_accepts 19 = .ok (.ifCond .eq 7, 3) := by decide +kernel
theorem dX4_accepts_22 : decode cX4_accepts 22 = .ok (.iconst 1, 1) := by decide +kernel
theorem dX4_accepts_23 : decode cX4_accepts 23 = .ok (.goto 4, 3) := by decide +kernel
theorem dX4_accepts_26 : decode cX4_accepts 26 = .ok (.iconst 0, 1) := by decide +kernel
theorem dX4_accepts_27 : decode cX4_accepts 27 = .ok (.ireturn, 1) := by decide +kernel
theorem dX4_accepts_28 : decode cX4_accepts 28 = .ok (.iload_n 1, 1) := by decide +kernel
theorem dX4_accepts_29 : decode cX4_accepts 29 = .ok (.bipush 48, 2) := by decide +kernel
theorem dX4_accepts_31 : decode cX4_accepts 31 = .ok (.if_icmp .lt 18, 3) := by decide +kernel
theorem dX4_accepts_34 : decode cX4_accepts 34 = .ok (.iload_n 1, 1) := by decide +kernel
theorem dX4_accepts_35 : decode cX4_accepts 35 = .ok (.bipush 57, 2) := by decide +kernel
theorem dX4_accepts_37 : decode cX4_accepts 37 = .ok (.if_icmp .gt 12, 3) := by decide +kernel
theorem dX4_accepts_40 : decode cX4_accepts 40 = .ok (.aload_n 0, 1) := by decide +kernel
theorem dX4_accepts_41 : decode cX4_accepts 41 = .ok (.iload_n 1, 1) := by decide +kernel
theorem dX4_accepts_42 : decode cX4_accepts 42 = .ok (.bipush 48, 2) := by decide +kernel
theorem dX4_accepts_44 : decode cX4_accepts 44 = .ok (.isub, 1) := by decide +kernel
theorem dX4_accepts_45 : decode cX4_accepts 45 = .ok (.invokevirtual 38, 3) := by decide +kernel
theorem dX4_accepts_48 : decode cX4_accepts 48 = .ok (.ireturn, 1) := by decide +kernel
theorem dX4_accepts_49 : decode cX4_accepts 49 = .ok (.aload_n 0, 1) := by decide +kernel
theorem dX4_accepts_50 : decode cX4_accepts 50 = .ok (.getfield 41, 3) := by decide +kernel
theorem dX4_accepts_53 : decode cX4_accepts 53 = .ok (.ifCond .eq 5, 3) := by decide +kernel
theorem dX4_accepts_56 : decode cX4_accepts 56 = .ok (.iconst 0, 1) := by decide +kernel
theorem dX4_accepts_57 : decode cX4_accepts 57 = .ok (.ireturn, 1) := by decide +kernel
theorem dX4_accepts_58 : decode cX4_accepts 58 = .ok (.iload_n 1, 1) := by decide +kernel
theorem dX4_accepts_59 : decode cX4_accepts 59 = .ok (.lookupswitch 50 #[(32, 33), (45, 40), (59, 45)], 33) := by decide +kernel
theorem dX4_accepts_92 : decode cX4_accepts 92 = .ok (.aload_n 0, 1) := by decide +kernel
theorem dX4_accepts_93 : decode cX4_accepts 93 = .ok (.iconst 0, 1) := by decide +kernel
theorem dX4_accepts_94 : decode cX4_accepts 94 = .ok (.putfield 45, 3) := by decide +kernel
theorem dX4_accepts_97 : decode cX4_accepts 97 = .ok (.iconst 1, 1) := by decide +kernel
theorem dX4_accepts_98 : decode cX4_accepts 98 = .ok (.ireturn, 1) := by decide +kernel
theorem dX4_accepts_99 : decode cX4_accepts 99 = .ok (.aload_n 0, 1) := by decide +kernel
theorem dX4_accepts_100 : decode cX4_accepts 100 = .ok (.invokevirtual 48, 3) := by decide +kernel
theorem dX4_accepts_103 : decode cX4_accepts 103 = .ok (.ireturn, 1) := by decide +kernel
theorem dX4_accepts_104 : decode cX4_accepts 104 = .ok (.aload_n 0, 1) := by decide +kernel
theorem dX4_accepts_105 : decode cX4_accepts 105 = .ok (.invokevirtual 52, 3) := by decide +kernel
theorem dX4_accepts_108 : decode cX4_accepts 108 = .ok (.ireturn, 1) := by decide +kernel
theorem dX4_accepts_109 : decode cX4_accepts 109 = .ok (.iconst 0, 1) := by decide +kernel
theorem dX4_accepts_110 : decode cX4_accepts 110 = .ok (.ireturn, 1) := by decide +kernel
theorem dX4_acceptsLetter_0 : decode cX4_acceptsLetter 0 = .ok (.iload_n 1, 1) := by decide +kernel
theorem dX4_acceptsLetter_1 : decode cX4_acceptsLetter 1 = .ok (.invokestatic 55, 3) := by decide +kernel
theorem dX4_acceptsLetter_4 : decode cX4_acceptsLetter 4 = .ok (.ifCond .eq 19, 3) := by decide +kernel
theorem dX4_acceptsLetter_7 : decode cX4_acceptsLetter 7 = .ok (.aload_n 0, 1) := by decide +kernel
theorem dX4_acceptsLetter_8 : decode cX4_acceptsLetter 8 = .ok (.getfield 25, 3) := by decide +kernel
theorem dX4_acceptsLetter_11 : decode cX4_acceptsLetter 11 = .ok (.ifCond .lt 12, 3) := by decide +kernel
theorem dX4_acceptsLetter_14 : decode cX4_acceptsLetter 14 = .ok (.aload_n 0, 1) := by decide +kernel
theorem dX4_acceptsLetter_15 : decode cX4_acceptsLetter 15 = .ok (.getfield 25, 3) := by decide +kernel
theorem dX4_acceptsLetter_18 : decode cX4_acceptsLetter 18 = .ok (.bipush 40, 2) := by decide +kernel
theorem dX4_acceptsLetter_20 : decode cX4_acceptsLetter 20 = .ok (.if_icmp .lt 5, 3) := by decide +kernel
theorem dX4_acceptsLetter_23 : decode cX4_acceptsLetter 23 = .ok (.iconst 0, 1) := by decide +kernel
theorem dX4_acceptsLetter_24 : decode cX4_acceptsLetter 24 = .ok (.ireturn, 1) := by decide +kernel
theorem dX4_acceptsLetter_25 : decode cX4_acceptsLetter 25 = .ok (.aload_n 0, 1) := by decide +kernel
theorem dX4_acceptsLetter_26 : decode cX4_acceptsLetter 26 = .ok (.getfield 15, 3) := by decide +kernel
theorem dX4_acceptsLetter_29 : decode cX4_acceptsLetter 29 = .ok (.aload_n 0, 1) := by decide +kernel
end
section
theorem dX4_acceptsLetter_30 : decode cX4_acceptsLetter 30 = .ok (.getfield 25, 3) := by decide +kernel
theorem dX4_acceptsLetter_33 : decode cX4_acceptsLetter 33 = .ok (.iload_n 1, 1) := by decide +kernel
theorem dX4_acceptsLetter_34 : decode cX4_acceptsLetter 34 = .ok (.iastore, 1) := by decide +kernel
theorem dX4_acceptsLetter_35 : decode cX4_acceptsLetter 35 = .ok (.aload_n 0, 1) := by decide +kernel
theorem dX4_acceptsLetter_36 : decode cX4_acceptsLetter 36 = .ok (.iload_n 1, 1) := by decide +kernel
theorem dX4_acceptsLetter_37 : decode cX4_acceptsLetter 37 = .ok (.putfield 28, 3) := by decide +kernel
theorem dX4_acceptsLetter_40 : decode cX4_acceptsLetter 40 = .ok (.aload_n 0, 1) := by decide +kernel
theorem dX4_acceptsLetter_41 : decode cX4_acceptsLetter 41 = .ok (.iconst 0, 1) := by decide +kernel
theorem dX4_acceptsLetter_42 : decode cX4_acceptsLetter 42 = .ok (.putfield 59, 3) := by decide +kernel
theorem dX4_acceptsLetter_45 : decode cX4_acceptsLetter 45 = .ok (.aload_n 0, 1) := by decide +kernel
theorem dX4_acceptsLetter_46 : decode cX4_acceptsLetter 46 = .ok (.iconst 0, 1) := by decide +kernel
theorem dX4_acceptsLetter_47 : decode cX4_acceptsLetter 47 = .ok (.putfield 45, 3) := by decide +kernel
theorem dX4_acceptsLetter_50 : decode cX4_acceptsLetter 50 = .ok (.aload_n 0, 1) := by decide +kernel
theorem dX4_acceptsLetter_51 : decode cX4_acceptsLetter 51 = .ok (.iconst 0, 1) := by decide +kernel
theorem dX4_acceptsLetter_52 : decode cX4_acceptsLetter 52 = .ok (.putfield 41, 3) := by decide +kernel
theorem dX4_acceptsLetter_55 : decode cX4_acceptsLetter 55 = .ok (.iconst 1, 1) := by decide +kernel
theorem dX4_acceptsLetter_56 : decode cX4_acceptsLetter 56 = .ok (.ireturn, 1) := by decide +kernel
theorem dX4_acceptsDigit_0 : decode cX4_acceptsDigit 0 = .ok (.aload_n 0, 1) := by decide +kernel
theorem dX4_acceptsDigit_1 : decode cX4_acceptsDigit 1 = .ok (.getfield 45, 3) := by decide +kernel
theorem dX4_acceptsDigit_4 : decode cX4_acceptsDigit 4 = .ok (.ifCond .ne 55, 3) := by decide +kernel
theorem dX4_acceptsDigit_7 : decode cX4_acceptsDigit 7 = .ok (.aload_n 0, 1) := by decide +kernel
theorem dX4_acceptsDigit_8 : decode cX4_acceptsDigit 8 = .ok (.getfield 59, 3) := by decide +kernel
theorem dX4_acceptsDigit_11 : decode cX4_acceptsDigit 11 = .ok (.aload_n 0, 1) := by decide +kernel
theorem dX4_acceptsDigit_12 : decode cX4_acceptsDigit 12 = .ok (.getfield 28, 3) := by decide +kernel
theorem dX4_acceptsDigit_15 : decode cX4_acceptsDigit 15 = .ok (.invokestatic 55, 3) := by decide +kernel
theorem dX4_acceptsDigit_18 : decode cX4_acceptsDigit 18 = .ok (.if_icmp .ne 5, 3) := by decide +kernel
theorem dX4_acceptsDigit_21 : decode cX4_acceptsDigit 21 = .ok (.iconst 0, 1) := by decide +kernel
theorem dX4_acceptsDigit_22 : decode cX4_acceptsDigit 22 = .ok (.ireturn, 1) := by decide +kernel
theorem dX4_acceptsDigit_23 : decode cX4_acceptsDigit 23 = .ok (.aload_n 0, 1) := by decide +kernel
theorem dX4_acceptsDigit_24 : decode cX4_acceptsDigit 24 = .ok (.aload_n 0, 1) := by decide +kernel
theorem dX4_acceptsDigit_25 : decode cX4_acceptsDigit 25 = .ok (.getfield 41, 3) := by decide +kernel
theorem dX4_acceptsDigit_28 : decode cX4_acceptsDigit 28 = .ok (.ifCond .eq 7, 3) := by decide +kernel
theorem dX4_acceptsDigit_31 : decode cX4_acceptsDigit 31 = .ok (.iconst (-1), 1) := by decide +kernel
theorem dX4_acceptsDigit_32 : decode cX4_acceptsDigit 32 = .ok (.goto 4, 3) := by decide +kernel
theorem dX4_acceptsDigit_35 : decode cX4_acceptsDigit 35 = .ok (.iconst 1, 1) := by decide +kernel
theorem dX4_acceptsDigit_36 : decode cX4_acceptsDigit 36 = .ok (.putfield 62, 3) := by decide +kernel
theorem dX4_acceptsDigit_39 : decode cX4_acceptsDigit 39 = .ok (.aload_n 0, 1) := by decide +kernel
theorem dX4_acceptsDigit_40 : decode cX4_acceptsDigit 40 = .ok (.iconst 0, 1) := by decide +kernel
theorem dX4_acceptsDigit_41 : decode cX4_acceptsDigit 41 = .ok (.putfield 41, 3) := by decide +kernel
theorem dX4_acceptsDigit_44 : decode cX4_acceptsDigit 44 = .ok (.aload_n 0, 1) := by decide +kernel
theorem dX4_acceptsDigit_45 : decode cX4_acceptsDigit 45 = .ok (.aload_n 0, 1) := by decide +kernel
theorem dX4_acceptsDigit_46 : decode cX4_acceptsDigit 46 = .ok (.getfield 59, 3) := by decide +kernel
theorem dX4_acceptsDigit_49 : decode cX4_acceptsDigit 49 = .ok (.iconst 1, 1) := by decide +kernel
theorem dX4_acceptsDigit_50 : decode cX4_acceptsDigit 50 = .ok (.iadd, 1) := by decide +kernel
theorem dX4_acceptsDigit_51 : decode cX4_acceptsDigit 51 = .ok (.putfield 59, 3) := by decide +kernel
theorem dX4_acceptsDigit_54 : decode cX4_acceptsDigit 54 = .ok (.aload_n 0, 1) := by decide +kernel
theorem dX4_acceptsDigit_55 : decode cX4_acceptsDigit 55 = .ok (.iconst 0, 1) := by decide +kernel
theorem dX4_acceptsDigit_56 : decode cX4_acceptsDigit 56 = .ok (.invokevirtual 65, 3) := by decide +kernel
theorem dX4_acceptsDigit_59 : decode cX4_acceptsDigit 59 = .ok (.aload_n 0, 1) := by decide +kernel
theorem dX4_acceptsDigit_60 : decode cX4_acceptsDigit 60 = .ok (.getfield 45, 3) := by decide +kernel
theorem dX4_acceptsDigit_63 : decode cX4_acceptsDigit 63 = .ok (.iconst 5, 1) := by decide +kernel
theorem dX4_acceptsDigit_64 : decode cX4_acceptsDigit 64 = .ok (.if_icmp .ne 5, 3) := by decide +kernel
theorem dX4_acceptsDigit_67 : decode cX4_acceptsDigit 67 = .ok (.iconst 0, 1) := by decide +kernel
theorem dX4_acceptsDigit_68 : decode cX4_acceptsDigit 68 = .ok (.ireturn, 1) := by decide +kernel
theorem dX4_acceptsDigit_69 : decode cX4_acceptsDigit 69 = .ok (.aload_n 0, 1) := by decide +kernel
theorem dX4_acceptsDigit_70 : decode cX4_acceptsDigit 70 = .ok (.aload_n 0, 1) := by decide +kernel
theorem dX4_acceptsDigit_71 : decode cX4_acceptsDigit 71 = .ok (.getfield 45, 3) := by decide +kernel
theorem dX4_acceptsDigit_74 : decode cX4_acceptsDigit 74 = .ok (.iconst 1, 1) := by decide +kernel
theorem dX4_acceptsDigit_75 : decode cX4_acceptsDigit 75 = .ok (.iadd, 1) := by decide +kernel
theorem dX4_acceptsDigit_76 : decode cX4_acceptsDigit 76 = .ok (.putfield 45, 3) := by decide +kernel
theorem dX4_acceptsDigit_79 : decode cX4_acceptsDigit 79 = .ok (.aload_n 0, 1) := by decide +kernel
theorem dX4_acceptsDigit_80 : decode cX4_acceptsDigit 80 = .ok (.aload_n 0, 1) := by decide +kernel
theorem dX4_acceptsDigit_81 : decode cX4_acceptsDigit 81 = .ok (.aload_n 0, 1) := by decide +kernel
theorem dX4_acceptsDigit_82 : decode cX4_acceptsDigit 82 = .ok (.getfield 25, 3) := by decide +kernel
theorem dX4_acceptsDigit_85 : decode cX4_acceptsDigit 85 = .ok (.aload_n 0, 1) := by decide +kernel
theorem dX4_acceptsDigit_86 : decode cX4_acceptsDigit 86 = .ok (.getfield 59, 3) := by decide +kernel
theorem dX4_acceptsDigit_89 : decode cX4_acceptsDigit 89 = .ok (.iconst 1, 1) := by decide +kernel
theorem dX4_acceptsDigit_90 : decode cX4_acceptsDigit 90 = .ok (.isub, 1) := by decide +kernel
theorem dX4_acceptsDigit_91 : decode cX4_acceptsDigit 91 = .ok (.invokevirtual 69, 3) := by decide +kernel
theorem dX4_acceptsDigit_94 : decode cX4_acceptsDigit 94 = .ok (.bipush 10, 2) := by decide +kernel
theorem dX4_acceptsDigit_96 : decode cX4_acceptsDigit 96 = .ok (.imul, 1) := by decide +kernel
theorem dX4_acceptsDigit_97 : decode cX4_acceptsDigit 97 = .ok (.aload_n 0, 1) := by decide +kernel
theorem dX4_acceptsDigit_98 : decode cX4_acceptsDigit 98 = .ok (.getfield 62, 3) := by decide +kernel
theorem dX4_acceptsDigit_101 : decode cX4_acceptsDigit 101 = .ok (.iload_n 1, 1) := by decide +kernel
theorem dX4_acceptsDigit_102 : decode cX4_acceptsDigit 102 = .ok (.imul, 1) := by decide +kernel
theorem dX4_acceptsDigit_103 : decode cX4_acceptsDigit 103 = .ok (.iadd, 1) := by decide +kernel
theorem dX4_acceptsDigit_104 : decode cX4_acceptsDigit 104 = .ok (.invokevirtual 65, 3) := by decide +kernel
theorem dX4_acceptsDigit_107 : decode cX4_acceptsDigit 107 = .ok (.iconst 1, 1) := by decide +kernel
theorem dX4_acceptsDigit_108 : decode cX4_acceptsDigit 108 = .ok (.ireturn, 1) := by decide +kernel
theorem dX4_acceptsMinus_0 : decode cX4_acceptsMinus 0 = .ok (.aload_n 0, 1) := by decide +kernel
theorem dX4_acceptsMinus_1 : decode cX4_acceptsMinus 1 = .ok (.getfield 28, 3) := by decide +kernel
theorem dX4_acceptsMinus_4 : decode cX4_acceptsMinus 4 = .ok (.bipush 118, 2) := by decide +kernel
theorem dX4_acceptsMinus_6 : decode cX4_acceptsMinus 6 = .ok (.if_icmp .ne 11, 3) := by decide +kernel
theorem dX4_acceptsMinus_9 : decode cX4_acceptsMinus 9 = .ok (.aload_n 0, 1) := by decide +kernel
theorem dX4_acceptsMinus_10 : decode cX4_acceptsMinus 10 = .ok (.getfield 59, 3) := by decide +kernel
theorem dX4_acceptsMinus_13 : decode cX4_acceptsMinus 13 = .ok (.iconst 1, 1) := by decide +kernel
theorem dX4_acceptsMinus_14 : decode cX4_acceptsMinus 14 = .ok (.if_icmp .eq 5, 3) := by decide +kernel
theorem dX4_acceptsMinus_17 : decode cX4_acceptsMinus 17 = .ok (.iconst 0, 1) := by decide +kernel
theorem dX4_acceptsMinus_18 : decode cX4_acceptsMinus 18 = .ok (.ireturn, 1) := by decide +kernel
theorem dX4_acceptsMinus_19 : decode cX4_acceptsMinus 19 = .ok (.aload_n 0, 1) := by decide +kernel
theorem dX4_acceptsMinus_20 : decode cX4_acceptsMinus 20 = .ok (.iconst 0, 1) := by decide +kernel
theorem dX4_acceptsMinus_21 : decode cX4_acceptsMinus 21 = .ok (.putfield 45, 3) := by decide +kernel
theorem dX4_acceptsMinus_24 : decode cX4_acceptsMinus 24 = .ok (.aload_n 0, 1) := by decide +kernel
theorem dX4_acceptsMinus_25 : decode cX4_acceptsMinus 25 = .ok (.iconst 1, 1) := by decide +kernel
theorem dX4_acceptsMinus_26 : decode cX4_acceptsMinus 26 = .ok (.putfield 41, 3) := by decide +kernel
theorem dX4_acceptsMinus_29 : decode cX4_acceptsMinus 29 = .ok (.iconst 1, 1) := by decide +kernel
theorem dX4_acceptsMinus_30 : decode cX4_acceptsMinus 30 = .ok (.ireturn, 1) := by decide +kernel
theorem dX4_acceptsSemicolon_0 : decode cX4_acceptsSemicolon 0 = .ok (.aload_n 0, 1) := by decide +kernel
theorem dX4_acceptsSemicolon_1 : decode cX4_acceptsSemicolon 1 = .ok (.getfield 59, 3) := by decide +kernel
theorem dX4_acceptsSemicolon_4 : decode cX4_acceptsSemicolon 4 = .ok (.aload_n 0, 1) := by decide +kernel
theorem dX4_acceptsSemicolon_5 : decode cX4_acceptsSemicolon 5 = .ok (.getfield 28, 3) := by decide +kernel
theorem dX4_acceptsSemicolon_8 : decode cX4_acceptsSemicolon 8 = .ok (.invokestatic 55, 3) := by decide +kernel
theorem dX4_acceptsSemicolon_11 : decode cX4_acceptsSemicolon 11 = .ok (.if_icmp .eq 5, 3) := by decide +kernel
theorem dX4_acceptsSemicolon_14 : decode cX4_acceptsSemicolon 14 = .ok (.iconst 0, 1) := by decide +kernel
theorem dX4_acceptsSemicolon_15 : decode cX4_acceptsSemicolon 15 = .ok (.ireturn, 1) := by decide +kernel
theorem dX4_acceptsSemicolon_16 : decode cX4_acceptsSemicolon 16 = .ok (.aload_n 0, 1) := by decide +kernel
theorem dX4_acceptsSemicolon_17 : decode cX4_acceptsSemicolon 17 = .ok (.aload_n 0, 1) := by decide +kernel
theorem dX4_acceptsSemicolon_18 : decode cX4_acceptsSemicolon 18 = .ok (.getfield 25, 3) := by decide +kernel
theorem dX4_acceptsSemicolon_21 : decode cX4_acceptsSemicolon 21 = .ok (.iconst 1, 1) := by decide +kernel
theorem dX4_acceptsSemicolon_22 : decode cX4_acceptsSemicolon 22 = .ok (.iadd, 1) := by decide +kernel
theorem dX4_acceptsSemicolon_23 : decode cX4_acceptsSemicolon 23 = .ok (.putfield 25, 3) := by decide +kernel
theorem dX4_acceptsSemicolon_26 : decode cX4_acceptsSemicolon 26 = .ok (.aload_n 0, 1) := by decide +kernel
theorem dX4_acceptsSemicolon_27 : decode cX4_acceptsSemicolon 27 = .ok (.iconst (-1), 1) := by decide +kernel
theorem dX4_acceptsSemicolon_28 : decode cX4_acceptsSemicolon 28 = .ok (.putfield 28, 3) := by decide +kernel
theorem dX4_acceptsSemicolon_31 : decode cX4_acceptsSemicolon 31 = .ok (.iconst 1, 1) := by decide +kernel
theorem dX4_acceptsSemicolon_32 : decode cX4_acceptsSemicolon 32 = .ok (.ireturn, 1) := by decide +kernel
theorem dX4_putOperand_0 : decode cX4_putOperand 0 = .ok (.aload_n 0, 1) := by decide +kernel
theorem dX4_putOperand_1 : decode cX4_putOperand 1 = .ok (.getfield 25, 3) := by decide +kernel
theorem dX4_putOperand_4 : decode cX4_putOperand 4 = .ok (.iconst 3, 1) := by decide +kernel
theorem dX4_putOperand_5 : decode cX4_putOperand 5 = .ok (.imul, 1) := by decide +kernel
theorem dX4_putOperand_6 : decode cX4_putOperand 6 = .ok (.aload_n 0, 1) := by decide +kernel
theorem dX4_putOperand_7 : decode cX4_putOperand 7 = .ok (.getfield 59, 3) := by decide +kernel
theorem dX4_putOperand_10 : decode cX4_putOperand 10 = .ok (.iadd, 1) := by decide +kernel
theorem dX4_putOperand_11 : decode cX4_putOperand 11 = .ok (.iconst 1, 1) := by decide +kernel
theorem dX4_putOperand_12 : decode cX4_putOperand 12 = .ok (.isub, 1) := by decide +kernel
theorem dX4_putOperand_13 : decode cX4_putOperand 13 = .ok (.istore_n 2, 1) := by decide +kernel
theorem dX4_putOperand_14 : decode cX4_putOperand 14 = .ok (.iload_n 2, 1) := by decide +kernel
theorem dX4_putOperand_15 : decode cX4_putOperand 15 = .ok (.ifCond .lt 16, 3) := by decide +kernel
theorem dX4_putOperand_18 : decode cX4_putOperand 18 = .ok (.iload_n 2, 1) := by decide +kernel
theorem dX4_putOperand_19 : decode cX4_putOperand 19 = .ok (.bipush 120, 2) := by decide +kernel
theorem dX4_putOperand_21 : decode cX4_putOperand 21 = .ok (.if_icmp .ge 10, 3) := by decide +kernel
theorem dX4_putOperand_24 : decode cX4_putOperand 24 = .ok (.aload_n 0, 1) := by decide +kernel
theorem dX4_putOperand_25 : decode cX4_putOperand 25 = .ok (.getfield 18, 3) := by decide +kernel
theorem dX4_putOperand_28 : decode cX4_putOperand 28 = .ok (.iload_n 2, 1) := by decide +kernel
theorem dX4_putOperand_29 : decode cX4_putOperand 29 = .ok (.iload_n 1, 1) := by decide +kernel
theorem dX4_putOperand_30 : decode cX4_putOperand 30 = .ok (.iastore, 1) := by decide +kernel
theorem dX4_putOperand_31 : decode cX4_putOperand 31 = .ok (.return_, 1) := by decide +kernel
theorem dX4_operand_0 : decode cX4_operand 0 = .ok (.iload_n 1, 1) := by decide +kernel
theorem dX4_operand_1 : decode cX4_operand 1 = .ok (.iconst 3, 1) := by decide +kernel
theorem dX4_operand_2 : decode cX4_operand 2 = .ok (.imul, 1) := by decide +kernel
theorem dX4_operand_3 : decode cX4_operand 3 = .ok (.iload_n 2, 1) := by decide +kernel
theorem dX4_operand_4 : decode cX4_operand 4 = .ok (.iadd, 1) := by decide +kernel
theorem dX4_operand_5 : decode cX4_operand 5 = .ok (.istore_n 3, 1) := by decide +kernel
theorem dX4_operand_6 : decode cX4_operand 6 = .ok (.iload_n 3, 1) := by decide +kernel
theorem dX4_operand_7 : decode cX4_operand 7 = .ok (.ifCond .lt 18, 3) := by decide +kernel
theorem dX4_operand_10 : decode cX4_operand 10 = .ok (.iload_n 3, 1) := by decide +kernel
theorem dX4_operand_11 : decode cX4_operand 11 = .ok (.bipush 120, 2) := by decide +kernel
theorem dX4_operand_13 : decode cX4_operand 13 = .ok (.if_icmp .ge 12, 3) := by decide +kernel
theorem dX4_operand_16 : decode cX4_operand 16 = .ok (.aload_n 0, 1) := by decide +kernel
theorem dX4_operand_17 : decode cX4_operand 17 = .ok (.getfield 18, 3) := by decide +kernel
theorem dX4_operand_20 : decode cX4_operand 20 = .ok (.iload_n 3, 1) := by decide +kernel
theorem dX4_operand_21 : decode cX4_operand 21 = .ok (.iaload, 1) := by decide +kernel
theorem dX4_operand_22 : decode cX4_operand 22 = .ok (.goto 4, 3) := by decide +kernel
theorem dX4_operand_25 : decode cX4_operand 25 = .ok (.iconst 0, 1) := by decide +kernel
theorem dX4_operand_26 : decode cX4_operand 26 = .ok (.ireturn, 1) := by decide +kernel
theorem dX4_letterOf_0 : decode cX4_letterOf 0 = .ok (.iload_n 1, 1) := by decide +kernel
theorem dX4_letterOf_1 : decode cX4_letterOf 1 = .ok (.ifCond .lt 18, 3) := by decide +kernel
theorem dX4_letterOf_4 : decode cX4_letterOf 4 = .ok (.iload_n 1, 1) := by decide +kernel
theorem dX4_letterOf_5 : decode cX4_letterOf 5 = .ok (.bipush 40, 2) := by decide +kernel
theorem dX4_letterOf_7 : decode cX4_letterOf 7 = .ok (.if_icmp .ge 12, 3) := by decide +kernel
theorem dX4_letterOf_10 : decode cX4_letterOf 10 = .ok (.aload_n 0, 1) := by decide +kernel
theorem dX4_letterOf_11 : decode cX4_letterOf 11 = .ok (.getfield 15, 3) := by decide +kernel
theorem dX4_letterOf_14 : decode cX4_letterOf 14 = .ok (.iload_n 1, 1) := by decide +kernel
theorem dX4_letterOf_15 : decode cX4_letterOf 15 = .ok (.iaload, 1) := by decide +kernel
theorem dX4_letterOf_16 : decode cX4_letterOf 16 = .ok (.goto 4, 3) := by decide +kernel
theorem dX4_letterOf_19 : decode cX4_letterOf 19 = .ok (.iconst (-1), 1) := by decide +kernel
theorem dX4_letterOf_20 : decode cX4_letterOf 20 = .ok (.ireturn, 1) := by decide +kernel
theorem dX4_operandsOf_0 : decode cX4_operandsOf 0 = .ok (.iload_n 0, 1) := by decide +kernel
theorem dX4_operandsOf_1 : decode cX4_operandsOf 1 = .ok (.tableswitch 121 98 122 #[119, 117, 119, 115, 121, 121, 121, 121, 117, 121, 119, 117, 121, 121, 121, 121, 121, 117, 121, 121, 117, 119, 121, 121, 115], 115) := by decide +kernel
theorem dX4_operandsOf_116 : decode cX4_operandsOf 116 = .ok (.iconst 1, 1) := by decide +kernel
theorem dX4_operandsOf_117 : decode cX4_operandsOf 117 = .ok (.ireturn, 1) := by decide +kernel
theorem dX4_operandsOf_118 : decode cX4_operandsOf 118 = .ok (.iconst 2, 1) := by decide +kernel
theorem dX4_operandsOf_119 : decode cX4_operandsOf 119 = .ok (.ireturn, 1) := by decide +kernel
theorem dX4_operandsOf_120 : decode cX4_operandsOf 120 = .ok (.iconst 3, 1) := by decide +kernel
theorem dX4_operandsOf_121 : decode cX4_operandsOf 121 = .ok (.ireturn, 1) := by decide +kernel
theorem dX4_operandsOf_122 : decode cX4_operandsOf 122 = .ok (.iconst 0, 1) := by decide +kernel
theorem dX4_operandsOf_123 : decode cX4_operandsOf 123 = .ok (.ireturn, 1) := by decide +kernel
theorem dX4_run_0 : decode cX4_run 0 = .ok (.iconst 0, 1) := by decide +kernel
theorem dX4_run_1 : decode cX4_run 1 = .ok (.istore_n 3, 1) := by decide +kernel
theorem dX4_run_2 : decode cX4_run 2 = .ok (.iconst 0, 1) := by decide +kernel
theorem dX4_run_3 : decode cX4_run 3 = .ok (.istore 4, 2) := by decide +kernel
theorem dX4_run_5 : decode cX4_run 5 = .ok (.iload 4, 2) := by decide +kernel
theorem dX4_run_7 : decode cX4_run 7 = .ok (.iload_n 2, 1) := by decide +kernel
theorem dX4_run_8 : decode cX4_run 8 = .ok (.if_icmp .gt 75, 3) := by decide +kernel
theorem dX4_run_11 : decode cX4_run 11 = .ok (.iload_n 3, 1) := by decide +kernel
theorem dX4_run_12 : decode cX4_run 12 = .ok (.aload_n 0, 1) := by decide +kernel
theorem dX4_run_13 : decode cX4_run 13 = .ok (.getfield 25, 3) := by decide +kernel
theorem dX4_run_16 : decode cX4_run 16 = .ok (.if_icmp .lt 6, 3) := by decide +kernel
theorem dX4_run_19 : decode cX4_run 19 = .ok (.iload 4, 2) := by decide +kernel
theorem dX4_run_21 : decode cX4_run 21 = .ok (.ireturn, 1) := by decide +kernel
theorem dX4_run_22 : decode cX4_run 22 = .ok (.iload 4, 2) := by decide +kernel
theorem dX4_run_24 : decode cX4_run 24 = .ok (.iload_n 2, 1) := by decide +kernel
theorem dX4_run_25 : decode cX4_run 25 = .ok (.if_icmp .ge 52, 3) := by decide +kernel
theorem dX4_run_28 : decode cX4_run 28 = .ok (.aload_n 0, 1) := by decide +kernel
theorem dX4_run_29 : decode cX4_run 29 = .ok (.aload_n 1, 1) := by decide +kernel
theorem dX4_run_30 : decode cX4_run 30 = .ok (.iload_n 3, 1) := by decide +kernel
theorem dX4_run_31 : decode cX4_run 31 = .ok (.invokevirtual 73, 3) := by decide +kernel
theorem dX4_run_34 : decode cX4_run 34 = .ok (.istore 5, 2) := by decide +kernel
theorem dX4_run_36 : decode cX4_run 36 = .ok (.iload 5, 2) := by decide +kernel
theorem dX4_run_38 : decode cX4_run 38 = .ok (.ifCond .ge 10, 3) := by decide +kernel
theorem dX4_run_41 : decode cX4_run 41 = .ok (.iload 5, 2) := by decide +kernel
theorem dX4_run_43 : decode cX4_run 43 = .ok (.iload_n 3, 1) := by decide +kernel
theorem dX4_run_44 : decode cX4_run 44 = .ok (.invokestatic 77, 3) := by decide +kernel
theorem dX4_run_47 : decode cX4_run 47 = .ok (.ireturn, 1) := by decide +kernel
theorem dX4_run_48 : decode cX4_run 48 = .ok (.aload_n 0, 1) := by decide +kernel
theorem dX4_run_49 : decode cX4_run 49 = .ok (.iload_n 3, 1) := by decide +kernel
theorem dX4_run_50 : decode cX4_run 50 = .ok (.invokevirtual 80, 3) := by decide +kernel
theorem dX4_run_53 : decode cX4_run 53 = .ok (.bipush 106, 2) := by decide +kernel
theorem dX4_run_55 : decode cX4_run 55 = .ok (.if_icmp .ne 18, 3) := by decide +kernel
theorem dX4_run_58 : decode cX4_run 58 = .ok (.iload 5, 2) := by decide +kernel
theorem dX4_run_60 : decode cX4_run 60 = .ok (.iconst 1, 1) := by decide +kernel
theorem dX4_run_61 : decode cX4_run 61 = .ok (.if_icmp .ne 12, 3) := by decide +kernel
theorem dX4_run_64 : decode cX4_run 64 = .ok (.aload_n 0, 1) := by decide +kernel
theorem dX4_run_65 : decode cX4_run 65 = .ok (.iload_n 3, 1) := by decide +kernel
theorem dX4_run_66 : decode cX4_run 66 = .ok (.iconst 1, 1) := by decide +kernel
theorem dX4_run_67 : decode cX4_run 67 = .ok (.invokevirtual 69, 3) := by decide +kernel
theorem dX4_run_70 : decode cX4_run 70 = .ok (.goto 6, 3) := by decide +kernel
theorem dX4_run_73 : decode cX4_run 73 = .ok (.iload_n 3, 1) := by decide +kernel
theorem dX4_run_74 : decode cX4_run 74 = .ok (.iconst 1, 1) := by decide +kernel
theorem dX4_run_75 : decode cX4_run 75 = .ok (.iadd, 1) := by decide +kernel
theorem dX4_run_76 : decode cX4_run 76 = .ok (.istore_n 3, 1) := by decide +kernel
theorem dX4_run_77 : decode cX4_run 77 = .ok (.iinc 4 1, 3) := by decide +kernel
theorem dX4_run_80 : decode cX4_run 80 = .ok (.goto (-75), 3) := by decide +kernel
theorem dX4_run_83 : decode cX4_run 83 = .ok (.sipush (-500), 3) := by decide +kernel
theorem dX4_run_86 : decode cX4_run 86 = .ok (.ireturn, 1) := by decide +kernel
theorem dX4_carryOut_0 : decode cX4_carryOut 0 = .ok (.aload_n 0, 1) := by decide +kernel
theorem dX4_carryOut_1 : decode cX4_carryOut 1 = .ok (.iload_n 2, 1) := by decide +kernel
theorem dX4_carryOut_2 : decode cX4_carryOut 2 = .ok (.iconst 0, 1) := by decide +kernel
theorem dX4_carryOut_3 : decode cX4_carryOut 3 = .ok (.invokevirtual 69, 3) := by decide +kernel
theorem dX4_carryOut_6 : decode cX4_carryOut 6 = .ok (.istore_n 3, 1) := by decide +kernel
theorem dX4_carryOut_7 : decode cX4_carryOut 7 = .ok (.aload_n 0, 1) := by decide +kernel
theorem dX4_carryOut_8 : decode cX4_carryOut 8 = .ok (.iload_n 2, 1) := by decide +kernel
theorem dX4_carryOut_9 : decode cX4_carryOut 9 = .ok (.iconst 1, 1) := by decide +kernel
theorem dX4_carryOut_10 : decode cX4_carryOut 10 = .ok (.invokevirtual 69, 3) := by decide +kernel
theorem dX4_carryOut_13 : decode cX4_carryOut 13 = .ok (.istore 4, 2) := by decide +kernel
theorem dX4_carryOut_15 : decode cX4_carryOut 15 = .ok (.aload_n 0, 1) := by decide +kernel
theorem dX4_carryOut_16 : decode cX4_carryOut 16 = .ok (.iload_n 2, 1) := by decide +kernel
theorem dX4_carryOut_17 : decode cX4_carryOut 17 = .ok (.iconst 2, 1) := by decide +kernel
theorem dX4_carryOut_18 : decode cX4_carryOut 18 = .ok (.invokevirtual 69, 3) := by decide +kernel
theorem dX4_carryOut_21 : decode cX4_carryOut 21 = .ok (.istore 5, 2) := by decide +kernel
theorem dX4_carryOut_23 : decode cX4_carryOut 23 = .ok (.aload_n 0, 1) := by decide +kernel
theorem dX4_carryOut_24 : decode cX4_carryOut 24 = .ok (.iload_n 2, 1) := by decide +kernel
theorem dX4_carryOut_25 : decode cX4_carryOut 25 = .ok (.invokevirtual 80, 3) := by decide +kernel
theorem dX4_carryOut_28 : decode cX4_carryOut 28 = .ok (.tableswitch 206 98 122 #[184, 138, 174, 124, 206, 206, 206, 206, 200, 206, 164, 116, 206, 206, 206, 206, 206, 130, 206, 206, 146, 154, 206, 206, 194], 116) := by decide +kernel
theorem dX4_carryOut_144 : decode cX4_carryOut 144 = .ok (.aload_n 1, 1) := by decide +kernel
theorem dX4_carryOut_145 : decode cX4_carryOut 145 = .ok (.iload_n 3, 1) := by decide +kernel
theorem dX4_carryOut_146 : decode cX4_carryOut 146 = .ok (.iload 4, 2) := by decide +kernel
theorem dX4_carryOut_148 : decode cX4_carryOut 148 = .ok (.invokevirtual 83, 3) := by decide +kernel
theorem dX4_carryOut_151 : decode cX4_carryOut 151 = .ok (.ireturn, 1) := by decide +kernel
theorem dX4_carryOut_152 : decode cX4_carryOut 152 = .ok (.aload_n 1, 1) := by decide +kernel
theorem dX4_carryOut_153 : decode cX4_carryOut 153 = .ok (.iload_n 3, 1) := by decide +kernel
theorem dX4_carryOut_154 : decode cX4_carryOut 154 = .ok (.invokevirtual 88, 3) := by decide +kernel
theorem dX4_carryOut_157 : decode cX4_carryOut 157 = .ok (.ireturn, 1) := by decide +kernel
theorem dX4_carryOut_158 : decode cX4_carryOut 158 = .ok (.aload_n 1, 1) := by decide +kernel
theorem dX4_carryOut_159 : decode cX4_carryOut 159 = .ok (.iload_n 3, 1) := by decide +kernel
theorem dX4_carryOut_160 : decode cX4_carryOut 160 = .ok (.iload 4, 2) := by decide +kernel
theorem dX4_carryOut_162 : decode cX4_carryOut 162 = .ok (.invokevirtual 91, 3) := by decide +kernel
theorem dX4_carryOut_165 : decode cX4_carryOut 165 = .ok (.ireturn, 1) := by decide +kernel
theorem dX4_carryOut_166 : decode cX4_carryOut 166 = .ok (.aload_n 1, 1) := by decide +kernel
theorem dX4_carryOut_167 : decode cX4_carryOut 167 = .ok (.iload_n 3, 1) := by decide +kernel
theorem dX4_carryOut_168 : decode cX4_carryOut 168 = .ok (.iload 4, 2) := by decide +kernel
theorem dX4_carryOut_170 : decode cX4_carryOut 170 = .ok (.invokevirtual 94, 3) := by decide +kernel
theorem dX4_carryOut_173 : decode cX4_carryOut 173 = .ok (.ireturn, 1) := by decide +kernel
theorem dX4_carryOut_174 : decode cX4_carryOut 174 = .ok (.aload_n 1, 1) := by decide +kernel
theorem dX4_carryOut_175 : decode cX4_carryOut 175 = .ok (.iload_n 3, 1) := by decide +kernel
theorem dX4_carryOut_176 : decode cX4_carryOut 176 = .ok (.iload 4, 2) := by decide +kernel
theorem dX4_carryOut_178 : decode cX4_carryOut 178 = .ok (.invokevirtual 97, 3) := by decide +kernel
theorem dX4_carryOut_181 : decode cX4_carryOut 181 = .ok (.ireturn, 1) := by decide +kernel
theorem dX4_carryOut_182 : decode cX4_carryOut 182 = .ok (.aload_n 1, 1) := by decide +kernel
theorem dX4_carryOut_183 : decode cX4_carryOut 183 = .ok (.iload_n 3, 1) := by decide +kernel
theorem dX4_carryOut_184 : decode cX4_carryOut 184 = .ok (.iload 4, 2) := by decide +kernel
theorem dX4_carryOut_186 : decode cX4_carryOut 186 = .ok (.iload 5, 2) := by decide +kernel
theorem dX4_carryOut_188 : decode cX4_carryOut 188 = .ok (.invokevirtual 100, 3) := by decide +kernel
theorem dX4_carryOut_191 : decode cX4_carryOut 191 = .ok (.ireturn, 1) := by decide +kernel
theorem dX4_carryOut_192 : decode cX4_carryOut 192 = .ok (.aload_n 1, 1) := by decide +kernel
theorem dX4_carryOut_193 : decode cX4_carryOut 193 = .ok (.iload_n 3, 1) := by decide +kernel
theorem dX4_carryOut_194 : decode cX4_carryOut 194 = .ok (.iload 4, 2) := by decide +kernel
theorem dX4_carryOut_196 : decode cX4_carryOut 196 = .ok (.iload 5, 2) := by decide +kernel
theorem dX4_carryOut_198 : decode cX4_carryOut 198 = .ok (.invokevirtual 104, 3) := by decide +kernel
theorem dX4_carryOut_201 : decode cX4_carryOut 201 = .ok (.ireturn, 1) := by decide +kernel
theorem dX4_carryOut_202 : decode cX4_carryOut 202 = .ok (.aload_n 1, 1) := by decide +kernel
theorem dX4_carryOut_203 : decode cX4_carryOut 203 = .ok (.iload_n 3, 1) := by decide +kernel
theorem dX4_carryOut_204 : decode cX4_carryOut 204 = .ok (.iload 4, 2) := by decide +kernel
theorem dX4_carryOut_206 : decode cX4_carryOut 206 = .ok (.iload 5, 2) := by decide +kernel
theorem dX4_carryOut_208 : decode cX4_carryOut 208 = .ok (.invokevirtual 107, 3) := by decide +kernel
theorem dX4_carryOut_211 : decode cX4_carryOut 211 = .ok (.ireturn, 1) := by decide +kernel
theorem dX4_carryOut_212 : decode cX4_carryOut 212 = .ok (.aload_n 1, 1) := by decide +kernel
theorem dX4_carryOut_213 : decode cX4_carryOut 213 = .ok (.iload_n 3, 1) := by decide +kernel
theorem dX4_carryOut_214 : decode cX4_carryOut 214 = .ok (.iload 4, 2) := by decide +kernel
theorem dX4_carryOut_216 : decode cX4_carryOut 216 = .ok (.iload 5, 2) := by decide +kernel
theorem dX4_carryOut_218 : decode cX4_carryOut 218 = .ok (.invokevirtual 110, 3) := by decide +kernel
theorem dX4_carryOut_221 : decode cX4_carryOut 221 = .ok (.ireturn, 1) := by decide +kernel
theorem dX4_carryOut_222 : decode cX4_carryOut 222 = .ok (.aload_n 1, 1) := by decide +kernel
theorem dX4_carryOut_223 : decode cX4_carryOut 223 = .ok (.iload_n 3, 1) := by decide +kernel
theorem dX4_carryOut_224 : decode cX4_carryOut 224 = .ok (.invokevirtual 113, 3) := by decide +kernel
theorem dX4_carryOut_227 : decode cX4_carryOut 227 = .ok (.ireturn, 1) := by decide +kernel
theorem dX4_carryOut_228 : decode cX4_carryOut 228 = .ok (.aload_n 1, 1) := by decide +kernel
theorem dX4_carryOut_229 : decode cX4_carryOut 229 = .ok (.iload_n 3, 1) := by decide +kernel
theorem dX4_carryOut_230 : decode cX4_carryOut 230 = .ok (.invokevirtual 116, 3) := by decide +kernel
theorem dX4_carryOut_233 : decode cX4_carryOut 233 = .ok (.ireturn, 1) := by decide +kernel
theorem dX4_carryOut_234 : decode cX4_carryOut 234 = .ok (.bipush (-2), 2) := by decide +kernel
theorem dX4_carryOut_236 : decode cX4_carryOut 236 = .ok (.ireturn, 1) := by decide +kernel
theorem dX4_failure_0 : decode cX4_failure 0 = .ok (.iload_n 0, 1) := by decide +kernel
theorem dX4_failure_1 : decode cX4_failure 1 = .ok (.bipush (-2), 2) := by decide +kernel
theorem dX4_failure_3 : decode cX4_failure 3 = .ok (.if_icmp .ne 9, 3) := by decide +kernel
theorem dX4_failure_6 : decode cX4_failure 6 = .ok (.sipush (-2000), 3) := by decide +kernel
theorem dX4_failure_9 : decode cX4_failure 9 = .ok (.iload_n 1, 1) := by decide +kernel
theorem dX4_failure_10 : decode cX4_failure 10 = .ok (.isub, 1) := by decide +kernel
theorem dX4_failure_11 : decode cX4_failure 11 = .ok (.ireturn, 1) := by decide +kernel
theorem dX4_failure_12 : decode cX4_failure 12 = .ok (.iload_n 0, 1) := by decide +kernel
theorem dX4_failure_13 : decode cX4_failure 13 = .ok (.bipush (-4), 2) := by decide +kernel
theorem dX4_failure_15 : decode cX4_failure 15 = .ok (.if_icmp .ne 9, 3) := by decide +kernel
theorem dX4_failure_18 : decode cX4_failure 18 = .ok (.sipush (-3000), 3) := by decide +kernel
theorem dX4_failure_21 : decode cX4_failure 21 = .ok (.iload_n 1, 1) := by decide +kernel
theorem dX4_failure_22 : decode cX4_failure 22 = .ok (.isub, 1) := by decide +kernel
theorem dX4_failure_23 : decode cX4_failure 23 = .ok (.ireturn, 1) := by decide +kernel
theorem dX4_failure_24 : decode cX4_failure 24 = .ok (.bipush (-10), 2) := by decide +kernel
theorem dX4_failure_26 : decode cX4_failure 26 = .ok (.iload_n 0, 1) := by decide +kernel
theorem dX4_failure_27 : decode cX4_failure 27 = .ok (.isub, 1) := by decide +kernel
theorem dX4_failure_28 : decode cX4_failure 28 = .ok (.istore_n 2, 1) := by decide +kernel
theorem dX4_failure_29 : decode cX4_failure 29 = .ok (.sipush (-4000), 3) := by decide +kernel
theorem dX4_failure_32 : decode cX4_failure 32 = .ok (.sipush 1000, 3) := by decide +kernel
theorem dX4_failure_35 : decode cX4_failure 35 = .ok (.iload_n 2, 1) := by decide +kernel
theorem dX4_failure_36 : decode cX4_failure 36 = .ok (.imul, 1) := by decide +kernel
theorem dX4_failure_37 : decode cX4_failure 37 = .ok (.isub, 1) := by decide +kernel
theorem dX4_failure_38 : decode cX4_failure 38 = .ok (.iload_n 1, 1) := by decide +kernel
theorem dX4_failure_39 : decode cX4_failure 39 = .ok (.isub, 1) := by decide +kernel
theorem dX4_failure_40 : decode cX4_failure 40 = .ok (.ireturn, 1) := by decide +kernel
theorem dX5_init_0 : decode cX5_init 0 = .ok (.aload_n 0, 1) := by decide +kernel
theorem dX5_init_1 : decode cX5_init 1 = .ok (.invokespecial 3, 3) := by decide +kernel
theorem dX5_init_4 : decode cX5_init 4 = .ok (.aload_n 0, 1) := by decide +kernel
theorem dX5_init_5 : decode cX5_init 5 = .ok (.bipush 6, 2) := by decide +kernel
theorem dX5_init_7 : decode cX5_init 7 = .ok (.newarray .int, 2) := by decide +kernel
theorem dX5_init_9 : decode cX5_init 9 = .ok (.putfield 9, 3) := by decide +kernel
theorem dX5_init_12 : decode cX5_init 12 = .ok (.aload_n 0, 1) := by decide +kernel
theorem dX5_init_13 : decode cX5_init 13 = .ok (.bipush 6, 2) := by decide +kernel
theorem dX5_init_15 : decode cX5_init 15 = .ok (.newarray .int, 2) := by decide +kernel
theorem dX5_init_17 : decode cX5_init 17 = .ok (.putfield 15, 3) := by decide +kernel
theorem dX5_init_20 : decode cX5_init 20 = .ok (.aload_n 0, 1) := by decide +kernel
theorem dX5_init_21 : decode cX5_init 21 = .ok (.bipush 6, 2) := by decide +kernel
theorem dX5_init_23 : decode cX5_init 23 = .ok (.newarray .int, 2) := by decide +kernel
theorem dX5_init_25 : decode cX5_init 25 = .ok (.putfield 18, 3) := by decide +kernel
theorem dX5_init_28 : decode cX5_init 28 = .ok (.aload_n 0, 1) := by decide +kernel
theorem dX5_init_29 : decode cX5_init 29 = .ok (.bipush 10, 2) := by decide +kernel
theorem dX5_init_31 : decode cX5_init 31 = .ok (.newarray .int, 2) := by decide +kernel
theorem dX5_init_33 : decode cX5_init 33 = .ok (.putfield 21, 3) := by decide +kernel
theorem dX5_init_36 : decode cX5_init 36 = .ok (.aload_n 0, 1) := by decide +kernel
theorem dX5_init_37 : decode cX5_init 37 = .ok (.bipush 10, 2) := by decide +kernel
theorem dX5_init_39 : decode cX5_init 39 = .ok (.newarray .int, 2) := by decide +kernel
theorem dX5_init_41 : decode cX5_init 41 = .ok (.putfield 24, 3) := by decide +kernel
theorem dX5_init_44 : decode cX5_init 44 = .ok (.aload_n 0, 1) := by decide +kernel
theorem dX5_init_45 : decode cX5_init 45 = .ok (.bipush 10, 2) := by decide +kernel
theorem dX5_init_47 : decode cX5_init 47 = .ok (.newarray .int, 2) := by decide +kernel
theorem dX5_init_49 : decode cX5_init 49 = .ok (.putfield 27, 3) := by decide +kernel
theorem dX5_init_52 : decode cX5_init 52 = .ok (.aload_n 0, 1) := by decide +kernel
theorem dX5_init_53 : decode cX5_init 53 = .ok (.bipush 120, 2) := by decide +kernel
theorem dX5_init_55 : decode cX5_init 55 = .ok (.newarray .int, 2) := by decide +kernel
theorem dX5_init_57 : decode cX5_init 57 = .ok (.putfield 30, 3) := by decide +kernel
theorem dX5_init_60 : decode cX5_init 60 = .ok (.aload_n 0, 1) := by decide +kernel
theorem dX5_init_61 : decode cX5_init 61 = .ok (.bipush 40, 2) := by decide +kernel
theorem dX5_init_63 : decode cX5_init 63 = .ok (.putfield 33, 3) := by decide +kernel
theorem dX5_init_66 : decode cX5_init 66 = .ok (.return_, 1) := by decide +kernel
theorem dX5_become_0 : decode cX5_become 0 = .ok (.aload_n 1, 1) := by decide +kernel
theorem dX5_become_1 : decode cX5_become 1 = .ok (.getfield 9, 3) := by decide +kernel
theorem dX5_become_4 : decode cX5_become 4 = .ok (.iconst 0, 1) := by decide +kernel
theorem dX5_become_5 : decode cX5_become 5 = .ok (.aload_n 0, 1) := by decide +kernel
theorem dX5_become_6 : decode cX5_become 6 = .ok (.getfield 9, 3) := by decide +kernel
theorem dX5_become_9 : decode cX5_become 9 = .ok (.iconst 0, 1) := by decide +kernel
theorem dX5_become_10 : decode cX5_become 10 = .ok (.bipush 6, 2) := by decide +kernel
theorem dX5_become_12 : decode cX5_become 12 = .ok (.invokestatic 37, 3) := by decide +kernel
theorem dX5_become_15 : decode cX5_become 15 = .ok (.aload_n 1, 1) := by decide +kernel
theorem dX5_become_16 : decode cX5_become 16 = .ok (.getfield 15, 3) := by decide +kernel
theorem dX5_become_19 : decode cX5_become 19 = .ok (.iconst 0, 1) := by decide +kernel
theorem dX5_become_20 : decode cX5_become 20 = .ok (.aload_n 0, 1) := by decide +kernel
theorem dX5_become_21 : decode cX5_become 21 = .ok (.getfield 15, 3) := by decide +kernel
theorem dX5_become_24 : decode cX5_become 24 = .ok (.iconst 0, 1) := by decide +kernel
theorem dX5_become_25 : decode cX5_become 25 = .ok (.bipush 6, 2) := by decide +kernel
theorem dX5_become_27 : decode cX5_become 27 = .ok (.invokestatic 37, 3) := by decide +kernel
theorem dX5_become_30 : decode cX5_become 30 = .ok (.aload_n 1, 1) := by decide +kernel
theorem dX5_become_31 : decode cX5_become 31 = .ok (.getfield 18, 3) := by decide +kernel
theorem dX5_become_34 : decode cX5_become 34 = .ok (.iconst 0, 1) := by decide +kernel
theorem dX5_become_35 : decode cX5_become 35 = .ok (.aload_n 0, 1) := by decide +kernel
theorem dX5_become_36 : decode cX5_become 36 = .ok (.getfield 18, 3) := by decide +kernel
theorem dX5_become_39 : decode cX5_become 39 = .ok (.iconst 0, 1) := by decide +kernel
theorem dX5_become_40 : decode cX5_become 40 = .ok (.bipush 6, 2) := by decide +kernel
theorem dX5_become_42 : decode cX5_become 42 = .ok (.invokestatic 37, 3) := by decide +kernel
theorem dX5_become_45 : decode cX5_become 45 = .ok (.aload_n 1, 1) := by decide +kernel
theorem dX5_become_46 : decode cX5_become 46 = .ok (.getfield 21, 3) := by decide +kernel
theorem dX5_become_49 : decode cX5_become 49 = .ok (.iconst 0, 1) := by decide +kernel
theorem dX5_become_50 : decode cX5_become 50 = .ok (.aload_n 0, 1) := by decide +kernel
theorem dX5_become_51 : decode cX5_become 51 = .ok (.getfield 21, 3) := by decide +kernel
theorem dX5_become_54 : decode cX5_become 54 = .ok (.iconst 0, 1) := by decide +kernel
theorem dX5_become_55 : decode cX5_become 55 = .ok (.bipush 10, 2) := by decide +kernel
theorem dX5_become_57 : decode cX5_become 57 = .ok (.invokestatic 37, 3) := by decide +kernel
theorem dX5_become_60 : decode cX5_become 60 = .ok (.aload_n 1, 1) := by decide +kernel
theorem dX5_become_61 : decode cX5_become 61 = .ok (.getfield 24, 3) := by decide +kernel
theorem dX5_become_64 : decode cX5_become 64 = .ok (.iconst 0, 1) := by decide +kernel
theorem dX5_become_65 : decode cX5_become 65 = .ok (.aload_n 0, 1) := by decide +kernel
theorem dX5_become_66 : decode cX5_become 66 = .ok (.getfield 24, 3) := by decide +kernel
theorem dX5_become_69 : decode cX5_become 69 = .ok (.iconst 0, 1) := by decide +kernel
theorem dX5_become_70 : decode cX5_become 70 = .ok (.bipush 10, 2) := by decide +kernel
theorem dX5_become_72 : decode cX5_become 72 = .ok (.invokestatic 37, 3) := by decide +kernel
theorem dX5_become_75 : decode cX5_become 75 = .ok (.aload_n 1, 1) := by decide +kernel
theorem dX5_become_76 : decode cX5_become 76 = .ok (.getfield 27, 3) := by decide +kernel
theorem dX5_become_79 : decode cX5_become 79 = .ok (.iconst 0, 1) := by decide +kernel
theorem dX5_become_80 : decode cX5_become 80 = .ok (.aload_n 0, 1) := by decide +kernel
theorem dX5_become_81 : decode cX5_become 81 = .ok (.getfield 27, 3) := by decide +kernel
theorem dX5_become_84 : decode cX5_become 84 = .ok (.iconst 0, 1) := by decide +kernel
theorem dX5_become_85 : decode cX5_become 85 = .ok (.bipush 10, 2) := by decide +kernel
theorem dX5_become_87 : decode cX5_become 87 = .ok (.invokestatic 37, 3) := by decide +kernel
theorem dX5_become_90 : decode cX5_become 90 = .ok (.aload_n 1, 1) := by decide +kernel
theorem dX5_become_91 : decode cX5_become 91 = .ok (.getfield 30, 3) := by decide +kernel
theorem dX5_become_94 : decode cX5_become 94 = .ok (.iconst 0, 1) := by decide +kernel
theorem dX5_become_95 : decode cX5_become 95 = .ok (.aload_n 0, 1) := by decide +kernel
theorem dX5_become_96 : decode cX5_become 96 = .ok (.getfield 30, 3) := by decide +kernel
theorem dX5_become_99 : decode cX5_become 99 = .ok (.iconst 0, 1) := by decide +kernel
theorem dX5_become_100 : decode cX5_become 100 = .ok (.bipush 120, 2) := by decide +kernel
theorem dX5_become_102 : decode cX5_become 102 = .ok (.invokestatic 37, 3) := by decide +kernel
theorem dX5_become_105 : decode cX5_become 105 = .ok (.aload_n 0, 1) := by decide +kernel
theorem dX5_become_106 : decode cX5_become 106 = .ok (.aload_n 1, 1) := by decide +kernel
theorem dX5_become_107 : decode cX5_become 107 = .ok (.getfield 43, 3) := by decide +kernel
theorem dX5_become_110 : decode cX5_become 110 = .ok (.putfield 43, 3) := by decide +kernel
theorem dX5_become_113 : decode cX5_become 113 = .ok (.aload_n 0, 1) := by decide +kernel
theorem dX5_become_114 : decode cX5_become 114 = .ok (.aload_n 1, 1) := by decide +kernel
theorem dX5_become_115 : decode cX5_become 115 = .ok (.getfield 46, 3) := by decide +kernel
theorem dX5_become_118 : decode cX5_become 118 = .ok (.putfield 46, 3) := by decide +kernel
theorem dX5_become_121 : decode cX5_become 121 = .ok (.aload_n 0, 1) := by decide +kernel
theorem dX5_become_122 : decode cX5_become 122 = .ok (.aload_n 1, 1) := by decide +kernel
theorem dX5_become_123 : decode cX5_become 123 = .ok (.getfield 33, 3) := by decide +kernel
theorem dX5_become_126 : decode cX5_become 126 = .ok (.putfield 33, 3) := by decide +kernel
theorem dX5_become_129 : decode cX5_become 129 = .ok (.return_, 1) := by decide +kernel
theorem dX5_isBlock_0 : decode cX5_isBlock 0 = .ok (.iload_n 1, 1) := by decide +kernel
theorem dX5_isBlock_1 : decode cX5_isBlock 1 = .ok (.ifCond .lt 21, 3) := by decide +kernel
theorem dX5_isBlock_4 : decode cX5_isBlock 4 = .ok (.iload_n 1, 1) := by decide +kernel
theorem dX5_isBlock_5 : decode cX5_isBlock 5 = .ok (.aload_n 0, 1) := by decide +kernel
theorem dX5_isBlock_6 : decode cX5_isBlock 6 = .ok (.getfield 43, 3) := by decide +kernel
theorem dX5_isBlock_9 : decode cX5_isBlock 9 = .ok (.if_icmp .ge 13, 3) := by decide +kernel
theorem dX5_isBlock_12 : decode cX5_isBlock 12 = .ok (.iload_n 1, 1) := by decide +kernel
theorem dX5_isBlock_13 : decode cX5_isBlock 13 = .ok (.bipush 10, 2) := by decide +kernel
theorem dX5_isBlock_15 : decode cX5_isBlock 15 = .ok (.if_icmp .ge 7, 3) := by decide +kernel
theorem dX5_isBlock_18 : decode cX5_isBlock 18 = .ok (.iconst 1, 1) := by decide +kernel
theorem dX5_isBlock_19 : decode cX5_isBlock 19 = .ok (.goto 4, 3) := by decide +kernel
theorem dX5_isBlock_22 : decode cX5_isBlock 22 = .ok (.iconst 0, 1) := by decide +kernel
theorem dX5_isBlock_23 : decode cX5_isBlock 23 = .ok (.ireturn, 1) := by decide +kernel
theorem dX5_isImage_0 : decode cX5_isImage 0 = .ok (.iload_n 1, 1) := by decide +kernel
theorem dX5_isImage_1 : decode cX5_isImage 1 = .ok (.ifCond .lt 15, 3) := by decide +kernel
theorem dX5_isImage_4 : decode cX5_isImage 4 = .ok (.iload_n 1, 1) := by decide +kernel
theorem dX5_isImage_5 : decode cX5_isImage 5 = .ok (.aload_n 0, 1) := by decide +kernel
theorem dX5_isImage_6 : decode cX5_isImage 6 = .ok (.getfield 46, 3) := by decide +kernel
theorem dX5_isImage_9 : decode cX5_isImage 9 = .ok (.if_icmp .ge 7, 3) := by decide +kernel
theorem dX5_isImage_12 : decode cX5_isImage 12 = .ok (.iconst 1, 1) := by decide +kernel
theorem dX5_isImage_13 : decode cX5_isImage 13 = .ok (.goto 4, 3) := by decide +kernel
theorem dX5_isImage_16 : decode cX5_isImage 16 = .ok (.iconst 0, 1) := by decide +kernel
theorem dX5_isImage_17 : decode cX5_isImage 17 = .ok (.ireturn, 1) := by decide +kernel
theorem dX5_kindOf_0 : decode cX5_kindOf 0 = .ok (.iload_n 1, 1) := by decide +kernel
theorem dX5_kindOf_1 : decode cX5_kindOf 1 = .ok (.ifCond .lt 18, 3) := by decide +kernel
theorem dX5_kindOf_4 : decode cX5_kindOf 4 = .ok (.iload_n 1, 1) := by decide +kernel
theorem dX5_kindOf_5 : decode cX5_kindOf 5 = .ok (.bipush 6, 2) := by decide +kernel
theorem dX5_kindOf_7 : decode cX5_kindOf 7 = .ok (.if_icmp .ge 12, 3) := by decide +kernel
theorem dX5_kindOf_10 : decode cX5_kindOf 10 = .ok (.aload_n 0, 1) := by decide +kernel
theorem dX5_kindOf_11 : decode cX5_kindOf 11 = .ok (.getfield 9, 3) := by decide +kernel
theorem dX5_kindOf_14 : decode cX5_kindOf 14 = .ok (.iload_n 1, 1) := by decide +kernel
theorem dX5_kindOf_15 : decode cX5_kindOf 15 = .ok (.iaload, 1) := by decide +kernel
theorem dX5_kindOf_16 : decode cX5_kindOf 16 = .ok (.goto 4, 3) := by decide +kernel
theorem dX5_kindOf_19 : decode cX5_kindOf 19 = .ok (.iconst 0, 1) := by decide +kernel
theorem dX5_kindOf_20 : decode cX5_kindOf 20 = .ok (.ireturn, 1) := by decide +kernel
theorem dX5_valueOf_0 : decode cX5_valueOf 0 = .ok (.iload_n 1, 1) := by decide +kernel
theorem dX5_valueOf_1 : decode cX5_valueOf 1 = .ok (.ifCond .lt 18, 3) := by decide +kernel
theorem dX5_valueOf_4 : decode cX5_valueOf 4 = .ok (.iload_n 1, 1) := by decide +kernel
theorem dX5_valueOf_5 : decode cX5_valueOf 5 = .ok (.bipush 6, 2) := by decide +kernel
theorem dX5_valueOf_7 : decode cX5_valueOf 7 = .ok (.if_icmp .ge 12, 3) := by decide +kernel
theorem dX5_valueOf_10 : decode cX5_valueOf 10 = .ok (.aload_n 0, 1) := by decide +kernel
theorem dX5_valueOf_11 : decode cX5_valueOf 11 = .ok (.getfield 15, 3) := by decide +kernel
theorem dX5_valueOf_14 : decode cX5_valueOf 14 = .ok (.iload_n 1, 1) := by decide +kernel
theorem dX5_valueOf_15 : decode cX5_valueOf 15 = .ok (.iaload, 1) := by decide +kernel
theorem dX5_valueOf_16 : decode cX5_valueOf 16 = .ok (.goto 4, 3) := by decide +kernel
theorem dX5_valueOf_19 : decode cX5_valueOf 19 = .ok (.iconst (-1), 1) := by decide +kernel
theorem dX5_valueOf_20 : decode cX5_valueOf 20 = .ok (.ireturn, 1) := by decide +kernel
theorem dX5_offsetOf_0 : decode cX5_offsetOf 0 = .ok (.iload_n 1, 1) := by decide +kernel
theorem dX5_offsetOf_1 : decode cX5_offsetOf 1 = .ok (.ifCond .lt 18, 3) := by decide +kernel
theorem dX5_offsetOf_4 : decode cX5_offsetOf 4 = .ok (.iload_n 1, 1) := by decide +kernel
theorem dX5_offsetOf_5 : decode cX5_offsetOf 5 = .ok (.bipush 6, 2) := by decide +kernel
theorem dX5_offsetOf_7 : decode cX5_offsetOf 7 = .ok (.if_icmp .ge 12, 3) := by decide +kernel
theorem dX5_offsetOf_10 : decode cX5_offsetOf 10 = .ok (.aload_n 0, 1) := by decide +kernel
theorem dX5_offsetOf_11 : decode cX5_offsetOf 11 = .ok (.getfield 18, 3) := by decide +kernel
theorem dX5_offsetOf_14 : decode cX5_offsetOf 14 = .ok (.iload_n 1, 1) := by decide +kernel
theorem dX5_offsetOf_15 : decode cX5_offsetOf 15 = .ok (.iaload, 1) := by decide +kernel
theorem dX5_offsetOf_16 : decode cX5_offsetOf 16 = .ok (.goto 4, 3) := by decide +kernel
theorem dX5_offsetOf_19 : decode cX5_offsetOf 19 = .ok (.iconst (-1), 1) := by decide +kernel
theorem dX5_offsetOf_20 : decode cX5_offsetOf 20 = .ok (.ireturn, 1) := by decide +kernel
theorem dX5_fillRegister_0 : decode cX5_fillRegister 0 = .ok (.iload_n 1, 1) := by decide +kernel
theorem dX5_fillRegister_1 : decode cX5_fillRegister 1 = .ok (.ifCond .lt 31, 3) := by decide +kernel
theorem dX5_fillRegister_4 : decode cX5_fillRegister 4 = .ok (.iload_n 1, 1) := by decide +kernel
theorem dX5_fillRegister_5 : decode cX5_fillRegister 5 = .ok (.bipush 6, 2) := by decide +kernel
theorem dX5_fillRegister_7 : decode cX5_fillRegister 7 = .ok (.if_icmp .ge 25, 3) := by decide +kernel
theorem dX5_fillRegister_10 : decode cX5_fillRegister 10 = .ok (.aload_n 0, 1) := by decide +kernel
theorem dX5_fillRegister_11 : decode cX5_fillRegister 11 = .ok (.getfield 9, 3) := by decide +kernel
theorem dX5_fillRegister_14 : decode cX5_fillRegister 14 = .ok (.iload_n 1, 1) := by decide +kernel
theorem dX5_fillRegister_15 : decode cX5_fillRegister 15 = .ok (.iload_n 2, 1) := by decide +kernel
theorem dX5_fillRegister_16 : decode cX5_fillRegister 16 = .ok (.iastore, 1) := by decide +kernel
theorem dX5_fillRegister_17 : decode cX5_fillRegister 17 = .ok (.aload_n 0, 1) := by decide +kernel
theorem dX5_fillRegister_18 : decode cX5_fillRegister 18 = .ok (.getfield 15, 3) := by decide +kernel
theorem dX5_fillRegister_21 : decode cX5_fillRegister 21 = .ok (.iload_n 1, 1) := by decide +kernel
theorem dX5_fillRegister_22 : decode cX5_fillRegister 22 = .ok (.iload_n 3, 1) := by decide +kernel
theorem dX5_fillRegister_23 : decode cX5_fillRegister 23 = .ok (.iastore, 1) := by decide +kernel
theorem dX5_fillRegister_24 : decode cX5_fillRegister 24 = .ok (.aload_n 0, 1) := by decide +kernel
theorem dX5_fillRegister_25 : decode cX5_fillRegister 25 = .ok (.getfield 18, 3) := by decide +kernel
theorem dX5_fillRegister_28 : decode cX5_fillRegister 28 = .ok (.iload_n 1, 1) := by decide +kernel
theorem dX5_fillRegister_29 : decode cX5_fillRegister 29 = .ok (.iload 4, 2) := by decide +kernel
theorem dX5_fillRegister_31 : decode cX5_fillRegister 31 = .ok (.iastore, 1) := by decide +kernel
theorem dX5_fillRegister_32 : decode cX5_fillRegister 32 = .ok (.return_, 1) := by decide +kernel
theorem dX5_fillWithNumber_0 : decode cX5_fillWithNumber 0 = .ok (.aload_n 0, 1) := by decide +kernel
theorem dX5_fillWithNumber_1 : decode cX5_fillWithNumber 1 = .ok (.iload_n 1, 1) := by decide +kernel
theorem dX5_fillWithNumber_2 : decode cX5_fillWithNumber 2 = .ok (.iconst 1, 1) := by decide +kernel
theorem dX5_fillWithNumber_3 : decode cX5_fillWithNumber 3 = .ok (.iload_n 2, 1) := by decide +kernel
theorem dX5_fillWithNumber_4 : decode cX5_fillWithNumber 4 = .ok (.iconst (-1), 1) := by decide +kernel
theorem dX5_fillWithNumber_5 : decode cX5_fillWithNumber 5 = .ok (.invokevirtual 49, 3) := by decide +kernel
theorem dX5_fillWithNumber_8 : decode cX5_fillWithNumber 8 = .ok (.return_, 1) := by decide +kernel
theorem dX5_fillWithPointer_0 : decode cX5_fillWithPointer 0 = .ok (.aload_n 0, 1) := by decide +kernel
theorem dX5_fillWithPointer_1 : decode cX5_fillWithPointer 1 = .ok (.iload_n 1, 1) := by decide +kernel
theorem dX5_fillWithPointer_2 : decode cX5_fillWithPointer 2 = .ok (.iconst 2, 1) := by decide +kernel
theorem dX5_fillWithPointer_3 : decode cX5_fillWithPointer 3 = .ok (.iload_n 2, 1) := by decide +kernel
theorem dX5_fillWithPointer_4 : decode cX5_fillWithPointer 4 = .ok (.iload_n 3, 1) := by decide +kernel
theorem dX5_fillWithPointer_5 : decode cX5_fillWithPointer 5 = .ok (.invokevirtual 49, 3) := by decide +kernel
theorem dX5_fillWithPointer_8 : decode cX5_fillWithPointer 8 = .ok (.return_, 1) := by decide +kernel
theorem dX5_registerProperty_0 : decode cX5_registerProperty 0 = .ok (.iload_n 1, 1) := by decide +kernel
theorem dX5_registerProperty_1 : decode cX5_registerProperty 1 = .ok (.invokestatic 53, 3) := by decide +kernel
theorem dX5_registerProperty_4 : decode cX5_registerProperty 4 = .ok (.ifCond .ne 6, 3) := by decide +kernel
theorem dX5_registerProperty_7 : decode cX5_registerProperty 7 = .ok (.bipush (-2), 2) := by decide +kernel
theorem dX5_registerProperty_9 : decode cX5_registerProperty 9 = .ok (.ireturn, 1) := by decide +kernel
theorem dX5_registerProperty_10 : decode cX5_registerProperty 10 = .ok (.iload_n 2, 1) := by decide +kernel
theorem dX5_registerProperty_11 : decode cX5_registerProperty 11 = .ok (.tableswitch 73 0 2 #[25, 32, 52], 25) := by decide +kernel
theorem dX5_registerProperty_36 : decode cX5_registerProperty 36 = .ok (.aload_n 0, 1) := by decide +kernel
theorem dX5_registerProperty_37 : decode cX5_registerProperty 37 = .ok (.getfield 9, 3) := by decide +kernel
theorem dX5_registerProperty_40 : decode cX5_registerProperty 40 = .ok (.iload_n 1, 1) := by decide +kernel
theorem dX5_registerProperty_41 : decode cX5_registerProperty 41 = .ok (.iaload, 1) := by decide +kernel
theorem dX5_registerProperty_42 : decode cX5_registerProperty 42 = .ok (.ireturn, 1) := by decide +kernel
theorem dX5_registerProperty_43 : decode cX5_registerProperty 43 = .ok (.aload_n 0, 1) := by decide +kernel
theorem dX5_registerProperty_44 : decode cX5_registerProperty 44 = .ok (.getfield 9, 3) := by decide +kernel
theorem dX5_registerProperty_47 : decode cX5_registerProperty 47 = .ok (.iload_n 1, 1) := by decide +kernel
theorem dX5_registerProperty_48 : decode cX5_registerProperty 48 = .ok (.iaload, 1) := by decide +kernel
theorem dX5_registerProperty_49 : decode cX5_registerProperty 49 = .ok (.ifCond .ne 7, 3) := by decide +kernel
theorem dX5_registerProperty_52 : decode cX5_registerProperty 52 = .ok (.iconst (-1), 1) := by decide +kernel
theorem dX5_registerProperty_53 : decode cX5_registerProperty 53 = .ok (.goto 9, 3) := by decide +kernel
theorem dX5_registerProperty_56 : decode cX5_registerProperty 56 = .ok (.aload_n 0, 1) := by decide +kernel
theorem dX5_registerProperty_57 : decode cX5_registerProperty 57 = .ok (.getfield 15, 3) := by decide +kernel
theorem dX5_registerProperty_60 : decode cX5_registerProperty 60 = .ok (.iload_n 1, 1) := by decide +kernel
theorem dX5_registerProperty_61 : decode cX5_registerProperty 61 = .ok (.iaload, 1) := by decide +kernel
theorem dX5_registerProperty_62 : decode cX5_registerProperty 62 = .ok (.ireturn, 1) := by decide +kernel
theorem dX5_registerProperty_63 : decode cX5_registerProperty 63 = .ok (.aload_n 0, 1) := by decide +kernel
theorem dX5_registerProperty_64 : decode cX5_registerProperty 64 = .ok (.getfield 9, 3) := by decide +kernel
theorem dX5_registerProperty_67 : decode cX5_registerProperty 67 = .ok (.iload_n 1, 1) := by decide +kernel
theorem dX5_registerProperty_68 : decode cX5_registerProperty 68 = .ok (.iaload, 1) := by decide +kernel
theorem dX5_registerProperty_69 : decode cX5_registerProperty 69 = .ok (.iconst 2, 1) := by decide +kernel
theorem dX5_registerProperty_70 : decode cX5_registerProperty 70 = .ok (.if_icmp .ne 12, 3) := by decide +kernel
theorem dX5_registerProperty_73 : decode cX5_registerProperty 73 = .ok (.aload_n 0, 1) := by decide +kernel
theorem dX5_registerProperty_74 : decode cX5_registerProperty 74 = .ok (.getfield 18, 3) := by decide +kernel
theorem dX5_registerProperty_77 : decode cX5_registerProperty 77 = .ok (.iload_n 1, 1) := by decide +kernel
theorem dX5_registerProperty_78 : decode cX5_registerProperty 78 = .ok (.iaload, 1) := by decide +kernel
theorem dX5_registerProperty_79 : decode cX5_registerProperty 79 = .ok (.goto 4, 3) := by decide +kernel
theorem dX5_registerProperty_82 : decode cX5_registerProperty 82 = .ok (.iconst (-1), 1) := by decide +kernel
theorem dX5_registerProperty_83 : decode cX5_registerProperty 83 = .ok (.ireturn, 1) := by decide +kernel
theorem dX5_registerProperty_84 : decode cX5_registerProperty 84 = .ok (.bipush (-2), 2) := by decide +kernel
theorem dX5_registerProperty_86 : decode cX5_registerProperty 86 = .ok (.ireturn, 1) := by decide +kernel
theorem dX5_addBlock_0 : decode cX5_addBlock 0 = .ok (.aload_n 0, 1) := by decide +kernel
theorem dX5_addBlock_1 : decode cX5_addBlock 1 = .ok (.getfield 43, 3) := by decide +kernel
theorem dX5_addBlock_4 : decode cX5_addBlock 4 = .ok (.istore_n 2, 1) := by decide +kernel
theorem dX5_addBlock_5 : decode cX5_addBlock 5 = .ok (.iload_n 2, 1) := by decide +kernel
theorem dX5_addBlock_6 : decode cX5_addBlock 6 = .ok (.ifCond .lt 58, 3) := by decide +kernel
theorem dX5_addBlock_9 : decode cX5_addBlock 9 = .ok (.iload_n 2, 1) := by decide +kernel
theorem dX5_addBlock_10 : decode cX5_addBlock 10 = .ok (.bipush 10, 2) := by decide +kernel
theorem dX5_addBlock_12 : decode cX5_addBlock 12 = .ok (.if_icmp .ge 52, 3) := by decide +kernel
theorem dX5_addBlock_15 : decode cX5_addBlock 15 = .ok (.aload_n 0, 1) := by decide +kernel
theorem dX5_addBlock_16 : decode cX5_addBlock 16 = .ok (.getfield 21, 3) := by decide +kernel
theorem dX5_addBlock_19 : decode cX5_addBlock 19 = .ok (.iload_n 2, 1) := by decide +kernel
theorem dX5_addBlock_20 : decode cX5_addBlock 20 = .ok (.iload_n 1, 1) := by decide +kernel
theorem dX5_addBlock_21 : decode cX5_addBlock 21 = .ok (.iastore, 1) := by decide +kernel
theorem dX5_addBlock_22 : decode cX5_addBlock 22 = .ok (.aload_n 0, 1) := by decide +kernel
theorem dX5_addBlock_23 : decode cX5_addBlock 23 = .ok (.getfield 24, 3) := by decide +kernel
theorem dX5_addBlock_26 : decode cX5_addBlock 26 = .ok (.iload_n 2, 1) := by decide +kernel
theorem dX5_addBlock_27 : decode cX5_addBlock 27 = .ok (.iconst 1, 1) := by decide +kernel
theorem dX5_addBlock_28 : decode cX5_addBlock 28 = .ok (.iastore, 1) := by decide +kernel
theorem dX5_addBlock_29 : decode cX5_addBlock 29 = .ok (.aload_n 0, 1) := by decide +kernel
theorem dX5_addBlock_30 : decode cX5_addBlock 30 = .ok (.getfield 27, 3) := by decide +kernel
theorem dX5_addBlock_33 : decode cX5_addBlock 33 = .ok (.iload_n 2, 1) := by decide +kernel
theorem dX5_addBlock_34 : decode cX5_addBlock 34 = .ok (.iconst 0, 1) := by decide +kernel
theorem dX5_addBlock_35 : decode cX5_addBlock 35 = .ok (.iastore, 1) := by decide +kernel
theorem dX5_addBlock_36 : decode cX5_addBlock 36 = .ok (.aload_n 0, 1) := by decide +kernel
theorem dX5_addBlock_37 : decode cX5_addBlock 37 = .ok (.iload_n 2, 1) := by decide +kernel
theorem dX5_addBlock_38 : decode cX5_addBlock 38 = .ok (.iconst 1, 1) := by decide +kernel
theorem dX5_addBlock_39 : decode cX5_addBlock 39 = .ok (.iadd, 1) := by decide +kernel
theorem dX5_addBlock_40 : decode cX5_addBlock 40 = .ok (.putfield 43, 3) := by decide +kernel
theorem dX5_addBlock_43 : decode cX5_addBlock 43 = .ok (.iconst 0, 1) := by decide +kernel
theorem dX5_addBlock_44 : decode cX5_addBlock 44 = .ok (.istore_n 3, 1) := by decide +kernel
theorem dX5_addBlock_45 : decode cX5_addBlock 45 = .ok (.iload_n 3, 1) := by decide +kernel
theorem dX5_addBlock_46 : decode cX5_addBlock 46 = .ok (.bipush 12, 2) := by decide +kernel
theorem dX5_addBlock_48 : decode cX5_addBlock 48 = .ok (.if_icmp .ge 16, 3) := by decide +kernel
theorem dX5_addBlock_51 : decode cX5_addBlock 51 = .ok (.aload_n 0, 1) := by decide +kernel
theorem dX5_addBlock_52 : decode cX5_addBlock 52 = .ok (.iload_n 2, 1) := by decide +kernel
theorem dX5_addBlock_53 : decode cX5_addBlock 53 = .ok (.iload_n 3, 1) := by decide +kernel
theorem dX5_addBlock_54 : decode cX5_addBlock 54 = .ok (.iconst (-1), 1) := by decide +kernel
theorem dX5_addBlock_55 : decode cX5_addBlock 55 = .ok (.invokevirtual 57, 3) := by decide +kernel
theorem dX5_addBlock_58 : decode cX5_addBlock 58 = .ok (.iinc 3 1, 3) := by decide +kernel
theorem dX5_addBlock_61 : decode cX5_addBlock 61 = .ok (.goto (-16), 3) := by decide +kernel
theorem dX5_addBlock_64 : decode cX5_addBlock 64 = .ok (.return_, 1) := by decide +kernel
theorem dX5_sizeOf_0 : decode cX5_sizeOf 0 = .ok (.iload_n 1, 1) := by decide +kernel
theorem dX5_sizeOf_1 : decode cX5_sizeOf 1 = .ok (.ifCond .lt 18, 3) := by decide +kernel
theorem dX5_sizeOf_4 : decode cX5_sizeOf 4 = .ok (.iload_n 1, 1) := by decide +kernel
theorem dX5_sizeOf_5 : decode cX5_sizeOf 5 = .ok (.bipush 10, 2) := by decide +kernel
theorem dX5_sizeOf_7 : decode cX5_sizeOf 7 = .ok (.if_icmp .ge 12, 3) := by decide +kernel
theorem dX5_sizeOf_10 : decode cX5_sizeOf 10 = .ok (.aload_n 0, 1) := by decide +kernel
theorem dX5_sizeOf_11 : decode cX5_sizeOf 11 = .ok (.getfield 21, 3) := by decide +kernel
theorem dX5_sizeOf_14 : decode cX5_sizeOf 14 = .ok (.iload_n 1, 1) := by decide +kernel
theorem dX5_sizeOf_15 : decode cX5_sizeOf 15 = .ok (.iaload, 1) := by decide +kernel
theorem dX5_sizeOf_16 : decode cX5_sizeOf 16 = .ok (.goto 4, 3) := by decide +kernel
theorem dX5_sizeOf_19 : decode cX5_sizeOf 19 = .ok (.iconst 0, 1) := by decide +kernel
theorem dX5_sizeOf_20 : decode cX5_sizeOf 20 = .ok (.ireturn, 1) := by decide +kernel
theorem dX5_isLive_0 : decode cX5_isLive 0 = .ok (.iload_n 1, 1) := by decide +kernel
theorem dX5_isLive_1 : decode cX5_isLive 1 = .ok (.ifCond .lt 23, 3) := by decide +kernel
theorem dX5_isLive_4 : decode cX5_isLive 4 = .ok (.iload_n 1, 1) := by decide +kernel
theorem dX5_isLive_5 : decode cX5_isLive 5 = .ok (.bipush 10, 2) := by decide +kernel
theorem dX5_isLive_7 : decode cX5_isLive 7 = .ok (.if_icmp .ge 17, 3) := by decide +kernel
theorem dX5_isLive_10 : decode cX5_isLive 10 = .ok (.aload_n 0, 1) := by decide +kernel
theorem dX5_isLive_11 : decode cX5_isLive 11 = .ok (.getfield 24, 3) := by decide +kernel
theorem dX5_isLive_14 : decode cX5_isLive 14 = .ok (.iload_n 1, 1) := by decide +kernel
theorem dX5_isLive_15 : decode cX5_isLive 15 = .ok (.iaload, 1) := by decide +kernel
theorem dX5_isLive_16 : decode cX5_isLive 16 = .ok (.iconst 1, 1) := by decide +kernel
theorem dX5_isLive_17 : decode cX5_isLive 17 = .ok (.if_icmp .ne 7, 3) := by decide +kernel
theorem dX5_isLive_20 : decode cX5_isLive 20 = .ok (.iconst 1, 1) := by decide +kernel
theorem dX5_isLive_21 : decode cX5_isLive 21 = .ok (.goto 4, 3) := by decide +kernel
theorem dX5_isLive_24 : decode cX5_isLive 24 = .ok (.iconst 0, 1) := by decide +kernel
theorem dX5_isLive_25 : decode cX5_isLive 25 = .ok (.ireturn, 1) := by decide +kernel
theorem dX5_isConstant_0 : decode cX5_isConstant 0 = .ok (.iload_n 1, 1) := by decide +kernel
theorem dX5_isConstant_1 : decode cX5_isConstant 1 = .ok (.ifCond .lt 23, 3) := by decide +kernel
theorem dX5_isConstant_4 : decode cX5_isConstant 4 = .ok (.iload_n 1, 1) := by decide +kernel
theorem dX5_isConstant_5 : decode cX5_isConstant 5 = .ok (.bipush 10, 2) := by decide +kernel
theorem dX5_isConstant_7 : decode cX5_isConstant 7 = .ok (.if_icmp .ge 17, 3) := by decide +kernel
theorem dX5_isConstant_10 : decode cX5_isConstant 10 = .ok (.aload_n 0, 1) := by decide +kernel
theorem dX5_isConstant_11 : decode cX5_isConstant 11 = .ok (.getfield 27, 3) := by decide +kernel
theorem dX5_isConstant_14 : decode cX5_isConstant 14 = .ok (.iload_n 1, 1) := by decide +kernel
theorem dX5_isConstant_15 : decode cX5_isConstant 15 = .ok (.iaload, 1) := by decide +kernel
theorem dX5_isConstant_16 : decode cX5_isConstant 16 = .ok (.iconst 1, 1) := by decide +kernel
theorem dX5_isConstant_17 : decode cX5_isConstant 17 = .ok (.if_icmp .ne 7, 3) := by decide +kernel
theorem dX5_isConstant_20 : decode cX5_isConstant 20 = .ok (.iconst 1, 1) := by decide +kernel
theorem dX5_isConstant_21 : decode cX5_isConstant 21 = .ok (.goto 4, 3) := by decide +kernel
theorem dX5_isConstant_24 : decode cX5_isConstant 24 = .ok (.iconst 0, 1) := by decide +kernel
theorem dX5_isConstant_25 : decode cX5_isConstant 25 = .ok (.ireturn, 1) := by decide +kernel
theorem dX5_markEnded_0 : decode cX5_markEnded 0 = .ok (.iload_n 1, 1) := by decide +kernel
theorem dX5_markEnded_1 : decode cX5_markEnded 1 = .ok (.ifCond .lt 16, 3) := by decide +kernel
theorem dX5_markEnded_4 : decode cX5_markEnded 4 = .ok (.iload_n 1, 1) := by decide +kernel
theorem dX5_markEnded_5 : decode cX5_markEnded 5 = .ok (.bipush 10, 2) := by decide +kernel
theorem dX5_markEnded_7 : decode cX5_markEnded 7 = .ok (.if_icmp .ge 10, 3) := by decide +kernel
theorem dX5_markEnded_10 : decode cX5_markEnded 10 = .ok (.aload_n 0, 1) := by decide +kernel
theorem dX5_markEnded_11 : decode cX5_markEnded 11 = .ok (.getfield 24, 3) := by decide +kernel
theorem dX5_markEnded_14 : decode cX5_markEnded 14 = .ok (.iload_n 1, 1) := by decide +kernel
theorem dX5_markEnded_15 : decode cX5_markEnded 15 = .ok (.iconst 0, 1) := by decide +kernel
theorem dX5_markEnded_16 : decode cX5_markEnded 16 = .ok (.iastore, 1) := by decide +kernel
theorem dX5_markEnded_17 : decode cX5_markEnded 17 = .ok (.return_, 1) := by decide +kernel
theorem dX5_markConstant_0 : decode cX5_markConstant 0 = .ok (.iload_n 1, 1) := by decide +kernel
theorem dX5_markConstant_1 : decode cX5_markConstant 1 = .ok (.ifCond .lt 16, 3) := by decide +kernel
theorem dX5_markConstant_4 : decode cX5_markConstant 4 = .ok (.iload_n 1, 1) := by decide +kernel
theorem dX5_markConstant_5 : decode cX5_markConstant 5 = .ok (.bipush 10, 2) := by decide +kernel
theorem dX5_markConstant_7 : decode cX5_markConstant 7 = .ok (.if_icmp .ge 10, 3) := by decide +kernel
theorem dX5_markConstant_10 : decode cX5_markConstant 10 = .ok (.aload_n 0, 1) := by decide +kernel
theorem dX5_markConstant_11 : decode cX5_markConstant 11 = .ok (.getfield 27, 3) := by decide +kernel
theorem dX5_markConstant_14 : decode cX5_markConstant 14 = .ok (.iload_n 1, 1) := by decide +kernel
theorem dX5_markConstant_15 : decode cX5_markConstant 15 = .ok (.iconst 1, 1) := by decide +kernel
theorem dX5_markConstant_16 : decode cX5_markConstant 16 = .ok (.iastore, 1) := by decide +kernel
theorem dX5_markConstant_17 : decode cX5_markConstant 17 = .ok (.return_, 1) := by decide +kernel
theorem dX5_cellAt_0 : decode cX5_cellAt 0 = .ok (.iload_n 1, 1) := by decide +kernel
theorem dX5_cellAt_1 : decode cX5_cellAt 1 = .ok (.ifCond .lt 33, 3) := by decide +kernel
theorem dX5_cellAt_4 : decode cX5_cellAt 4 = .ok (.iload_n 1, 1) := by decide +kernel
theorem dX5_cellAt_5 : decode cX5_cellAt 5 = .ok (.bipush 10, 2) := by decide +kernel
theorem dX5_cellAt_7 : decode cX5_cellAt 7 = .ok (.if_icmp .ge 27, 3) := by decide +kernel
theorem dX5_cellAt_10 : decode cX5_cellAt 10 = .ok (.iload_n 2, 1) := by decide +kernel
theorem dX5_cellAt_11 : decode cX5_cellAt 11 = .ok (.ifCond .lt 23, 3) := by decide +kernel
theorem dX5_cellAt_14 : decode cX5_cellAt 14 = .ok (.iload_n 2, 1) := by decide +kernel
theorem dX5_cellAt_15 : decode cX5_cellAt 15 = .ok (.bipush 12, 2) := by decide +kernel
theorem dX5_cellAt_17 : decode cX5_cellAt 17 = .ok (.if_icmp .ge 17, 3) := by decide +kernel
theorem dX5_cellAt_20 : decode cX5_cellAt 20 = .ok (.aload_n 0, 1) := by decide +kernel
theorem dX5_cellAt_21 : decode cX5_cellAt 21 = .ok (.getfield 30, 3) := by decide +kernel
theorem dX5_cellAt_24 : decode cX5_cellAt 24 = .ok (.iload_n 1, 1) := by decide +kernel
theorem dX5_cellAt_25 : decode cX5_cellAt 25 = .ok (.bipush 12, 2) := by decide +kernel
theorem dX5_cellAt_27 : decode cX5_cellAt 27 = .ok (.imul, 1) := by decide +kernel
theorem dX5_cellAt_28 : decode cX5_cellAt 28 = .ok (.iload_n 2, 1) := by decide +kernel
theorem dX5_cellAt_29 : decode cX5_cellAt 29 = .ok (.iadd, 1) := by decide +kernel
theorem dX5_cellAt_30 : decode cX5_cellAt 30 = .ok (.iaload, 1) := by decide +kernel
theorem dX5_cellAt_31 : decode cX5_cellAt 31 = .ok (.goto 4, 3) := by decide +kernel
theorem dX5_cellAt_34 : decode cX5_cellAt 34 = .ok (.iconst (-1), 1) := by decide +kernel
theorem dX5_cellAt_35 : decode cX5_cellAt 35 = .ok (.ireturn, 1) := by decide +kernel
theorem dX5_putCell_0 : decode cX5_putCell 0 = .ok (.iload_n 1, 1) := by decide +kernel
theorem dX5_putCell_1 : decode cX5_putCell 1 = .ok (.ifCond .lt 31, 3) := by decide +kernel
theorem dX5_putCell_4 : decode cX5_putCell 4 = .ok (.iload_n 1, 1) := by decide +kernel
theorem dX5_putCell_5 : decode cX5_putCell 5 = .ok (.bipush 10, 2) := by decide +kernel
theorem dX5_putCell_7 : decode cX5_putCell 7 = .ok (.if_icmp .ge 25, 3) := by decide +kernel
theorem dX5_putCell_10 : decode cX5_putCell 10 = .ok (.iload_n 2, 1) := by decide +kernel
theorem dX5_putCell_11 : decode cX5_putCell 11 = .ok (.ifCond .lt 21, 3) := by decide +kernel
theorem dX5_putCell_14 : decode cX5_putCell 14 = .ok (.iload_n 2, 1) := by decide +kernel
theorem dX5_putCell_15 : decode cX5_putCell 15 = .ok (.bipush 12, 2) := by decide +kernel
theorem dX5_putCell_17 : decode cX5_putCell 17 = .ok (.if_icmp .ge 15, 3) := by decide +kernel
theorem dX5_putCell_20 : decode cX5_putCell 20 = .ok (.aload_n 0, 1) := by decide +kernel
theorem dX5_putCell_21 : decode cX5_putCell 21 = .ok (.getfield 30, 3) := by decide +kernel
theorem dX5_putCell_24 : decode cX5_putCell 24 = .ok (.iload_n 1, 1) := by decide +kernel
theorem dX5_putCell_25 : decode cX5_putCell 25 = .ok (.bipush 12, 2) := by decide +kernel
theorem dX5_putCell_27 : decode cX5_putCell 27 = .ok (.imul, 1) := by decide +kernel
theorem dX5_putCell_28 : decode cX5_putCell 28 = .ok (.iload_n 2, 1) := by decide +kernel
theorem dX5_putCell_29 : decode cX5_putCell 29 = .ok (.iadd, 1) := by decide +kernel
theorem dX5_putCell_30 : decode cX5_putCell 30 = .ok (.iload_n 3, 1) := by decide +kernel
theorem dX5_putCell_31 : decode cX5_putCell 31 = .ok (.iastore, 1) := by decide +kernel
theorem dX5_putCell_32 : decode cX5_putCell 32 = .ok (.return_, 1) := by decide +kernel
theorem dX5_liveBlocks_0 : decode cX5_liveBlocks 0 = .ok (.iconst 0, 1) := by decide +kernel
theorem dX5_liveBlocks_1 : decode cX5_liveBlocks 1 = .ok (.istore_n 1, 1) := by decide +kernel
theorem dX5_liveBlocks_2 : decode cX5_liveBlocks 2 = .ok (.iconst 0, 1) := by decide +kernel
theorem dX5_liveBlocks_3 : decode cX5_liveBlocks 3 = .ok (.istore_n 2, 1) := by decide +kernel
theorem dX5_liveBlocks_4 : decode cX5_liveBlocks 4 = .ok (.iload_n 2, 1) := by decide +kernel
theorem dX5_liveBlocks_5 : decode cX5_liveBlocks 5 = .ok (.aload_n 0, 1) := by decide +kernel
theorem dX5_liveBlocks_6 : decode cX5_liveBlocks 6 = .ok (.getfield 43, 3) := by decide +kernel
theorem dX5_liveBlocks_9 : decode cX5_liveBlocks 9 = .ok (.if_icmp .ge 20, 3) := by decide +kernel
theorem dX5_liveBlocks_12 : decode cX5_liveBlocks 12 = .ok (.aload_n 0, 1) := by decide +kernel
theorem dX5_liveBlocks_13 : decode cX5_liveBlocks 13 = .ok (.iload_n 2, 1) := by decide +kernel
theorem dX5_liveBlocks_14 : decode cX5_liveBlocks 14 = .ok (.invokevirtual 61, 3) := by decide +kernel
theorem dX5_liveBlocks_17 : decode cX5_liveBlocks 17 = .ok (.ifCond .eq 6, 3) := by decide +kernel
theorem dX5_liveBlocks_20 : decode cX5_liveBlocks 20 = .ok (.iinc 1 1, 3) := by decide +kernel
theorem dX5_liveBlocks_23 : decode cX5_liveBlocks 23 = .ok (.iinc 2 1, 3) := by decide +kernel
theorem dX5_liveBlocks_26 : decode cX5_liveBlocks 26 = .ok (.goto (-22), 3) := by decide +kernel
theorem dX5_liveBlocks_29 : decode cX5_liveBlocks 29 = .ok (.iload_n 1, 1) := by decide +kernel
theorem dX5_liveBlocks_30 : decode cX5_liveBlocks 30 = .ok (.ireturn, 1) := by decide +kernel
theorem dX5_blockProperty_0 : decode cX5_blockProperty 0 = .ok (.aload_n 0, 1) := by decide +kernel
theorem dX5_blockProperty_1 : decode cX5_blockProperty 1 = .ok (.iload_n 1, 1) := by decide +kernel
theorem dX5_blockProperty_2 : decode cX5_blockProperty 2 = .ok (.invokevirtual 64, 3) := by decide +kernel
theorem dX5_blockProperty_5 : decode cX5_blockProperty 5 = .ok (.ifCond .ne 6, 3) := by decide +kernel
theorem dX5_blockProperty_8 : decode cX5_blockProperty 8 = .ok (.bipush (-2), 2) := by decide +kernel
theorem dX5_blockProperty_10 : decode cX5_blockProperty 10 = .ok (.ireturn, 1) := by decide +kernel
theorem dX5_blockProperty_11 : decode cX5_blockProperty 11 = .ok (.iload_n 2, 1) := by decide +kernel
theorem dX5_blockProperty_12 : decode cX5_blockProperty 12 = .ok (.tableswitch 69 0 4 #[36, 43, 50, 57, 63], 36) := by decide +kernel
theorem dX5_blockProperty_48 : decode cX5_blockProperty 48 = .ok (.aload_n 0, 1) := by decide +kernel
theorem dX5_blockProperty_49 : decode cX5_blockProperty 49 = .ok (.getfield 21, 3) := by decide +kernel
theorem dX5_blockProperty_52 : decode cX5_blockProperty 52 = .ok (.iload_n 1, 1) := by decide +kernel
theorem dX5_blockProperty_53 : decode cX5_blockProperty 53 = .ok (.iaload, 1) := by decide +kernel
theorem dX5_blockProperty_54 : decode cX5_blockProperty 54 = .ok (.ireturn, 1) := by decide +kernel
theorem dX5_blockProperty_55 : decode cX5_blockProperty 55 = .ok (.aload_n 0, 1) := by decide +kernel
theorem dX5_blockProperty_56 : decode cX5_blockProperty 56 = .ok (.getfield 24, 3) := by decide +kernel
theorem dX5_blockProperty_59 : decode cX5_blockProperty 59 = .ok (.iload_n 1, 1) := by decide +kernel
theorem dX5_blockProperty_60 : decode cX5_blockProperty 60 = .ok (.iaload, 1) := by decide +kernel
theorem dX5_blockProperty_61 : decode cX5_blockProperty 61 = .ok (.ireturn, 1) := by decide +kernel
theorem dX5_blockProperty_62 : decode cX5_blockProperty 62 = .ok (.aload_n 0, 1) := by decide +kernel
theorem dX5_blockProperty_63 : decode cX5_blockProperty 63 = .ok (.getfield 27, 3) := by decide +kernel
theorem dX5_blockProperty_66 : decode cX5_blockProperty 66 = .ok (.iload_n 1, 1) := by decide +kernel
theorem dX5_blockProperty_67 : decode cX5_blockProperty 67 = .ok (.iaload, 1) := by decide +kernel
theorem dX5_blockProperty_68 : decode cX5_blockProperty 68 = .ok (.ireturn, 1) := by decide +kernel
theorem dX5_blockProperty_69 : decode cX5_blockProperty 69 = .ok (.aload_n 0, 1) := by decide +kernel
theorem dX5_blockProperty_70 : decode cX5_blockProperty 70 = .ok (.iload_n 1, 1) := by decide +kernel
theorem dX5_blockProperty_71 : decode cX5_blockProperty 71 = .ok (.invokevirtual 67, 3) := by decide +kernel
theorem dX5_blockProperty_74 : decode cX5_blockProperty 74 = .ok (.ireturn, 1) := by decide +kernel
theorem dX5_blockProperty_75 : decode cX5_blockProperty 75 = .ok (.aload_n 0, 1) := by decide +kernel
theorem dX5_blockProperty_76 : decode cX5_blockProperty 76 = .ok (.iload_n 1, 1) := by decide +kernel
theorem dX5_blockProperty_77 : decode cX5_blockProperty 77 = .ok (.invokevirtual 71, 3) := by decide +kernel
theorem dX5_blockProperty_80 : decode cX5_blockProperty 80 = .ok (.ireturn, 1) := by decide +kernel
theorem dX5_blockProperty_81 : decode cX5_blockProperty 81 = .ok (.bipush (-2), 2) := by decide +kernel
theorem dX5_blockProperty_83 : decode cX5_blockProperty 83 = .ok (.ireturn, 1) := by decide +kernel
theorem dX5_uninitializedIn_0 : decode cX5_uninitializedIn 0 = .ok (.iconst 0, 1) := by decide +kernel
theorem dX5_uninitializedIn_1 : decode cX5_uninitializedIn 1 = .ok (.istore_n 2, 1) := by decide +kernel
theorem dX5_uninitializedIn_2 : decode cX5_uninitializedIn 2 = .ok (.iconst 0, 1) := by decide +kernel
theorem dX5_uninitializedIn_3 : decode cX5_uninitializedIn 3 = .ok (.istore_n 3, 1) := by decide +kernel
theorem dX5_uninitializedIn_4 : decode cX5_uninitializedIn 4 = .ok (.iload_n 3, 1) := by decide +kernel
theorem dX5_uninitializedIn_5 : decode cX5_uninitializedIn 5 = .ok (.aload_n 0, 1) := by decide +kernel
theorem dX5_uninitializedIn_6 : decode cX5_uninitializedIn 6 = .ok (.iload_n 1, 1) := by decide +kernel
theorem dX5_uninitializedIn_7 : decode cX5_uninitializedIn 7 = .ok (.invokevirtual 74, 3) := by decide +kernel
theorem dX5_uninitializedIn_10 : decode cX5_uninitializedIn 10 = .ok (.if_icmp .ge 22, 3) := by decide +kernel
theorem dX5_uninitializedIn_13 : decode cX5_uninitializedIn 13 = .ok (.aload_n 0, 1) := by decide +kernel
theorem dX5_uninitializedIn_14 : decode cX5_uninitializedIn 14 = .ok (.iload_n 1, 1) := by decide +kernel
theorem dX5_uninitializedIn_15 : decode cX5_uninitializedIn 15 = .ok (.iload_n 3, 1) := by decide +kernel
theorem dX5_uninitializedIn_16 : decode cX5_uninitializedIn 16 = .ok (.invokevirtual 77, 3) := by decide +kernel
theorem dX5_uninitializedIn_19 : decode cX5_uninitializedIn 19 = .ok (.iconst (-1), 1) := by decide +kernel
theorem dX5_uninitializedIn_20 : decode cX5_uninitializedIn 20 = .ok (.if_icmp .ne 6, 3) := by decide +kernel
theorem dX5_uninitializedIn_23 : decode cX5_uninitializedIn 23 = .ok (.iinc 2 1, 3) := by decide +kernel
theorem dX5_uninitializedIn_26 : decode cX5_uninitializedIn 26 = .ok (.iinc 3 1, 3) := by decide +kernel
theorem dX5_uninitializedIn_29 : decode cX5_uninitializedIn 29 = .ok (.goto (-25), 3) := by decide +kernel
theorem dX5_uninitializedIn_32 : decode cX5_uninitializedIn 32 = .ok (.iload_n 2, 1) := by decide +kernel
theorem dX5_uninitializedIn_33 : decode cX5_uninitializedIn 33 = .ok (.ireturn, 1) := by decide +kernel
theorem dX5_pointersIn_0 : decode cX5_pointersIn 0 = .ok (.iconst 0, 1) := by decide +kernel
theorem dX5_pointersIn_1 : decode cX5_pointersIn 1 = .ok (.istore_n 2, 1) := by decide +kernel
theorem dX5_pointersIn_2 : decode cX5_pointersIn 2 = .ok (.iconst 0, 1) := by decide +kernel
theorem dX5_pointersIn_3 : decode cX5_pointersIn 3 = .ok (.istore_n 3, 1) := by decide +kernel
theorem dX5_pointersIn_4 : decode cX5_pointersIn 4 = .ok (.iload_n 3, 1) := by decide +kernel
theorem dX5_pointersIn_5 : decode cX5_pointersIn 5 = .ok (.aload_n 0, 1) := by decide +kernel
theorem dX5_pointersIn_6 : decode cX5_pointersIn 6 = .ok (.iload_n 1, 1) := by decide +kernel
theorem dX5_pointersIn_7 : decode cX5_pointersIn 7 = .ok (.invokevirtual 74, 3) := by decide +kernel
theorem dX5_pointersIn_10 : decode cX5_pointersIn 10 = .ok (.if_icmp .ge 24, 3) := by decide +kernel
theorem dX5_pointersIn_13 : decode cX5_pointersIn 13 = .ok (.aload_n 0, 1) := by decide +kernel
theorem dX5_pointersIn_14 : decode cX5_pointersIn 14 = .ok (.iload_n 1, 1) := by decide +kernel
theorem dX5_pointersIn_15 : decode cX5_pointersIn 15 = .ok (.iload_n 3, 1) := by decide +kernel
theorem dX5_pointersIn_16 : decode cX5_pointersIn 16 = .ok (.invokevirtual 77, 3) := by decide +kernel
theorem dX5_pointersIn_19 : decode cX5_pointersIn 19 = .ok (.invokestatic 81, 3) := by decide +kernel
theorem dX5_pointersIn_22 : decode cX5_pointersIn 22 = .ok (.ifCond .eq 6, 3) := by decide +kernel
theorem dX5_pointersIn_25 : decode cX5_pointersIn 25 = .ok (.iinc 2 1, 3) := by decide +kernel
theorem dX5_pointersIn_28 : decode cX5_pointersIn 28 = .ok (.iinc 3 1, 3) := by decide +kernel
theorem dX5_pointersIn_31 : decode cX5_pointersIn 31 = .ok (.goto (-27), 3) := by decide +kernel
theorem dX5_pointersIn_34 : decode cX5_pointersIn 34 = .ok (.iload_n 2, 1) := by decide +kernel
theorem dX5_pointersIn_35 : decode cX5_pointersIn 35 = .ok (.ireturn, 1) := by decide +kernel
theorem dX6_init_0 : decode cX6_init 0 = .ok (.aload_n 0, 1) := by decide +kernel
theorem dX6_init_1 : decode cX6_init 1 = .ok (.invokespecial 3, 3) := by decide +kernel
theorem dX6_init_4 : decode cX6_init 4 = .ok (.aload_n 0, 1) := by decide +kernel
theorem dX6_init_5 : decode cX6_init 5 = .ok (.bipush 10, 2) := by decide +kernel
theorem dX6_init_7 : decode cX6_init 7 = .ok (.newarray .int, 2) := by decide +kernel
theorem dX6_init_9 : decode cX6_init 9 = .ok (.putfield 9, 3) := by decide +kernel
theorem dX6_init_12 : decode cX6_init 12 = .ok (.return_, 1) := by decide +kernel
theorem dX6_noted_0 : decode cX6_noted 0 = .ok (.bipush (-10), 2) := by decide +kernel
theorem dX6_noted_2 : decode cX6_noted 2 = .ok (.iload_n 1, 1) := by decide +kernel
theorem dX6_noted_3 : decode cX6_noted 3 = .ok (.isub, 1) := by decide +kernel
theorem dX6_noted_4 : decode cX6_noted 4 = .ok (.istore_n 2, 1) := by decide +kernel
theorem dX6_noted_5 : decode cX6_noted 5 = .ok (.iload_n 1, 1) := by decide +kernel
theorem dX6_noted_6 : decode cX6_noted 6 = .ok (.bipush (-2), 2) := by decide +kernel
theorem dX6_noted_8 : decode cX6_noted 8 = .ok (.if_icmp .ne 16, 3) := by decide +kernel
theorem dX6_noted_11 : decode cX6_noted 11 = .ok (.aload_n 0, 1) := by decide +kernel
theorem dX6_noted_12 : decode cX6_noted 12 = .ok (.dup, 1) := by decide +kernel
theorem dX6_noted_13 : decode cX6_noted 13 = .ok (.getfield 15, 3) := by decide +kernel
theorem dX6_noted_16 : decode cX6_noted 16 = .ok (.iconst 1, 1) := by decide +kernel
theorem dX6_noted_17 : decode cX6_noted 17 = .ok (.iadd, 1) := by decide +kernel
theorem dX6_noted_18 : decode cX6_noted 18 = .ok (.putfield 15, 3) := by decide +kernel
theorem dX6_noted_21 : decode cX6_noted 21 = .ok (.goto 62, 3) := by decide +kernel
theorem dX6_noted_24 : decode cX6_noted 24 = .ok (.iload_n 1, 1) := by decide +kernel
theorem dX6_noted_25 : decode cX6_noted 25 = .ok (.bipush (-3), 2) := by decide +kernel
theorem dX6_noted_27 : decode cX6_noted 27 = .ok (.if_icmp .ne 16, 3) := by decide +kernel
theorem dX6_noted_30 : decode cX6_noted 30 = .ok (.aload_n 0, 1) := by decide +kernel
theorem dX6_noted_31 : decode cX6_noted 31 = .ok (.dup, 1) := by decide +kernel
theorem dX6_noted_32 : decode cX6_noted 32 = .ok (.getfield 19, 3) := by decide +kernel
theorem dX6_noted_35 : decode cX6_noted 35 = .ok (.iconst 1, 1) := by decide +kernel
theorem dX6_noted_36 : decode cX6_noted 36 = .ok (.iadd, 1) := by decide +kernel
theorem dX6_noted_37 : decode cX6_noted 37 = .ok (.putfield 19, 3) := by decide +kernel
theorem dX6_noted_40 : decode cX6_noted 40 = .ok (.goto 43, 3) := by decide +kernel
theorem dX6_noted_43 : decode cX6_noted 43 = .ok (.iload_n 1, 1) := by decide +kernel
theorem dX6_noted_44 : decode cX6_noted 44 = .ok (.bipush (-4), 2) := by decide +kernel
theorem dX6_noted_46 : decode cX6_noted 46 = .ok (.if_icmp .ne 16, 3) := by decide +kernel
theorem dX6_noted_49 : decode cX6_noted 49 = .ok (.aload_n 0, 1) := by decide +kernel
theorem dX6_noted_50 : decode cX6_noted 50 = .ok (.dup, 1) := by decide +kernel
theorem dX6_noted_51 : decode cX6_noted 51 = .ok (.getfield 22, 3) := by decide +kernel
theorem dX6_noted_54 : decode cX6_noted 54 = .ok (.iconst 1, 1) := by decide +kernel
theorem dX6_noted_55 : decode cX6_noted 55 = .ok (.iadd, 1) := by decide +kernel
theorem dX6_noted_56 : decode cX6_noted 56 = .ok (.putfield 22, 3) := by decide +kernel
theorem dX6_noted_59 : decode cX6_noted 59 = .ok (.goto 24, 3) := by decide +kernel
theorem dX6_noted_62 : decode cX6_noted 62 = .ok (.iload_n 2, 1) := by decide +kernel
theorem dX6_noted_63 : decode cX6_noted 63 = .ok (.iconst 1, 1) := by decide +kernel
theorem dX6_noted_64 : decode cX6_noted 64 = .ok (.if_icmp .lt 19, 3) := by decide +kernel
theorem dX6_noted_67 : decode cX6_noted 67 = .ok (.iload_n 2, 1) := by decide +kernel
theorem dX6_noted_68 : decode cX6_noted 68 = .ok (.bipush 9, 2) := by decide +kernel
theorem dX6_noted_70 : decode cX6_noted 70 = .ok (.if_icmp .gt 13, 3) := by decide +kernel
theorem dX6_noted_73 : decode cX6_noted 73 = .ok (.aload_n 0, 1) := by decide +kernel
theorem dX6_noted_74 : decode cX6_noted 74 = .ok (.getfield 9, 3) := by decide +kernel
theorem dX6_noted_77 : decode cX6_noted 77 = .ok (.iload_n 2, 1) := by decide +kernel
theorem dX6_noted_78 : decode cX6_noted 78 = .ok (.dup2, 1) := by decide +kernel
theorem dX6_noted_79 : decode cX6_noted 79 = .ok (.iaload, 1) := by decide +kernel
theorem dX6_noted_80 : decode cX6_noted 80 = .ok (.iconst 1, 1) := by decide +kernel
theorem dX6_noted_81 : decode cX6_noted 81 = .ok (.iadd, 1) := by decide +kernel
theorem dX6_noted_82 : decode cX6_noted 82 = .ok (.iastore, 1) := by decide +kernel
theorem dX6_noted_83 : decode cX6_noted 83 = .ok (.iload_n 1, 1) := by decide +kernel
theorem dX6_noted_84 : decode cX6_noted 84 = .ok (.ireturn, 1) := by decide +kernel
theorem dX6_ofReason_0 : decode cX6_ofReason 0 = .ok (.iload_n 1, 1) := by decide +kernel
theorem dX6_ofReason_1 : decode cX6_ofReason 1 = .ok (.iconst 1, 1) := by decide +kernel
theorem dX6_ofReason_2 : decode cX6_ofReason 2 = .ok (.if_icmp .lt 18, 3) := by decide +kernel
theorem dX6_ofReason_5 : decode cX6_ofReason 5 = .ok (.iload_n 1, 1) := by decide +kernel
theorem dX6_ofReason_6 : decode cX6_ofReason 6 = .ok (.bipush 9, 2) := by decide +kernel
theorem dX6_ofReason_8 : decode cX6_ofReason 8 = .ok (.if_icmp .gt 12, 3) := by decide +kernel
theorem dX6_ofReason_11 : decode cX6_ofReason 11 = .ok (.aload_n 0, 1) := by decide +kernel
theorem dX6_ofReason_12 : decode cX6_ofReason 12 = .ok (.getfield 9, 3) := by decide +kernel
theorem dX6_ofReason_15 : decode cX6_ofReason 15 = .ok (.iload_n 1, 1) := by decide +kernel
theorem dX6_ofReason_16 : decode cX6_ofReason 16 = .ok (.iaload, 1) := by decide +kernel
theorem dX6_ofReason_17 : decode cX6_ofReason 17 = .ok (.goto 5, 3) := by decide +kernel
theorem dX6_ofReason_20 : decode cX6_ofReason 20 = .ok (.bipush (-2), 2) := by decide +kernel
theorem dX6_ofReason_22 : decode cX6_ofReason 22 = .ok (.ireturn, 1) := by decide +kernel
theorem dX6_ofAllReasons_0 : decode cX6_ofAllReasons 0 = .ok (.iconst 0, 1) := by decide +kernel
theorem dX6_ofAllReasons_1 : decode cX6_ofAllReasons 1 = .ok (.istore_n 1, 1) := by decide +kernel
theorem dX6_ofAllReasons_2 : decode cX6_ofAllReasons 2 = .ok (.iconst 1, 1) := by decide +kernel
theorem dX6_ofAllReasons_3 : decode cX6_ofAllReasons 3 = .ok (.istore_n 2, 1) := by decide +kernel
theorem dX6_ofAllReasons_4 : decode cX6_ofAllReasons 4 = .ok (.iload_n 2, 1) := by decide +kernel
theorem dX6_ofAllReasons_5 : decode cX6_ofAllReasons 5 = .ok (.bipush 9, 2) := by decide +kernel
theorem dX6_ofAllReasons_7 : decode cX6_ofAllReasons 7 = .ok (.if_icmp .gt 18, 3) := by decide +kernel
theorem dX6_ofAllReasons_10 : decode cX6_ofAllReasons 10 = .ok (.iload_n 1, 1) := by decide +kernel
theorem dX6_ofAllReasons_11 : decode cX6_ofAllReasons 11 = .ok (.aload_n 0, 1) := by decide +kernel
theorem dX6_ofAllReasons_12 : decode cX6_ofAllReasons 12 = .ok (.getfield 9, 3) := by decide +kernel
theorem dX6_ofAllReasons_15 : decode cX6_ofAllReasons 15 = .ok (.iload_n 2, 1) := by decide +kernel
theorem dX6_ofAllReasons_16 : decode cX6_ofAllReasons 16 = .ok (.iaload, 1) := by decide +kernel
theorem dX6_ofAllReasons_17 : decode cX6_ofAllReasons 17 = .ok (.iadd, 1) := by decide +kernel
theorem dX6_ofAllReasons_18 : decode cX6_ofAllReasons 18 = .ok (.istore_n 1, 1) := by decide +kernel
theorem dX6_ofAllReasons_19 : decode cX6_ofAllReasons 19 = .ok (.iinc 2 1, 3) := by decide +kernel
theorem dX6_ofAllReasons_22 : decode cX6_ofAllReasons 22 = .ok (.goto (-18), 3) := by decide +kernel
theorem dX6_ofAllReasons_25 : decode cX6_ofAllReasons 25 = .ok (.iload_n 1, 1) := by decide +kernel
theorem dX6_ofAllReasons_26 : decode cX6_ofAllReasons 26 = .ok (.ireturn, 1) := by decide +kernel
theorem dX7_init_0 : decode cX7_init 0 = .ok (.aload_n 0, 1) := by decide +kernel
theorem dX7_init_1 : decode cX7_init 1 = .ok (.invokespecial 3, 3) := by decide +kernel
theorem dX7_init_4 : decode cX7_init 4 = .ok (.aload_n 0, 1) := by decide +kernel
theorem dX7_init_5 : decode cX7_init 5 = .ok (.new 9, 3) := by decide +kernel
theorem dX7_init_8 : decode cX7_init 8 = .ok (.dup, 1) := by decide +kernel
theorem dX7_init_9 : decode cX7_init 9 = .ok (.invokespecial 11, 3) := by decide +kernel
theorem dX7_init_12 : decode cX7_init 12 = .ok (.putfield 12, 3) := by decide +kernel
theorem dX7_init_15 : decode cX7_init 15 = .ok (.aload_n 0, 1) := by decide +kernel
theorem dX7_init_16 : decode cX7_init 16 = .ok (.new 16, 3) := by decide +kernel
theorem dX7_init_19 : decode cX7_init 19 = .ok (.dup, 1) := by decide +kernel
theorem dX7_init_20 : decode cX7_init 20 = .ok (.invokespecial 18, 3) := by decide +kernel
theorem dX7_init_23 : decode cX7_init 23 = .ok (.putfield 19, 3) := by decide +kernel
theorem dX7_init_26 : decode cX7_init 26 = .ok (.aload_n 0, 1) := by decide +kernel
theorem dX7_init_27 : decode cX7_init 27 = .ok (.new 23, 3) := by decide +kernel
theorem dX7_init_30 : decode cX7_init 30 = .ok (.dup, 1) := by decide +kernel
theorem dX7_init_31 : decode cX7_init 31 = .ok (.aload_n 0, 1) := by decide +kernel
theorem dX7_init_32 : decode cX7_init 32 = .ok (.getfield 12, 3) := by decide +kernel
theorem dX7_init_35 : decode cX7_init 35 = .ok (.aload_n 0, 1) := by decide +kernel
theorem dX7_init_36 : decode cX7_init 36 = .ok (.getfield 19, 3) := by decide +kernel
theorem dX7_init_39 : decode cX7_init 39 = .ok (.invokespecial 25, 3) := by decide +kernel
theorem dX7_init_42 : decode cX7_init 42 = .ok (.putfield 28, 3) := by decide +kernel
theorem dX7_init_45 : decode cX7_init 45 = .ok (.aload_n 0, 1) := by decide +kernel
theorem dX7_init_46 : decode cX7_init 46 = .ok (.new 32, 3) := by decide +kernel
theorem dX7_init_49 : decode cX7_init 49 = .ok (.dup, 1) := by decide +kernel
theorem dX7_init_50 : decode cX7_init 50 = .ok (.invokespecial 34, 3) := by decide +kernel
theorem dX7_init_53 : decode cX7_init 53 = .ok (.putfield 35, 3) := by decide +kernel
theorem dX7_init_56 : decode cX7_init 56 = .ok (.aload_n 0, 1) := by decide +kernel
theorem dX7_init_57 : decode cX7_init 57 = .ok (.new 39, 3) := by decide +kernel
theorem dX7_init_60 : decode cX7_init 60 = .ok (.dup, 1) := by decide +kernel
theorem dX7_init_61 : decode cX7_init 61 = .ok (.invokespecial 41, 3) := by decide +kernel
theorem dX7_init_64 : decode cX7_init 64 = .ok (.putfield 42, 3) := by decide +kernel
theorem dX7_init_67 : decode cX7_init 67 = .ok (.aload_n 0, 1) := by decide +kernel
theorem dX7_init_68 : decode cX7_init 68 = .ok (.new 46, 3) := by decide +kernel
theorem dX7_init_71 : decode cX7_init 71 = .ok (.dup, 1) := by decide +kernel
theorem dX7_init_72 : decode cX7_init 72 = .ok (.invokespecial 48, 3) := by decide +kernel
theorem dX7_init_75 : decode cX7_init 75 = .ok (.putfield 49, 3) := by decide +kernel
theorem dX7_init_78 : decode cX7_init 78 = .ok (.return_, 1) := by decide +kernel
theorem dX7_make_0 : decode cX7_make 0 = .ok (.aload_n 0, 1) := by decide +kernel
theorem dX7_make_1 : decode cX7_make 1 = .ok (.getfield 42, 3) := by decide +kernel
theorem dX7_make_4 : decode cX7_make 4 = .ok (.aload_n 0, 1) := by decide +kernel
theorem dX7_make_5 : decode cX7_make 5 = .ok (.getfield 12, 3) := by decide +kernel
theorem dX7_make_8 : decode cX7_make 8 = .ok (.invokevirtual 53, 3) := by decide +kernel
theorem dX7_make_11 : decode cX7_make 11 = .ok (.aload_n 0, 1) := by decide +kernel
theorem dX7_make_12 : decode cX7_make 12 = .ok (.aload_n 0, 1) := by decide +kernel
theorem dX7_make_13 : decode cX7_make 13 = .ok (.getfield 28, 3) := by decide +kernel
theorem dX7_make_16 : decode cX7_make 16 = .ok (.iload_n 1, 1) := by decide +kernel
theorem dX7_make_17 : decode cX7_make 17 = .ok (.iload_n 2, 1) := by decide +kernel
theorem dX7_make_18 : decode cX7_make 18 = .ok (.invokevirtual 57, 3) := by decide +kernel
theorem dX7_make_21 : decode cX7_make 21 = .ok (.invokevirtual 61, 3) := by decide +kernel
theorem dX7_make_24 : decode cX7_make 24 = .ok (.ireturn, 1) := by decide +kernel
theorem dX7_end_0 : decode cX7_end 0 = .ok (.aload_n 0, 1) := by decide +kernel
theorem dX7_end_1 : decode cX7_end 1 = .ok (.getfield 42, 3) := by decide +kernel
theorem dX7_end_4 : decode cX7_end 4 = .ok (.aload_n 0, 1) := by decide +kernel
theorem dX7_end_5 : decode cX7_end 5 = .ok (.getfield 12, 3) := by decide +kernel
theorem dX7_end_8 : decode cX7_end 8 = .ok (.invokevirtual 53, 3) := by decide +kernel
theorem dX7_end_11 : decode cX7_end 11 = .ok (.aload_n 0, 1) := by decide +kernel
theorem dX7_end_12 : decode cX7_end 12 = .ok (.aload_n 0, 1) := by decide +kernel
theorem dX7_end_13 : decode cX7_end 13 = .ok (.getfield 28, 3) := by decide +kernel
theorem dX7_end_16 : decode cX7_end 16 = .ok (.iload_n 1, 1) := by decide +kernel
theorem dX7_end_17 : decode cX7_end 17 = .ok (.invokevirtual 65, 3) := by decide +kernel
theorem dX7_end_20 : decode cX7_end 20 = .ok (.invokevirtual 61, 3) := by decide +kernel
theorem dX7_end_23 : decode cX7_end 23 = .ok (.ireturn, 1) := by decide +kernel
theorem dX7_set_0 : decode cX7_set 0 = .ok (.aload_n 0, 1) := by decide +kernel
theorem dX7_set_1 : decode cX7_set 1 = .ok (.getfield 42, 3) := by decide +kernel
theorem dX7_set_4 : decode cX7_set 4 = .ok (.aload_n 0, 1) := by decide +kernel
theorem dX7_set_5 : decode cX7_set 5 = .ok (.getfield 12, 3) := by decide +kernel
theorem dX7_set_8 : decode cX7_set 8 = .ok (.invokevirtual 53, 3) := by decide +kernel
theorem dX7_set_11 : decode cX7_set 11 = .ok (.aload_n 0, 1) := by decide +kernel
theorem dX7_set_12 : decode cX7_set 12 = .ok (.aload_n 0, 1) := by decide +kernel
theorem dX7_set_13 : decode cX7_set 13 = .ok (.getfield 28, 3) := by decide +kernel
theorem dX7_set_16 : decode cX7_set 16 = .ok (.iload_n 1, 1) := by decide +kernel
theorem dX7_set_17 : decode cX7_set 17 = .ok (.iload_n 2, 1) := by decide +kernel
theorem dX7_set_18 : decode cX7_set 18 = .ok (.invokevirtual 68, 3) := by decide +kernel
theorem dX7_set_21 : decode cX7_set 21 = .ok (.invokevirtual 61, 3) := by decide +kernel
theorem dX7_set_24 : decode cX7_set 24 = .ok (.ireturn, 1) := by decide +kernel
theorem dX7_copy_0 : decode cX7_copy 0 = .ok (.aload_n 0, 1) := by decide +kernel
theorem dX7_copy_1 : decode cX7_copy 1 = .ok (.getfield 42, 3) := by decide +kernel
theorem dX7_copy_4 : decode cX7_copy 4 = .ok (.aload_n 0, 1) := by decide +kernel
theorem dX7_copy_5 : decode cX7_copy 5 = .ok (.getfield 12, 3) := by decide +kernel
theorem dX7_copy_8 : decode cX7_copy 8 = .ok (.invokevirtual 53, 3) := by decide +kernel
theorem dX7_copy_11 : decode cX7_copy 11 = .ok (.aload_n 0, 1) := by decide +kernel
theorem dX7_copy_12 : decode cX7_copy 12 = .ok (.aload_n 0, 1) := by decide +kernel
theorem dX7_copy_13 : decode cX7_copy 13 = .ok (.getfield 28, 3) := by decide +kernel
theorem dX7_copy_16 : decode cX7_copy 16 = .ok (.iload_n 1, 1) := by decide +kernel
theorem dX7_copy_17 : decode cX7_copy 17 = .ok (.iload_n 2, 1) := by decide +kernel
theorem dX7_copy_18 : decode cX7_copy 18 = .ok (.invokevirtual 71, 3) := by decide +kernel
theorem dX7_copy_21 : decode cX7_copy 21 = .ok (.invokevirtual 61, 3) := by decide +kernel
theorem dX7_copy_24 : decode cX7_copy 24 = .ok (.ireturn, 1) := by decide +kernel
theorem dX7_move_0 : decode cX7_move 0 = .ok (.aload_n 0, 1) := by decide +kernel
theorem dX7_move_1 : decode cX7_move 1 = .ok (.getfield 42, 3) := by decide +kernel
theorem dX7_move_4 : decode cX7_move 4 = .ok (.aload_n 0, 1) := by decide +kernel
theorem dX7_move_5 : decode cX7_move 5 = .ok (.getfield 12, 3) := by decide +kernel
theorem dX7_move_8 : decode cX7_move 8 = .ok (.invokevirtual 53, 3) := by decide +kernel
theorem dX7_move_11 : decode cX7_move 11 = .ok (.aload_n 0, 1) := by decide +kernel
theorem dX7_move_12 : decode cX7_move 12 = .ok (.aload_n 0, 1) := by decide +kernel
theorem dX7_move_13 : decode cX7_move 13 = .ok (.getfield 28, 3) := by decide +kernel
theorem dX7_move_16 : decode cX7_move 16 = .ok (.iload_n 1, 1) := by decide +kernel
theorem dX7_move_17 : decode cX7_move 17 = .ok (.iload_n 2, 1) := by decide +kernel
theorem dX7_move_18 : decode cX7_move 18 = .ok (.invokevirtual 74, 3) := by decide +kernel
theorem dX7_move_21 : decode cX7_move 21 = .ok (.invokevirtual 61, 3) := by decide +kernel
theorem dX7_move_24 : decode cX7_move 24 = .ok (.ireturn, 1) := by decide +kernel
theorem dX7_store_0 : decode cX7_store 0 = .ok (.aload_n 0, 1) := by decide +kernel
theorem dX7_store_1 : decode cX7_store 1 = .ok (.getfield 42, 3) := by decide +kernel
theorem dX7_store_4 : decode cX7_store 4 = .ok (.aload_n 0, 1) := by decide +kernel
theorem dX7_store_5 : decode cX7_store 5 = .ok (.getfield 12, 3) := by decide +kernel
theorem dX7_store_8 : decode cX7_store 8 = .ok (.invokevirtual 53, 3) := by decide +kernel
theorem dX7_store_11 : decode cX7_store 11 = .ok (.aload_n 0, 1) := by decide +kernel
theorem dX7_store_12 : decode cX7_store 12 = .ok (.aload_n 0, 1) := by decide +kernel
theorem dX7_store_13 : decode cX7_store 13 = .ok (.getfield 28, 3) := by decide +kernel
theorem dX7_store_16 : decode cX7_store 16 = .ok (.iload_n 1, 1) := by decide +kernel
theorem dX7_store_17 : decode cX7_store 17 = .ok (.iload_n 2, 1) := by decide +kernel
theorem dX7_store_18 : decode cX7_store 18 = .ok (.iload_n 3, 1) := by decide +kernel
theorem dX7_store_19 : decode cX7_store 19 = .ok (.invokevirtual 77, 3) := by decide +kernel
theorem dX7_store_22 : decode cX7_store 22 = .ok (.invokevirtual 61, 3) := by decide +kernel
theorem dX7_store_25 : decode cX7_store 25 = .ok (.ireturn, 1) := by decide +kernel
theorem dX7_load_0 : decode cX7_load 0 = .ok (.aload_n 0, 1) := by decide +kernel
theorem dX7_load_1 : decode cX7_load 1 = .ok (.getfield 42, 3) := by decide +kernel
theorem dX7_load_4 : decode cX7_load 4 = .ok (.aload_n 0, 1) := by decide +kernel
theorem dX7_load_5 : decode cX7_load 5 = .ok (.getfield 12, 3) := by decide +kernel
theorem dX7_load_8 : decode cX7_load 8 = .ok (.invokevirtual 53, 3) := by decide +kernel
theorem dX7_load_11 : decode cX7_load 11 = .ok (.aload_n 0, 1) := by decide +kernel
theorem dX7_load_12 : decode cX7_load 12 = .ok (.aload_n 0, 1) := by decide +kernel
theorem dX7_load_13 : decode cX7_load 13 = .ok (.getfield 28, 3) := by decide +kernel
theorem dX7_load_16 : decode cX7_load 16 = .ok (.iload_n 1, 1) := by decide +kernel
theorem dX7_load_17 : decode cX7_load 17 = .ok (.iload_n 2, 1) := by decide +kernel
theorem dX7_load_18 : decode cX7_load 18 = .ok (.iload_n 3, 1) := by decide +kernel
theorem dX7_load_19 : decode cX7_load 19 = .ok (.invokevirtual 81, 3) := by decide +kernel
theorem dX7_load_22 : decode cX7_load 22 = .ok (.invokevirtual 61, 3) := by decide +kernel
theorem dX7_load_25 : decode cX7_load 25 = .ok (.ireturn, 1) := by decide +kernel
theorem dX7_compare_0 : decode cX7_compare 0 = .ok (.aload_n 0, 1) := by decide +kernel
theorem dX7_compare_1 : decode cX7_compare 1 = .ok (.getfield 49, 3) := by decide +kernel
theorem dX7_compare_4 : decode cX7_compare 4 = .ok (.aload_n 0, 1) := by decide +kernel
theorem dX7_compare_5 : decode cX7_compare 5 = .ok (.getfield 28, 3) := by decide +kernel
theorem dX7_compare_8 : decode cX7_compare 8 = .ok (.iload_n 1, 1) := by decide +kernel
theorem dX7_compare_9 : decode cX7_compare 9 = .ok (.iload_n 2, 1) := by decide +kernel
theorem dX7_compare_10 : decode cX7_compare 10 = .ok (.invokevirtual 84, 3) := by decide +kernel
theorem dX7_compare_13 : decode cX7_compare 13 = .ok (.invokevirtual 87, 3) := by decide +kernel
theorem dX7_compare_16 : decode cX7_compare 16 = .ok (.ireturn, 1) := by decide +kernel
theorem dX7_blit_0 : decode cX7_blit 0 = .ok (.aload_n 0, 1) := by decide +kernel
theorem dX7_blit_1 : decode cX7_blit 1 = .ok (.getfield 42, 3) := by decide +kernel
theorem dX7_blit_4 : decode cX7_blit 4 = .ok (.aload_n 0, 1) := by decide +kernel
theorem dX7_blit_5 : decode cX7_blit 5 = .ok (.getfield 12, 3) := by decide +kernel
theorem dX7_blit_8 : decode cX7_blit 8 = .ok (.invokevirtual 53, 3) := by decide +kernel
theorem dX7_blit_11 : decode cX7_blit 11 = .ok (.aload_n 0, 1) := by decide +kernel
theorem dX7_blit_12 : decode cX7_blit 12 = .ok (.aload_n 0, 1) := by decide +kernel
theorem dX7_blit_13 : decode cX7_blit 13 = .ok (.getfield 28, 3) := by decide +kernel
theorem dX7_blit_16 : decode cX7_blit 16 = .ok (.iload_n 1, 1) := by decide +kernel
theorem dX7_blit_17 : decode cX7_blit 17 = .ok (.iload_n 2, 1) := by decide +kernel
theorem dX7_blit_18 : decode cX7_blit 18 = .ok (.iload_n 3, 1) := by decide +kernel
theorem dX7_blit_19 : decode cX7_blit 19 = .ok (.invokevirtual 90, 3) := by decide +kernel
theorem dX7_blit_22 : decode cX7_blit 22 = .ok (.invokevirtual 61, 3) := by decide +kernel
theorem dX7_blit_25 : decode cX7_blit 25 = .ok (.ireturn, 1) := by decide +kernel
theorem dX7_freeze_0 : decode cX7_freeze 0 = .ok (.aload_n 0, 1) := by decide +kernel
theorem dX7_freeze_1 : decode cX7_freeze 1 = .ok (.getfield 42, 3) := by decide +kernel
theorem dX7_freeze_4 : decode cX7_freeze 4 = .ok (.aload_n 0, 1) := by decide +kernel
theorem dX7_freeze_5 : decode cX7_freeze 5 = .ok (.getfield 12, 3) := by decide +kernel
theorem dX7_freeze_8 : decode cX7_freeze 8 = .ok (.invokevirtual 53, 3) := by decide +kernel
theorem dX7_freeze_11 : decode cX7_freeze 11 = .ok (.aload_n 0, 1) := by decide +kernel
theorem dX7_freeze_12 : decode cX7_freeze 12 = .ok (.aload_n 0, 1) := by decide +kernel
theorem dX7_freeze_13 : decode cX7_freeze 13 = .ok (.getfield 28, 3) := by decide +kernel
theorem dX7_freeze_16 : decode cX7_freeze 16 = .ok (.iload_n 1, 1) := by decide +kernel
theorem dX7_freeze_17 : decode cX7_freeze 17 = .ok (.invokevirtual 93, 3) := by decide +kernel
theorem dX7_freeze_20 : decode cX7_freeze 20 = .ok (.invokevirtual 61, 3) := by decide +kernel
theorem dX7_freeze_23 : decode cX7_freeze 23 = .ok (.ireturn, 1) := by decide +kernel
theorem dX7_forget_0 : decode cX7_forget 0 = .ok (.aload_n 0, 1) := by decide +kernel
theorem dX7_forget_1 : decode cX7_forget 1 = .ok (.getfield 42, 3) := by decide +kernel
theorem dX7_forget_4 : decode cX7_forget 4 = .ok (.aload_n 0, 1) := by decide +kernel
theorem dX7_forget_5 : decode cX7_forget 5 = .ok (.getfield 12, 3) := by decide +kernel
theorem dX7_forget_8 : decode cX7_forget 8 = .ok (.invokevirtual 53, 3) := by decide +kernel
theorem dX7_forget_11 : decode cX7_forget 11 = .ok (.aload_n 0, 1) := by decide +kernel
theorem dX7_forget_12 : decode cX7_forget 12 = .ok (.aload_n 0, 1) := by decide +kernel
theorem dX7_forget_13 : decode cX7_forget 13 = .ok (.getfield 28, 3) := by decide +kernel
theorem dX7_forget_16 : decode cX7_forget 16 = .ok (.iload_n 1, 1) := by decide +kernel
theorem dX7_forget_17 : decode cX7_forget 17 = .ok (.invokevirtual 96, 3) := by decide +kernel
theorem dX7_forget_20 : decode cX7_forget 20 = .ok (.invokevirtual 61, 3) := by decide +kernel
theorem dX7_forget_23 : decode cX7_forget 23 = .ok (.ireturn, 1) := by decide +kernel
theorem dX7_budget_0 : decode cX7_budget 0 = .ok (.aload_n 0, 1) := by decide +kernel
theorem dX7_budget_1 : decode cX7_budget 1 = .ok (.getfield 42, 3) := by decide +kernel
theorem dX7_budget_4 : decode cX7_budget 4 = .ok (.aload_n 0, 1) := by decide +kernel
theorem dX7_budget_5 : decode cX7_budget 5 = .ok (.getfield 12, 3) := by decide +kernel
theorem dX7_budget_8 : decode cX7_budget 8 = .ok (.invokevirtual 53, 3) := by decide +kernel
theorem dX7_budget_11 : decode cX7_budget 11 = .ok (.aload_n 0, 1) := by decide +kernel
theorem dX7_budget_12 : decode cX7_budget 12 = .ok (.aload_n 0, 1) := by decide +kernel
theorem dX7_budget_13 : decode cX7_budget 13 = .ok (.getfield 28, 3) := by decide +kernel
theorem dX7_budget_16 : decode cX7_budget 16 = .ok (.iload_n 1, 1) := by decide +kernel
theorem dX7_budget_17 : decode cX7_budget 17 = .ok (.invokevirtual 99, 3) := by decide +kernel
theorem dX7_budget_20 : decode cX7_budget 20 = .ok (.invokevirtual 61, 3) := by decide +kernel
theorem dX7_budget_23 : decode cX7_budget 23 = .ok (.ireturn, 1) := by decide +kernel
theorem dX7_register_0 : decode cX7_register 0 = .ok (.aload_n 0, 1) := by decide +kernel
theorem dX7_register_1 : decode cX7_register 1 = .ok (.getfield 49, 3) := by decide +kernel
theorem dX7_register_4 : decode cX7_register 4 = .ok (.aload_n 0, 1) := by decide +kernel
theorem dX7_register_5 : decode cX7_register 5 = .ok (.getfield 12, 3) := by decide +kernel
theorem dX7_register_8 : decode cX7_register 8 = .ok (.iload_n 1, 1) := by decide +kernel
theorem dX7_register_9 : decode cX7_register 9 = .ok (.iload_n 2, 1) := by decide +kernel
theorem dX7_register_10 : decode cX7_register 10 = .ok (.invokevirtual 102, 3) := by decide +kernel
theorem dX7_register_13 : decode cX7_register 13 = .ok (.invokevirtual 87, 3) := by decide +kernel
theorem dX7_register_16 : decode cX7_register 16 = .ok (.ireturn, 1) := by decide +kernel
theorem dX7_piece_0 : decode cX7_piece 0 = .ok (.aload_n 0, 1) := by decide +kernel
theorem dX7_piece_1 : decode cX7_piece 1 = .ok (.getfield 12, 3) := by decide +kernel
theorem dX7_piece_4 : decode cX7_piece 4 = .ok (.iload_n 1, 1) := by decide +kernel
theorem dX7_piece_5 : decode cX7_piece 5 = .ok (.invokevirtual 105, 3) := by decide +kernel
theorem dX7_piece_8 : decode cX7_piece 8 = .ok (.ifCond .eq 21, 3) := by decide +kernel
theorem dX7_piece_11 : decode cX7_piece 11 = .ok (.iload_n 2, 1) := by decide +kernel
theorem dX7_piece_12 : decode cX7_piece 12 = .ok (.iconst 5, 1) := by decide +kernel
theorem dX7_piece_13 : decode cX7_piece 13 = .ok (.if_icmp .ne 16, 3) := by decide +kernel
theorem dX7_piece_16 : decode cX7_piece 16 = .ok (.aload_n 0, 1) := by decide +kernel
theorem dX7_piece_17 : decode cX7_piece 17 = .ok (.getfield 19, 3) := by decide +kernel
theorem dX7_piece_20 : decode cX7_piece 20 = .ok (.aload_n 0, 1) := by decide +kernel
theorem dX7_piece_21 : decode cX7_piece 21 = .ok (.getfield 12, 3) := by decide +kernel
theorem dX7_piece_24 : decode cX7_piece 24 = .ok (.iload_n 1, 1) := by decide +kernel
theorem dX7_piece_25 : decode cX7_piece 25 = .ok (.invokevirtual 109, 3) := by decide +kernel
theorem dX7_piece_28 : decode cX7_piece 28 = .ok (.ireturn, 1) := by decide +kernel
theorem dX7_piece_29 : decode cX7_piece 29 = .ok (.aload_n 0, 1) := by decide +kernel
theorem dX7_piece_30 : decode cX7_piece 30 = .ok (.getfield 49, 3) := by decide +kernel
theorem dX7_piece_33 : decode cX7_piece 33 = .ok (.aload_n 0, 1) := by decide +kernel
theorem dX7_piece_34 : decode cX7_piece 34 = .ok (.getfield 12, 3) := by decide +kernel
theorem dX7_piece_37 : decode cX7_piece 37 = .ok (.iload_n 1, 1) := by decide +kernel
theorem dX7_piece_38 : decode cX7_piece 38 = .ok (.iload_n 2, 1) := by decide +kernel
theorem dX7_piece_39 : decode cX7_piece 39 = .ok (.invokevirtual 113, 3) := by decide +kernel
theorem dX7_piece_42 : decode cX7_piece 42 = .ok (.invokevirtual 87, 3) := by decide +kernel
theorem dX7_piece_45 : decode cX7_piece 45 = .ok (.ireturn, 1) := by decide +kernel
theorem dX7_at_0 : decode cX7_at 0 = .ok (.aload_n 0, 1) := by decide +kernel
theorem dX7_at_1 : decode cX7_at 1 = .ok (.getfield 12, 3) := by decide +kernel
theorem dX7_at_4 : decode cX7_at 4 = .ok (.iload_n 1, 1) := by decide +kernel
theorem dX7_at_5 : decode cX7_at 5 = .ok (.invokevirtual 105, 3) := by decide +kernel
theorem dX7_at_8 : decode cX7_at 8 = .ok (.ifCond .eq 23, 3) := by decide +kernel
theorem dX7_at_11 : decode cX7_at 11 = .ok (.iload_n 2, 1) := by decide +kernel
theorem dX7_at_12 : decode cX7_at 12 = .ok (.ifCond .lt 19, 3) := by decide +kernel
theorem dX7_at_15 : decode cX7_at 15 = .ok (.iload_n 2, 1) := by decide +kernel
theorem dX7_at_16 : decode cX7_at 16 = .ok (.aload_n 0, 1) := by decide +kernel
theorem dX7_at_17 : decode cX7_at 17 = .ok (.getfield 12, 3) := by decide +kernel
theorem dX7_at_20 : decode cX7_at 20 = .ok (.iload_n 1, 1) := by decide +kernel
theorem dX7_at_21 : decode cX7_at 21 = .ok (.invokevirtual 116, 3) := by decide +kernel
theorem dX7_at_24 : decode cX7_at 24 = .ok (.if_icmp .ge 7, 3) := by decide +kernel
theorem dX7_at_27 : decode cX7_at 27 = .ok (.iconst 1, 1) := by decide +kernel
theorem dX7_at_28 : decode cX7_at 28 = .ok (.goto 4, 3) := by decide +kernel
theorem dX7_at_31 : decode cX7_at 31 = .ok (.iconst 0, 1) := by decide +kernel
theorem dX7_at_32 : decode cX7_at 32 = .ok (.istore_n 3, 1) := by decide +kernel
theorem dX7_at_33 : decode cX7_at 33 = .ok (.aload_n 0, 1) := by decide +kernel
theorem dX7_at_34 : decode cX7_at 34 = .ok (.getfield 49, 3) := by decide +kernel
theorem dX7_at_37 : decode cX7_at 37 = .ok (.iload_n 3, 1) := by decide +kernel
theorem dX7_at_38 : decode cX7_at 38 = .ok (.ifCond .eq 15, 3) := by decide +kernel
theorem dX7_at_41 : decode cX7_at 41 = .ok (.aload_n 0, 1) := by decide +kernel
theorem dX7_at_42 : decode cX7_at 42 = .ok (.getfield 12, 3) := by decide +kernel
theorem dX7_at_45 : decode cX7_at 45 = .ok (.iload_n 1, 1) := by decide +kernel
theorem dX7_at_46 : decode cX7_at 46 = .ok (.iload_n 2, 1) := by decide +kernel
theorem dX7_at_47 : decode cX7_at 47 = .ok (.invokevirtual 119, 3) := by decide +kernel
theorem dX7_at_50 : decode cX7_at 50 = .ok (.goto 5, 3) := by decide +kernel
theorem dX7_at_53 : decode cX7_at 53 = .ok (.bipush (-2), 2) := by decide +kernel
theorem dX7_at_55 : decode cX7_at 55 = .ok (.invokevirtual 87, 3) := by decide +kernel
theorem dX7_at_58 : decode cX7_at 58 = .ok (.ireturn, 1) := by decide +kernel
theorem dX7_image_0 : decode cX7_image 0 = .ok (.aload_n 0, 1) := by decide +kernel
theorem dX7_image_1 : decode cX7_image 1 = .ok (.getfield 49, 3) := by decide +kernel
theorem dX7_image_4 : decode cX7_image 4 = .ok (.aload_n 0, 1) := by decide +kernel
theorem dX7_image_5 : decode cX7_image 5 = .ok (.getfield 12, 3) := by decide +kernel
theorem dX7_image_8 : decode cX7_image 8 = .ok (.iload_n 1, 1) := by decide +kernel
theorem dX7_image_9 : decode cX7_image 9 = .ok (.invokevirtual 122, 3) := by decide +kernel
theorem dX7_image_12 : decode cX7_image 12 = .ok (.ifCond .eq 18, 3) := by decide +kernel
theorem dX7_image_15 : decode cX7_image 15 = .ok (.aload_n 0, 1) := by decide +kernel
theorem dX7_image_16 : decode cX7_image 16 = .ok (.getfield 19, 3) := by decide +kernel
theorem dX7_image_19 : decode cX7_image 19 = .ok (.iload_n 1, 1) := by decide +kernel
theorem dX7_image_20 : decode cX7_image 20 = .ok (.invokevirtual 125, 3) := by decide +kernel
theorem dX7_image_23 : decode cX7_image 23 = .ok (.iload_n 2, 1) := by decide +kernel
theorem dX7_image_24 : decode cX7_image 24 = .ok (.invokevirtual 129, 3) := by decide +kernel
theorem dX7_image_27 : decode cX7_image 27 = .ok (.goto 5, 3) := by decide +kernel
theorem dX7_image_30 : decode cX7_image 30 = .ok (.bipush (-2), 2) := by decide +kernel
theorem dX7_image_32 : decode cX7_image 32 = .ok (.invokevirtual 87, 3) := by decide +kernel
theorem dX7_image_35 : decode cX7_image 35 = .ok (.ireturn, 1) := by decide +kernel
theorem dX7_imaged_0 : decode cX7_imaged 0 = .ok (.aload_n 0, 1) := by decide +kernel
theorem dX7_imaged_1 : decode cX7_imaged 1 = .ok (.getfield 12, 3) := by decide +kernel
theorem dX7_imaged_4 : decode cX7_imaged 4 = .ok (.iload_n 1, 1) := by decide +kernel
theorem dX7_imaged_5 : decode cX7_imaged 5 = .ok (.invokevirtual 122, 3) := by decide +kernel
theorem dX7_imaged_8 : decode cX7_imaged 8 = .ok (.ifCond .eq 7, 3) := by decide +kernel
theorem dX7_imaged_11 : decode cX7_imaged 11 = .ok (.iload_n 3, 1) := by decide +kernel
theorem dX7_imaged_12 : decode cX7_imaged 12 = .ok (.ifCond .ge 13, 3) := by decide +kernel
theorem dX7_imaged_15 : decode cX7_imaged 15 = .ok (.aload_n 0, 1) := by decide +kernel
theorem dX7_imaged_16 : decode cX7_imaged 16 = .ok (.getfield 49, 3) := by decide +kernel
theorem dX7_imaged_19 : decode cX7_imaged 19 = .ok (.bipush (-2), 2) := by decide +kernel
theorem dX7_imaged_21 : decode cX7_imaged 21 = .ok (.invokevirtual 87, 3) := by decide +kernel
theorem dX7_imaged_24 : decode cX7_imaged 24 = .ok (.ireturn, 1) := by decide +kernel
theorem dX7_imaged_25 : decode cX7_imaged 25 = .ok (.aload_n 0, 1) := by decide +kernel
theorem dX7_imaged_26 : decode cX7_imaged 26 = .ok (.getfield 19, 3) := by decide +kernel
theorem dX7_imaged_29 : decode cX7_imaged 29 = .ok (.iload_n 1, 1) := by decide +kernel
theorem dX7_imaged_30 : decode cX7_imaged 30 = .ok (.invokevirtual 125, 3) := by decide +kernel
theorem dX7_imaged_33 : decode cX7_imaged 33 = .ok (.astore 4, 2) := by decide +kernel
theorem dX7_imaged_35 : decode cX7_imaged 35 = .ok (.aload 4, 2) := by decide +kernel
theorem dX7_imaged_37 : decode cX7_imaged 37 = .ok (.iload_n 2, 1) := by decide +kernel
theorem dX7_imaged_38 : decode cX7_imaged 38 = .ok (.invokevirtual 134, 3) := by decide +kernel
theorem dX7_imaged_41 : decode cX7_imaged 41 = .ok (.ifCond .ne 13, 3) := by decide +kernel
theorem dX7_imaged_44 : decode cX7_imaged 44 = .ok (.aload_n 0, 1) := by decide +kernel
theorem dX7_imaged_45 : decode cX7_imaged 45 = .ok (.getfield 49, 3) := by decide +kernel
theorem dX7_imaged_48 : decode cX7_imaged 48 = .ok (.bipush (-2), 2) := by decide +kernel
theorem dX7_imaged_50 : decode cX7_imaged 50 = .ok (.invokevirtual 87, 3) := by decide +kernel
theorem dX7_imaged_53 : decode cX7_imaged 53 = .ok (.ireturn, 1) := by decide +kernel
theorem dX7_imaged_54 : decode cX7_imaged 54 = .ok (.iload_n 3, 1) := by decide +kernel
theorem dX7_imaged_55 : decode cX7_imaged 55 = .ok (.aload 4, 2) := by decide +kernel
theorem dX7_imaged_57 : decode cX7_imaged 57 = .ok (.iload_n 2, 1) := by decide +kernel
theorem dX7_imaged_58 : decode cX7_imaged 58 = .ok (.invokevirtual 137, 3) := by decide +kernel
theorem dX7_imaged_61 : decode cX7_imaged 61 = .ok (.if_icmp .ge 13, 3) := by decide +kernel
theorem dX7_imaged_64 : decode cX7_imaged 64 = .ok (.aload 4, 2) := by decide +kernel
theorem dX7_imaged_66 : decode cX7_imaged 66 = .ok (.iload_n 2, 1) := by decide +kernel
theorem dX7_imaged_67 : decode cX7_imaged 67 = .ok (.iload_n 3, 1) := by decide +kernel
theorem dX7_imaged_68 : decode cX7_imaged 68 = .ok (.invokevirtual 138, 3) := by decide +kernel
theorem dX7_imaged_71 : decode cX7_imaged 71 = .ok (.goto 5, 3) := by decide +kernel
theorem dX7_imaged_74 : decode cX7_imaged 74 = .ok (.bipush (-5), 2) := by decide +kernel
theorem dX7_imaged_76 : decode cX7_imaged 76 = .ok (.ireturn, 1) := by decide +kernel
theorem dX7_like_0 : decode cX7_like 0 = .ok (.aload_n 0, 1) := by decide +kernel
theorem dX7_like_1 : decode cX7_like 1 = .ok (.getfield 12, 3) := by decide +kernel
theorem dX7_like_4 : decode cX7_like 4 = .ok (.iload_n 1, 1) := by decide +kernel
theorem dX7_like_5 : decode cX7_like 5 = .ok (.invokevirtual 105, 3) := by decide +kernel
theorem dX7_like_8 : decode cX7_like 8 = .ok (.ifCond .ne 13, 3) := by decide +kernel
theorem dX7_like_11 : decode cX7_like 11 = .ok (.aload_n 0, 1) := by decide +kernel
theorem dX7_like_12 : decode cX7_like 12 = .ok (.getfield 49, 3) := by decide +kernel
theorem dX7_like_15 : decode cX7_like 15 = .ok (.bipush (-2), 2) := by decide +kernel
theorem dX7_like_17 : decode cX7_like 17 = .ok (.invokevirtual 87, 3) := by decide +kernel
theorem dX7_like_20 : decode cX7_like 20 = .ok (.ireturn, 1) := by decide +kernel
theorem dX7_like_21 : decode cX7_like 21 = .ok (.aload_n 0, 1) := by decide +kernel
theorem dX7_like_22 : decode cX7_like 22 = .ok (.getfield 19, 3) := by decide +kernel
theorem dX7_like_25 : decode cX7_like 25 = .ok (.aload_n 0, 1) := by decide +kernel
theorem dX7_like_26 : decode cX7_like 26 = .ok (.getfield 12, 3) := by decide +kernel
theorem dX7_like_29 : decode cX7_like 29 = .ok (.iload_n 1, 1) := by decide +kernel
theorem dX7_like_30 : decode cX7_like 30 = .ok (.invokevirtual 109, 3) := by decide +kernel
theorem dX7_like_33 : decode cX7_like 33 = .ok (.pop, 1) := by decide +kernel
theorem dX7_like_34 : decode cX7_like 34 = .ok (.aload_n 0, 1) := by decide +kernel
theorem dX7_like_35 : decode cX7_like 35 = .ok (.getfield 19, 3) := by decide +kernel
theorem dX7_like_38 : decode cX7_like 38 = .ok (.aload_n 0, 1) := by decide +kernel
theorem dX7_like_39 : decode cX7_like 39 = .ok (.getfield 12, 3) := by decide +kernel
theorem dX7_like_42 : decode cX7_like 42 = .ok (.invokevirtual 139, 3) := by decide +kernel
theorem dX7_like_45 : decode cX7_like 45 = .ok (.ifCond .ne 13, 3) := by decide +kernel
theorem dX7_like_48 : decode cX7_like 48 = .ok (.aload_n 0, 1) := by decide +kernel
theorem dX7_like_49 : decode cX7_like 49 = .ok (.getfield 49, 3) := by decide +kernel
theorem dX7_like_52 : decode cX7_like 52 = .ok (.bipush (-3), 2) := by decide +kernel
theorem dX7_like_54 : decode cX7_like 54 = .ok (.invokevirtual 87, 3) := by decide +kernel
theorem dX7_like_57 : decode cX7_like 57 = .ok (.ireturn, 1) := by decide +kernel
theorem dX7_like_58 : decode cX7_like 58 = .ok (.aload_n 0, 1) := by decide +kernel
theorem dX7_like_59 : decode cX7_like 59 = .ok (.getfield 19, 3) := by decide +kernel
theorem dX7_like_62 : decode cX7_like 62 = .ok (.aload_n 0, 1) := by decide +kernel
theorem dX7_like_63 : decode cX7_like 63 = .ok (.getfield 12, 3) := by decide +kernel
theorem dX7_like_66 : decode cX7_like 66 = .ok (.invokevirtual 143, 3) := by decide +kernel
theorem dX7_like_69 : decode cX7_like 69 = .ok (.aload_n 0, 1) := by decide +kernel
theorem dX7_like_70 : decode cX7_like 70 = .ok (.getfield 19, 3) := by decide +kernel
theorem dX7_like_73 : decode cX7_like 73 = .ok (.aload_n 0, 1) := by decide +kernel
theorem dX7_like_74 : decode cX7_like 74 = .ok (.getfield 12, 3) := by decide +kernel
theorem dX7_like_77 : decode cX7_like 77 = .ok (.invokevirtual 146, 3) := by decide +kernel
theorem dX7_like_80 : decode cX7_like 80 = .ok (.istore_n 2, 1) := by decide +kernel
theorem dX7_like_81 : decode cX7_like 81 = .ok (.iload_n 2, 1) := by decide +kernel
theorem dX7_like_82 : decode cX7_like 82 = .ok (.aload_n 0, 1) := by decide +kernel
theorem dX7_like_83 : decode cX7_like 83 = .ok (.getfield 12, 3) := by decide +kernel
theorem dX7_like_86 : decode cX7_like 86 = .ok (.getfield 150, 3) := by decide +kernel
theorem dX7_like_89 : decode cX7_like 89 = .ok (.if_icmp .ge 7, 3) := by decide +kernel
theorem dX7_like_92 : decode cX7_like 92 = .ok (.iload_n 2, 1) := by decide +kernel
theorem dX7_like_93 : decode cX7_like 93 = .ok (.goto 4, 3) := by decide +kernel
theorem dX7_like_96 : decode cX7_like 96 = .ok (.iconst (-1), 1) := by decide +kernel
theorem dX7_like_97 : decode cX7_like 97 = .ok (.ireturn, 1) := by decide +kernel
theorem dX7_count_0 : decode cX7_count 0 = .ok (.aload_n 0, 1) := by decide +kernel
theorem dX7_count_1 : decode cX7_count 1 = .ok (.getfield 49, 3) := by decide +kernel
theorem dX7_count_4 : decode cX7_count 4 = .ok (.aload_n 0, 1) := by decide +kernel
theorem dX7_count_5 : decode cX7_count 5 = .ok (.iload_n 1, 1) := by decide +kernel
theorem dX7_count_6 : decode cX7_count 6 = .ok (.invokevirtual 154, 3) := by decide +kernel
theorem dX7_count_9 : decode cX7_count 9 = .ok (.invokevirtual 87, 3) := by decide +kernel
theorem dX7_count_12 : decode cX7_count 12 = .ok (.ireturn, 1) := by decide +kernel
theorem dX7_undefined_0 : decode cX7_undefined 0 = .ok (.aload_n 0, 1) := by decide +kernel
theorem dX7_undefined_1 : decode cX7_undefined 1 = .ok (.getfield 49, 3) := by decide +kernel
theorem dX7_undefined_4 : decode cX7_undefined 4 = .ok (.aload_n 0, 1) := by decide +kernel
theorem dX7_undefined_5 : decode cX7_undefined 5 = .ok (.getfield 49, 3) := by decide +kernel
theorem dX7_undefined_8 : decode cX7_undefined 8 = .ok (.iload_n 1, 1) := by decide +kernel
theorem dX7_undefined_9 : decode cX7_undefined 9 = .ok (.invokevirtual 157, 3) := by decide +kernel
theorem dX7_undefined_12 : decode cX7_undefined 12 = .ok (.invokevirtual 87, 3) := by decide +kernel
theorem dX7_undefined_15 : decode cX7_undefined 15 = .ok (.ireturn, 1) := by decide +kernel
theorem dX7_type_0 : decode cX7_type 0 = .ok (.aload_n 0, 1) := by decide +kernel
theorem dX7_type_1 : decode cX7_type 1 = .ok (.getfield 49, 3) := by decide +kernel
theorem dX7_type_4 : decode cX7_type 4 = .ok (.aload_n 0, 1) := by decide +kernel
theorem dX7_type_5 : decode cX7_type 5 = .ok (.getfield 35, 3) := by decide +kernel
theorem dX7_type_8 : decode cX7_type 8 = .ok (.iload_n 1, 1) := by decide +kernel
theorem dX7_type_9 : decode cX7_type 9 = .ok (.invokevirtual 160, 3) := by decide +kernel
theorem dX7_type_12 : decode cX7_type 12 = .ok (.invokevirtual 87, 3) := by decide +kernel
theorem dX7_type_15 : decode cX7_type 15 = .ok (.ireturn, 1) := by decide +kernel
theorem dX7_clear_0 : decode cX7_clear 0 = .ok (.aload_n 0, 1) := by decide +kernel
theorem dX7_clear_1 : decode cX7_clear 1 = .ok (.getfield 35, 3) := by decide +kernel
theorem dX7_clear_4 : decode cX7_clear 4 = .ok (.invokevirtual 163, 3) := by decide +kernel
theorem dX7_clear_7 : decode cX7_clear 7 = .ok (.ireturn, 1) := by decide +kernel
theorem dX7_does_0 : decode cX7_does 0 = .ok (.aload_n 0, 1) := by decide +kernel
theorem dX7_does_1 : decode cX7_does 1 = .ok (.getfield 35, 3) := by decide +kernel
theorem dX7_does_4 : decode cX7_does 4 = .ok (.invokevirtual 167, 3) := by decide +kernel
theorem dX7_does_7 : decode cX7_does 7 = .ok (.istore_n 1, 1) := by decide +kernel
theorem dX7_does_8 : decode cX7_does 8 = .ok (.iload_n 1, 1) := by decide +kernel
theorem dX7_does_9 : decode cX7_does 9 = .ok (.ifCond .lt 8, 3) := by decide +kernel
theorem dX7_does_12 : decode cX7_does 12 = .ok (.bipush (-10), 2) := by decide +kernel
theorem dX7_does_14 : decode cX7_does 14 = .ok (.iload_n 1, 1) := by decide +kernel
theorem dX7_does_15 : decode cX7_does 15 = .ok (.isub, 1) := by decide +kernel
theorem dX7_does_16 : decode cX7_does 16 = .ok (.ireturn, 1) := by decide +kernel
theorem dX7_does_17 : decode cX7_does 17 = .ok (.aload_n 0, 1) := by decide +kernel
theorem dX7_does_18 : decode cX7_does 18 = .ok (.getfield 42, 3) := by decide +kernel
theorem dX7_does_21 : decode cX7_does 21 = .ok (.aload_n 0, 1) := by decide +kernel
theorem dX7_does_22 : decode cX7_does 22 = .ok (.getfield 12, 3) := by decide +kernel
theorem dX7_does_25 : decode cX7_does 25 = .ok (.invokevirtual 53, 3) := by decide +kernel
theorem dX7_does_28 : decode cX7_does 28 = .ok (.aload_n 0, 1) := by decide +kernel
theorem dX7_does_29 : decode cX7_does 29 = .ok (.getfield 35, 3) := by decide +kernel
theorem dX7_does_32 : decode cX7_does 32 = .ok (.aload_n 0, 1) := by decide +kernel
theorem dX7_does_33 : decode cX7_does 33 = .ok (.getfield 28, 3) := by decide +kernel
theorem dX7_does_36 : decode cX7_does 36 = .ok (.aload_n 0, 1) := by decide +kernel
theorem dX7_does_37 : decode cX7_does 37 = .ok (.getfield 12, 3) := by decide +kernel
theorem dX7_does_40 : decode cX7_does 40 = .ok (.getfield 170, 3) := by decide +kernel
theorem dX7_does_43 : decode cX7_does 43 = .ok (.invokevirtual 173, 3) := by decide +kernel
theorem dX7_does_46 : decode cX7_does 46 = .ok (.istore_n 2, 1) := by decide +kernel
theorem dX7_does_47 : decode cX7_does 47 = .ok (.iload_n 2, 1) := by decide +kernel
theorem dX7_does_48 : decode cX7_does 48 = .ok (.ifCond .lt 13, 3) := by decide +kernel
theorem dX7_does_51 : decode cX7_does 51 = .ok (.aload_n 0, 1) := by decide +kernel
theorem dX7_does_52 : decode cX7_does 52 = .ok (.getfield 42, 3) := by decide +kernel
theorem dX7_does_55 : decode cX7_does 55 = .ok (.invokevirtual 177, 3) := by decide +kernel
theorem dX7_does_58 : decode cX7_does 58 = .ok (.goto 14, 3) := by decide +kernel
theorem dX7_does_61 : decode cX7_does 61 = .ok (.aload_n 0, 1) := by decide +kernel
theorem dX7_does_62 : decode cX7_does 62 = .ok (.getfield 42, 3) := by decide +kernel
theorem dX7_does_65 : decode cX7_does 65 = .ok (.aload_n 0, 1) := by decide +kernel
theorem dX7_does_66 : decode cX7_does 66 = .ok (.getfield 12, 3) := by decide +kernel
theorem dX7_does_69 : decode cX7_does 69 = .ok (.invokevirtual 180, 3) := by decide +kernel
theorem dX7_does_72 : decode cX7_does 72 = .ok (.iload_n 2, 1) := by decide +kernel
theorem dX7_does_73 : decode cX7_does 73 = .ok (.ireturn, 1) := by decide +kernel
theorem dX7_back_0 : decode cX7_back 0 = .ok (.aload_n 0, 1) := by decide +kernel
theorem dX7_back_1 : decode cX7_back 1 = .ok (.getfield 49, 3) := by decide +kernel
theorem dX7_back_4 : decode cX7_back 4 = .ok (.aload_n 0, 1) := by decide +kernel
theorem dX7_back_5 : decode cX7_back 5 = .ok (.getfield 42, 3) := by decide +kernel
theorem dX7_back_8 : decode cX7_back 8 = .ok (.aload_n 0, 1) := by decide +kernel
theorem dX7_back_9 : decode cX7_back 9 = .ok (.getfield 12, 3) := by decide +kernel
theorem dX7_back_12 : decode cX7_back 12 = .ok (.invokevirtual 183, 3) := by decide +kernel
theorem dX7_back_15 : decode cX7_back 15 = .ok (.invokevirtual 87, 3) := by decide +kernel
theorem dX7_back_18 : decode cX7_back 18 = .ok (.ireturn, 1) := by decide +kernel
theorem dX7_digest_0 : decode cX7_digest 0 = .ok (.ldc2_w 186, 3) := by decide +kernel
theorem dX7_digest_3 : decode cX7_digest 3 = .ok (.lstore_n 1, 1) := by decide +kernel
theorem dX7_digest_4 : decode cX7_digest 4 = .ok (.iconst 0, 1) := by decide +kernel
theorem dX7_digest_5 : decode cX7_digest 5 = .ok (.istore_n 3, 1) := by decide +kernel
theorem dX7_digest_6 : decode cX7_digest 6 = .ok (.iload_n 3, 1) := by decide +kernel
theorem dX7_digest_7 : decode cX7_digest 7 = .ok (.bipush 9, 2) := by decide +kernel
theorem dX7_digest_9 : decode cX7_digest 9 = .ok (.if_icmp .gt 19, 3) := by decide +kernel
theorem dX7_digest_12 : decode cX7_digest 12 = .ok (.lload_n 1, 1) := by decide +kernel
theorem dX7_digest_13 : decode cX7_digest 13 = .ok (.aload_n 0, 1) := by decide +kernel
theorem dX7_digest_14 : decode cX7_digest 14 = .ok (.iload_n 3, 1) := by decide +kernel
theorem dX7_digest_15 : decode cX7_digest 15 = .ok (.invokevirtual 154, 3) := by decide +kernel
theorem dX7_digest_18 : decode cX7_digest 18 = .ok (.invokestatic 188, 3) := by decide +kernel
theorem dX7_digest_21 : decode cX7_digest 21 = .ok (.lstore_n 1, 1) := by decide +kernel
theorem dX7_digest_22 : decode cX7_digest 22 = .ok (.iinc 3 1, 3) := by decide +kernel
theorem dX7_digest_25 : decode cX7_digest 25 = .ok (.goto (-19), 3) := by decide +kernel
theorem dX7_digest_28 : decode cX7_digest 28 = .ok (.iconst 1, 1) := by decide +kernel
theorem dX7_digest_29 : decode cX7_digest 29 = .ok (.istore_n 3, 1) := by decide +kernel
theorem dX7_digest_30 : decode cX7_digest 30 = .ok (.iload_n 3, 1) := by decide +kernel
theorem dX7_digest_31 : decode cX7_digest 31 = .ok (.bipush 9, 2) := by decide +kernel
theorem dX7_digest_33 : decode cX7_digest 33 = .ok (.if_icmp .gt 22, 3) := by decide +kernel
theorem dX7_digest_36 : decode cX7_digest 36 = .ok (.lload_n 1, 1) := by decide +kernel
theorem dX7_digest_37 : decode cX7_digest 37 = .ok (.aload_n 0, 1) := by decide +kernel
theorem dX7_digest_38 : decode cX7_digest 38 = .ok (.getfield 49, 3) := by decide +kernel
theorem dX7_digest_41 : decode cX7_digest 41 = .ok (.iload_n 3, 1) := by decide +kernel
theorem dX7_digest_42 : decode cX7_digest 42 = .ok (.invokevirtual 157, 3) := by decide +kernel
theorem dX7_digest_45 : decode cX7_digest 45 = .ok (.invokestatic 188, 3) := by decide +kernel
theorem dX7_digest_48 : decode cX7_digest 48 = .ok (.lstore_n 1, 1) := by decide +kernel
theorem dX7_digest_49 : decode cX7_digest 49 = .ok (.iinc 3 1, 3) := by decide +kernel
theorem dX7_digest_52 : decode cX7_digest 52 = .ok (.goto (-22), 3) := by decide +kernel
theorem dX7_digest_55 : decode cX7_digest 55 = .ok (.iconst 0, 1) := by decide +kernel
theorem dX7_digest_56 : decode cX7_digest 56 = .ok (.istore_n 3, 1) := by decide +kernel
theorem dX7_digest_57 : decode cX7_digest 57 = .ok (.iload_n 3, 1) := by decide +kernel
theorem dX7_digest_58 : decode cX7_digest 58 = .ok (.bipush 6, 2) := by decide +kernel
theorem dX7_digest_60 : decode cX7_digest 60 = .ok (.if_icmp .ge 39, 3) := by decide +kernel
theorem dX7_digest_63 : decode cX7_digest 63 = .ok (.iconst 0, 1) := by decide +kernel
theorem dX7_digest_64 : decode cX7_digest 64 = .ok (.istore 4, 2) := by decide +kernel
theorem dX7_digest_66 : decode cX7_digest 66 = .ok (.iload 4, 2) := by decide +kernel
theorem dX7_digest_68 : decode cX7_digest 68 = .ok (.iconst 2, 1) := by decide +kernel
theorem dX7_digest_69 : decode cX7_digest 69 = .ok (.if_icmp .gt 24, 3) := by decide +kernel
theorem dX7_digest_72 : decode cX7_digest 72 = .ok (.lload_n 1, 1) := by decide +kernel
theorem dX7_digest_73 : decode cX7_digest 73 = .ok (.aload_n 0, 1) := by decide +kernel
theorem dX7_digest_74 : decode cX7_digest 74 = .ok (.getfield 12, 3) := by decide +kernel
theorem dX7_digest_77 : decode cX7_digest 77 = .ok (.iload_n 3, 1) := by decide +kernel
theorem dX7_digest_78 : decode cX7_digest 78 = .ok (.iload 4, 2) := by decide +kernel
theorem dX7_digest_80 : decode cX7_digest 80 = .ok (.invokevirtual 102, 3) := by decide +kernel
theorem dX7_digest_83 : decode cX7_digest 83 = .ok (.invokestatic 188, 3) := by decide +kernel
theorem dX7_digest_86 : decode cX7_digest 86 = .ok (.lstore_n 1, 1) := by decide +kernel
theorem dX7_digest_87 : decode cX7_digest 87 = .ok (.iinc 4 1, 3) := by decide +kernel
theorem dX7_digest_90 : decode cX7_digest 90 = .ok (.goto (-24), 3) := by decide +kernel
theorem dX7_digest_93 : decode cX7_digest 93 = .ok (.iinc 3 1, 3) := by decide +kernel
theorem dX7_digest_96 : decode cX7_digest 96 = .ok (.goto (-39), 3) := by decide +kernel
theorem dX7_digest_99 : decode cX7_digest 99 = .ok (.iconst 0, 1) := by decide +kernel
theorem dX7_digest_100 : decode cX7_digest 100 = .ok (.istore_n 3, 1) := by decide +kernel
theorem dX7_digest_101 : decode cX7_digest 101 = .ok (.iload_n 3, 1) := by decide +kernel
theorem dX7_digest_102 : decode cX7_digest 102 = .ok (.aload_n 0, 1) := by decide +kernel
theorem dX7_digest_103 : decode cX7_digest 103 = .ok (.getfield 12, 3) := by decide +kernel
theorem dX7_digest_106 : decode cX7_digest 106 = .ok (.getfield 192, 3) := by decide +kernel
theorem dX7_digest_109 : decode cX7_digest 109 = .ok (.if_icmp .ge 16, 3) := by decide +kernel
theorem dX7_digest_112 : decode cX7_digest 112 = .ok (.aload_n 0, 1) := by decide +kernel
theorem dX7_digest_113 : decode cX7_digest 113 = .ok (.lload_n 1, 1) := by decide +kernel
theorem dX7_digest_114 : decode cX7_digest 114 = .ok (.iload_n 3, 1) := by decide +kernel
theorem dX7_digest_115 : decode cX7_digest 115 = .ok (.invokevirtual 195, 3) := by decide +kernel
theorem dX7_digest_118 : decode cX7_digest 118 = .ok (.lstore_n 1, 1) := by decide +kernel
theorem dX7_digest_119 : decode cX7_digest 119 = .ok (.iinc 3 1, 3) := by decide +kernel
theorem dX7_digest_122 : decode cX7_digest 122 = .ok (.goto (-21), 3) := by decide +kernel
theorem dX7_digest_125 : decode cX7_digest 125 = .ok (.iconst 0, 1) := by decide +kernel
theorem dX7_digest_126 : decode cX7_digest 126 = .ok (.istore_n 3, 1) := by decide +kernel
theorem dX7_digest_127 : decode cX7_digest 127 = .ok (.iload_n 3, 1) := by decide +kernel
theorem dX7_digest_128 : decode cX7_digest 128 = .ok (.aload_n 0, 1) := by decide +kernel
theorem dX7_digest_129 : decode cX7_digest 129 = .ok (.getfield 12, 3) := by decide +kernel
theorem dX7_digest_132 : decode cX7_digest 132 = .ok (.getfield 150, 3) := by decide +kernel
theorem dX7_digest_135 : decode cX7_digest 135 = .ok (.if_icmp .ge 16, 3) := by decide +kernel
theorem dX7_digest_138 : decode cX7_digest 138 = .ok (.aload_n 0, 1) := by decide +kernel
theorem dX7_digest_139 : decode cX7_digest 139 = .ok (.lload_n 1, 1) := by decide +kernel
theorem dX7_digest_140 : decode cX7_digest 140 = .ok (.iload_n 3, 1) := by decide +kernel
theorem dX7_digest_141 : decode cX7_digest 141 = .ok (.invokevirtual 198, 3) := by decide +kernel
theorem dX7_digest_144 : decode cX7_digest 144 = .ok (.lstore_n 1, 1) := by decide +kernel
theorem dX7_digest_145 : decode cX7_digest 145 = .ok (.iinc 3 1, 3) := by decide +kernel
theorem dX7_digest_148 : decode cX7_digest 148 = .ok (.goto (-21), 3) := by decide +kernel
theorem dX7_digest_151 : decode cX7_digest 151 = .ok (.lload_n 1, 1) := by decide +kernel
theorem dX7_digest_152 : decode cX7_digest 152 = .ok (.lreturn, 1) := by decide +kernel
theorem dX7_digestOfBlock_0 : decode cX7_digestOfBlock 0 = .ok (.lload_n 1, 1) := by decide +kernel
theorem dX7_digestOfBlock_1 : decode cX7_digestOfBlock 1 = .ok (.lstore 4, 2) := by decide +kernel
theorem dX7_digestOfBlock_3 : decode cX7_digestOfBlock 3 = .ok (.iconst 0, 1) := by decide +kernel
theorem dX7_digestOfBlock_4 : decode cX7_digestOfBlock 4 = .ok (.istore 6, 2) := by decide +kernel
theorem dX7_digestOfBlock_6 : decode cX7_digestOfBlock 6 = .ok (.iload 6, 2) := by decide +kernel
theorem dX7_digestOfBlock_8 : decode cX7_digestOfBlock 8 = .ok (.iconst 4, 1) := by decide +kernel
theorem dX7_digestOfBlock_9 : decode cX7_digestOfBlock 9 = .ok (.if_icmp .gt 26, 3) := by decide +kernel
theorem dX7_digestOfBlock_12 : decode cX7_digestOfBlock 12 = .ok (.lload 4, 2) := by decide +kernel
theorem dX7_digestOfBlock_14 : decode cX7_digestOfBlock 14 = .ok (.aload_n 0, 1) := by decide +kernel
theorem dX7_digestOfBlock_15 : decode cX7_digestOfBlock 15 = .ok (.getfield 12, 3) := by decide +kernel
theorem dX7_digestOfBlock_18 : decode cX7_digestOfBlock 18 = .ok (.iload_n 3, 1) := by decide +kernel
theorem dX7_digestOfBlock_19 : decode cX7_digestOfBlock 19 = .ok (.iload 6, 2) := by decide +kernel
theorem dX7_digestOfBlock_21 : decode cX7_digestOfBlock 21 = .ok (.invokevirtual 113, 3) := by decide +kernel
theorem dX7_digestOfBlock_24 : decode cX7_digestOfBlock 24 = .ok (.invokestatic 188, 3) := by decide +kernel
theorem dX7_digestOfBlock_27 : decode cX7_digestOfBlock 27 = .ok (.lstore 4, 2) := by decide +kernel
theorem dX7_digestOfBlock_29 : decode cX7_digestOfBlock 29 = .ok (.iinc 6 1, 3) := by decide +kernel
theorem dX7_digestOfBlock_32 : decode cX7_digestOfBlock 32 = .ok (.goto (-26), 3) := by decide +kernel
theorem dX7_digestOfBlock_35 : decode cX7_digestOfBlock 35 = .ok (.iconst 0, 1) := by decide +kernel
theorem dX7_digestOfBlock_36 : decode cX7_digestOfBlock 36 = .ok (.istore 6, 2) := by decide +kernel
theorem dX7_digestOfBlock_38 : decode cX7_digestOfBlock 38 = .ok (.iload 6, 2) := by decide +kernel
theorem dX7_digestOfBlock_40 : decode cX7_digestOfBlock 40 = .ok (.aload_n 0, 1) := by decide +kernel
theorem dX7_digestOfBlock_41 : decode cX7_digestOfBlock 41 = .ok (.getfield 12, 3) := by decide +kernel
theorem dX7_digestOfBlock_44 : decode cX7_digestOfBlock 44 = .ok (.iload_n 3, 1) := by decide +kernel
theorem dX7_digestOfBlock_45 : decode cX7_digestOfBlock 45 = .ok (.invokevirtual 116, 3) := by decide +kernel
theorem dX7_digestOfBlock_48 : decode cX7_digestOfBlock 48 = .ok (.if_icmp .ge 26, 3) := by decide +kernel
theorem dX7_digestOfBlock_51 : decode cX7_digestOfBlock 51 = .ok (.lload 4, 2) := by decide +kernel
theorem dX7_digestOfBlock_53 : decode cX7_digestOfBlock 53 = .ok (.aload_n 0, 1) := by decide +kernel
theorem dX7_digestOfBlock_54 : decode cX7_digestOfBlock 54 = .ok (.getfield 12, 3) := by decide +kernel
theorem dX7_digestOfBlock_57 : decode cX7_digestOfBlock 57 = .ok (.iload_n 3, 1) := by decide +kernel
theorem dX7_digestOfBlock_58 : decode cX7_digestOfBlock 58 = .ok (.iload 6, 2) := by decide +kernel
theorem dX7_digestOfBlock_60 : decode cX7_digestOfBlock 60 = .ok (.invokevirtual 119, 3) := by decide +kernel
theorem dX7_digestOfBlock_63 : decode cX7_digestOfBlock 63 = .ok (.invokestatic 188, 3) := by decide +kernel
theorem dX7_digestOfBlock_66 : decode cX7_digestOfBlock 66 = .ok (.lstore 4, 2) := by decide +kernel
theorem dX7_digestOfBlock_68 : decode cX7_digestOfBlock 68 = .ok (.iinc 6 1, 3) := by decide +kernel
theorem dX7_digestOfBlock_71 : decode cX7_digestOfBlock 71 = .ok (.goto (-33), 3) := by decide +kernel
theorem dX7_digestOfBlock_74 : decode cX7_digestOfBlock 74 = .ok (.lload 4, 2) := by decide +kernel
theorem dX7_digestOfBlock_76 : decode cX7_digestOfBlock 76 = .ok (.lreturn, 1) := by decide +kernel
theorem dX7_digestOfImage_0 : decode cX7_digestOfImage 0 = .ok (.lload_n 1, 1) := by decide +kernel
theorem dX7_digestOfImage_1 : decode cX7_digestOfImage 1 = .ok (.lstore 4, 2) := by decide +kernel
theorem dX7_digestOfImage_3 : decode cX7_digestOfImage 3 = .ok (.aload_n 0, 1) := by decide +kernel
theorem dX7_digestOfImage_4 : decode cX7_digestOfImage 4 = .ok (.getfield 19, 3) := by decide +kernel
theorem dX7_digestOfImage_7 : decode cX7_digestOfImage 7 = .ok (.iload_n 3, 1) := by decide +kernel
theorem dX7_digestOfImage_8 : decode cX7_digestOfImage 8 = .ok (.invokevirtual 125, 3) := by decide +kernel
theorem dX7_digestOfImage_11 : decode cX7_digestOfImage 11 = .ok (.astore 6, 2) := by decide +kernel
theorem dX7_digestOfImage_13 : decode cX7_digestOfImage 13 = .ok (.iconst 0, 1) := by decide +kernel
theorem dX7_digestOfImage_14 : decode cX7_digestOfImage 14 = .ok (.istore 7, 2) := by decide +kernel
theorem dX7_digestOfImage_16 : decode cX7_digestOfImage 16 = .ok (.iload 7, 2) := by decide +kernel
theorem dX7_digestOfImage_18 : decode cX7_digestOfImage 18 = .ok (.iconst 2, 1) := by decide +kernel
theorem dX7_digestOfImage_19 : decode cX7_digestOfImage 19 = .ok (.if_icmp .gt 23, 3) := by decide +kernel
theorem dX7_digestOfImage_22 : decode cX7_digestOfImage 22 = .ok (.lload 4, 2) := by decide +kernel
theorem dX7_digestOfImage_24 : decode cX7_digestOfImage 24 = .ok (.aload 6, 2) := by decide +kernel
theorem dX7_digestOfImage_26 : decode cX7_digestOfImage 26 = .ok (.iload 7, 2) := by decide +kernel
theorem dX7_digestOfImage_28 : decode cX7_digestOfImage 28 = .ok (.invokevirtual 129, 3) := by decide +kernel
theorem dX7_digestOfImage_31 : decode cX7_digestOfImage 31 = .ok (.invokestatic 188, 3) := by decide +kernel
theorem dX7_digestOfImage_34 : decode cX7_digestOfImage 34 = .ok (.lstore 4, 2) := by decide +kernel
theorem dX7_digestOfImage_36 : decode cX7_digestOfImage 36 = .ok (.iinc 7 1, 3) := by decide +kernel
theorem dX7_digestOfImage_39 : decode cX7_digestOfImage 39 = .ok (.goto (-23), 3) := by decide +kernel
theorem dX7_digestOfImage_42 : decode cX7_digestOfImage 42 = .ok (.iconst 0, 1) := by decide +kernel
theorem dX7_digestOfImage_43 : decode cX7_digestOfImage 43 = .ok (.istore 7, 2) := by decide +kernel
theorem dX7_digestOfImage_45 : decode cX7_digestOfImage 45 = .ok (.iload 7, 2) := by decide +kernel
theorem dX7_digestOfImage_47 : decode cX7_digestOfImage 47 = .ok (.aload 6, 2) := by decide +kernel
theorem dX7_digestOfImage_49 : decode cX7_digestOfImage 49 = .ok (.getfield 201, 3) := by decide +kernel
theorem dX7_digestOfImage_52 : decode cX7_digestOfImage 52 = .ok (.if_icmp .ge 46, 3) := by decide +kernel
theorem dX7_digestOfImage_55 : decode cX7_digestOfImage 55 = .ok (.iconst 0, 1) := by decide +kernel
theorem dX7_digestOfImage_56 : decode cX7_digestOfImage 56 = .ok (.istore 8, 2) := by decide +kernel
theorem dX7_digestOfImage_58 : decode cX7_digestOfImage 58 = .ok (.iload 8, 2) := by decide +kernel
theorem dX7_digestOfImage_60 : decode cX7_digestOfImage 60 = .ok (.aload 6, 2) := by decide +kernel
theorem dX7_digestOfImage_62 : decode cX7_digestOfImage 62 = .ok (.iload 7, 2) := by decide +kernel
theorem dX7_digestOfImage_64 : decode cX7_digestOfImage 64 = .ok (.invokevirtual 137, 3) := by decide +kernel
theorem dX7_digestOfImage_67 : decode cX7_digestOfImage 67 = .ok (.if_icmp .ge 25, 3) := by decide +kernel
theorem dX7_digestOfImage_70 : decode cX7_digestOfImage 70 = .ok (.lload 4, 2) := by decide +kernel
theorem dX7_digestOfImage_72 : decode cX7_digestOfImage 72 = .ok (.aload 6, 2) := by decide +kernel
theorem dX7_digestOfImage_74 : decode cX7_digestOfImage 74 = .ok (.iload 7, 2) := by decide +kernel
theorem dX7_digestOfImage_76 : decode cX7_digestOfImage 76 = .ok (.iload 8, 2) := by decide +kernel
theorem dX7_digestOfImage_78 : decode cX7_digestOfImage 78 = .ok (.invokevirtual 138, 3) := by decide +kernel
theorem dX7_digestOfImage_81 : decode cX7_digestOfImage 81 = .ok (.invokestatic 188, 3) := by decide +kernel
theorem dX7_digestOfImage_84 : decode cX7_digestOfImage 84 = .ok (.lstore 4, 2) := by decide +kernel
theorem dX7_digestOfImage_86 : decode cX7_digestOfImage 86 = .ok (.iinc 8 1, 3) := by decide +kernel
theorem dX7_digestOfImage_89 : decode cX7_digestOfImage 89 = .ok (.goto (-31), 3) := by decide +kernel
theorem dX7_digestOfImage_92 : decode cX7_digestOfImage 92 = .ok (.iinc 7 1, 3) := by decide +kernel
theorem dX7_digestOfImage_95 : decode cX7_digestOfImage 95 = .ok (.goto (-50), 3) := by decide +kernel
theorem dX7_digestOfImage_98 : decode cX7_digestOfImage 98 = .ok (.lload 4, 2) := by decide +kernel
theorem dX7_digestOfImage_100 : decode cX7_digestOfImage 100 = .ok (.lreturn, 1) := by decide +kernel
theorem dX7_mixed_0 : decode cX7_mixed 0 = .ok (.ldc2_w 204, 3) := by decide +kernel
theorem dX7_mixed_3 : decode cX7_mixed 3 = .ok (.lload_n 0, 1) := by decide +kernel
theorem dX7_mixed_4 : decode cX7_mixed 4 = .ok (.lmul, 1) := by decide +kernel
theorem dX7_mixed_5 : decode cX7_mixed 5 = .ok (.iload_n 2, 1) := by decide +kernel
theorem dX7_mixed_6 : decode cX7_mixed 6 = .ok (.i2l, 1) := by decide +kernel
theorem dX7_mixed_7 : decode cX7_mixed 7 = .ok (.ladd, 1) := by decide +kernel
theorem dX7_mixed_8 : decode cX7_mixed 8 = .ok (.lreturn, 1) := by decide +kernel
theorem dX7_counted_0 : decode cX7_counted 0 = .ok (.iload_n 1, 1) := by decide +kernel
theorem dX7_counted_1 : decode cX7_counted 1 = .ok (.tableswitch 135 0 9 #[55, 63, 71, 79, 87, 95, 103, 111, 119, 127], 55) := by decide +kernel
theorem dX7_counted_56 : decode cX7_counted 56 = .ok (.aload_n 0, 1) := by decide +kernel
theorem dX7_counted_57 : decode cX7_counted 57 = .ok (.getfield 12, 3) := by decide +kernel
theorem dX7_counted_60 : decode cX7_counted 60 = .ok (.getfield 192, 3) := by decide +kernel
theorem dX7_counted_63 : decode cX7_counted 63 = .ok (.ireturn, 1) := by decide +kernel
theorem dX7_counted_64 : decode cX7_counted 64 = .ok (.aload_n 0, 1) := by decide +kernel
theorem dX7_counted_65 : decode cX7_counted 65 = .ok (.getfield 12, 3) := by decide +kernel
theorem dX7_counted_68 : decode cX7_counted 68 = .ok (.getfield 150, 3) := by decide +kernel
theorem dX7_counted_71 : decode cX7_counted 71 = .ok (.ireturn, 1) := by decide +kernel
theorem dX7_counted_72 : decode cX7_counted 72 = .ok (.aload_n 0, 1) := by decide +kernel
theorem dX7_counted_73 : decode cX7_counted 73 = .ok (.getfield 12, 3) := by decide +kernel
theorem dX7_counted_76 : decode cX7_counted 76 = .ok (.invokevirtual 206, 3) := by decide +kernel
theorem dX7_counted_79 : decode cX7_counted 79 = .ok (.ireturn, 1) := by decide +kernel
theorem dX7_counted_80 : decode cX7_counted 80 = .ok (.aload_n 0, 1) := by decide +kernel
theorem dX7_counted_81 : decode cX7_counted 81 = .ok (.getfield 12, 3) := by decide +kernel
theorem dX7_counted_84 : decode cX7_counted 84 = .ok (.getfield 170, 3) := by decide +kernel
theorem dX7_counted_87 : decode cX7_counted 87 = .ok (.ireturn, 1) := by decide +kernel
theorem dX7_counted_88 : decode cX7_counted 88 = .ok (.aload_n 0, 1) := by decide +kernel
theorem dX7_counted_89 : decode cX7_counted 89 = .ok (.getfield 49, 3) := by decide +kernel
theorem dX7_counted_92 : decode cX7_counted 92 = .ok (.getfield 209, 3) := by decide +kernel
theorem dX7_counted_95 : decode cX7_counted 95 = .ok (.ireturn, 1) := by decide +kernel
theorem dX7_counted_96 : decode cX7_counted 96 = .ok (.aload_n 0, 1) := by decide +kernel
theorem dX7_counted_97 : decode cX7_counted 97 = .ok (.getfield 49, 3) := by decide +kernel
theorem dX7_counted_100 : decode cX7_counted 100 = .ok (.getfield 212, 3) := by decide +kernel
theorem dX7_counted_103 : decode cX7_counted 103 = .ok (.ireturn, 1) := by decide +kernel
theorem dX7_counted_104 : decode cX7_counted 104 = .ok (.aload_n 0, 1) := by decide +kernel
theorem dX7_counted_105 : decode cX7_counted 105 = .ok (.getfield 49, 3) := by decide +kernel
theorem dX7_counted_108 : decode cX7_counted 108 = .ok (.getfield 215, 3) := by decide +kernel
theorem dX7_counted_111 : decode cX7_counted 111 = .ok (.ireturn, 1) := by decide +kernel
theorem dX7_counted_112 : decode cX7_counted 112 = .ok (.aload_n 0, 1) := by decide +kernel
theorem dX7_counted_113 : decode cX7_counted 113 = .ok (.getfield 49, 3) := by decide +kernel
theorem dX7_counted_116 : decode cX7_counted 116 = .ok (.invokevirtual 218, 3) := by decide +kernel
theorem dX7_counted_119 : decode cX7_counted 119 = .ok (.ireturn, 1) := by decide +kernel
theorem dX7_counted_120 : decode cX7_counted 120 = .ok (.aload_n 0, 1) := by decide +kernel
theorem dX7_counted_121 : decode cX7_counted 121 = .ok (.getfield 35, 3) := by decide +kernel
theorem dX7_counted_124 : decode cX7_counted 124 = .ok (.getfield 221, 3) := by decide +kernel
theorem dX7_counted_127 : decode cX7_counted 127 = .ok (.ireturn, 1) := by decide +kernel
theorem dX7_counted_128 : decode cX7_counted 128 = .ok (.aload_n 0, 1) := by decide +kernel
theorem dX7_counted_129 : decode cX7_counted 129 = .ok (.getfield 42, 3) := by decide +kernel
theorem dX7_counted_132 : decode cX7_counted 132 = .ok (.getfield 224, 3) := by decide +kernel
theorem dX7_counted_135 : decode cX7_counted 135 = .ok (.ireturn, 1) := by decide +kernel
theorem dX7_counted_136 : decode cX7_counted 136 = .ok (.bipush (-2), 2) := by decide +kernel
theorem dX7_counted_138 : decode cX7_counted 138 = .ok (.ireturn, 1) := by decide +kernel
theorem dX7_settled_0 : decode cX7_settled 0 = .ok (.iload_n 1, 1) := by decide +kernel
theorem dX7_settled_1 : decode cX7_settled 1 = .ok (.ifCond .lt 10, 3) := by decide +kernel
theorem dX7_settled_4 : decode cX7_settled 4 = .ok (.aload_n 0, 1) := by decide +kernel
theorem dX7_settled_5 : decode cX7_settled 5 = .ok (.getfield 42, 3) := by decide +kernel
theorem dX7_settled_8 : decode cX7_settled 8 = .ok (.invokevirtual 177, 3) := by decide +kernel
theorem dX7_settled_11 : decode cX7_settled 11 = .ok (.aload_n 0, 1) := by decide +kernel
theorem dX7_settled_12 : decode cX7_settled 12 = .ok (.getfield 49, 3) := by decide +kernel
theorem dX7_settled_15 : decode cX7_settled 15 = .ok (.iload_n 1, 1) := by decide +kernel
theorem dX7_settled_16 : decode cX7_settled 16 = .ok (.invokevirtual 87, 3) := by decide +kernel
theorem dX7_settled_19 : decode cX7_settled 19 = .ok (.ireturn, 1) := by decide +kernel
theorem dX7_isRegister_0 : decode cX7_isRegister 0 = .ok (.iload_n 0, 1) := by decide +kernel
theorem dX7_isRegister_1 : decode cX7_isRegister 1 = .ok (.ifCond .lt 13, 3) := by decide +kernel
theorem dX7_isRegister_4 : decode cX7_isRegister 4 = .ok (.iload_n 0, 1) := by decide +kernel
theorem dX7_isRegister_5 : decode cX7_isRegister 5 = .ok (.bipush 6, 2) := by decide +kernel
theorem dX7_isRegister_7 : decode cX7_isRegister 7 = .ok (.if_icmp .ge 7, 3) := by decide +kernel
theorem dX7_isRegister_10 : decode cX7_isRegister 10 = .ok (.iconst 1, 1) := by decide +kernel
theorem dX7_isRegister_11 : decode cX7_isRegister 11 = .ok (.goto 4, 3) := by decide +kernel
theorem dX7_isRegister_14 : decode cX7_isRegister 14 = .ok (.iconst 0, 1) := by decide +kernel
theorem dX7_isRegister_15 : decode cX7_isRegister 15 = .ok (.ireturn, 1) := by decide +kernel
theorem dX7_isPointerCode_0 : decode cX7_isPointerCode 0 = .ok (.iload_n 0, 1) := by decide +kernel
theorem dX7_isPointerCode_1 : decode cX7_isPointerCode 1 = .ok (.sipush 1000, 3) := by decide +kernel
theorem dX7_isPointerCode_4 : decode cX7_isPointerCode 4 = .ok (.if_icmp .lt 7, 3) := by decide +kernel
theorem dX7_isPointerCode_7 : decode cX7_isPointerCode 7 = .ok (.iconst 1, 1) := by decide +kernel
theorem dX7_isPointerCode_8 : decode cX7_isPointerCode 8 = .ok (.goto 4, 3) := by decide +kernel
theorem dX7_isPointerCode_11 : decode cX7_isPointerCode 11 = .ok (.iconst 0, 1) := by decide +kernel
theorem dX7_isPointerCode_12 : decode cX7_isPointerCode 12 = .ok (.ireturn, 1) := by decide +kernel
theorem dX7_pointerCode_0 : decode cX7_pointerCode 0 = .ok (.sipush 1000, 3) := by decide +kernel
theorem dX7_pointerCode_3 : decode cX7_pointerCode 3 = .ok (.bipush 100, 2) := by decide +kernel
theorem dX7_pointerCode_5 : decode cX7_pointerCode 5 = .ok (.iload_n 0, 1) := by decide +kernel
theorem dX7_pointerCode_6 : decode cX7_pointerCode 6 = .ok (.imul, 1) := by decide +kernel
theorem dX7_pointerCode_7 : decode cX7_pointerCode 7 = .ok (.iadd, 1) := by decide +kernel
theorem dX7_pointerCode_8 : decode cX7_pointerCode 8 = .ok (.iload_n 1, 1) := by decide +kernel
theorem dX7_pointerCode_9 : decode cX7_pointerCode 9 = .ok (.iadd, 1) := by decide +kernel
theorem dX7_pointerCode_10 : decode cX7_pointerCode 10 = .ok (.ireturn, 1) := by decide +kernel
theorem dX7_blockOfCode_0 : decode cX7_blockOfCode 0 = .ok (.iload_n 0, 1) := by decide +kernel
theorem dX7_blockOfCode_1 : decode cX7_blockOfCode 1 = .ok (.sipush 1000, 3) := by decide +kernel
theorem dX7_blockOfCode_4 : decode cX7_blockOfCode 4 = .ok (.isub, 1) := by decide +kernel
theorem dX7_blockOfCode_5 : decode cX7_blockOfCode 5 = .ok (.bipush 100, 2) := by decide +kernel
theorem dX7_blockOfCode_7 : decode cX7_blockOfCode 7 = .ok (.idiv, 1) := by decide +kernel
theorem dX7_blockOfCode_8 : decode cX7_blockOfCode 8 = .ok (.ireturn, 1) := by decide +kernel
theorem dX7_offsetOfCode_0 : decode cX7_offsetOfCode 0 = .ok (.iload_n 0, 1) := by decide +kernel
theorem dX7_offsetOfCode_1 : decode cX7_offsetOfCode 1 = .ok (.sipush 1000, 3) := by decide +kernel
theorem dX7_offsetOfCode_4 : decode cX7_offsetOfCode 4 = .ok (.isub, 1) := by decide +kernel
theorem dX7_offsetOfCode_5 : decode cX7_offsetOfCode 5 = .ok (.bipush 100, 2) := by decide +kernel
theorem dX7_offsetOfCode_7 : decode cX7_offsetOfCode 7 = .ok (.irem, 1) := by decide +kernel
theorem dX7_offsetOfCode_8 : decode cX7_offsetOfCode 8 = .ok (.ireturn, 1) := by decide +kernel
theorem dX8_init_0 : decode cX8_init 0 = .ok (.aload_n 0, 1) := by decide +kernel
theorem dX8_init_1 : decode cX8_init 1 = .ok (.invokespecial 1, 3) := by decide +kernel
theorem dX8_init_4 : decode cX8_init 4 = .ok (.aload_n 0, 1) := by decide +kernel
theorem dX8_init_5 : decode cX8_init 5 = .ok (.sipush 1219, 3) := by decide +kernel
theorem dX8_init_8 : decode cX8_init 8 = .ok (.newarray .int, 2) := by decide +kernel
theorem dX8_init_10 : decode cX8_init 10 = .ok (.putfield 7, 3) := by decide +kernel
theorem dX8_init_13 : decode cX8_init 13 = .ok (.aload_n 0, 1) := by decide +kernel
theorem dX8_init_14 : decode cX8_init 14 = .ok (.sipush 1219, 3) := by decide +kernel
theorem dX8_init_17 : decode cX8_init 17 = .ok (.newarray .int, 2) := by decide +kernel
theorem dX8_init_19 : decode cX8_init 19 = .ok (.putfield 13, 3) := by decide +kernel
theorem dX8_init_22 : decode cX8_init 22 = .ok (.aload_n 0, 1) := by decide +kernel
theorem dX8_init_23 : decode cX8_init 23 = .ok (.sipush 6095, 3) := by decide +kernel
theorem dX8_init_26 : decode cX8_init 26 = .ok (.newarray .int, 2) := by decide +kernel
theorem dX8_init_28 : decode cX8_init 28 = .ok (.putfield 16, 3) := by decide +kernel
theorem dX8_init_31 : decode cX8_init 31 = .ok (.aload_n 0, 1) := by decide +kernel
theorem dX8_init_32 : decode cX8_init 32 = .ok (.iconst 3, 1) := by decide +kernel
theorem dX8_init_33 : decode cX8_init 33 = .ok (.newarray .int, 2) := by decide +kernel
theorem dX8_init_35 : decode cX8_init 35 = .ok (.putfield 19, 3) := by decide +kernel
theorem dX8_init_38 : decode cX8_init 38 = .ok (.aload_n 0, 1) := by decide +kernel
theorem dX8_init_39 : decode cX8_init 39 = .ok (.bipush 10, 2) := by decide +kernel
theorem dX8_init_41 : decode cX8_init 41 = .ok (.newarray .int, 2) := by decide +kernel
theorem dX8_init_43 : decode cX8_init 43 = .ok (.putfield 22, 3) := by decide +kernel
theorem dX8_init_46 : decode cX8_init 46 = .ok (.aload_n 0, 1) := by decide +kernel
theorem dX8_init_47 : decode cX8_init 47 = .ok (.bipush 120, 2) := by decide +kernel
theorem dX8_init_49 : decode cX8_init 49 = .ok (.newarray .int, 2) := by decide +kernel
theorem dX8_init_51 : decode cX8_init 51 = .ok (.putfield 25, 3) := by decide +kernel
theorem dX8_init_54 : decode cX8_init 54 = .ok (.aload_n 0, 1) := by decide +kernel
theorem dX8_init_55 : decode cX8_init 55 = .ok (.bipush 12, 2) := by decide +kernel
theorem dX8_init_57 : decode cX8_init 57 = .ok (.newarray .int, 2) := by decide +kernel
theorem dX8_init_59 : decode cX8_init 59 = .ok (.putfield 28, 3) := by decide +kernel
theorem dX8_init_62 : decode cX8_init 62 = .ok (.aload_n 0, 1) := by decide +kernel
theorem dX8_init_63 : decode cX8_init 63 = .ok (.bipush 10, 2) := by decide +kernel
theorem dX8_init_65 : decode cX8_init 65 = .ok (.newarray .int, 2) := by decide +kernel
theorem dX8_init_67 : decode cX8_init 67 = .ok (.putfield 31, 3) := by decide +kernel
theorem dX8_init_70 : decode cX8_init 70 = .ok (.aload_n 0, 1) := by decide +kernel
theorem dX8_init_71 : decode cX8_init 71 = .ok (.sipush 131, 3) := by decide +kernel
theorem dX8_init_74 : decode cX8_init 74 = .ok (.newarray .int, 2) := by decide +kernel
theorem dX8_init_76 : decode cX8_init 76 = .ok (.putfield 34, 3) := by decide +kernel
theorem dX8_init_79 : decode cX8_init 79 = .ok (.aload_n 0, 1) := by decide +kernel
theorem dX8_init_80 : decode cX8_init 80 = .ok (.bipush 60, 2) := by decide +kernel
theorem dX8_init_82 : decode cX8_init 82 = .ok (.newarray .int, 2) := by decide +kernel
theorem dX8_init_84 : decode cX8_init 84 = .ok (.putfield 37, 3) := by decide +kernel
theorem dX8_init_87 : decode cX8_init 87 = .ok (.aload_n 0, 1) := by decide +kernel
theorem dX8_init_88 : decode cX8_init 88 = .ok (.sipush 180, 3) := by decide +kernel
theorem dX8_init_91 : decode cX8_init 91 = .ok (.newarray .int, 2) := by decide +kernel
theorem dX8_init_93 : decode cX8_init 93 = .ok (.putfield 40, 3) := by decide +kernel
theorem dX8_init_96 : decode cX8_init 96 = .ok (.aload_n 0, 1) := by decide +kernel
theorem dX8_init_97 : decode cX8_init 97 = .ok (.getfield 7, 3) := by decide +kernel
theorem dX8_init_100 : decode cX8_init 100 = .ok (.sipush 169, 3) := by decide +kernel
theorem dX8_init_103 : decode cX8_init 103 = .ok (.bipush 40, 2) := by decide +kernel
theorem dX8_init_105 : decode cX8_init 105 = .ok (.iastore, 1) := by decide +kernel
theorem dX8_init_106 : decode cX8_init 106 = .ok (.return_, 1) := by decide +kernel
theorem dX8_in_0 : decode cX8_in 0 = .ok (.iload_n 0, 1) := by decide +kernel
theorem dX8_in_1 : decode cX8_in 1 = .ok (.iload_n 1, 1) := by decide +kernel
theorem dX8_in_2 : decode cX8_in 2 = .ok (.if_icmp .lt 12, 3) := by decide +kernel
theorem dX8_in_5 : decode cX8_in 5 = .ok (.iload_n 0, 1) := by decide +kernel
theorem dX8_in_6 : decode cX8_in 6 = .ok (.iload_n 2, 1) := by decide +kernel
theorem dX8_in_7 : decode cX8_in 7 = .ok (.if_icmp .gt 7, 3) := by decide +kernel
theorem dX8_in_10 : decode cX8_in 10 = .ok (.iconst 1, 1) := by decide +kernel
theorem dX8_in_11 : decode cX8_in 11 = .ok (.goto 4, 3) := by decide +kernel
theorem dX8_in_14 : decode cX8_in 14 = .ok (.iconst 0, 1) := by decide +kernel
theorem dX8_in_15 : decode cX8_in 15 = .ok (.ireturn, 1) := by decide +kernel
theorem dX8_bad_0 : decode cX8_bad 0 = .ok (.aload_n 0, 1) := by decide +kernel
theorem dX8_bad_1 : decode cX8_bad 1 = .ok (.getfield 19, 3) := by decide +kernel
theorem dX8_bad_4 : decode cX8_bad 4 = .ok (.iconst 0, 1) := by decide +kernel
theorem dX8_bad_5 : decode cX8_bad 5 = .ok (.dup2, 1) := by decide +kernel
theorem dX8_bad_6 : decode cX8_bad 6 = .ok (.iaload, 1) := by decide +kernel
theorem dX8_bad_7 : decode cX8_bad 7 = .ok (.iconst 1, 1) := by decide +kernel
theorem dX8_bad_8 : decode cX8_bad 8 = .ok (.iadd, 1) := by decide +kernel
theorem dX8_bad_9 : decode cX8_bad 9 = .ok (.iastore, 1) := by decide +kernel
theorem dX8_bad_10 : decode cX8_bad 10 = .ok (.bipush (-2), 2) := by decide +kernel
theorem dX8_bad_12 : decode cX8_bad 12 = .ok (.ireturn, 1) := by decide +kernel
end
section
theorem dX8_copies_0 : decode cX8_copies 0 = .ok (.iconst 0, 1) := by decide +kernel
theorem dX8_copies_1 : decode cX8_copies 1 = .ok (.istore_n 1, 1) := by decide +kernel
theorem dX8_copies_2 : decode cX8_copies 2 = .ok (.iload_n 1, 1) := by decide +kernel
theorem dX8_copies_3 : decode cX8_copies 3 = .ok (.sipush 1219, 3) := by decide +kernel
theorem dX8_copies_6 : decode cX8_copies 6 = .ok (.if_icmp .ge 21, 3) := by decide +kernel
theorem dX8_copies_9 : decode cX8_copies 9 = .ok (.aload_n 0, 1) := by decide +kernel
theorem dX8_copies_10 : decode cX8_copies 10 = .ok (.getfield 13, 3) := by decide +kernel
theorem dX8_copies_13 : decode cX8_copies 13 = .ok (.iload_n 1, 1) := by decide +kernel
theorem dX8_copies_14 : decode cX8_copies 14 = .ok (.aload_n 0, 1) := by decide +kernel
theorem dX8_copies_15 : decode cX8_copies 15 = .ok (.getfield 7, 3) := by decide +kernel
theorem dX8_copies_18 : decode cX8_copies 18 = .ok (.iload_n 1, 1) := by decide +kernel
theorem dX8_copies_19 : decode cX8_copies 19 = .ok (.iaload, 1) := by decide +kernel
theorem dX8_copies_20 : decode cX8_copies 20 = .ok (.iastore, 1) := by decide +kernel
theorem dX8_copies_21 : decode cX8_copies 21 = .ok (.iinc 1 1, 3) := by decide +kernel
theorem dX8_copies_24 : decode cX8_copies 24 = .ok (.goto (-22), 3) := by decide +kernel
theorem dX8_copies_27 : decode cX8_copies 27 = .ok (.return_, 1) := by decide +kernel
theorem dX8_remembers_0 : decode cX8_remembers 0 = .ok (.aload_n 0, 1) := by decide +kernel
theorem dX8_remembers_1 : decode cX8_remembers 1 = .ok (.getfield 43, 3) := by decide +kernel
theorem dX8_remembers_4 : decode cX8_remembers 4 = .ok (.iconst 5, 1) := by decide +kernel
theorem dX8_remembers_5 : decode cX8_remembers 5 = .ok (.if_icmp .ne 44, 3) := by decide +kernel
theorem dX8_remembers_8 : decode cX8_remembers 8 = .ok (.iconst 0, 1) := by decide +kernel
theorem dX8_remembers_9 : decode cX8_remembers 9 = .ok (.istore_n 1, 1) := by decide +kernel
theorem dX8_remembers_10 : decode cX8_remembers 10 = .ok (.iload_n 1, 1) := by decide +kernel
theorem dX8_remembers_11 : decode cX8_remembers 11 = .ok (.sipush 4876, 3) := by decide +kernel
theorem dX8_remembers_14 : decode cX8_remembers 14 = .ok (.if_icmp .ge 25, 3) := by decide +kernel
theorem dX8_remembers_17 : decode cX8_remembers 17 = .ok (.aload_n 0, 1) := by decide +kernel
theorem dX8_remembers_18 : decode cX8_remembers 18 = .ok (.getfield 16, 3) := by decide +kernel
theorem dX8_remembers_21 : decode cX8_remembers 21 = .ok (.iload_n 1, 1) := by decide +kernel
theorem dX8_remembers_22 : decode cX8_remembers 22 = .ok (.aload_n 0, 1) := by decide +kernel
theorem dX8_remembers_23 : decode cX8_remembers 23 = .ok (.getfield 16, 3) := by decide +kernel
theorem dX8_remembers_26 : decode cX8_remembers 26 = .ok (.iload_n 1, 1) := by decide +kernel
theorem dX8_remembers_27 : decode cX8_remembers 27 = .ok (.sipush 1219, 3) := by decide +kernel
theorem dX8_remembers_30 : decode cX8_remembers 30 = .ok (.iadd, 1) := by decide +kernel
theorem dX8_remembers_31 : decode cX8_remembers 31 = .ok (.iaload, 1) := by decide +kernel
theorem dX8_remembers_32 : decode cX8_remembers 32 = .ok (.iastore, 1) := by decide +kernel
theorem dX8_remembers_33 : decode cX8_remembers 33 = .ok (.iinc 1 1, 3) := by decide +kernel
theorem dX8_remembers_36 : decode cX8_remembers 36 = .ok (.goto (-26), 3) := by decide +kernel
theorem dX8_remembers_39 : decode cX8_remembers 39 = .ok (.aload_n 0, 1) := by decide +kernel
theorem dX8_remembers_40 : decode cX8_remembers 40 = .ok (.dup, 1) := by decide +kernel
theorem dX8_remembers_41 : decode cX8_remembers 41 = .ok (.getfield 43, 3) := by decide +kernel
theorem dX8_remembers_44 : decode cX8_remembers 44 = .ok (.iconst 1, 1) := by decide +kernel
theorem dX8_remembers_45 : decode cX8_remembers 45 = .ok (.isub, 1) := by decide +kernel
theorem dX8_remembers_46 : decode cX8_remembers 46 = .ok (.putfield 43, 3) := by decide +kernel
theorem dX8_remembers_49 : decode cX8_remembers 49 = .ok (.iconst 0, 1) := by decide +kernel
theorem dX8_remembers_50 : decode cX8_remembers 50 = .ok (.istore_n 1, 1) := by decide +kernel
theorem dX8_remembers_51 : decode cX8_remembers 51 = .ok (.iload_n 1, 1) := by decide +kernel
theorem dX8_remembers_52 : decode cX8_remembers 52 = .ok (.sipush 1219, 3) := by decide +kernel
theorem dX8_remembers_55 : decode cX8_remembers 55 = .ok (.if_icmp .ge 30, 3) := by decide +kernel
theorem dX8_remembers_58 : decode cX8_remembers 58 = .ok (.aload_n 0, 1) := by decide +kernel
theorem dX8_remembers_59 : decode cX8_remembers 59 = .ok (.getfield 16, 3) := by decide +kernel
theorem dX8_remembers_62 : decode cX8_remembers 62 = .ok (.sipush 1219, 3) := by decide +kernel
theorem dX8_remembers_65 : decode cX8_remembers 65 = .ok (.aload_n 0, 1) := by decide +kernel
theorem dX8_remembers_66 : decode cX8_remembers 66 = .ok (.getfield 43, 3) := by decide +kernel
theorem dX8_remembers_69 : decode cX8_remembers 69 = .ok (.imul, 1) := by decide +kernel
theorem dX8_remembers_70 : decode cX8_remembers 70 = .ok (.iload_n 1, 1) := by decide +kernel
theorem dX8_remembers_71 : decode cX8_remembers 71 = .ok (.iadd, 1) := by decide +kernel
theorem dX8_remembers_72 : decode cX8_remembers 72 = .ok (.aload_n 0, 1) := by decide +kernel
theorem dX8_remembers_73 : decode cX8_remembers 73 = .ok (.getfield 13, 3) := by decide +kernel
theorem dX8_remembers_76 : decode cX8_remembers 76 = .ok (.iload_n 1, 1) := by decide +kernel
theorem dX8_remembers_77 : decode cX8_remembers 77 = .ok (.iaload, 1) := by decide +kernel
theorem dX8_remembers_78 : decode cX8_remembers 78 = .ok (.iastore, 1) := by decide +kernel
theorem dX8_remembers_79 : decode cX8_remembers 79 = .ok (.iinc 1 1, 3) := by decide +kernel
theorem dX8_remembers_82 : decode cX8_remembers 82 = .ok (.goto (-31), 3) := by decide +kernel
theorem dX8_remembers_85 : decode cX8_remembers 85 = .ok (.aload_n 0, 1) := by decide +kernel
theorem dX8_remembers_86 : decode cX8_remembers 86 = .ok (.dup, 1) := by decide +kernel
theorem dX8_remembers_87 : decode cX8_remembers 87 = .ok (.getfield 43, 3) := by decide +kernel
theorem dX8_remembers_90 : decode cX8_remembers 90 = .ok (.iconst 1, 1) := by decide +kernel
theorem dX8_remembers_91 : decode cX8_remembers 91 = .ok (.iadd, 1) := by decide +kernel
theorem dX8_remembers_92 : decode cX8_remembers 92 = .ok (.putfield 43, 3) := by decide +kernel
theorem dX8_remembers_95 : decode cX8_remembers 95 = .ok (.return_, 1) := by decide +kernel
theorem dX8_back_0 : decode cX8_back 0 = .ok (.aload_n 0, 1) := by decide +kernel
theorem dX8_back_1 : decode cX8_back 1 = .ok (.getfield 43, 3) := by decide +kernel
theorem dX8_back_4 : decode cX8_back 4 = .ok (.ifCond .ne 16, 3) := by decide +kernel
theorem dX8_back_7 : decode cX8_back 7 = .ok (.aload_n 0, 1) := by decide +kernel
theorem dX8_back_8 : decode cX8_back 8 = .ok (.getfield 19, 3) := by decide +kernel
theorem dX8_back_11 : decode cX8_back 11 = .ok (.iconst 1, 1) := by decide +kernel
theorem dX8_back_12 : decode cX8_back 12 = .ok (.dup2, 1) := by decide +kernel
theorem dX8_back_13 : decode cX8_back 13 = .ok (.iaload, 1) := by decide +kernel
theorem dX8_back_14 : decode cX8_back 14 = .ok (.iconst 1, 1) := by decide +kernel
theorem dX8_back_15 : decode cX8_back 15 = .ok (.iadd, 1) := by decide +kernel
theorem dX8_back_16 : decode cX8_back 16 = .ok (.iastore, 1) := by decide +kernel
theorem dX8_back_17 : decode cX8_back 17 = .ok (.bipush (-3), 2) := by decide +kernel
theorem dX8_back_19 : decode cX8_back 19 = .ok (.ireturn, 1) := by decide +kernel
theorem dX8_back_20 : decode cX8_back 20 = .ok (.aload_n 0, 1) := by decide +kernel
theorem dX8_back_21 : decode cX8_back 21 = .ok (.dup, 1) := by decide +kernel
theorem dX8_back_22 : decode cX8_back 22 = .ok (.getfield 43, 3) := by decide +kernel
theorem dX8_back_25 : decode cX8_back 25 = .ok (.iconst 1, 1) := by decide +kernel
theorem dX8_back_26 : decode cX8_back 26 = .ok (.isub, 1) := by decide +kernel
theorem dX8_back_27 : decode cX8_back 27 = .ok (.putfield 43, 3) := by decide +kernel
theorem dX8_back_30 : decode cX8_back 30 = .ok (.iconst 0, 1) := by decide +kernel
theorem dX8_back_31 : decode cX8_back 31 = .ok (.istore_n 1, 1) := by decide +kernel
theorem dX8_back_32 : decode cX8_back 32 = .ok (.iload_n 1, 1) := by decide +kernel
theorem dX8_back_33 : decode cX8_back 33 = .ok (.sipush 1219, 3) := by decide +kernel
theorem dX8_back_36 : decode cX8_back 36 = .ok (.if_icmp .ge 30, 3) := by decide +kernel
theorem dX8_back_39 : decode cX8_back 39 = .ok (.aload_n 0, 1) := by decide +kernel
theorem dX8_back_40 : decode cX8_back 40 = .ok (.getfield 7, 3) := by decide +kernel
theorem dX8_back_43 : decode cX8_back 43 = .ok (.iload_n 1, 1) := by decide +kernel
theorem dX8_back_44 : decode cX8_back 44 = .ok (.aload_n 0, 1) := by decide +kernel
theorem dX8_back_45 : decode cX8_back 45 = .ok (.getfield 16, 3) := by decide +kernel
theorem dX8_back_48 : decode cX8_back 48 = .ok (.sipush 1219, 3) := by decide +kernel
theorem dX8_back_51 : decode cX8_back 51 = .ok (.aload_n 0, 1) := by decide +kernel
theorem dX8_back_52 : decode cX8_back 52 = .ok (.getfield 43, 3) := by decide +kernel
theorem dX8_back_55 : decode cX8_back 55 = .ok (.imul, 1) := by decide +kernel
theorem dX8_back_56 : decode cX8_back 56 = .ok (.iload_n 1, 1) := by decide +kernel
theorem dX8_back_57 : decode cX8_back 57 = .ok (.iadd, 1) := by decide +kernel
theorem dX8_back_58 : decode cX8_back 58 = .ok (.iaload, 1) := by decide +kernel
theorem dX8_back_59 : decode cX8_back 59 = .ok (.iastore, 1) := by decide +kernel
theorem dX8_back_60 : decode cX8_back 60 = .ok (.iinc 1 1, 3) := by decide +kernel
theorem dX8_back_63 : decode cX8_back 63 = .ok (.goto (-31), 3) := by decide +kernel
theorem dX8_back_66 : decode cX8_back 66 = .ok (.aload_n 0, 1) := by decide +kernel
theorem dX8_back_67 : decode cX8_back 67 = .ok (.getfield 43, 3) := by decide +kernel
theorem dX8_back_70 : decode cX8_back 70 = .ok (.ireturn, 1) := by decide +kernel
theorem dX8_counted_0 : decode cX8_counted 0 = .ok (.iload_n 1, 1) := by decide +kernel
theorem dX8_counted_1 : decode cX8_counted 1 = .ok (.bipush (-2), 2) := by decide +kernel
theorem dX8_counted_3 : decode cX8_counted 3 = .ok (.if_icmp .ne 16, 3) := by decide +kernel
theorem dX8_counted_6 : decode cX8_counted 6 = .ok (.aload_n 0, 1) := by decide +kernel
theorem dX8_counted_7 : decode cX8_counted 7 = .ok (.getfield 19, 3) := by decide +kernel
theorem dX8_counted_10 : decode cX8_counted 10 = .ok (.iconst 0, 1) := by decide +kernel
theorem dX8_counted_11 : decode cX8_counted 11 = .ok (.dup2, 1) := by decide +kernel
theorem dX8_counted_12 : decode cX8_counted 12 = .ok (.iaload, 1) := by decide +kernel
theorem dX8_counted_13 : decode cX8_counted 13 = .ok (.iconst 1, 1) := by decide +kernel
theorem dX8_counted_14 : decode cX8_counted 14 = .ok (.iadd, 1) := by decide +kernel
theorem dX8_counted_15 : decode cX8_counted 15 = .ok (.iastore, 1) := by decide +kernel
theorem dX8_counted_16 : decode cX8_counted 16 = .ok (.goto 51, 3) := by decide +kernel
theorem dX8_counted_19 : decode cX8_counted 19 = .ok (.iload_n 1, 1) := by decide +kernel
theorem dX8_counted_20 : decode cX8_counted 20 = .ok (.bipush (-4), 2) := by decide +kernel
theorem dX8_counted_22 : decode cX8_counted 22 = .ok (.if_icmp .ne 16, 3) := by decide +kernel
theorem dX8_counted_25 : decode cX8_counted 25 = .ok (.aload_n 0, 1) := by decide +kernel
theorem dX8_counted_26 : decode cX8_counted 26 = .ok (.getfield 19, 3) := by decide +kernel
theorem dX8_counted_29 : decode cX8_counted 29 = .ok (.iconst 2, 1) := by decide +kernel
theorem dX8_counted_30 : decode cX8_counted 30 = .ok (.dup2, 1) := by decide +kernel
theorem dX8_counted_31 : decode cX8_counted 31 = .ok (.iaload, 1) := by decide +kernel
theorem dX8_counted_32 : decode cX8_counted 32 = .ok (.iconst 1, 1) := by decide +kernel
theorem dX8_counted_33 : decode cX8_counted 33 = .ok (.iadd, 1) := by decide +kernel
theorem dX8_counted_34 : decode cX8_counted 34 = .ok (.iastore, 1) := by decide +kernel
theorem dX8_counted_35 : decode cX8_counted 35 = .ok (.goto 32, 3) := by decide +kernel
theorem dX8_counted_38 : decode cX8_counted 38 = .ok (.iload_n 1, 1) := by decide +kernel
theorem dX8_counted_39 : decode cX8_counted 39 = .ok (.bipush (-10), 2) := by decide +kernel
theorem dX8_counted_41 : decode cX8_counted 41 = .ok (.if_icmp .gt 26, 3) := by decide +kernel
theorem dX8_counted_44 : decode cX8_counted 44 = .ok (.aload_n 0, 1) := by decide +kernel
theorem dX8_counted_45 : decode cX8_counted 45 = .ok (.getfield 22, 3) := by decide +kernel
theorem dX8_counted_48 : decode cX8_counted 48 = .ok (.bipush (-10), 2) := by decide +kernel
theorem dX8_counted_50 : decode cX8_counted 50 = .ok (.iload_n 1, 1) := by decide +kernel
theorem dX8_counted_51 : decode cX8_counted 51 = .ok (.isub, 1) := by decide +kernel
theorem dX8_counted_52 : decode cX8_counted 52 = .ok (.dup2, 1) := by decide +kernel
theorem dX8_counted_53 : decode cX8_counted 53 = .ok (.iaload, 1) := by decide +kernel
theorem dX8_counted_54 : decode cX8_counted 54 = .ok (.iconst 1, 1) := by decide +kernel
theorem dX8_counted_55 : decode cX8_counted 55 = .ok (.iadd, 1) := by decide +kernel
theorem dX8_counted_56 : decode cX8_counted 56 = .ok (.iastore, 1) := by decide +kernel
theorem dX8_counted_57 : decode cX8_counted 57 = .ok (.aload_n 0, 1) := by decide +kernel
theorem dX8_counted_58 : decode cX8_counted 58 = .ok (.getfield 22, 3) := by decide +kernel
theorem dX8_counted_61 : decode cX8_counted 61 = .ok (.iconst 0, 1) := by decide +kernel
theorem dX8_counted_62 : decode cX8_counted 62 = .ok (.dup2, 1) := by decide +kernel
theorem dX8_counted_63 : decode cX8_counted 63 = .ok (.iaload, 1) := by decide +kernel
theorem dX8_counted_64 : decode cX8_counted 64 = .ok (.iconst 1, 1) := by decide +kernel
theorem dX8_counted_65 : decode cX8_counted 65 = .ok (.iadd, 1) := by decide +kernel
theorem dX8_counted_66 : decode cX8_counted 66 = .ok (.iastore, 1) := by decide +kernel
theorem dX8_counted_67 : decode cX8_counted 67 = .ok (.iload_n 1, 1) := by decide +kernel
theorem dX8_counted_68 : decode cX8_counted 68 = .ok (.ireturn, 1) := by decide +kernel
theorem dX8_piecePlace_0 : decode cX8_piecePlace 0 = .ok (.iconst 1, 1) := by decide +kernel
theorem dX8_piecePlace_1 : decode cX8_piecePlace 1 = .ok (.bipush 15, 2) := by decide +kernel
theorem dX8_piecePlace_3 : decode cX8_piecePlace 3 = .ok (.iload_n 0, 1) := by decide +kernel
theorem dX8_piecePlace_4 : decode cX8_piecePlace 4 = .ok (.imul, 1) := by decide +kernel
theorem dX8_piecePlace_5 : decode cX8_piecePlace 5 = .ok (.iadd, 1) := by decide +kernel
theorem dX8_piecePlace_6 : decode cX8_piecePlace 6 = .ok (.ireturn, 1) := by decide +kernel
theorem dX8_sizeOf_0 : decode cX8_sizeOf 0 = .ok (.aload_n 0, 1) := by decide +kernel
theorem dX8_sizeOf_1 : decode cX8_sizeOf 1 = .ok (.getfield 7, 3) := by decide +kernel
theorem dX8_sizeOf_4 : decode cX8_sizeOf 4 = .ok (.iload_n 1, 1) := by decide +kernel
theorem dX8_sizeOf_5 : decode cX8_sizeOf 5 = .ok (.invokestatic 47, 3) := by decide +kernel
theorem dX8_sizeOf_8 : decode cX8_sizeOf 8 = .ok (.iaload, 1) := by decide +kernel
theorem dX8_sizeOf_9 : decode cX8_sizeOf 9 = .ok (.ireturn, 1) := by decide +kernel
theorem dX8_isLive_0 : decode cX8_isLive 0 = .ok (.aload_n 0, 1) := by decide +kernel
theorem dX8_isLive_1 : decode cX8_isLive 1 = .ok (.getfield 7, 3) := by decide +kernel
theorem dX8_isLive_4 : decode cX8_isLive 4 = .ok (.iload_n 1, 1) := by decide +kernel
theorem dX8_isLive_5 : decode cX8_isLive 5 = .ok (.invokestatic 47, 3) := by decide +kernel
theorem dX8_isLive_8 : decode cX8_isLive 8 = .ok (.iconst 1, 1) := by decide +kernel
theorem dX8_isLive_9 : decode cX8_isLive 9 = .ok (.iadd, 1) := by decide +kernel
theorem dX8_isLive_10 : decode cX8_isLive 10 = .ok (.iaload, 1) := by decide +kernel
theorem dX8_isLive_11 : decode cX8_isLive 11 = .ok (.iconst 1, 1) := by decide +kernel
theorem dX8_isLive_12 : decode cX8_isLive 12 = .ok (.if_icmp .ne 7, 3) := by decide +kernel
theorem dX8_isLive_15 : decode cX8_isLive 15 = .ok (.iconst 1, 1) := by decide +kernel
theorem dX8_isLive_16 : decode cX8_isLive 16 = .ok (.goto 4, 3) := by decide +kernel
theorem dX8_isLive_19 : decode cX8_isLive 19 = .ok (.iconst 0, 1) := by decide +kernel
theorem dX8_isLive_20 : decode cX8_isLive 20 = .ok (.ireturn, 1) := by decide +kernel
theorem dX8_isFrozen_0 : decode cX8_isFrozen 0 = .ok (.aload_n 0, 1) := by decide +kernel
theorem dX8_isFrozen_1 : decode cX8_isFrozen 1 = .ok (.getfield 7, 3) := by decide +kernel
theorem dX8_isFrozen_4 : decode cX8_isFrozen 4 = .ok (.iload_n 1, 1) := by decide +kernel
theorem dX8_isFrozen_5 : decode cX8_isFrozen 5 = .ok (.invokestatic 47, 3) := by decide +kernel
theorem dX8_isFrozen_8 : decode cX8_isFrozen 8 = .ok (.iconst 2, 1) := by decide +kernel
theorem dX8_isFrozen_9 : decode cX8_isFrozen 9 = .ok (.iadd, 1) := by decide +kernel
theorem dX8_isFrozen_10 : decode cX8_isFrozen 10 = .ok (.iaload, 1) := by decide +kernel
theorem dX8_isFrozen_11 : decode cX8_isFrozen 11 = .ok (.iconst 1, 1) := by decide +kernel
theorem dX8_isFrozen_12 : decode cX8_isFrozen 12 = .ok (.if_icmp .ne 7, 3) := by decide +kernel
theorem dX8_isFrozen_15 : decode cX8_isFrozen 15 = .ok (.iconst 1, 1) := by decide +kernel
theorem dX8_isFrozen_16 : decode cX8_isFrozen 16 = .ok (.goto 4, 3) := by decide +kernel
theorem dX8_isFrozen_19 : decode cX8_isFrozen 19 = .ok (.iconst 0, 1) := by decide +kernel
theorem dX8_isFrozen_20 : decode cX8_isFrozen 20 = .ok (.ireturn, 1) := by decide +kernel
theorem dX8_bytePlace_0 : decode cX8_bytePlace 0 = .ok (.iload_n 0, 1) := by decide +kernel
theorem dX8_bytePlace_1 : decode cX8_bytePlace 1 = .ok (.invokestatic 47, 3) := by decide +kernel
theorem dX8_bytePlace_4 : decode cX8_bytePlace 4 = .ok (.iconst 3, 1) := by decide +kernel
theorem dX8_bytePlace_5 : decode cX8_bytePlace 5 = .ok (.iadd, 1) := by decide +kernel
theorem dX8_bytePlace_6 : decode cX8_bytePlace 6 = .ok (.iload_n 1, 1) := by decide +kernel
theorem dX8_bytePlace_7 : decode cX8_bytePlace 7 = .ok (.iadd, 1) := by decide +kernel
theorem dX8_bytePlace_8 : decode cX8_bytePlace 8 = .ok (.ireturn, 1) := by decide +kernel
theorem dX8_isRegister_0 : decode cX8_isRegister 0 = .ok (.iload_n 0, 1) := by decide +kernel
theorem dX8_isRegister_1 : decode cX8_isRegister 1 = .ok (.iconst 0, 1) := by decide +kernel
theorem dX8_isRegister_2 : decode cX8_isRegister 2 = .ok (.iconst 5, 1) := by decide +kernel
theorem dX8_isRegister_3 : decode cX8_isRegister 3 = .ok (.invokestatic 51, 3) := by decide +kernel
theorem dX8_isRegister_6 : decode cX8_isRegister 6 = .ok (.ireturn, 1) := by decide +kernel
theorem dX8_kindOf_0 : decode cX8_kindOf 0 = .ok (.aload_n 0, 1) := by decide +kernel
theorem dX8_kindOf_1 : decode cX8_kindOf 1 = .ok (.getfield 7, 3) := by decide +kernel
theorem dX8_kindOf_4 : decode cX8_kindOf 4 = .ok (.sipush 151, 3) := by decide +kernel
theorem dX8_kindOf_7 : decode cX8_kindOf 7 = .ok (.iconst 3, 1) := by decide +kernel
theorem dX8_kindOf_8 : decode cX8_kindOf 8 = .ok (.iload_n 1, 1) := by decide +kernel
theorem dX8_kindOf_9 : decode cX8_kindOf 9 = .ok (.imul, 1) := by decide +kernel
theorem dX8_kindOf_10 : decode cX8_kindOf 10 = .ok (.iadd, 1) := by decide +kernel
theorem dX8_kindOf_11 : decode cX8_kindOf 11 = .ok (.iaload, 1) := by decide +kernel
theorem dX8_kindOf_12 : decode cX8_kindOf 12 = .ok (.ireturn, 1) := by decide +kernel
theorem dX8_valueOf_0 : decode cX8_valueOf 0 = .ok (.aload_n 0, 1) := by decide +kernel
theorem dX8_valueOf_1 : decode cX8_valueOf 1 = .ok (.getfield 7, 3) := by decide +kernel
theorem dX8_valueOf_4 : decode cX8_valueOf 4 = .ok (.sipush 151, 3) := by decide +kernel
theorem dX8_valueOf_7 : decode cX8_valueOf 7 = .ok (.iconst 3, 1) := by decide +kernel
theorem dX8_valueOf_8 : decode cX8_valueOf 8 = .ok (.iload_n 1, 1) := by decide +kernel
theorem dX8_valueOf_9 : decode cX8_valueOf 9 = .ok (.imul, 1) := by decide +kernel
theorem dX8_valueOf_10 : decode cX8_valueOf 10 = .ok (.iadd, 1) := by decide +kernel
theorem dX8_valueOf_11 : decode cX8_valueOf 11 = .ok (.iconst 1, 1) := by decide +kernel
theorem dX8_valueOf_12 : decode cX8_valueOf 12 = .ok (.iadd, 1) := by decide +kernel
theorem dX8_valueOf_13 : decode cX8_valueOf 13 = .ok (.iaload, 1) := by decide +kernel
theorem dX8_valueOf_14 : decode cX8_valueOf 14 = .ok (.ireturn, 1) := by decide +kernel
theorem dX8_placeOf_0 : decode cX8_placeOf 0 = .ok (.aload_n 0, 1) := by decide +kernel
theorem dX8_placeOf_1 : decode cX8_placeOf 1 = .ok (.getfield 7, 3) := by decide +kernel
theorem dX8_placeOf_4 : decode cX8_placeOf 4 = .ok (.sipush 151, 3) := by decide +kernel
theorem dX8_placeOf_7 : decode cX8_placeOf 7 = .ok (.iconst 3, 1) := by decide +kernel
theorem dX8_placeOf_8 : decode cX8_placeOf 8 = .ok (.iload_n 1, 1) := by decide +kernel
theorem dX8_placeOf_9 : decode cX8_placeOf 9 = .ok (.imul, 1) := by decide +kernel
theorem dX8_placeOf_10 : decode cX8_placeOf 10 = .ok (.iadd, 1) := by decide +kernel
theorem dX8_placeOf_11 : decode cX8_placeOf 11 = .ok (.iconst 2, 1) := by decide +kernel
theorem dX8_placeOf_12 : decode cX8_placeOf 12 = .ok (.iadd, 1) := by decide +kernel
theorem dX8_placeOf_13 : decode cX8_placeOf 13 = .ok (.iaload, 1) := by decide +kernel
theorem dX8_placeOf_14 : decode cX8_placeOf 14 = .ok (.ireturn, 1) := by decide +kernel
theorem dX8_tells_0 : decode cX8_tells 0 = .ok (.aload_n 0, 1) := by decide +kernel
theorem dX8_tells_1 : decode cX8_tells 1 = .ok (.getfield 7, 3) := by decide +kernel
theorem dX8_tells_4 : decode cX8_tells 4 = .ok (.sipush 151, 3) := by decide +kernel
theorem dX8_tells_7 : decode cX8_tells 7 = .ok (.iconst 3, 1) := by decide +kernel
theorem dX8_tells_8 : decode cX8_tells 8 = .ok (.iload_n 1, 1) := by decide +kernel
theorem dX8_tells_9 : decode cX8_tells 9 = .ok (.imul, 1) := by decide +kernel
theorem dX8_tells_10 : decode cX8_tells 10 = .ok (.iadd, 1) := by decide +kernel
theorem dX8_tells_11 : decode cX8_tells 11 = .ok (.iload_n 2, 1) := by decide +kernel
theorem dX8_tells_12 : decode cX8_tells 12 = .ok (.iastore, 1) := by decide +kernel
theorem dX8_tells_13 : decode cX8_tells 13 = .ok (.aload_n 0, 1) := by decide +kernel
theorem dX8_tells_14 : decode cX8_tells 14 = .ok (.getfield 7, 3) := by decide +kernel
theorem dX8_tells_17 : decode cX8_tells 17 = .ok (.sipush 151, 3) := by decide +kernel
theorem dX8_tells_20 : decode cX8_tells 20 = .ok (.iconst 3, 1) := by decide +kernel
theorem dX8_tells_21 : decode cX8_tells 21 = .ok (.iload_n 1, 1) := by decide +kernel
theorem dX8_tells_22 : decode cX8_tells 22 = .ok (.imul, 1) := by decide +kernel
theorem dX8_tells_23 : decode cX8_tells 23 = .ok (.iadd, 1) := by decide +kernel
theorem dX8_tells_24 : decode cX8_tells 24 = .ok (.iconst 1, 1) := by decide +kernel
theorem dX8_tells_25 : decode cX8_tells 25 = .ok (.iadd, 1) := by decide +kernel
theorem dX8_tells_26 : decode cX8_tells 26 = .ok (.iload_n 3, 1) := by decide +kernel
theorem dX8_tells_27 : decode cX8_tells 27 = .ok (.iastore, 1) := by decide +kernel
theorem dX8_tells_28 : decode cX8_tells 28 = .ok (.aload_n 0, 1) := by decide +kernel
theorem dX8_tells_29 : decode cX8_tells 29 = .ok (.getfield 7, 3) := by decide +kernel
theorem dX8_tells_32 : decode cX8_tells 32 = .ok (.sipush 151, 3) := by decide +kernel
theorem dX8_tells_35 : decode cX8_tells 35 = .ok (.iconst 3, 1) := by decide +kernel
theorem dX8_tells_36 : decode cX8_tells 36 = .ok (.iload_n 1, 1) := by decide +kernel
theorem dX8_tells_37 : decode cX8_tells 37 = .ok (.imul, 1) := by decide +kernel
theorem dX8_tells_38 : decode cX8_tells 38 = .ok (.iadd, 1) := by decide +kernel
theorem dX8_tells_39 : decode cX8_tells 39 = .ok (.iconst 2, 1) := by decide +kernel
theorem dX8_tells_40 : decode cX8_tells 40 = .ok (.iadd, 1) := by decide +kernel
theorem dX8_tells_41 : decode cX8_tells 41 = .ok (.iload 4, 2) := by decide +kernel
theorem dX8_tells_43 : decode cX8_tells 43 = .ok (.iastore, 1) := by decide +kernel
theorem dX8_tells_44 : decode cX8_tells 44 = .ok (.iload_n 2, 1) := by decide +kernel
theorem dX8_tells_45 : decode cX8_tells 45 = .ok (.ireturn, 1) := by decide +kernel
theorem dX8_undefinedAs_0 : decode cX8_undefinedAs 0 = .ok (.bipush (-10), 2) := by decide +kernel
theorem dX8_undefinedAs_2 : decode cX8_undefinedAs 2 = .ok (.iload_n 0, 1) := by decide +kernel
theorem dX8_undefinedAs_3 : decode cX8_undefinedAs 3 = .ok (.isub, 1) := by decide +kernel
theorem dX8_undefinedAs_4 : decode cX8_undefinedAs 4 = .ok (.ireturn, 1) := by decide +kernel
theorem dX8_notGood_0 : decode cX8_notGood 0 = .ok (.aload_n 0, 1) := by decide +kernel
theorem dX8_notGood_1 : decode cX8_notGood 1 = .ok (.iload_n 1, 1) := by decide +kernel
theorem dX8_notGood_2 : decode cX8_notGood 2 = .ok (.invokevirtual 55, 3) := by decide +kernel
theorem dX8_notGood_5 : decode cX8_notGood 5 = .ok (.iconst 2, 1) := by decide +kernel
theorem dX8_notGood_6 : decode cX8_notGood 6 = .ok (.if_icmp .eq 17, 3) := by decide +kernel
theorem dX8_notGood_9 : decode cX8_notGood 9 = .ok (.aload_n 0, 1) := by decide +kernel
theorem dX8_notGood_10 : decode cX8_notGood 10 = .ok (.iload_n 1, 1) := by decide +kernel
theorem dX8_notGood_11 : decode cX8_notGood 11 = .ok (.invokevirtual 55, 3) := by decide +kernel
theorem dX8_notGood_14 : decode cX8_notGood 14 = .ok (.ifCond .ne 7, 3) := by decide +kernel
theorem dX8_notGood_17 : decode cX8_notGood 17 = .ok (.iconst 1, 1) := by decide +kernel
theorem dX8_notGood_18 : decode cX8_notGood 18 = .ok (.goto 4, 3) := by decide +kernel
theorem dX8_notGood_21 : decode cX8_notGood 21 = .ok (.iconst 2, 1) := by decide +kernel
theorem dX8_notGood_22 : decode cX8_notGood 22 = .ok (.ireturn, 1) := by decide +kernel
theorem dX8_notGood_23 : decode cX8_notGood 23 = .ok (.aload_n 0, 1) := by decide +kernel
theorem dX8_notGood_24 : decode cX8_notGood 24 = .ok (.aload_n 0, 1) := by decide +kernel
theorem dX8_notGood_25 : decode cX8_notGood 25 = .ok (.iload_n 1, 1) := by decide +kernel
theorem dX8_notGood_26 : decode cX8_notGood 26 = .ok (.invokevirtual 58, 3) := by decide +kernel
theorem dX8_notGood_29 : decode cX8_notGood 29 = .ok (.invokevirtual 61, 3) := by decide +kernel
theorem dX8_notGood_32 : decode cX8_notGood 32 = .ok (.ifCond .eq 7, 3) := by decide +kernel
theorem dX8_notGood_35 : decode cX8_notGood 35 = .ok (.iconst 0, 1) := by decide +kernel
theorem dX8_notGood_36 : decode cX8_notGood 36 = .ok (.goto 4, 3) := by decide +kernel
theorem dX8_notGood_39 : decode cX8_notGood 39 = .ok (.iconst 3, 1) := by decide +kernel
theorem dX8_notGood_40 : decode cX8_notGood 40 = .ok (.ireturn, 1) := by decide +kernel
theorem dX8_isWithin_0 : decode cX8_isWithin 0 = .ok (.aload_n 0, 1) := by decide +kernel
theorem dX8_isWithin_1 : decode cX8_isWithin 1 = .ok (.iload_n 1, 1) := by decide +kernel
theorem dX8_isWithin_2 : decode cX8_isWithin 2 = .ok (.invokevirtual 65, 3) := by decide +kernel
theorem dX8_isWithin_5 : decode cX8_isWithin 5 = .ok (.iload_n 2, 1) := by decide +kernel
theorem dX8_isWithin_6 : decode cX8_isWithin 6 = .ok (.iadd, 1) := by decide +kernel
theorem dX8_isWithin_7 : decode cX8_isWithin 7 = .ok (.aload_n 0, 1) := by decide +kernel
theorem dX8_isWithin_8 : decode cX8_isWithin 8 = .ok (.aload_n 0, 1) := by decide +kernel
theorem dX8_isWithin_9 : decode cX8_isWithin 9 = .ok (.iload_n 1, 1) := by decide +kernel
theorem dX8_isWithin_10 : decode cX8_isWithin 10 = .ok (.invokevirtual 58, 3) := by decide +kernel
theorem dX8_isWithin_13 : decode cX8_isWithin 13 = .ok (.invokevirtual 68, 3) := by decide +kernel
theorem dX8_isWithin_16 : decode cX8_isWithin 16 = .ok (.if_icmp .gt 7, 3) := by decide +kernel
theorem dX8_isWithin_19 : decode cX8_isWithin 19 = .ok (.iconst 1, 1) := by decide +kernel
theorem dX8_isWithin_20 : decode cX8_isWithin 20 = .ok (.goto 4, 3) := by decide +kernel
theorem dX8_isWithin_23 : decode cX8_isWithin 23 = .ok (.iconst 0, 1) := by decide +kernel
theorem dX8_isWithin_24 : decode cX8_isWithin 24 = .ok (.ireturn, 1) := by decide +kernel
theorem dX8_notGoodFor_0 : decode cX8_notGoodFor 0 = .ok (.aload_n 0, 1) := by decide +kernel
theorem dX8_notGoodFor_1 : decode cX8_notGoodFor 1 = .ok (.iload_n 1, 1) := by decide +kernel
theorem dX8_notGoodFor_2 : decode cX8_notGoodFor 2 = .ok (.invokevirtual 71, 3) := by decide +kernel
theorem dX8_notGoodFor_5 : decode cX8_notGoodFor 5 = .ok (.istore_n 3, 1) := by decide +kernel
theorem dX8_notGoodFor_6 : decode cX8_notGoodFor 6 = .ok (.iload_n 3, 1) := by decide +kernel
theorem dX8_notGoodFor_7 : decode cX8_notGoodFor 7 = .ok (.ifCond .ne 16, 3) := by decide +kernel
theorem dX8_notGoodFor_10 : decode cX8_notGoodFor 10 = .ok (.aload_n 0, 1) := by decide +kernel
theorem dX8_notGoodFor_11 : decode cX8_notGoodFor 11 = .ok (.iload_n 1, 1) := by decide +kernel
theorem dX8_notGoodFor_12 : decode cX8_notGoodFor 12 = .ok (.iload_n 2, 1) := by decide +kernel
theorem dX8_notGoodFor_13 : decode cX8_notGoodFor 13 = .ok (.invokevirtual 74, 3) := by decide +kernel
theorem dX8_notGoodFor_16 : decode cX8_notGoodFor 16 = .ok (.ifCond .ne 7, 3) := by decide +kernel
theorem dX8_notGoodFor_19 : decode cX8_notGoodFor 19 = .ok (.iconst 5, 1) := by decide +kernel
theorem dX8_notGoodFor_20 : decode cX8_notGoodFor 20 = .ok (.goto 4, 3) := by decide +kernel
theorem dX8_notGoodFor_23 : decode cX8_notGoodFor 23 = .ok (.iload_n 3, 1) := by decide +kernel
theorem dX8_notGoodFor_24 : decode cX8_notGoodFor 24 = .ok (.ireturn, 1) := by decide +kernel
theorem dX8_notToWrite_0 : decode cX8_notToWrite 0 = .ok (.aload_n 0, 1) := by decide +kernel
theorem dX8_notToWrite_1 : decode cX8_notToWrite 1 = .ok (.iload_n 1, 1) := by decide +kernel
theorem dX8_notToWrite_2 : decode cX8_notToWrite 2 = .ok (.invokevirtual 71, 3) := by decide +kernel
theorem dX8_notToWrite_5 : decode cX8_notToWrite 5 = .ok (.istore_n 3, 1) := by decide +kernel
theorem dX8_notToWrite_6 : decode cX8_notToWrite 6 = .ok (.iload_n 3, 1) := by decide +kernel
theorem dX8_notToWrite_7 : decode cX8_notToWrite 7 = .ok (.ifCond .eq 5, 3) := by decide +kernel
theorem dX8_notToWrite_10 : decode cX8_notToWrite 10 = .ok (.iload_n 3, 1) := by decide +kernel
theorem dX8_notToWrite_11 : decode cX8_notToWrite 11 = .ok (.ireturn, 1) := by decide +kernel
theorem dX8_notToWrite_12 : decode cX8_notToWrite 12 = .ok (.aload_n 0, 1) := by decide +kernel
theorem dX8_notToWrite_13 : decode cX8_notToWrite 13 = .ok (.aload_n 0, 1) := by decide +kernel
theorem dX8_notToWrite_14 : decode cX8_notToWrite 14 = .ok (.iload_n 1, 1) := by decide +kernel
theorem dX8_notToWrite_15 : decode cX8_notToWrite 15 = .ok (.invokevirtual 58, 3) := by decide +kernel
theorem dX8_notToWrite_18 : decode cX8_notToWrite 18 = .ok (.invokevirtual 78, 3) := by decide +kernel
theorem dX8_notToWrite_21 : decode cX8_notToWrite 21 = .ok (.ifCond .eq 7, 3) := by decide +kernel
theorem dX8_notToWrite_24 : decode cX8_notToWrite 24 = .ok (.iconst 4, 1) := by decide +kernel
theorem dX8_notToWrite_25 : decode cX8_notToWrite 25 = .ok (.goto 17, 3) := by decide +kernel
theorem dX8_notToWrite_28 : decode cX8_notToWrite 28 = .ok (.aload_n 0, 1) := by decide +kernel
theorem dX8_notToWrite_29 : decode cX8_notToWrite 29 = .ok (.iload_n 1, 1) := by decide +kernel
theorem dX8_notToWrite_30 : decode cX8_notToWrite 30 = .ok (.iload_n 2, 1) := by decide +kernel
theorem dX8_notToWrite_31 : decode cX8_notToWrite 31 = .ok (.invokevirtual 74, 3) := by decide +kernel
theorem dX8_notToWrite_34 : decode cX8_notToWrite 34 = .ok (.ifCond .eq 7, 3) := by decide +kernel
theorem dX8_notToWrite_37 : decode cX8_notToWrite 37 = .ok (.iconst 0, 1) := by decide +kernel
theorem dX8_notToWrite_38 : decode cX8_notToWrite 38 = .ok (.goto 4, 3) := by decide +kernel
theorem dX8_notToWrite_41 : decode cX8_notToWrite 41 = .ok (.iconst 5, 1) := by decide +kernel
theorem dX8_notToWrite_42 : decode cX8_notToWrite 42 = .ok (.ireturn, 1) := by decide +kernel
theorem dX8_cuts_0 : decode cX8_cuts 0 = .ok (.aload_n 0, 1) := by decide +kernel
theorem dX8_cuts_1 : decode cX8_cuts 1 = .ok (.getfield 7, 3) := by decide +kernel
theorem dX8_cuts_4 : decode cX8_cuts 4 = .ok (.iload_n 1, 1) := by decide +kernel
theorem dX8_cuts_5 : decode cX8_cuts 5 = .ok (.iload_n 2, 1) := by decide +kernel
theorem dX8_cuts_6 : decode cX8_cuts 6 = .ok (.invokestatic 81, 3) := by decide +kernel
theorem dX8_cuts_9 : decode cX8_cuts 9 = .ok (.iaload, 1) := by decide +kernel
theorem dX8_cuts_10 : decode cX8_cuts 10 = .ok (.sipush 999, 3) := by decide +kernel
theorem dX8_cuts_13 : decode cX8_cuts 13 = .ok (.if_icmp .ne 16, 3) := by decide +kernel
theorem dX8_cuts_16 : decode cX8_cuts 16 = .ok (.aload_n 0, 1) := by decide +kernel
theorem dX8_cuts_17 : decode cX8_cuts 17 = .ok (.getfield 7, 3) := by decide +kernel
theorem dX8_cuts_20 : decode cX8_cuts 20 = .ok (.iload_n 1, 1) := by decide +kernel
theorem dX8_cuts_21 : decode cX8_cuts 21 = .ok (.iload_n 2, 1) := by decide +kernel
theorem dX8_cuts_22 : decode cX8_cuts 22 = .ok (.iconst 1, 1) := by decide +kernel
theorem dX8_cuts_23 : decode cX8_cuts 23 = .ok (.isub, 1) := by decide +kernel
theorem dX8_cuts_24 : decode cX8_cuts 24 = .ok (.invokestatic 81, 3) := by decide +kernel
theorem dX8_cuts_27 : decode cX8_cuts 27 = .ok (.iconst (-1), 1) := by decide +kernel
theorem dX8_cuts_28 : decode cX8_cuts 28 = .ok (.iastore, 1) := by decide +kernel
theorem dX8_cuts_29 : decode cX8_cuts 29 = .ok (.aload_n 0, 1) := by decide +kernel
theorem dX8_cuts_30 : decode cX8_cuts 30 = .ok (.getfield 7, 3) := by decide +kernel
theorem dX8_cuts_33 : decode cX8_cuts 33 = .ok (.iload_n 1, 1) := by decide +kernel
theorem dX8_cuts_34 : decode cX8_cuts 34 = .ok (.iload_n 2, 1) := by decide +kernel
theorem dX8_cuts_35 : decode cX8_cuts 35 = .ok (.iload_n 3, 1) := by decide +kernel
theorem dX8_cuts_36 : decode cX8_cuts 36 = .ok (.iadd, 1) := by decide +kernel
theorem dX8_cuts_37 : decode cX8_cuts 37 = .ok (.iconst 1, 1) := by decide +kernel
theorem dX8_cuts_38 : decode cX8_cuts 38 = .ok (.isub, 1) := by decide +kernel
theorem dX8_cuts_39 : decode cX8_cuts 39 = .ok (.invokestatic 81, 3) := by decide +kernel
theorem dX8_cuts_42 : decode cX8_cuts 42 = .ok (.iaload, 1) := by decide +kernel
theorem dX8_cuts_43 : decode cX8_cuts 43 = .ok (.sipush 1000, 3) := by decide +kernel
theorem dX8_cuts_46 : decode cX8_cuts 46 = .ok (.if_icmp .lt 16, 3) := by decide +kernel
theorem dX8_cuts_49 : decode cX8_cuts 49 = .ok (.aload_n 0, 1) := by decide +kernel
theorem dX8_cuts_50 : decode cX8_cuts 50 = .ok (.getfield 7, 3) := by decide +kernel
theorem dX8_cuts_53 : decode cX8_cuts 53 = .ok (.iload_n 1, 1) := by decide +kernel
theorem dX8_cuts_54 : decode cX8_cuts 54 = .ok (.iload_n 2, 1) := by decide +kernel
theorem dX8_cuts_55 : decode cX8_cuts 55 = .ok (.iload_n 3, 1) := by decide +kernel
theorem dX8_cuts_56 : decode cX8_cuts 56 = .ok (.iadd, 1) := by decide +kernel
theorem dX8_cuts_57 : decode cX8_cuts 57 = .ok (.invokestatic 81, 3) := by decide +kernel
theorem dX8_cuts_60 : decode cX8_cuts 60 = .ok (.iconst (-1), 1) := by decide +kernel
theorem dX8_cuts_61 : decode cX8_cuts 61 = .ok (.iastore, 1) := by decide +kernel
theorem dX8_cuts_62 : decode cX8_cuts 62 = .ok (.return_, 1) := by decide +kernel
theorem dX8_makes_0 : decode cX8_makes 0 = .ok (.iload_n 1, 1) := by decide +kernel
theorem dX8_makes_1 : decode cX8_makes 1 = .ok (.invokestatic 85, 3) := by decide +kernel
theorem dX8_makes_4 : decode cX8_makes 4 = .ok (.ifCond .eq 13, 3) := by decide +kernel
theorem dX8_makes_7 : decode cX8_makes 7 = .ok (.iload_n 2, 1) := by decide +kernel
theorem dX8_makes_8 : decode cX8_makes 8 = .ok (.iconst 1, 1) := by decide +kernel
theorem dX8_makes_9 : decode cX8_makes 9 = .ok (.bipush 12, 2) := by decide +kernel
theorem dX8_makes_11 : decode cX8_makes 11 = .ok (.invokestatic 51, 3) := by decide +kernel
theorem dX8_makes_14 : decode cX8_makes 14 = .ok (.ifCond .ne 6, 3) := by decide +kernel
theorem dX8_makes_17 : decode cX8_makes 17 = .ok (.bipush (-2), 2) := by decide +kernel
theorem dX8_makes_19 : decode cX8_makes 19 = .ok (.ireturn, 1) := by decide +kernel
theorem dX8_makes_20 : decode cX8_makes 20 = .ok (.aload_n 0, 1) := by decide +kernel
theorem dX8_makes_21 : decode cX8_makes 21 = .ok (.getfield 7, 3) := by decide +kernel
theorem dX8_makes_24 : decode cX8_makes 24 = .ok (.iconst 0, 1) := by decide +kernel
theorem dX8_makes_25 : decode cX8_makes 25 = .ok (.iaload, 1) := by decide +kernel
theorem dX8_makes_26 : decode cX8_makes 26 = .ok (.bipush 10, 2) := by decide +kernel
theorem dX8_makes_28 : decode cX8_makes 28 = .ok (.if_icmp .ne 6, 3) := by decide +kernel
theorem dX8_makes_31 : decode cX8_makes 31 = .ok (.bipush (-4), 2) := by decide +kernel
theorem dX8_makes_33 : decode cX8_makes 33 = .ok (.ireturn, 1) := by decide +kernel
theorem dX8_makes_34 : decode cX8_makes 34 = .ok (.aload_n 0, 1) := by decide +kernel
theorem dX8_makes_35 : decode cX8_makes 35 = .ok (.getfield 7, 3) := by decide +kernel
theorem dX8_makes_38 : decode cX8_makes 38 = .ok (.iconst 0, 1) := by decide +kernel
theorem dX8_makes_39 : decode cX8_makes 39 = .ok (.iaload, 1) := by decide +kernel
theorem dX8_makes_40 : decode cX8_makes 40 = .ok (.istore_n 3, 1) := by decide +kernel
theorem dX8_makes_41 : decode cX8_makes 41 = .ok (.iload_n 3, 1) := by decide +kernel
theorem dX8_makes_42 : decode cX8_makes 42 = .ok (.invokestatic 47, 3) := by decide +kernel
theorem dX8_makes_45 : decode cX8_makes 45 = .ok (.istore 4, 2) := by decide +kernel
theorem dX8_makes_47 : decode cX8_makes 47 = .ok (.aload_n 0, 1) := by decide +kernel
theorem dX8_makes_48 : decode cX8_makes 48 = .ok (.getfield 7, 3) := by decide +kernel
theorem dX8_makes_51 : decode cX8_makes 51 = .ok (.iload 4, 2) := by decide +kernel
theorem dX8_makes_53 : decode cX8_makes 53 = .ok (.iload_n 2, 1) := by decide +kernel
theorem dX8_makes_54 : decode cX8_makes 54 = .ok (.iastore, 1) := by decide +kernel
theorem dX8_makes_55 : decode cX8_makes 55 = .ok (.aload_n 0, 1) := by decide +kernel
theorem dX8_makes_56 : decode cX8_makes 56 = .ok (.getfield 7, 3) := by decide +kernel
theorem dX8_makes_59 : decode cX8_makes 59 = .ok (.iload 4, 2) := by decide +kernel
theorem dX8_makes_61 : decode cX8_makes 61 = .ok (.iconst 1, 1) := by decide +kernel
theorem dX8_makes_62 : decode cX8_makes 62 = .ok (.iadd, 1) := by decide +kernel
theorem dX8_makes_63 : decode cX8_makes 63 = .ok (.iconst 1, 1) := by decide +kernel
theorem dX8_makes_64 : decode cX8_makes 64 = .ok (.iastore, 1) := by decide +kernel
theorem dX8_makes_65 : decode cX8_makes 65 = .ok (.aload_n 0, 1) := by decide +kernel
theorem dX8_makes_66 : decode cX8_makes 66 = .ok (.getfield 7, 3) := by decide +kernel
theorem dX8_makes_69 : decode cX8_makes 69 = .ok (.iload 4, 2) := by decide +kernel
theorem dX8_makes_71 : decode cX8_makes 71 = .ok (.iconst 2, 1) := by decide +kernel
theorem dX8_makes_72 : decode cX8_makes 72 = .ok (.iadd, 1) := by decide +kernel
theorem dX8_makes_73 : decode cX8_makes 73 = .ok (.iconst 0, 1) := by decide +kernel
theorem dX8_makes_74 : decode cX8_makes 74 = .ok (.iastore, 1) := by decide +kernel
theorem dX8_makes_75 : decode cX8_makes 75 = .ok (.iconst 0, 1) := by decide +kernel
theorem dX8_makes_76 : decode cX8_makes 76 = .ok (.istore 5, 2) := by decide +kernel
theorem dX8_makes_78 : decode cX8_makes 78 = .ok (.iload 5, 2) := by decide +kernel
theorem dX8_makes_80 : decode cX8_makes 80 = .ok (.bipush 12, 2) := by decide +kernel
theorem dX8_makes_82 : decode cX8_makes 82 = .ok (.if_icmp .ge 32, 3) := by decide +kernel
theorem dX8_makes_85 : decode cX8_makes 85 = .ok (.aload_n 0, 1) := by decide +kernel
theorem dX8_makes_86 : decode cX8_makes 86 = .ok (.getfield 7, 3) := by decide +kernel
theorem dX8_makes_89 : decode cX8_makes 89 = .ok (.iload 4, 2) := by decide +kernel
theorem dX8_makes_91 : decode cX8_makes 91 = .ok (.iconst 3, 1) := by decide +kernel
theorem dX8_makes_92 : decode cX8_makes 92 = .ok (.iadd, 1) := by decide +kernel
theorem dX8_makes_93 : decode cX8_makes 93 = .ok (.iload 5, 2) := by decide +kernel
theorem dX8_makes_95 : decode cX8_makes 95 = .ok (.iadd, 1) := by decide +kernel
theorem dX8_makes_96 : decode cX8_makes 96 = .ok (.iload 5, 2) := by decide +kernel
theorem dX8_makes_98 : decode cX8_makes 98 = .ok (.iload_n 2, 1) := by decide +kernel
theorem dX8_makes_99 : decode cX8_makes 99 = .ok (.if_icmp .ge 7, 3) := by decide +kernel
theorem dX8_makes_102 : decode cX8_makes 102 = .ok (.iconst (-1), 1) := by decide +kernel
theorem dX8_makes_103 : decode cX8_makes 103 = .ok (.goto 4, 3) := by decide +kernel
theorem dX8_makes_106 : decode cX8_makes 106 = .ok (.iconst 0, 1) := by decide +kernel
theorem dX8_makes_107 : decode cX8_makes 107 = .ok (.iastore, 1) := by decide +kernel
theorem dX8_makes_108 : decode cX8_makes 108 = .ok (.iinc 5 1, 3) := by decide +kernel
theorem dX8_makes_111 : decode cX8_makes 111 = .ok (.goto (-33), 3) := by decide +kernel
theorem dX8_makes_114 : decode cX8_makes 114 = .ok (.aload_n 0, 1) := by decide +kernel
theorem dX8_makes_115 : decode cX8_makes 115 = .ok (.getfield 7, 3) := by decide +kernel
theorem dX8_makes_118 : decode cX8_makes 118 = .ok (.iconst 0, 1) := by decide +kernel
theorem dX8_makes_119 : decode cX8_makes 119 = .ok (.dup2, 1) := by decide +kernel
theorem dX8_makes_120 : decode cX8_makes 120 = .ok (.iaload, 1) := by decide +kernel
theorem dX8_makes_121 : decode cX8_makes 121 = .ok (.iconst 1, 1) := by decide +kernel
theorem dX8_makes_122 : decode cX8_makes 122 = .ok (.iadd, 1) := by decide +kernel
theorem dX8_makes_123 : decode cX8_makes 123 = .ok (.iastore, 1) := by decide +kernel
theorem dX8_makes_124 : decode cX8_makes 124 = .ok (.aload_n 0, 1) := by decide +kernel
theorem dX8_makes_125 : decode cX8_makes 125 = .ok (.iload_n 1, 1) := by decide +kernel
theorem dX8_makes_126 : decode cX8_makes 126 = .ok (.iconst 2, 1) := by decide +kernel
theorem dX8_makes_127 : decode cX8_makes 127 = .ok (.iload_n 3, 1) := by decide +kernel
theorem dX8_makes_128 : decode cX8_makes 128 = .ok (.iconst 0, 1) := by decide +kernel
theorem dX8_makes_129 : decode cX8_makes 129 = .ok (.invokevirtual 88, 3) := by decide +kernel
theorem dX8_makes_132 : decode cX8_makes 132 = .ok (.iconst 2, 1) := by decide +kernel
theorem dX8_makes_133 : decode cX8_makes 133 = .ok (.if_icmp .ne 7, 3) := by decide +kernel
theorem dX8_makes_136 : decode cX8_makes 136 = .ok (.iload_n 3, 1) := by decide +kernel
theorem dX8_makes_137 : decode cX8_makes 137 = .ok (.goto 4, 3) := by decide +kernel
theorem dX8_makes_140 : decode cX8_makes 140 = .ok (.iconst (-1), 1) := by decide +kernel
theorem dX8_makes_141 : decode cX8_makes 141 = .ok (.ireturn, 1) := by decide +kernel
theorem dX8_ends_0 : decode cX8_ends 0 = .ok (.iload_n 1, 1) := by decide +kernel
theorem dX8_ends_1 : decode cX8_ends 1 = .ok (.invokestatic 85, 3) := by decide +kernel
theorem dX8_ends_4 : decode cX8_ends 4 = .ok (.ifCond .ne 6, 3) := by decide +kernel
theorem dX8_ends_7 : decode cX8_ends 7 = .ok (.bipush (-2), 2) := by decide +kernel
theorem dX8_ends_9 : decode cX8_ends 9 = .ok (.ireturn, 1) := by decide +kernel
theorem dX8_ends_10 : decode cX8_ends 10 = .ok (.aload_n 0, 1) := by decide +kernel
theorem dX8_ends_11 : decode cX8_ends 11 = .ok (.iload_n 1, 1) := by decide +kernel
theorem dX8_ends_12 : decode cX8_ends 12 = .ok (.invokevirtual 71, 3) := by decide +kernel
theorem dX8_ends_15 : decode cX8_ends 15 = .ok (.istore_n 2, 1) := by decide +kernel
theorem dX8_ends_16 : decode cX8_ends 16 = .ok (.iload_n 2, 1) := by decide +kernel
theorem dX8_ends_17 : decode cX8_ends 17 = .ok (.ifCond .ne 34, 3) := by decide +kernel
theorem dX8_ends_20 : decode cX8_ends 20 = .ok (.aload_n 0, 1) := by decide +kernel
theorem dX8_ends_21 : decode cX8_ends 21 = .ok (.iload_n 1, 1) := by decide +kernel
theorem dX8_ends_22 : decode cX8_ends 22 = .ok (.invokevirtual 65, 3) := by decide +kernel
theorem dX8_ends_25 : decode cX8_ends 25 = .ok (.ifCond .eq 8, 3) := by decide +kernel
theorem dX8_ends_28 : decode cX8_ends 28 = .ok (.bipush 9, 2) := by decide +kernel
theorem dX8_ends_30 : decode cX8_ends 30 = .ok (.goto 20, 3) := by decide +kernel
theorem dX8_ends_33 : decode cX8_ends 33 = .ok (.aload_n 0, 1) := by decide +kernel
theorem dX8_ends_34 : decode cX8_ends 34 = .ok (.aload_n 0, 1) := by decide +kernel
theorem dX8_ends_35 : decode cX8_ends 35 = .ok (.iload_n 1, 1) := by decide +kernel
theorem dX8_ends_36 : decode cX8_ends 36 = .ok (.invokevirtual 58, 3) := by decide +kernel
theorem dX8_ends_39 : decode cX8_ends 39 = .ok (.invokevirtual 78, 3) := by decide +kernel
theorem dX8_ends_42 : decode cX8_ends 42 = .ok (.ifCond .eq 7, 3) := by decide +kernel
theorem dX8_ends_45 : decode cX8_ends 45 = .ok (.iconst 4, 1) := by decide +kernel
theorem dX8_ends_46 : decode cX8_ends 46 = .ok (.goto 4, 3) := by decide +kernel
theorem dX8_ends_49 : decode cX8_ends 49 = .ok (.iconst 0, 1) := by decide +kernel
theorem dX8_ends_50 : decode cX8_ends 50 = .ok (.istore_n 2, 1) := by decide +kernel
theorem dX8_ends_51 : decode cX8_ends 51 = .ok (.iload_n 2, 1) := by decide +kernel
theorem dX8_ends_52 : decode cX8_ends 52 = .ok (.ifCond .eq 8, 3) := by decide +kernel
theorem dX8_ends_55 : decode cX8_ends 55 = .ok (.iload_n 2, 1) := by decide +kernel
theorem dX8_ends_56 : decode cX8_ends 56 = .ok (.invokestatic 92, 3) := by decide +kernel
theorem dX8_ends_59 : decode cX8_ends 59 = .ok (.ireturn, 1) := by decide +kernel
theorem dX8_ends_60 : decode cX8_ends 60 = .ok (.aload_n 0, 1) := by decide +kernel
theorem dX8_ends_61 : decode cX8_ends 61 = .ok (.getfield 7, 3) := by decide +kernel
theorem dX8_ends_64 : decode cX8_ends 64 = .ok (.aload_n 0, 1) := by decide +kernel
theorem dX8_ends_65 : decode cX8_ends 65 = .ok (.iload_n 1, 1) := by decide +kernel
theorem dX8_ends_66 : decode cX8_ends 66 = .ok (.invokevirtual 58, 3) := by decide +kernel
theorem dX8_ends_69 : decode cX8_ends 69 = .ok (.invokestatic 47, 3) := by decide +kernel
theorem dX8_ends_72 : decode cX8_ends 72 = .ok (.iconst 1, 1) := by decide +kernel
theorem dX8_ends_73 : decode cX8_ends 73 = .ok (.iadd, 1) := by decide +kernel
theorem dX8_ends_74 : decode cX8_ends 74 = .ok (.iconst 0, 1) := by decide +kernel
theorem dX8_ends_75 : decode cX8_ends 75 = .ok (.iastore, 1) := by decide +kernel
theorem dX8_ends_76 : decode cX8_ends 76 = .ok (.aload_n 0, 1) := by decide +kernel
theorem dX8_ends_77 : decode cX8_ends 77 = .ok (.iload_n 1, 1) := by decide +kernel
theorem dX8_ends_78 : decode cX8_ends 78 = .ok (.invokevirtual 58, 3) := by decide +kernel
theorem dX8_ends_81 : decode cX8_ends 81 = .ok (.ireturn, 1) := by decide +kernel
theorem dX8_setsTo_0 : decode cX8_setsTo 0 = .ok (.iload_n 1, 1) := by decide +kernel
theorem dX8_setsTo_1 : decode cX8_setsTo 1 = .ok (.invokestatic 85, 3) := by decide +kernel
theorem dX8_setsTo_4 : decode cX8_setsTo 4 = .ok (.ifCond .eq 26, 3) := by decide +kernel
theorem dX8_setsTo_7 : decode cX8_setsTo 7 = .ok (.iload_n 2, 1) := by decide +kernel
theorem dX8_setsTo_8 : decode cX8_setsTo 8 = .ok (.iconst 0, 1) := by decide +kernel
theorem dX8_setsTo_9 : decode cX8_setsTo 9 = .ok (.ldc 95, 2) := by decide +kernel
theorem dX8_setsTo_11 : decode cX8_setsTo 11 = .ok (.invokestatic 51, 3) := by decide +kernel
theorem dX8_setsTo_14 : decode cX8_setsTo 14 = .ok (.ifCond .eq 16, 3) := by decide +kernel
theorem dX8_setsTo_17 : decode cX8_setsTo 17 = .ok (.aload_n 0, 1) := by decide +kernel
theorem dX8_setsTo_18 : decode cX8_setsTo 18 = .ok (.iload_n 1, 1) := by decide +kernel
theorem dX8_setsTo_19 : decode cX8_setsTo 19 = .ok (.iconst 1, 1) := by decide +kernel
theorem dX8_setsTo_20 : decode cX8_setsTo 20 = .ok (.iload_n 2, 1) := by decide +kernel
theorem dX8_setsTo_21 : decode cX8_setsTo 21 = .ok (.iconst 0, 1) := by decide +kernel
theorem dX8_setsTo_22 : decode cX8_setsTo 22 = .ok (.invokevirtual 88, 3) := by decide +kernel
theorem dX8_setsTo_25 : decode cX8_setsTo 25 = .ok (.iload_n 2, 1) := by decide +kernel
theorem dX8_setsTo_26 : decode cX8_setsTo 26 = .ok (.imul, 1) := by decide +kernel
theorem dX8_setsTo_27 : decode cX8_setsTo 27 = .ok (.goto 5, 3) := by decide +kernel
theorem dX8_setsTo_30 : decode cX8_setsTo 30 = .ok (.bipush (-2), 2) := by decide +kernel
theorem dX8_setsTo_32 : decode cX8_setsTo 32 = .ok (.ireturn, 1) := by decide +kernel
theorem dX8_copiesTo_0 : decode cX8_copiesTo 0 = .ok (.iload_n 1, 1) := by decide +kernel
theorem dX8_copiesTo_1 : decode cX8_copiesTo 1 = .ok (.invokestatic 85, 3) := by decide +kernel
theorem dX8_copiesTo_4 : decode cX8_copiesTo 4 = .ok (.ifCond .eq 33, 3) := by decide +kernel
theorem dX8_copiesTo_7 : decode cX8_copiesTo 7 = .ok (.iload_n 2, 1) := by decide +kernel
theorem dX8_copiesTo_8 : decode cX8_copiesTo 8 = .ok (.invokestatic 85, 3) := by decide +kernel
theorem dX8_copiesTo_11 : decode cX8_copiesTo 11 = .ok (.ifCond .eq 26, 3) := by decide +kernel
theorem dX8_copiesTo_14 : decode cX8_copiesTo 14 = .ok (.aload_n 0, 1) := by decide +kernel
theorem dX8_copiesTo_15 : decode cX8_copiesTo 15 = .ok (.iload_n 1, 1) := by decide +kernel
theorem dX8_copiesTo_16 : decode cX8_copiesTo 16 = .ok (.aload_n 0, 1) := by decide +kernel
theorem dX8_copiesTo_17 : decode cX8_copiesTo 17 = .ok (.iload_n 2, 1) := by decide +kernel
theorem dX8_copiesTo_18 : decode cX8_copiesTo 18 = .ok (.invokevirtual 55, 3) := by decide +kernel
theorem dX8_copiesTo_21 : decode cX8_copiesTo 21 = .ok (.aload_n 0, 1) := by decide +kernel
theorem dX8_copiesTo_22 : decode cX8_copiesTo 22 = .ok (.iload_n 2, 1) := by decide +kernel
theorem dX8_copiesTo_23 : decode cX8_copiesTo 23 = .ok (.invokevirtual 58, 3) := by decide +kernel
theorem dX8_copiesTo_26 : decode cX8_copiesTo 26 = .ok (.aload_n 0, 1) := by decide +kernel
theorem dX8_copiesTo_27 : decode cX8_copiesTo 27 = .ok (.iload_n 2, 1) := by decide +kernel
theorem dX8_copiesTo_28 : decode cX8_copiesTo 28 = .ok (.invokevirtual 65, 3) := by decide +kernel
theorem dX8_copiesTo_31 : decode cX8_copiesTo 31 = .ok (.invokevirtual 88, 3) := by decide +kernel
theorem dX8_copiesTo_34 : decode cX8_copiesTo 34 = .ok (.goto 5, 3) := by decide +kernel
theorem dX8_copiesTo_37 : decode cX8_copiesTo 37 = .ok (.bipush (-2), 2) := by decide +kernel
theorem dX8_copiesTo_39 : decode cX8_copiesTo 39 = .ok (.ireturn, 1) := by decide +kernel
theorem dX8_movesBy_0 : decode cX8_movesBy 0 = .ok (.iload_n 1, 1) := by decide +kernel
theorem dX8_movesBy_1 : decode cX8_movesBy 1 = .ok (.invokestatic 85, 3) := by decide +kernel
theorem dX8_movesBy_4 : decode cX8_movesBy 4 = .ok (.ifCond .eq 14, 3) := by decide +kernel
theorem dX8_movesBy_7 : decode cX8_movesBy 7 = .ok (.iload_n 2, 1) := by decide +kernel
theorem dX8_movesBy_8 : decode cX8_movesBy 8 = .ok (.bipush (-12), 2) := by decide +kernel
theorem dX8_movesBy_10 : decode cX8_movesBy 10 = .ok (.bipush 12, 2) := by decide +kernel
theorem dX8_movesBy_12 : decode cX8_movesBy 12 = .ok (.invokestatic 51, 3) := by decide +kernel
theorem dX8_movesBy_15 : decode cX8_movesBy 15 = .ok (.ifCond .ne 6, 3) := by decide +kernel
theorem dX8_movesBy_18 : decode cX8_movesBy 18 = .ok (.bipush (-2), 2) := by decide +kernel
theorem dX8_movesBy_20 : decode cX8_movesBy 20 = .ok (.ireturn, 1) := by decide +kernel
theorem dX8_movesBy_21 : decode cX8_movesBy 21 = .ok (.aload_n 0, 1) := by decide +kernel
theorem dX8_movesBy_22 : decode cX8_movesBy 22 = .ok (.iload_n 1, 1) := by decide +kernel
theorem dX8_movesBy_23 : decode cX8_movesBy 23 = .ok (.invokevirtual 55, 3) := by decide +kernel
theorem dX8_movesBy_26 : decode cX8_movesBy 26 = .ok (.ifCond .ne 8, 3) := by decide +kernel
theorem dX8_movesBy_29 : decode cX8_movesBy 29 = .ok (.iconst 1, 1) := by decide +kernel
theorem dX8_movesBy_30 : decode cX8_movesBy 30 = .ok (.invokestatic 92, 3) := by decide +kernel
theorem dX8_movesBy_33 : decode cX8_movesBy 33 = .ok (.ireturn, 1) := by decide +kernel
theorem dX8_movesBy_34 : decode cX8_movesBy 34 = .ok (.aload_n 0, 1) := by decide +kernel
theorem dX8_movesBy_35 : decode cX8_movesBy 35 = .ok (.iload_n 1, 1) := by decide +kernel
theorem dX8_movesBy_36 : decode cX8_movesBy 36 = .ok (.invokevirtual 58, 3) := by decide +kernel
theorem dX8_movesBy_39 : decode cX8_movesBy 39 = .ok (.istore_n 3, 1) := by decide +kernel
theorem dX8_movesBy_40 : decode cX8_movesBy 40 = .ok (.aload_n 0, 1) := by decide +kernel
theorem dX8_movesBy_41 : decode cX8_movesBy 41 = .ok (.iload_n 1, 1) := by decide +kernel
theorem dX8_movesBy_42 : decode cX8_movesBy 42 = .ok (.invokevirtual 55, 3) := by decide +kernel
theorem dX8_movesBy_45 : decode cX8_movesBy 45 = .ok (.iconst 1, 1) := by decide +kernel
theorem dX8_movesBy_46 : decode cX8_movesBy 46 = .ok (.if_icmp .ne 27, 3) := by decide +kernel
theorem dX8_movesBy_49 : decode cX8_movesBy 49 = .ok (.iload_n 3, 1) := by decide +kernel
theorem dX8_movesBy_50 : decode cX8_movesBy 50 = .ok (.iload_n 2, 1) := by decide +kernel
theorem dX8_movesBy_51 : decode cX8_movesBy 51 = .ok (.iadd, 1) := by decide +kernel
theorem dX8_movesBy_52 : decode cX8_movesBy 52 = .ok (.ldc 96, 2) := by decide +kernel
theorem dX8_movesBy_54 : decode cX8_movesBy 54 = .ok (.iadd, 1) := by decide +kernel
theorem dX8_movesBy_55 : decode cX8_movesBy 55 = .ok (.ldc 96, 2) := by decide +kernel
theorem dX8_movesBy_57 : decode cX8_movesBy 57 = .ok (.irem, 1) := by decide +kernel
theorem dX8_movesBy_58 : decode cX8_movesBy 58 = .ok (.istore 4, 2) := by decide +kernel
theorem dX8_movesBy_60 : decode cX8_movesBy 60 = .ok (.aload_n 0, 1) := by decide +kernel
theorem dX8_movesBy_61 : decode cX8_movesBy 61 = .ok (.iload_n 1, 1) := by decide +kernel
theorem dX8_movesBy_62 : decode cX8_movesBy 62 = .ok (.iconst 1, 1) := by decide +kernel
theorem dX8_movesBy_63 : decode cX8_movesBy 63 = .ok (.iload 4, 2) := by decide +kernel
theorem dX8_movesBy_65 : decode cX8_movesBy 65 = .ok (.iconst 0, 1) := by decide +kernel
theorem dX8_movesBy_66 : decode cX8_movesBy 66 = .ok (.invokevirtual 88, 3) := by decide +kernel
theorem dX8_movesBy_69 : decode cX8_movesBy 69 = .ok (.iload 4, 2) := by decide +kernel
theorem dX8_movesBy_71 : decode cX8_movesBy 71 = .ok (.imul, 1) := by decide +kernel
theorem dX8_movesBy_72 : decode cX8_movesBy 72 = .ok (.ireturn, 1) := by decide +kernel
theorem dX8_movesBy_73 : decode cX8_movesBy 73 = .ok (.aload_n 0, 1) := by decide +kernel
theorem dX8_movesBy_74 : decode cX8_movesBy 74 = .ok (.iload_n 1, 1) := by decide +kernel
theorem dX8_movesBy_75 : decode cX8_movesBy 75 = .ok (.invokevirtual 65, 3) := by decide +kernel
theorem dX8_movesBy_78 : decode cX8_movesBy 78 = .ok (.iload_n 2, 1) := by decide +kernel
theorem dX8_movesBy_79 : decode cX8_movesBy 79 = .ok (.iadd, 1) := by decide +kernel
theorem dX8_movesBy_80 : decode cX8_movesBy 80 = .ok (.istore 4, 2) := by decide +kernel
theorem dX8_movesBy_82 : decode cX8_movesBy 82 = .ok (.aload_n 0, 1) := by decide +kernel
theorem dX8_movesBy_83 : decode cX8_movesBy 83 = .ok (.iload_n 3, 1) := by decide +kernel
theorem dX8_movesBy_84 : decode cX8_movesBy 84 = .ok (.invokevirtual 61, 3) := by decide +kernel
theorem dX8_movesBy_87 : decode cX8_movesBy 87 = .ok (.ifCond .eq 17, 3) := by decide +kernel
theorem dX8_movesBy_90 : decode cX8_movesBy 90 = .ok (.iload 4, 2) := by decide +kernel
theorem dX8_movesBy_92 : decode cX8_movesBy 92 = .ok (.iconst 0, 1) := by decide +kernel
theorem dX8_movesBy_93 : decode cX8_movesBy 93 = .ok (.aload_n 0, 1) := by decide +kernel
theorem dX8_movesBy_94 : decode cX8_movesBy 94 = .ok (.iload_n 3, 1) := by decide +kernel
theorem dX8_movesBy_95 : decode cX8_movesBy 95 = .ok (.invokevirtual 68, 3) := by decide +kernel
theorem dX8_movesBy_98 : decode cX8_movesBy 98 = .ok (.invokestatic 51, 3) := by decide +kernel
theorem dX8_movesBy_101 : decode cX8_movesBy 101 = .ok (.ifCond .ne 20, 3) := by decide +kernel
theorem dX8_movesBy_104 : decode cX8_movesBy 104 = .ok (.aload_n 0, 1) := by decide +kernel
theorem dX8_movesBy_105 : decode cX8_movesBy 105 = .ok (.iload_n 3, 1) := by decide +kernel
theorem dX8_movesBy_106 : decode cX8_movesBy 106 = .ok (.invokevirtual 61, 3) := by decide +kernel
theorem dX8_movesBy_109 : decode cX8_movesBy 109 = .ok (.ifCond .eq 7, 3) := by decide +kernel
theorem dX8_movesBy_112 : decode cX8_movesBy 112 = .ok (.iconst 5, 1) := by decide +kernel
theorem dX8_movesBy_113 : decode cX8_movesBy 113 = .ok (.goto 4, 3) := by decide +kernel
theorem dX8_movesBy_116 : decode cX8_movesBy 116 = .ok (.iconst 3, 1) := by decide +kernel
theorem dX8_movesBy_117 : decode cX8_movesBy 117 = .ok (.invokestatic 92, 3) := by decide +kernel
theorem dX8_movesBy_120 : decode cX8_movesBy 120 = .ok (.ireturn, 1) := by decide +kernel
theorem dX8_movesBy_121 : decode cX8_movesBy 121 = .ok (.aload_n 0, 1) := by decide +kernel
theorem dX8_movesBy_122 : decode cX8_movesBy 122 = .ok (.iload_n 1, 1) := by decide +kernel
theorem dX8_movesBy_123 : decode cX8_movesBy 123 = .ok (.iconst 2, 1) := by decide +kernel
theorem dX8_movesBy_124 : decode cX8_movesBy 124 = .ok (.iload_n 3, 1) := by decide +kernel
theorem dX8_movesBy_125 : decode cX8_movesBy 125 = .ok (.iload 4, 2) := by decide +kernel
theorem dX8_movesBy_127 : decode cX8_movesBy 127 = .ok (.invokevirtual 88, 3) := by decide +kernel
theorem dX8_movesBy_130 : decode cX8_movesBy 130 = .ok (.iconst 2, 1) := by decide +kernel
theorem dX8_movesBy_131 : decode cX8_movesBy 131 = .ok (.if_icmp .ne 8, 3) := by decide +kernel
theorem dX8_movesBy_134 : decode cX8_movesBy 134 = .ok (.iload 4, 2) := by decide +kernel
theorem dX8_movesBy_136 : decode cX8_movesBy 136 = .ok (.goto 4, 3) := by decide +kernel
theorem dX8_movesBy_139 : decode cX8_movesBy 139 = .ok (.iconst (-1), 1) := by decide +kernel
theorem dX8_movesBy_140 : decode cX8_movesBy 140 = .ok (.ireturn, 1) := by decide +kernel
theorem dX8_storesAt_0 : decode cX8_storesAt 0 = .ok (.iload_n 1, 1) := by decide +kernel
theorem dX8_storesAt_1 : decode cX8_storesAt 1 = .ok (.invokestatic 85, 3) := by decide +kernel
theorem dX8_storesAt_4 : decode cX8_storesAt 4 = .ok (.ifCond .eq 19, 3) := by decide +kernel
theorem dX8_storesAt_7 : decode cX8_storesAt 7 = .ok (.iload_n 2, 1) := by decide +kernel
theorem dX8_storesAt_8 : decode cX8_storesAt 8 = .ok (.invokestatic 85, 3) := by decide +kernel
theorem dX8_storesAt_11 : decode cX8_storesAt 11 = .ok (.ifCond .eq 12, 3) := by decide +kernel
theorem dX8_storesAt_14 : decode cX8_storesAt 14 = .ok (.iload_n 3, 1) := by decide +kernel
theorem dX8_storesAt_15 : decode cX8_storesAt 15 = .ok (.iconst 1, 1) := by decide +kernel
theorem dX8_storesAt_16 : decode cX8_storesAt 16 = .ok (.iconst 2, 1) := by decide +kernel
theorem dX8_storesAt_17 : decode cX8_storesAt 17 = .ok (.invokestatic 51, 3) := by decide +kernel
theorem dX8_storesAt_20 : decode cX8_storesAt 20 = .ok (.ifCond .ne 6, 3) := by decide +kernel
theorem dX8_storesAt_23 : decode cX8_storesAt 23 = .ok (.bipush (-2), 2) := by decide +kernel
theorem dX8_storesAt_25 : decode cX8_storesAt 25 = .ok (.ireturn, 1) := by decide +kernel
theorem dX8_storesAt_26 : decode cX8_storesAt 26 = .ok (.aload_n 0, 1) := by decide +kernel
theorem dX8_storesAt_27 : decode cX8_storesAt 27 = .ok (.iload_n 1, 1) := by decide +kernel
theorem dX8_storesAt_28 : decode cX8_storesAt 28 = .ok (.iload_n 3, 1) := by decide +kernel
theorem dX8_storesAt_29 : decode cX8_storesAt 29 = .ok (.invokevirtual 97, 3) := by decide +kernel
theorem dX8_storesAt_32 : decode cX8_storesAt 32 = .ok (.istore 4, 2) := by decide +kernel
theorem dX8_storesAt_34 : decode cX8_storesAt 34 = .ok (.iload 4, 2) := by decide +kernel
theorem dX8_storesAt_36 : decode cX8_storesAt 36 = .ok (.ifCond .ne 37, 3) := by decide +kernel
theorem dX8_storesAt_39 : decode cX8_storesAt 39 = .ok (.aload_n 0, 1) := by decide +kernel
theorem dX8_storesAt_40 : decode cX8_storesAt 40 = .ok (.iload_n 2, 1) := by decide +kernel
theorem dX8_storesAt_41 : decode cX8_storesAt 41 = .ok (.invokevirtual 55, 3) := by decide +kernel
theorem dX8_storesAt_44 : decode cX8_storesAt 44 = .ok (.ifCond .ne 7, 3) := by decide +kernel
theorem dX8_storesAt_47 : decode cX8_storesAt 47 = .ok (.iconst 1, 1) := by decide +kernel
theorem dX8_storesAt_48 : decode cX8_storesAt 48 = .ok (.goto 23, 3) := by decide +kernel
theorem dX8_storesAt_51 : decode cX8_storesAt 51 = .ok (.aload_n 0, 1) := by decide +kernel
theorem dX8_storesAt_52 : decode cX8_storesAt 52 = .ok (.iload_n 2, 1) := by decide +kernel
theorem dX8_storesAt_53 : decode cX8_storesAt 53 = .ok (.invokevirtual 55, 3) := by decide +kernel
theorem dX8_storesAt_56 : decode cX8_storesAt 56 = .ok (.iconst 2, 1) := by decide +kernel
theorem dX8_storesAt_57 : decode cX8_storesAt 57 = .ok (.if_icmp .ne 13, 3) := by decide +kernel
theorem dX8_storesAt_60 : decode cX8_storesAt 60 = .ok (.iload_n 3, 1) := by decide +kernel
theorem dX8_storesAt_61 : decode cX8_storesAt 61 = .ok (.iconst 1, 1) := by decide +kernel
theorem dX8_storesAt_62 : decode cX8_storesAt 62 = .ok (.if_icmp .ne 8, 3) := by decide +kernel
theorem dX8_storesAt_65 : decode cX8_storesAt 65 = .ok (.bipush 7, 2) := by decide +kernel
theorem dX8_storesAt_67 : decode cX8_storesAt 67 = .ok (.goto 4, 3) := by decide +kernel
theorem dX8_storesAt_70 : decode cX8_storesAt 70 = .ok (.iconst 0, 1) := by decide +kernel
theorem dX8_storesAt_71 : decode cX8_storesAt 71 = .ok (.istore 4, 2) := by decide +kernel
theorem dX8_storesAt_73 : decode cX8_storesAt 73 = .ok (.iload 4, 2) := by decide +kernel
theorem dX8_storesAt_75 : decode cX8_storesAt 75 = .ok (.ifCond .eq 9, 3) := by decide +kernel
theorem dX8_storesAt_78 : decode cX8_storesAt 78 = .ok (.iload 4, 2) := by decide +kernel
theorem dX8_storesAt_80 : decode cX8_storesAt 80 = .ok (.invokestatic 92, 3) := by decide +kernel
theorem dX8_storesAt_83 : decode cX8_storesAt 83 = .ok (.ireturn, 1) := by decide +kernel
theorem dX8_storesAt_84 : decode cX8_storesAt 84 = .ok (.aload_n 0, 1) := by decide +kernel
theorem dX8_storesAt_85 : decode cX8_storesAt 85 = .ok (.iload_n 1, 1) := by decide +kernel
theorem dX8_storesAt_86 : decode cX8_storesAt 86 = .ok (.invokevirtual 58, 3) := by decide +kernel
theorem dX8_storesAt_89 : decode cX8_storesAt 89 = .ok (.istore 5, 2) := by decide +kernel
theorem dX8_storesAt_91 : decode cX8_storesAt 91 = .ok (.aload_n 0, 1) := by decide +kernel
theorem dX8_storesAt_92 : decode cX8_storesAt 92 = .ok (.iload_n 1, 1) := by decide +kernel
theorem dX8_storesAt_93 : decode cX8_storesAt 93 = .ok (.invokevirtual 65, 3) := by decide +kernel
theorem dX8_storesAt_96 : decode cX8_storesAt 96 = .ok (.istore 6, 2) := by decide +kernel
theorem dX8_storesAt_98 : decode cX8_storesAt 98 = .ok (.aload_n 0, 1) := by decide +kernel
theorem dX8_storesAt_99 : decode cX8_storesAt 99 = .ok (.iload_n 2, 1) := by decide +kernel
theorem dX8_storesAt_100 : decode cX8_storesAt 100 = .ok (.invokevirtual 58, 3) := by decide +kernel
theorem dX8_storesAt_103 : decode cX8_storesAt 103 = .ok (.istore 7, 2) := by decide +kernel
theorem dX8_storesAt_105 : decode cX8_storesAt 105 = .ok (.aload_n 0, 1) := by decide +kernel
theorem dX8_storesAt_106 : decode cX8_storesAt 106 = .ok (.iload 5, 2) := by decide +kernel
theorem dX8_storesAt_108 : decode cX8_storesAt 108 = .ok (.iload 6, 2) := by decide +kernel
theorem dX8_storesAt_110 : decode cX8_storesAt 110 = .ok (.iload_n 3, 1) := by decide +kernel
theorem dX8_storesAt_111 : decode cX8_storesAt 111 = .ok (.invokevirtual 100, 3) := by decide +kernel
theorem dX8_storesAt_114 : decode cX8_storesAt 114 = .ok (.aload_n 0, 1) := by decide +kernel
theorem dX8_storesAt_115 : decode cX8_storesAt 115 = .ok (.iload_n 2, 1) := by decide +kernel
theorem dX8_storesAt_116 : decode cX8_storesAt 116 = .ok (.invokevirtual 55, 3) := by decide +kernel
theorem dX8_storesAt_119 : decode cX8_storesAt 119 = .ok (.iconst 2, 1) := by decide +kernel
theorem dX8_storesAt_120 : decode cX8_storesAt 120 = .ok (.if_icmp .ne 7, 3) := by decide +kernel
theorem dX8_storesAt_123 : decode cX8_storesAt 123 = .ok (.iconst 1, 1) := by decide +kernel
theorem dX8_storesAt_124 : decode cX8_storesAt 124 = .ok (.goto 4, 3) := by decide +kernel
theorem dX8_storesAt_127 : decode cX8_storesAt 127 = .ok (.iconst 0, 1) := by decide +kernel
theorem dX8_storesAt_128 : decode cX8_storesAt 128 = .ok (.istore 8, 2) := by decide +kernel
theorem dX8_storesAt_130 : decode cX8_storesAt 130 = .ok (.aload_n 0, 1) := by decide +kernel
theorem dX8_storesAt_131 : decode cX8_storesAt 131 = .ok (.getfield 7, 3) := by decide +kernel
theorem dX8_storesAt_134 : decode cX8_storesAt 134 = .ok (.iload 5, 2) := by decide +kernel
theorem dX8_storesAt_136 : decode cX8_storesAt 136 = .ok (.iload 6, 2) := by decide +kernel
theorem dX8_storesAt_138 : decode cX8_storesAt 138 = .ok (.invokestatic 81, 3) := by decide +kernel
theorem dX8_storesAt_141 : decode cX8_storesAt 141 = .ok (.iload 8, 2) := by decide +kernel
theorem dX8_storesAt_143 : decode cX8_storesAt 143 = .ok (.ifCond .eq 21, 3) := by decide +kernel
theorem dX8_storesAt_146 : decode cX8_storesAt 146 = .ok (.sipush 1000, 3) := by decide +kernel
theorem dX8_storesAt_149 : decode cX8_storesAt 149 = .ok (.bipush 100, 2) := by decide +kernel
theorem dX8_storesAt_151 : decode cX8_storesAt 151 = .ok (.iload 7, 2) := by decide +kernel
theorem dX8_storesAt_153 : decode cX8_storesAt 153 = .ok (.imul, 1) := by decide +kernel
theorem dX8_storesAt_154 : decode cX8_storesAt 154 = .ok (.iadd, 1) := by decide +kernel
theorem dX8_storesAt_155 : decode cX8_storesAt 155 = .ok (.aload_n 0, 1) := by decide +kernel
theorem dX8_storesAt_156 : decode cX8_storesAt 156 = .ok (.iload_n 2, 1) := by decide +kernel
theorem dX8_storesAt_157 : decode cX8_storesAt 157 = .ok (.invokevirtual 65, 3) := by decide +kernel
theorem dX8_storesAt_160 : decode cX8_storesAt 160 = .ok (.iadd, 1) := by decide +kernel
theorem dX8_storesAt_161 : decode cX8_storesAt 161 = .ok (.goto 9, 3) := by decide +kernel
theorem dX8_storesAt_164 : decode cX8_storesAt 164 = .ok (.iload 7, 2) := by decide +kernel
theorem dX8_storesAt_166 : decode cX8_storesAt 166 = .ok (.sipush 255, 3) := by decide +kernel
theorem dX8_storesAt_169 : decode cX8_storesAt 169 = .ok (.iand, 1) := by decide +kernel
theorem dX8_storesAt_170 : decode cX8_storesAt 170 = .ok (.iastore, 1) := by decide +kernel
theorem dX8_storesAt_171 : decode cX8_storesAt 171 = .ok (.iload_n 3, 1) := by decide +kernel
theorem dX8_storesAt_172 : decode cX8_storesAt 172 = .ok (.iconst 2, 1) := by decide +kernel
theorem dX8_storesAt_173 : decode cX8_storesAt 173 = .ok (.if_icmp .ne 33, 3) := by decide +kernel
theorem dX8_storesAt_176 : decode cX8_storesAt 176 = .ok (.aload_n 0, 1) := by decide +kernel
theorem dX8_storesAt_177 : decode cX8_storesAt 177 = .ok (.getfield 7, 3) := by decide +kernel
theorem dX8_storesAt_180 : decode cX8_storesAt 180 = .ok (.iload 5, 2) := by decide +kernel
theorem dX8_storesAt_182 : decode cX8_storesAt 182 = .ok (.iload 6, 2) := by decide +kernel
theorem dX8_storesAt_184 : decode cX8_storesAt 184 = .ok (.iconst 1, 1) := by decide +kernel
theorem dX8_storesAt_185 : decode cX8_storesAt 185 = .ok (.iadd, 1) := by decide +kernel
theorem dX8_storesAt_186 : decode cX8_storesAt 186 = .ok (.invokestatic 81, 3) := by decide +kernel
theorem dX8_storesAt_189 : decode cX8_storesAt 189 = .ok (.iload 8, 2) := by decide +kernel
theorem dX8_storesAt_191 : decode cX8_storesAt 191 = .ok (.ifCond .eq 9, 3) := by decide +kernel
theorem dX8_storesAt_194 : decode cX8_storesAt 194 = .ok (.sipush 999, 3) := by decide +kernel
theorem dX8_storesAt_197 : decode cX8_storesAt 197 = .ok (.goto 8, 3) := by decide +kernel
theorem dX8_storesAt_200 : decode cX8_storesAt 200 = .ok (.iload 7, 2) := by decide +kernel
theorem dX8_storesAt_202 : decode cX8_storesAt 202 = .ok (.bipush 8, 2) := by decide +kernel
theorem dX8_storesAt_204 : decode cX8_storesAt 204 = .ok (.ishr, 1) := by decide +kernel
theorem dX8_storesAt_205 : decode cX8_storesAt 205 = .ok (.iastore, 1) := by decide +kernel
theorem dX8_storesAt_206 : decode cX8_storesAt 206 = .ok (.iload 6, 2) := by decide +kernel
theorem dX8_storesAt_208 : decode cX8_storesAt 208 = .ok (.ireturn, 1) := by decide +kernel
theorem dX8_loadsFrom_0 : decode cX8_loadsFrom 0 = .ok (.iload_n 1, 1) := by decide +kernel
theorem dX8_loadsFrom_1 : decode cX8_loadsFrom 1 = .ok (.invokestatic 85, 3) := by decide +kernel
theorem dX8_loadsFrom_4 : decode cX8_loadsFrom 4 = .ok (.ifCond .eq 19, 3) := by decide +kernel
theorem dX8_loadsFrom_7 : decode cX8_loadsFrom 7 = .ok (.iload_n 2, 1) := by decide +kernel
theorem dX8_loadsFrom_8 : decode cX8_loadsFrom 8 = .ok (.invokestatic 85, 3) := by decide +kernel
theorem dX8_loadsFrom_11 : decode cX8_loadsFrom 11 = .ok (.ifCond .eq 12, 3) := by decide +kernel
theorem dX8_loadsFrom_14 : decode cX8_loadsFrom 14 = .ok (.iload_n 3, 1) := by decide +kernel
theorem dX8_loadsFrom_15 : decode cX8_loadsFrom 15 = .ok (.iconst 1, 1) := by decide +kernel
theorem dX8_loadsFrom_16 : decode cX8_loadsFrom 16 = .ok (.iconst 2, 1) := by decide +kernel
theorem dX8_loadsFrom_17 : decode cX8_loadsFrom 17 = .ok (.invokestatic 51, 3) := by decide +kernel
theorem dX8_loadsFrom_20 : decode cX8_loadsFrom 20 = .ok (.ifCond .ne 6, 3) := by decide +kernel
theorem dX8_loadsFrom_23 : decode cX8_loadsFrom 23 = .ok (.bipush (-2), 2) := by decide +kernel
theorem dX8_loadsFrom_25 : decode cX8_loadsFrom 25 = .ok (.ireturn, 1) := by decide +kernel
theorem dX8_loadsFrom_26 : decode cX8_loadsFrom 26 = .ok (.aload_n 0, 1) := by decide +kernel
theorem dX8_loadsFrom_27 : decode cX8_loadsFrom 27 = .ok (.iload_n 2, 1) := by decide +kernel
theorem dX8_loadsFrom_28 : decode cX8_loadsFrom 28 = .ok (.iload_n 3, 1) := by decide +kernel
theorem dX8_loadsFrom_29 : decode cX8_loadsFrom 29 = .ok (.invokevirtual 104, 3) := by decide +kernel
theorem dX8_loadsFrom_32 : decode cX8_loadsFrom 32 = .ok (.istore 4, 2) := by decide +kernel
theorem dX8_loadsFrom_34 : decode cX8_loadsFrom 34 = .ok (.iload 4, 2) := by decide +kernel
theorem dX8_loadsFrom_36 : decode cX8_loadsFrom 36 = .ok (.ifCond .eq 9, 3) := by decide +kernel
theorem dX8_loadsFrom_39 : decode cX8_loadsFrom 39 = .ok (.iload 4, 2) := by decide +kernel
theorem dX8_loadsFrom_41 : decode cX8_loadsFrom 41 = .ok (.invokestatic 92, 3) := by decide +kernel
theorem dX8_loadsFrom_44 : decode cX8_loadsFrom 44 = .ok (.ireturn, 1) := by decide +kernel
theorem dX8_loadsFrom_45 : decode cX8_loadsFrom 45 = .ok (.aload_n 0, 1) := by decide +kernel
theorem dX8_loadsFrom_46 : decode cX8_loadsFrom 46 = .ok (.getfield 7, 3) := by decide +kernel
theorem dX8_loadsFrom_49 : decode cX8_loadsFrom 49 = .ok (.aload_n 0, 1) := by decide +kernel
theorem dX8_loadsFrom_50 : decode cX8_loadsFrom 50 = .ok (.iload_n 2, 1) := by decide +kernel
theorem dX8_loadsFrom_51 : decode cX8_loadsFrom 51 = .ok (.invokevirtual 58, 3) := by decide +kernel
theorem dX8_loadsFrom_54 : decode cX8_loadsFrom 54 = .ok (.aload_n 0, 1) := by decide +kernel
theorem dX8_loadsFrom_55 : decode cX8_loadsFrom 55 = .ok (.iload_n 2, 1) := by decide +kernel
theorem dX8_loadsFrom_56 : decode cX8_loadsFrom 56 = .ok (.invokevirtual 65, 3) := by decide +kernel
theorem dX8_loadsFrom_59 : decode cX8_loadsFrom 59 = .ok (.invokestatic 81, 3) := by decide +kernel
theorem dX8_loadsFrom_62 : decode cX8_loadsFrom 62 = .ok (.iaload, 1) := by decide +kernel
theorem dX8_loadsFrom_63 : decode cX8_loadsFrom 63 = .ok (.istore 5, 2) := by decide +kernel
theorem dX8_loadsFrom_65 : decode cX8_loadsFrom 65 = .ok (.iload_n 3, 1) := by decide +kernel
theorem dX8_loadsFrom_66 : decode cX8_loadsFrom 66 = .ok (.iconst 2, 1) := by decide +kernel
theorem dX8_loadsFrom_67 : decode cX8_loadsFrom 67 = .ok (.if_icmp .ne 26, 3) := by decide +kernel
theorem dX8_loadsFrom_70 : decode cX8_loadsFrom 70 = .ok (.aload_n 0, 1) := by decide +kernel
theorem dX8_loadsFrom_71 : decode cX8_loadsFrom 71 = .ok (.getfield 7, 3) := by decide +kernel
theorem dX8_loadsFrom_74 : decode cX8_loadsFrom 74 = .ok (.aload_n 0, 1) := by decide +kernel
theorem dX8_loadsFrom_75 : decode cX8_loadsFrom 75 = .ok (.iload_n 2, 1) := by decide +kernel
theorem dX8_loadsFrom_76 : decode cX8_loadsFrom 76 = .ok (.invokevirtual 58, 3) := by decide +kernel
theorem dX8_loadsFrom_79 : decode cX8_loadsFrom 79 = .ok (.aload_n 0, 1) := by decide +kernel
theorem dX8_loadsFrom_80 : decode cX8_loadsFrom 80 = .ok (.iload_n 2, 1) := by decide +kernel
theorem dX8_loadsFrom_81 : decode cX8_loadsFrom 81 = .ok (.invokevirtual 65, 3) := by decide +kernel
theorem dX8_loadsFrom_84 : decode cX8_loadsFrom 84 = .ok (.iconst 1, 1) := by decide +kernel
theorem dX8_loadsFrom_85 : decode cX8_loadsFrom 85 = .ok (.iadd, 1) := by decide +kernel
theorem dX8_loadsFrom_86 : decode cX8_loadsFrom 86 = .ok (.invokestatic 81, 3) := by decide +kernel
theorem dX8_loadsFrom_89 : decode cX8_loadsFrom 89 = .ok (.iaload, 1) := by decide +kernel
theorem dX8_loadsFrom_90 : decode cX8_loadsFrom 90 = .ok (.goto 4, 3) := by decide +kernel
theorem dX8_loadsFrom_93 : decode cX8_loadsFrom 93 = .ok (.iconst 0, 1) := by decide +kernel
theorem dX8_loadsFrom_94 : decode cX8_loadsFrom 94 = .ok (.istore 6, 2) := by decide +kernel
theorem dX8_loadsFrom_96 : decode cX8_loadsFrom 96 = .ok (.iload_n 3, 1) := by decide +kernel
theorem dX8_loadsFrom_97 : decode cX8_loadsFrom 97 = .ok (.iconst 2, 1) := by decide +kernel
theorem dX8_loadsFrom_98 : decode cX8_loadsFrom 98 = .ok (.if_icmp .ne 36, 3) := by decide +kernel
theorem dX8_loadsFrom_101 : decode cX8_loadsFrom 101 = .ok (.iload 5, 2) := by decide +kernel
theorem dX8_loadsFrom_103 : decode cX8_loadsFrom 103 = .ok (.sipush 1000, 3) := by decide +kernel
theorem dX8_loadsFrom_106 : decode cX8_loadsFrom 106 = .ok (.if_icmp .lt 28, 3) := by decide +kernel
theorem dX8_loadsFrom_109 : decode cX8_loadsFrom 109 = .ok (.aload_n 0, 1) := by decide +kernel
theorem dX8_loadsFrom_110 : decode cX8_loadsFrom 110 = .ok (.iload_n 1, 1) := by decide +kernel
theorem dX8_loadsFrom_111 : decode cX8_loadsFrom 111 = .ok (.iconst 2, 1) := by decide +kernel
theorem dX8_loadsFrom_112 : decode cX8_loadsFrom 112 = .ok (.iload 5, 2) := by decide +kernel
theorem dX8_loadsFrom_114 : decode cX8_loadsFrom 114 = .ok (.sipush 1000, 3) := by decide +kernel
theorem dX8_loadsFrom_117 : decode cX8_loadsFrom 117 = .ok (.isub, 1) := by decide +kernel
theorem dX8_loadsFrom_118 : decode cX8_loadsFrom 118 = .ok (.bipush 100, 2) := by decide +kernel
theorem dX8_loadsFrom_120 : decode cX8_loadsFrom 120 = .ok (.idiv, 1) := by decide +kernel
theorem dX8_loadsFrom_121 : decode cX8_loadsFrom 121 = .ok (.iload 5, 2) := by decide +kernel
theorem dX8_loadsFrom_123 : decode cX8_loadsFrom 123 = .ok (.sipush 1000, 3) := by decide +kernel
theorem dX8_loadsFrom_126 : decode cX8_loadsFrom 126 = .ok (.isub, 1) := by decide +kernel
theorem dX8_loadsFrom_127 : decode cX8_loadsFrom 127 = .ok (.bipush 100, 2) := by decide +kernel
theorem dX8_loadsFrom_129 : decode cX8_loadsFrom 129 = .ok (.irem, 1) := by decide +kernel
theorem dX8_loadsFrom_130 : decode cX8_loadsFrom 130 = .ok (.invokevirtual 88, 3) := by decide +kernel
theorem dX8_loadsFrom_133 : decode cX8_loadsFrom 133 = .ok (.ireturn, 1) := by decide +kernel
theorem dX8_loadsFrom_134 : decode cX8_loadsFrom 134 = .ok (.iload 5, 2) := by decide +kernel
theorem dX8_loadsFrom_136 : decode cX8_loadsFrom 136 = .ok (.sipush 999, 3) := by decide +kernel
theorem dX8_loadsFrom_139 : decode cX8_loadsFrom 139 = .ok (.if_icmp .ge 11, 3) := by decide +kernel
theorem dX8_loadsFrom_142 : decode cX8_loadsFrom 142 = .ok (.iload 6, 2) := by decide +kernel
theorem dX8_loadsFrom_144 : decode cX8_loadsFrom 144 = .ok (.sipush 999, 3) := by decide +kernel
theorem dX8_loadsFrom_147 : decode cX8_loadsFrom 147 = .ok (.if_icmp .lt 9, 3) := by decide +kernel
theorem dX8_loadsFrom_150 : decode cX8_loadsFrom 150 = .ok (.bipush 6, 2) := by decide +kernel
theorem dX8_loadsFrom_152 : decode cX8_loadsFrom 152 = .ok (.invokestatic 92, 3) := by decide +kernel
theorem dX8_loadsFrom_155 : decode cX8_loadsFrom 155 = .ok (.ireturn, 1) := by decide +kernel
theorem dX8_loadsFrom_156 : decode cX8_loadsFrom 156 = .ok (.iload 5, 2) := by decide +kernel
theorem dX8_loadsFrom_158 : decode cX8_loadsFrom 158 = .ok (.iconst (-1), 1) := by decide +kernel
theorem dX8_loadsFrom_159 : decode cX8_loadsFrom 159 = .ok (.if_icmp .eq 9, 3) := by decide +kernel
theorem dX8_loadsFrom_162 : decode cX8_loadsFrom 162 = .ok (.iload 6, 2) := by decide +kernel
theorem dX8_loadsFrom_164 : decode cX8_loadsFrom 164 = .ok (.iconst (-1), 1) := by decide +kernel
theorem dX8_loadsFrom_165 : decode cX8_loadsFrom 165 = .ok (.if_icmp .ne 10, 3) := by decide +kernel
theorem dX8_loadsFrom_168 : decode cX8_loadsFrom 168 = .ok (.iconst 1, 1) := by decide +kernel
theorem dX8_loadsFrom_169 : decode cX8_loadsFrom 169 = .ok (.invokestatic 92, 3) := by decide +kernel
theorem dX8_loadsFrom_172 : decode cX8_loadsFrom 172 = .ok (.goto 19, 3) := by decide +kernel
theorem dX8_loadsFrom_175 : decode cX8_loadsFrom 175 = .ok (.aload_n 0, 1) := by decide +kernel
theorem dX8_loadsFrom_176 : decode cX8_loadsFrom 176 = .ok (.iload_n 1, 1) := by decide +kernel
theorem dX8_loadsFrom_177 : decode cX8_loadsFrom 177 = .ok (.iconst 1, 1) := by decide +kernel
theorem dX8_loadsFrom_178 : decode cX8_loadsFrom 178 = .ok (.iload 5, 2) := by decide +kernel
theorem dX8_loadsFrom_180 : decode cX8_loadsFrom 180 = .ok (.sipush 256, 3) := by decide +kernel
theorem dX8_loadsFrom_183 : decode cX8_loadsFrom 183 = .ok (.iload 6, 2) := by decide +kernel
theorem dX8_loadsFrom_185 : decode cX8_loadsFrom 185 = .ok (.imul, 1) := by decide +kernel
theorem dX8_loadsFrom_186 : decode cX8_loadsFrom 186 = .ok (.iadd, 1) := by decide +kernel
theorem dX8_loadsFrom_187 : decode cX8_loadsFrom 187 = .ok (.iconst 0, 1) := by decide +kernel
theorem dX8_loadsFrom_188 : decode cX8_loadsFrom 188 = .ok (.invokevirtual 88, 3) := by decide +kernel
theorem dX8_loadsFrom_191 : decode cX8_loadsFrom 191 = .ok (.ireturn, 1) := by decide +kernel
theorem dX8_comparesTo_0 : decode cX8_comparesTo 0 = .ok (.iload_n 1, 1) := by decide +kernel
theorem dX8_comparesTo_1 : decode cX8_comparesTo 1 = .ok (.invokestatic 85, 3) := by decide +kernel
theorem dX8_comparesTo_4 : decode cX8_comparesTo 4 = .ok (.ifCond .eq 10, 3) := by decide +kernel
theorem dX8_comparesTo_7 : decode cX8_comparesTo 7 = .ok (.iload_n 2, 1) := by decide +kernel
theorem dX8_comparesTo_8 : decode cX8_comparesTo 8 = .ok (.invokestatic 85, 3) := by decide +kernel
theorem dX8_comparesTo_11 : decode cX8_comparesTo 11 = .ok (.ifCond .ne 6, 3) := by decide +kernel
theorem dX8_comparesTo_14 : decode cX8_comparesTo 14 = .ok (.bipush (-2), 2) := by decide +kernel
theorem dX8_comparesTo_16 : decode cX8_comparesTo 16 = .ok (.ireturn, 1) := by decide +kernel
theorem dX8_comparesTo_17 : decode cX8_comparesTo 17 = .ok (.aload_n 0, 1) := by decide +kernel
theorem dX8_comparesTo_18 : decode cX8_comparesTo 18 = .ok (.iload_n 1, 1) := by decide +kernel
theorem dX8_comparesTo_19 : decode cX8_comparesTo 19 = .ok (.invokevirtual 55, 3) := by decide +kernel
theorem dX8_comparesTo_22 : decode cX8_comparesTo 22 = .ok (.ifCond .eq 11, 3) := by decide +kernel
theorem dX8_comparesTo_25 : decode cX8_comparesTo 25 = .ok (.aload_n 0, 1) := by decide +kernel
theorem dX8_comparesTo_26 : decode cX8_comparesTo 26 = .ok (.iload_n 2, 1) := by decide +kernel
theorem dX8_comparesTo_27 : decode cX8_comparesTo 27 = .ok (.invokevirtual 55, 3) := by decide +kernel
theorem dX8_comparesTo_30 : decode cX8_comparesTo 30 = .ok (.ifCond .ne 8, 3) := by decide +kernel
theorem dX8_comparesTo_33 : decode cX8_comparesTo 33 = .ok (.iconst 1, 1) := by decide +kernel
theorem dX8_comparesTo_34 : decode cX8_comparesTo 34 = .ok (.invokestatic 92, 3) := by decide +kernel
theorem dX8_comparesTo_37 : decode cX8_comparesTo 37 = .ok (.ireturn, 1) := by decide +kernel
theorem dX8_comparesTo_38 : decode cX8_comparesTo 38 = .ok (.aload_n 0, 1) := by decide +kernel
theorem dX8_comparesTo_39 : decode cX8_comparesTo 39 = .ok (.iload_n 1, 1) := by decide +kernel
theorem dX8_comparesTo_40 : decode cX8_comparesTo 40 = .ok (.invokevirtual 55, 3) := by decide +kernel
theorem dX8_comparesTo_43 : decode cX8_comparesTo 43 = .ok (.aload_n 0, 1) := by decide +kernel
theorem dX8_comparesTo_44 : decode cX8_comparesTo 44 = .ok (.iload_n 2, 1) := by decide +kernel
theorem dX8_comparesTo_45 : decode cX8_comparesTo 45 = .ok (.invokevirtual 55, 3) := by decide +kernel
theorem dX8_comparesTo_48 : decode cX8_comparesTo 48 = .ok (.if_icmp .eq 9, 3) := by decide +kernel
theorem dX8_comparesTo_51 : decode cX8_comparesTo 51 = .ok (.bipush 7, 2) := by decide +kernel
theorem dX8_comparesTo_53 : decode cX8_comparesTo 53 = .ok (.invokestatic 92, 3) := by decide +kernel
theorem dX8_comparesTo_56 : decode cX8_comparesTo 56 = .ok (.ireturn, 1) := by decide +kernel
theorem dX8_comparesTo_57 : decode cX8_comparesTo 57 = .ok (.aload_n 0, 1) := by decide +kernel
theorem dX8_comparesTo_58 : decode cX8_comparesTo 58 = .ok (.iload_n 1, 1) := by decide +kernel
theorem dX8_comparesTo_59 : decode cX8_comparesTo 59 = .ok (.invokevirtual 55, 3) := by decide +kernel
theorem dX8_comparesTo_62 : decode cX8_comparesTo 62 = .ok (.iconst 2, 1) := by decide +kernel
theorem dX8_comparesTo_63 : decode cX8_comparesTo 63 = .ok (.if_icmp .ne 7, 3) := by decide +kernel
theorem dX8_comparesTo_66 : decode cX8_comparesTo 66 = .ok (.iconst 1, 1) := by decide +kernel
theorem dX8_comparesTo_67 : decode cX8_comparesTo 67 = .ok (.goto 4, 3) := by decide +kernel
theorem dX8_comparesTo_70 : decode cX8_comparesTo 70 = .ok (.iconst 0, 1) := by decide +kernel
theorem dX8_comparesTo_71 : decode cX8_comparesTo 71 = .ok (.istore_n 3, 1) := by decide +kernel
theorem dX8_comparesTo_72 : decode cX8_comparesTo 72 = .ok (.iload_n 3, 1) := by decide +kernel
theorem dX8_comparesTo_73 : decode cX8_comparesTo 73 = .ok (.ifCond .eq 22, 3) := by decide +kernel
theorem dX8_comparesTo_76 : decode cX8_comparesTo 76 = .ok (.aload_n 0, 1) := by decide +kernel
theorem dX8_comparesTo_77 : decode cX8_comparesTo 77 = .ok (.iload_n 1, 1) := by decide +kernel
theorem dX8_comparesTo_78 : decode cX8_comparesTo 78 = .ok (.invokevirtual 58, 3) := by decide +kernel
theorem dX8_comparesTo_81 : decode cX8_comparesTo 81 = .ok (.aload_n 0, 1) := by decide +kernel
theorem dX8_comparesTo_82 : decode cX8_comparesTo 82 = .ok (.iload_n 2, 1) := by decide +kernel
theorem dX8_comparesTo_83 : decode cX8_comparesTo 83 = .ok (.invokevirtual 58, 3) := by decide +kernel
theorem dX8_comparesTo_86 : decode cX8_comparesTo 86 = .ok (.if_icmp .eq 9, 3) := by decide +kernel
theorem dX8_comparesTo_89 : decode cX8_comparesTo 89 = .ok (.bipush 8, 2) := by decide +kernel
theorem dX8_comparesTo_91 : decode cX8_comparesTo 91 = .ok (.invokestatic 92, 3) := by decide +kernel
theorem dX8_comparesTo_94 : decode cX8_comparesTo 94 = .ok (.ireturn, 1) := by decide +kernel
theorem dX8_comparesTo_95 : decode cX8_comparesTo 95 = .ok (.iload_n 3, 1) := by decide +kernel
theorem dX8_comparesTo_96 : decode cX8_comparesTo 96 = .ok (.ifCond .eq 11, 3) := by decide +kernel
theorem dX8_comparesTo_99 : decode cX8_comparesTo 99 = .ok (.aload_n 0, 1) := by decide +kernel
theorem dX8_comparesTo_100 : decode cX8_comparesTo 100 = .ok (.iload_n 1, 1) := by decide +kernel
theorem dX8_comparesTo_101 : decode cX8_comparesTo 101 = .ok (.invokevirtual 65, 3) := by decide +kernel
theorem dX8_comparesTo_104 : decode cX8_comparesTo 104 = .ok (.goto 8, 3) := by decide +kernel
theorem dX8_comparesTo_107 : decode cX8_comparesTo 107 = .ok (.aload_n 0, 1) := by decide +kernel
theorem dX8_comparesTo_108 : decode cX8_comparesTo 108 = .ok (.iload_n 1, 1) := by decide +kernel
theorem dX8_comparesTo_109 : decode cX8_comparesTo 109 = .ok (.invokevirtual 58, 3) := by decide +kernel
theorem dX8_comparesTo_112 : decode cX8_comparesTo 112 = .ok (.istore 4, 2) := by decide +kernel
theorem dX8_comparesTo_114 : decode cX8_comparesTo 114 = .ok (.iload_n 3, 1) := by decide +kernel
theorem dX8_comparesTo_115 : decode cX8_comparesTo 115 = .ok (.ifCond .eq 11, 3) := by decide +kernel
theorem dX8_comparesTo_118 : decode cX8_comparesTo 118 = .ok (.aload_n 0, 1) := by decide +kernel
theorem dX8_comparesTo_119 : decode cX8_comparesTo 119 = .ok (.iload_n 2, 1) := by decide +kernel
theorem dX8_comparesTo_120 : decode cX8_comparesTo 120 = .ok (.invokevirtual 65, 3) := by decide +kernel
theorem dX8_comparesTo_123 : decode cX8_comparesTo 123 = .ok (.goto 8, 3) := by decide +kernel
theorem dX8_comparesTo_126 : decode cX8_comparesTo 126 = .ok (.aload_n 0, 1) := by decide +kernel
theorem dX8_comparesTo_127 : decode cX8_comparesTo 127 = .ok (.iload_n 2, 1) := by decide +kernel
theorem dX8_comparesTo_128 : decode cX8_comparesTo 128 = .ok (.invokevirtual 58, 3) := by decide +kernel
theorem dX8_comparesTo_131 : decode cX8_comparesTo 131 = .ok (.istore 5, 2) := by decide +kernel
theorem dX8_comparesTo_133 : decode cX8_comparesTo 133 = .ok (.iload 4, 2) := by decide +kernel
theorem dX8_comparesTo_135 : decode cX8_comparesTo 135 = .ok (.iload 5, 2) := by decide +kernel
theorem dX8_comparesTo_137 : decode cX8_comparesTo 137 = .ok (.if_icmp .ge 7, 3) := by decide +kernel
theorem dX8_comparesTo_140 : decode cX8_comparesTo 140 = .ok (.iconst 0, 1) := by decide +kernel
theorem dX8_comparesTo_141 : decode cX8_comparesTo 141 = .ok (.goto 15, 3) := by decide +kernel
theorem dX8_comparesTo_144 : decode cX8_comparesTo 144 = .ok (.iload 4, 2) := by decide +kernel
theorem dX8_comparesTo_146 : decode cX8_comparesTo 146 = .ok (.iload 5, 2) := by decide +kernel
theorem dX8_comparesTo_148 : decode cX8_comparesTo 148 = .ok (.if_icmp .ne 7, 3) := by decide +kernel
theorem dX8_comparesTo_151 : decode cX8_comparesTo 151 = .ok (.iconst 1, 1) := by decide +kernel
theorem dX8_comparesTo_152 : decode cX8_comparesTo 152 = .ok (.goto 4, 3) := by decide +kernel
theorem dX8_comparesTo_155 : decode cX8_comparesTo 155 = .ok (.iconst 2, 1) := by decide +kernel
theorem dX8_comparesTo_156 : decode cX8_comparesTo 156 = .ok (.ireturn, 1) := by decide +kernel
theorem dX8_blits_0 : decode cX8_blits 0 = .ok (.iload_n 1, 1) := by decide +kernel
theorem dX8_blits_1 : decode cX8_blits 1 = .ok (.invokestatic 85, 3) := by decide +kernel
theorem dX8_blits_4 : decode cX8_blits 4 = .ok (.ifCond .eq 20, 3) := by decide +kernel
theorem dX8_blits_7 : decode cX8_blits 7 = .ok (.iload_n 2, 1) := by decide +kernel
theorem dX8_blits_8 : decode cX8_blits 8 = .ok (.invokestatic 85, 3) := by decide +kernel
theorem dX8_blits_11 : decode cX8_blits 11 = .ok (.ifCond .eq 13, 3) := by decide +kernel
theorem dX8_blits_14 : decode cX8_blits 14 = .ok (.iload_n 3, 1) := by decide +kernel
theorem dX8_blits_15 : decode cX8_blits 15 = .ok (.iconst 1, 1) := by decide +kernel
theorem dX8_blits_16 : decode cX8_blits 16 = .ok (.bipush 12, 2) := by decide +kernel
theorem dX8_blits_18 : decode cX8_blits 18 = .ok (.invokestatic 51, 3) := by decide +kernel
theorem dX8_blits_21 : decode cX8_blits 21 = .ok (.ifCond .ne 6, 3) := by decide +kernel
theorem dX8_blits_24 : decode cX8_blits 24 = .ok (.bipush (-2), 2) := by decide +kernel
theorem dX8_blits_26 : decode cX8_blits 26 = .ok (.ireturn, 1) := by decide +kernel
theorem dX8_blits_27 : decode cX8_blits 27 = .ok (.aload_n 0, 1) := by decide +kernel
theorem dX8_blits_28 : decode cX8_blits 28 = .ok (.iload_n 1, 1) := by decide +kernel
theorem dX8_blits_29 : decode cX8_blits 29 = .ok (.iload_n 3, 1) := by decide +kernel
theorem dX8_blits_30 : decode cX8_blits 30 = .ok (.invokevirtual 97, 3) := by decide +kernel
theorem dX8_blits_33 : decode cX8_blits 33 = .ok (.istore 4, 2) := by decide +kernel
theorem dX8_blits_35 : decode cX8_blits 35 = .ok (.iload 4, 2) := by decide +kernel
theorem dX8_blits_37 : decode cX8_blits 37 = .ok (.ifCond .ne 11, 3) := by decide +kernel
theorem dX8_blits_40 : decode cX8_blits 40 = .ok (.aload_n 0, 1) := by decide +kernel
theorem dX8_blits_41 : decode cX8_blits 41 = .ok (.iload_n 2, 1) := by decide +kernel
theorem dX8_blits_42 : decode cX8_blits 42 = .ok (.iload_n 3, 1) := by decide +kernel
theorem dX8_blits_43 : decode cX8_blits 43 = .ok (.invokevirtual 104, 3) := by decide +kernel
theorem dX8_blits_46 : decode cX8_blits 46 = .ok (.istore 4, 2) := by decide +kernel
theorem dX8_blits_48 : decode cX8_blits 48 = .ok (.iload 4, 2) := by decide +kernel
theorem dX8_blits_50 : decode cX8_blits 50 = .ok (.ifCond .eq 9, 3) := by decide +kernel
theorem dX8_blits_53 : decode cX8_blits 53 = .ok (.iload 4, 2) := by decide +kernel
theorem dX8_blits_55 : decode cX8_blits 55 = .ok (.invokestatic 92, 3) := by decide +kernel
theorem dX8_blits_58 : decode cX8_blits 58 = .ok (.ireturn, 1) := by decide +kernel
theorem dX8_blits_59 : decode cX8_blits 59 = .ok (.iconst 0, 1) := by decide +kernel
theorem dX8_blits_60 : decode cX8_blits 60 = .ok (.istore 5, 2) := by decide +kernel
theorem dX8_blits_62 : decode cX8_blits 62 = .ok (.iload 5, 2) := by decide +kernel
theorem dX8_blits_64 : decode cX8_blits 64 = .ok (.iload_n 3, 1) := by decide +kernel
theorem dX8_blits_65 : decode cX8_blits 65 = .ok (.if_icmp .ge 37, 3) := by decide +kernel
theorem dX8_blits_68 : decode cX8_blits 68 = .ok (.aload_n 0, 1) := by decide +kernel
theorem dX8_blits_69 : decode cX8_blits 69 = .ok (.getfield 28, 3) := by decide +kernel
theorem dX8_blits_72 : decode cX8_blits 72 = .ok (.iload 5, 2) := by decide +kernel
theorem dX8_blits_74 : decode cX8_blits 74 = .ok (.aload_n 0, 1) := by decide +kernel
theorem dX8_blits_75 : decode cX8_blits 75 = .ok (.getfield 7, 3) := by decide +kernel
theorem dX8_blits_78 : decode cX8_blits 78 = .ok (.aload_n 0, 1) := by decide +kernel
theorem dX8_blits_79 : decode cX8_blits 79 = .ok (.iload_n 2, 1) := by decide +kernel
theorem dX8_blits_80 : decode cX8_blits 80 = .ok (.invokevirtual 58, 3) := by decide +kernel
theorem dX8_blits_83 : decode cX8_blits 83 = .ok (.aload_n 0, 1) := by decide +kernel
theorem dX8_blits_84 : decode cX8_blits 84 = .ok (.iload_n 2, 1) := by decide +kernel
theorem dX8_blits_85 : decode cX8_blits 85 = .ok (.invokevirtual 65, 3) := by decide +kernel
theorem dX8_blits_88 : decode cX8_blits 88 = .ok (.iload 5, 2) := by decide +kernel
theorem dX8_blits_90 : decode cX8_blits 90 = .ok (.iadd, 1) := by decide +kernel
theorem dX8_blits_91 : decode cX8_blits 91 = .ok (.invokestatic 81, 3) := by decide +kernel
theorem dX8_blits_94 : decode cX8_blits 94 = .ok (.iaload, 1) := by decide +kernel
theorem dX8_blits_95 : decode cX8_blits 95 = .ok (.iastore, 1) := by decide +kernel
theorem dX8_blits_96 : decode cX8_blits 96 = .ok (.iinc 5 1, 3) := by decide +kernel
theorem dX8_blits_99 : decode cX8_blits 99 = .ok (.goto (-37), 3) := by decide +kernel
theorem dX8_blits_102 : decode cX8_blits 102 = .ok (.aload_n 0, 1) := by decide +kernel
theorem dX8_blits_103 : decode cX8_blits 103 = .ok (.getfield 28, 3) := by decide +kernel
theorem dX8_blits_106 : decode cX8_blits 106 = .ok (.iconst 0, 1) := by decide +kernel
theorem dX8_blits_107 : decode cX8_blits 107 = .ok (.iaload, 1) := by decide +kernel
theorem dX8_blits_108 : decode cX8_blits 108 = .ok (.sipush 999, 3) := by decide +kernel
theorem dX8_blits_111 : decode cX8_blits 111 = .ok (.if_icmp .eq 17, 3) := by decide +kernel
theorem dX8_blits_114 : decode cX8_blits 114 = .ok (.aload_n 0, 1) := by decide +kernel
theorem dX8_blits_115 : decode cX8_blits 115 = .ok (.getfield 28, 3) := by decide +kernel
theorem dX8_blits_118 : decode cX8_blits 118 = .ok (.iload_n 3, 1) := by decide +kernel
theorem dX8_blits_119 : decode cX8_blits 119 = .ok (.iconst 1, 1) := by decide +kernel
theorem dX8_blits_120 : decode cX8_blits 120 = .ok (.isub, 1) := by decide +kernel
theorem dX8_blits_121 : decode cX8_blits 121 = .ok (.iaload, 1) := by decide +kernel
theorem dX8_blits_122 : decode cX8_blits 122 = .ok (.sipush 1000, 3) := by decide +kernel
theorem dX8_blits_125 : decode cX8_blits 125 = .ok (.if_icmp .lt 9, 3) := by decide +kernel
theorem dX8_blits_128 : decode cX8_blits 128 = .ok (.bipush 6, 2) := by decide +kernel
theorem dX8_blits_130 : decode cX8_blits 130 = .ok (.invokestatic 92, 3) := by decide +kernel
theorem dX8_blits_133 : decode cX8_blits 133 = .ok (.ireturn, 1) := by decide +kernel
theorem dX8_blits_134 : decode cX8_blits 134 = .ok (.aload_n 0, 1) := by decide +kernel
theorem dX8_blits_135 : decode cX8_blits 135 = .ok (.aload_n 0, 1) := by decide +kernel
theorem dX8_blits_136 : decode cX8_blits 136 = .ok (.iload_n 1, 1) := by decide +kernel
theorem dX8_blits_137 : decode cX8_blits 137 = .ok (.invokevirtual 58, 3) := by decide +kernel
theorem dX8_blits_140 : decode cX8_blits 140 = .ok (.aload_n 0, 1) := by decide +kernel
theorem dX8_blits_141 : decode cX8_blits 141 = .ok (.iload_n 1, 1) := by decide +kernel
theorem dX8_blits_142 : decode cX8_blits 142 = .ok (.invokevirtual 65, 3) := by decide +kernel
theorem dX8_blits_145 : decode cX8_blits 145 = .ok (.iload_n 3, 1) := by decide +kernel
theorem dX8_blits_146 : decode cX8_blits 146 = .ok (.invokevirtual 100, 3) := by decide +kernel
theorem dX8_blits_149 : decode cX8_blits 149 = .ok (.iconst 0, 1) := by decide +kernel
theorem dX8_blits_150 : decode cX8_blits 150 = .ok (.istore 5, 2) := by decide +kernel
theorem dX8_blits_152 : decode cX8_blits 152 = .ok (.iload 5, 2) := by decide +kernel
theorem dX8_blits_154 : decode cX8_blits 154 = .ok (.iload_n 3, 1) := by decide +kernel
theorem dX8_blits_155 : decode cX8_blits 155 = .ok (.if_icmp .ge 37, 3) := by decide +kernel
theorem dX8_blits_158 : decode cX8_blits 158 = .ok (.aload_n 0, 1) := by decide +kernel
theorem dX8_blits_159 : decode cX8_blits 159 = .ok (.getfield 7, 3) := by decide +kernel
theorem dX8_blits_162 : decode cX8_blits 162 = .ok (.aload_n 0, 1) := by decide +kernel
theorem dX8_blits_163 : decode cX8_blits 163 = .ok (.iload_n 1, 1) := by decide +kernel
theorem dX8_blits_164 : decode cX8_blits 164 = .ok (.invokevirtual 58, 3) := by decide +kernel
theorem dX8_blits_167 : decode cX8_blits 167 = .ok (.aload_n 0, 1) := by decide +kernel
theorem dX8_blits_168 : decode cX8_blits 168 = .ok (.iload_n 1, 1) := by decide +kernel
theorem dX8_blits_169 : decode cX8_blits 169 = .ok (.invokevirtual 65, 3) := by decide +kernel
theorem dX8_blits_172 : decode cX8_blits 172 = .ok (.iload 5, 2) := by decide +kernel
theorem dX8_blits_174 : decode cX8_blits 174 = .ok (.iadd, 1) := by decide +kernel
theorem dX8_blits_175 : decode cX8_blits 175 = .ok (.invokestatic 81, 3) := by decide +kernel
theorem dX8_blits_178 : decode cX8_blits 178 = .ok (.aload_n 0, 1) := by decide +kernel
theorem dX8_blits_179 : decode cX8_blits 179 = .ok (.getfield 28, 3) := by decide +kernel
theorem dX8_blits_182 : decode cX8_blits 182 = .ok (.iload 5, 2) := by decide +kernel
theorem dX8_blits_184 : decode cX8_blits 184 = .ok (.iaload, 1) := by decide +kernel
theorem dX8_blits_185 : decode cX8_blits 185 = .ok (.iastore, 1) := by decide +kernel
theorem dX8_blits_186 : decode cX8_blits 186 = .ok (.iinc 5 1, 3) := by decide +kernel
theorem dX8_blits_189 : decode cX8_blits 189 = .ok (.goto (-37), 3) := by decide +kernel
theorem dX8_blits_192 : decode cX8_blits 192 = .ok (.iload_n 3, 1) := by decide +kernel
theorem dX8_blits_193 : decode cX8_blits 193 = .ok (.ireturn, 1) := by decide +kernel
theorem dX8_nodeOf_0 : decode cX8_nodeOf 0 = .ok (.iconst (-1), 1) := by decide +kernel
theorem dX8_nodeOf_1 : decode cX8_nodeOf 1 = .ok (.istore_n 2, 1) := by decide +kernel
theorem dX8_nodeOf_2 : decode cX8_nodeOf 2 = .ok (.iconst 0, 1) := by decide +kernel
theorem dX8_nodeOf_3 : decode cX8_nodeOf 3 = .ok (.istore_n 3, 1) := by decide +kernel
theorem dX8_nodeOf_4 : decode cX8_nodeOf 4 = .ok (.iload_n 3, 1) := by decide +kernel
theorem dX8_nodeOf_5 : decode cX8_nodeOf 5 = .ok (.aload_n 0, 1) := by decide +kernel
theorem dX8_nodeOf_6 : decode cX8_nodeOf 6 = .ok (.getfield 107, 3) := by decide +kernel
theorem dX8_nodeOf_9 : decode cX8_nodeOf 9 = .ok (.if_icmp .ge 25, 3) := by decide +kernel
theorem dX8_nodeOf_12 : decode cX8_nodeOf 12 = .ok (.aload_n 0, 1) := by decide +kernel
theorem dX8_nodeOf_13 : decode cX8_nodeOf 13 = .ok (.getfield 31, 3) := by decide +kernel
theorem dX8_nodeOf_16 : decode cX8_nodeOf 16 = .ok (.iload_n 3, 1) := by decide +kernel
theorem dX8_nodeOf_17 : decode cX8_nodeOf 17 = .ok (.iaload, 1) := by decide +kernel
theorem dX8_nodeOf_18 : decode cX8_nodeOf 18 = .ok (.iload_n 1, 1) := by decide +kernel
theorem dX8_nodeOf_19 : decode cX8_nodeOf 19 = .ok (.if_icmp .ne 7, 3) := by decide +kernel
theorem dX8_nodeOf_22 : decode cX8_nodeOf 22 = .ok (.iload_n 3, 1) := by decide +kernel
theorem dX8_nodeOf_23 : decode cX8_nodeOf 23 = .ok (.goto 4, 3) := by decide +kernel
theorem dX8_nodeOf_26 : decode cX8_nodeOf 26 = .ok (.iload_n 2, 1) := by decide +kernel
theorem dX8_nodeOf_27 : decode cX8_nodeOf 27 = .ok (.istore_n 2, 1) := by decide +kernel
theorem dX8_nodeOf_28 : decode cX8_nodeOf 28 = .ok (.iinc 3 1, 3) := by decide +kernel
theorem dX8_nodeOf_31 : decode cX8_nodeOf 31 = .ok (.goto (-27), 3) := by decide +kernel
theorem dX8_nodeOf_34 : decode cX8_nodeOf 34 = .ok (.iload_n 2, 1) := by decide +kernel
theorem dX8_nodeOf_35 : decode cX8_nodeOf 35 = .ok (.ireturn, 1) := by decide +kernel
theorem dX8_reaches_0 : decode cX8_reaches 0 = .ok (.aload_n 0, 1) := by decide +kernel
theorem dX8_reaches_1 : decode cX8_reaches 1 = .ok (.getfield 31, 3) := by decide +kernel
theorem dX8_reaches_4 : decode cX8_reaches 4 = .ok (.iconst 0, 1) := by decide +kernel
theorem dX8_reaches_5 : decode cX8_reaches 5 = .ok (.iload_n 1, 1) := by decide +kernel
theorem dX8_reaches_6 : decode cX8_reaches 6 = .ok (.iastore, 1) := by decide +kernel
theorem dX8_reaches_7 : decode cX8_reaches 7 = .ok (.aload_n 0, 1) := by decide +kernel
theorem dX8_reaches_8 : decode cX8_reaches 8 = .ok (.iconst 1, 1) := by decide +kernel
theorem dX8_reaches_9 : decode cX8_reaches 9 = .ok (.putfield 107, 3) := by decide +kernel
theorem dX8_reaches_12 : decode cX8_reaches 12 = .ok (.iconst 0, 1) := by decide +kernel
theorem dX8_reaches_13 : decode cX8_reaches 13 = .ok (.istore_n 2, 1) := by decide +kernel
theorem dX8_reaches_14 : decode cX8_reaches 14 = .ok (.iload_n 2, 1) := by decide +kernel
theorem dX8_reaches_15 : decode cX8_reaches 15 = .ok (.aload_n 0, 1) := by decide +kernel
theorem dX8_reaches_16 : decode cX8_reaches 16 = .ok (.getfield 107, 3) := by decide +kernel
theorem dX8_reaches_19 : decode cX8_reaches 19 = .ok (.if_icmp .ge 108, 3) := by decide +kernel
theorem dX8_reaches_22 : decode cX8_reaches 22 = .ok (.iconst 0, 1) := by decide +kernel
theorem dX8_reaches_23 : decode cX8_reaches 23 = .ok (.istore_n 3, 1) := by decide +kernel
theorem dX8_reaches_24 : decode cX8_reaches 24 = .ok (.iload_n 3, 1) := by decide +kernel
theorem dX8_reaches_25 : decode cX8_reaches 25 = .ok (.aload_n 0, 1) := by decide +kernel
theorem dX8_reaches_26 : decode cX8_reaches 26 = .ok (.aload_n 0, 1) := by decide +kernel
theorem dX8_reaches_27 : decode cX8_reaches 27 = .ok (.getfield 31, 3) := by decide +kernel
theorem dX8_reaches_30 : decode cX8_reaches 30 = .ok (.iload_n 2, 1) := by decide +kernel
theorem dX8_reaches_31 : decode cX8_reaches 31 = .ok (.iaload, 1) := by decide +kernel
theorem dX8_reaches_32 : decode cX8_reaches 32 = .ok (.invokevirtual 68, 3) := by decide +kernel
theorem dX8_reaches_35 : decode cX8_reaches 35 = .ok (.if_icmp .ge 86, 3) := by decide +kernel
theorem dX8_reaches_38 : decode cX8_reaches 38 = .ok (.aload_n 0, 1) := by decide +kernel
theorem dX8_reaches_39 : decode cX8_reaches 39 = .ok (.getfield 7, 3) := by decide +kernel
theorem dX8_reaches_42 : decode cX8_reaches 42 = .ok (.aload_n 0, 1) := by decide +kernel
theorem dX8_reaches_43 : decode cX8_reaches 43 = .ok (.getfield 31, 3) := by decide +kernel
theorem dX8_reaches_46 : decode cX8_reaches 46 = .ok (.iload_n 2, 1) := by decide +kernel
theorem dX8_reaches_47 : decode cX8_reaches 47 = .ok (.iaload, 1) := by decide +kernel
theorem dX8_reaches_48 : decode cX8_reaches 48 = .ok (.iload_n 3, 1) := by decide +kernel
theorem dX8_reaches_49 : decode cX8_reaches 49 = .ok (.invokestatic 81, 3) := by decide +kernel
theorem dX8_reaches_52 : decode cX8_reaches 52 = .ok (.iaload, 1) := by decide +kernel
theorem dX8_reaches_53 : decode cX8_reaches 53 = .ok (.istore 4, 2) := by decide +kernel
theorem dX8_reaches_55 : decode cX8_reaches 55 = .ok (.iload 4, 2) := by decide +kernel
theorem dX8_reaches_57 : decode cX8_reaches 57 = .ok (.sipush 1000, 3) := by decide +kernel
theorem dX8_reaches_60 : decode cX8_reaches 60 = .ok (.if_icmp .lt 15, 3) := by decide +kernel
theorem dX8_reaches_63 : decode cX8_reaches 63 = .ok (.iload 4, 2) := by decide +kernel
theorem dX8_reaches_65 : decode cX8_reaches 65 = .ok (.sipush 1000, 3) := by decide +kernel
theorem dX8_reaches_68 : decode cX8_reaches 68 = .ok (.isub, 1) := by decide +kernel
theorem dX8_reaches_69 : decode cX8_reaches 69 = .ok (.bipush 100, 2) := by decide +kernel
theorem dX8_reaches_71 : decode cX8_reaches 71 = .ok (.idiv, 1) := by decide +kernel
theorem dX8_reaches_72 : decode cX8_reaches 72 = .ok (.goto 4, 3) := by decide +kernel
theorem dX8_reaches_75 : decode cX8_reaches 75 = .ok (.iconst (-1), 1) := by decide +kernel
theorem dX8_reaches_76 : decode cX8_reaches 76 = .ok (.istore 5, 2) := by decide +kernel
theorem dX8_reaches_78 : decode cX8_reaches 78 = .ok (.iload 5, 2) := by decide +kernel
theorem dX8_reaches_80 : decode cX8_reaches 80 = .ok (.iconst (-1), 1) := by decide +kernel
theorem dX8_reaches_81 : decode cX8_reaches 81 = .ok (.if_icmp .eq 34, 3) := by decide +kernel
theorem dX8_reaches_84 : decode cX8_reaches 84 = .ok (.aload_n 0, 1) := by decide +kernel
theorem dX8_reaches_85 : decode cX8_reaches 85 = .ok (.iload 5, 2) := by decide +kernel
theorem dX8_reaches_87 : decode cX8_reaches 87 = .ok (.invokevirtual 110, 3) := by decide +kernel
theorem dX8_reaches_90 : decode cX8_reaches 90 = .ok (.iconst (-1), 1) := by decide +kernel
theorem dX8_reaches_91 : decode cX8_reaches 91 = .ok (.if_icmp .ne 24, 3) := by decide +kernel
theorem dX8_reaches_94 : decode cX8_reaches 94 = .ok (.aload_n 0, 1) := by decide +kernel
theorem dX8_reaches_95 : decode cX8_reaches 95 = .ok (.getfield 31, 3) := by decide +kernel
theorem dX8_reaches_98 : decode cX8_reaches 98 = .ok (.aload_n 0, 1) := by decide +kernel
theorem dX8_reaches_99 : decode cX8_reaches 99 = .ok (.getfield 107, 3) := by decide +kernel
theorem dX8_reaches_102 : decode cX8_reaches 102 = .ok (.iload 5, 2) := by decide +kernel
theorem dX8_reaches_104 : decode cX8_reaches 104 = .ok (.iastore, 1) := by decide +kernel
theorem dX8_reaches_105 : decode cX8_reaches 105 = .ok (.aload_n 0, 1) := by decide +kernel
theorem dX8_reaches_106 : decode cX8_reaches 106 = .ok (.dup, 1) := by decide +kernel
theorem dX8_reaches_107 : decode cX8_reaches 107 = .ok (.getfield 107, 3) := by decide +kernel
theorem dX8_reaches_110 : decode cX8_reaches 110 = .ok (.iconst 1, 1) := by decide +kernel
theorem dX8_reaches_111 : decode cX8_reaches 111 = .ok (.iadd, 1) := by decide +kernel
theorem dX8_reaches_112 : decode cX8_reaches 112 = .ok (.putfield 107, 3) := by decide +kernel
theorem dX8_reaches_115 : decode cX8_reaches 115 = .ok (.iinc 3 1, 3) := by decide +kernel
theorem dX8_reaches_118 : decode cX8_reaches 118 = .ok (.goto (-94), 3) := by decide +kernel
theorem dX8_reaches_121 : decode cX8_reaches 121 = .ok (.iinc 2 1, 3) := by decide +kernel
theorem dX8_reaches_124 : decode cX8_reaches 124 = .ok (.goto (-110), 3) := by decide +kernel
theorem dX8_reaches_127 : decode cX8_reaches 127 = .ok (.return_, 1) := by decide +kernel
theorem dX8_allLive_0 : decode cX8_allLive 0 = .ok (.iconst 1, 1) := by decide +kernel
theorem dX8_allLive_1 : decode cX8_allLive 1 = .ok (.istore_n 1, 1) := by decide +kernel
theorem dX8_allLive_2 : decode cX8_allLive 2 = .ok (.iconst 0, 1) := by decide +kernel
theorem dX8_allLive_3 : decode cX8_allLive 3 = .ok (.istore_n 2, 1) := by decide +kernel
theorem dX8_allLive_4 : decode cX8_allLive 4 = .ok (.iload_n 2, 1) := by decide +kernel
theorem dX8_allLive_5 : decode cX8_allLive 5 = .ok (.aload_n 0, 1) := by decide +kernel
theorem dX8_allLive_6 : decode cX8_allLive 6 = .ok (.getfield 107, 3) := by decide +kernel
theorem dX8_allLive_9 : decode cX8_allLive 9 = .ok (.if_icmp .ge 32, 3) := by decide +kernel
theorem dX8_allLive_12 : decode cX8_allLive 12 = .ok (.iload_n 1, 1) := by decide +kernel
theorem dX8_allLive_13 : decode cX8_allLive 13 = .ok (.ifCond .eq 20, 3) := by decide +kernel
theorem dX8_allLive_16 : decode cX8_allLive 16 = .ok (.aload_n 0, 1) := by decide +kernel
theorem dX8_allLive_17 : decode cX8_allLive 17 = .ok (.aload_n 0, 1) := by decide +kernel
theorem dX8_allLive_18 : decode cX8_allLive 18 = .ok (.getfield 31, 3) := by decide +kernel
theorem dX8_allLive_21 : decode cX8_allLive 21 = .ok (.iload_n 2, 1) := by decide +kernel
theorem dX8_allLive_22 : decode cX8_allLive 22 = .ok (.iaload, 1) := by decide +kernel
theorem dX8_allLive_23 : decode cX8_allLive 23 = .ok (.invokevirtual 61, 3) := by decide +kernel
theorem dX8_allLive_26 : decode cX8_allLive 26 = .ok (.ifCond .eq 7, 3) := by decide +kernel
theorem dX8_allLive_29 : decode cX8_allLive 29 = .ok (.iconst 1, 1) := by decide +kernel
theorem dX8_allLive_30 : decode cX8_allLive 30 = .ok (.goto 4, 3) := by decide +kernel
theorem dX8_allLive_33 : decode cX8_allLive 33 = .ok (.iconst 0, 1) := by decide +kernel
theorem dX8_allLive_34 : decode cX8_allLive 34 = .ok (.istore_n 1, 1) := by decide +kernel
theorem dX8_allLive_35 : decode cX8_allLive 35 = .ok (.iinc 2 1, 3) := by decide +kernel
theorem dX8_allLive_38 : decode cX8_allLive 38 = .ok (.goto (-34), 3) := by decide +kernel
theorem dX8_allLive_41 : decode cX8_allLive 41 = .ok (.iload_n 1, 1) := by decide +kernel
theorem dX8_allLive_42 : decode cX8_allLive 42 = .ok (.ireturn, 1) := by decide +kernel
theorem dX8_laysImage_0 : decode cX8_laysImage 0 = .ok (.iconst 0, 1) := by decide +kernel
theorem dX8_laysImage_1 : decode cX8_laysImage 1 = .ok (.istore_n 1, 1) := by decide +kernel
theorem dX8_laysImage_2 : decode cX8_laysImage 2 = .ok (.iload_n 1, 1) := by decide +kernel
theorem dX8_laysImage_3 : decode cX8_laysImage 3 = .ok (.sipush 131, 3) := by decide +kernel
theorem dX8_laysImage_6 : decode cX8_laysImage 6 = .ok (.if_icmp .ge 16, 3) := by decide +kernel
theorem dX8_laysImage_9 : decode cX8_laysImage 9 = .ok (.aload_n 0, 1) := by decide +kernel
theorem dX8_laysImage_10 : decode cX8_laysImage 10 = .ok (.getfield 34, 3) := by decide +kernel
theorem dX8_laysImage_13 : decode cX8_laysImage 13 = .ok (.iload_n 1, 1) := by decide +kernel
theorem dX8_laysImage_14 : decode cX8_laysImage 14 = .ok (.iconst 0, 1) := by decide +kernel
theorem dX8_laysImage_15 : decode cX8_laysImage 15 = .ok (.iastore, 1) := by decide +kernel
theorem dX8_laysImage_16 : decode cX8_laysImage 16 = .ok (.iinc 1 1, 3) := by decide +kernel
theorem dX8_laysImage_19 : decode cX8_laysImage 19 = .ok (.goto (-17), 3) := by decide +kernel
theorem dX8_laysImage_22 : decode cX8_laysImage 22 = .ok (.aload_n 0, 1) := by decide +kernel
theorem dX8_laysImage_23 : decode cX8_laysImage 23 = .ok (.getfield 34, 3) := by decide +kernel
theorem dX8_laysImage_26 : decode cX8_laysImage 26 = .ok (.iconst 0, 1) := by decide +kernel
theorem dX8_laysImage_27 : decode cX8_laysImage 27 = .ok (.aload_n 0, 1) := by decide +kernel
theorem dX8_laysImage_28 : decode cX8_laysImage 28 = .ok (.getfield 107, 3) := by decide +kernel
theorem dX8_laysImage_31 : decode cX8_laysImage 31 = .ok (.iastore, 1) := by decide +kernel
theorem dX8_laysImage_32 : decode cX8_laysImage 32 = .ok (.iconst 0, 1) := by decide +kernel
theorem dX8_laysImage_33 : decode cX8_laysImage 33 = .ok (.istore_n 1, 1) := by decide +kernel
theorem dX8_laysImage_34 : decode cX8_laysImage 34 = .ok (.iload_n 1, 1) := by decide +kernel
theorem dX8_laysImage_35 : decode cX8_laysImage 35 = .ok (.aload_n 0, 1) := by decide +kernel
theorem dX8_laysImage_36 : decode cX8_laysImage 36 = .ok (.getfield 107, 3) := by decide +kernel
theorem dX8_laysImage_39 : decode cX8_laysImage 39 = .ok (.if_icmp .ge 116, 3) := by decide +kernel
theorem dX8_laysImage_42 : decode cX8_laysImage 42 = .ok (.aload_n 0, 1) := by decide +kernel
theorem dX8_laysImage_43 : decode cX8_laysImage 43 = .ok (.getfield 34, 3) := by decide +kernel
theorem dX8_laysImage_46 : decode cX8_laysImage 46 = .ok (.iconst 1, 1) := by decide +kernel
theorem dX8_laysImage_47 : decode cX8_laysImage 47 = .ok (.iload_n 1, 1) := by decide +kernel
theorem dX8_laysImage_48 : decode cX8_laysImage 48 = .ok (.iadd, 1) := by decide +kernel
theorem dX8_laysImage_49 : decode cX8_laysImage 49 = .ok (.aload_n 0, 1) := by decide +kernel
theorem dX8_laysImage_50 : decode cX8_laysImage 50 = .ok (.aload_n 0, 1) := by decide +kernel
theorem dX8_laysImage_51 : decode cX8_laysImage 51 = .ok (.getfield 31, 3) := by decide +kernel
theorem dX8_laysImage_54 : decode cX8_laysImage 54 = .ok (.iload_n 1, 1) := by decide +kernel
theorem dX8_laysImage_55 : decode cX8_laysImage 55 = .ok (.iaload, 1) := by decide +kernel
theorem dX8_laysImage_56 : decode cX8_laysImage 56 = .ok (.invokevirtual 68, 3) := by decide +kernel
theorem dX8_laysImage_59 : decode cX8_laysImage 59 = .ok (.iastore, 1) := by decide +kernel
theorem dX8_laysImage_60 : decode cX8_laysImage 60 = .ok (.iconst 0, 1) := by decide +kernel
theorem dX8_laysImage_61 : decode cX8_laysImage 61 = .ok (.istore_n 2, 1) := by decide +kernel
theorem dX8_laysImage_62 : decode cX8_laysImage 62 = .ok (.iload_n 2, 1) := by decide +kernel
theorem dX8_laysImage_63 : decode cX8_laysImage 63 = .ok (.aload_n 0, 1) := by decide +kernel
theorem dX8_laysImage_64 : decode cX8_laysImage 64 = .ok (.getfield 34, 3) := by decide +kernel
theorem dX8_laysImage_67 : decode cX8_laysImage 67 = .ok (.iconst 1, 1) := by decide +kernel
theorem dX8_laysImage_68 : decode cX8_laysImage 68 = .ok (.iload_n 1, 1) := by decide +kernel
theorem dX8_laysImage_69 : decode cX8_laysImage 69 = .ok (.iadd, 1) := by decide +kernel
theorem dX8_laysImage_70 : decode cX8_laysImage 70 = .ok (.iaload, 1) := by decide +kernel
theorem dX8_laysImage_71 : decode cX8_laysImage 71 = .ok (.if_icmp .ge 78, 3) := by decide +kernel
theorem dX8_laysImage_74 : decode cX8_laysImage 74 = .ok (.aload_n 0, 1) := by decide +kernel
theorem dX8_laysImage_75 : decode cX8_laysImage 75 = .ok (.getfield 7, 3) := by decide +kernel
theorem dX8_laysImage_78 : decode cX8_laysImage 78 = .ok (.aload_n 0, 1) := by decide +kernel
theorem dX8_laysImage_79 : decode cX8_laysImage 79 = .ok (.getfield 31, 3) := by decide +kernel
theorem dX8_laysImage_82 : decode cX8_laysImage 82 = .ok (.iload_n 1, 1) := by decide +kernel
theorem dX8_laysImage_83 : decode cX8_laysImage 83 = .ok (.iaload, 1) := by decide +kernel
theorem dX8_laysImage_84 : decode cX8_laysImage 84 = .ok (.iload_n 2, 1) := by decide +kernel
theorem dX8_laysImage_85 : decode cX8_laysImage 85 = .ok (.invokestatic 81, 3) := by decide +kernel
theorem dX8_laysImage_88 : decode cX8_laysImage 88 = .ok (.iaload, 1) := by decide +kernel
theorem dX8_laysImage_89 : decode cX8_laysImage 89 = .ok (.istore_n 3, 1) := by decide +kernel
theorem dX8_laysImage_90 : decode cX8_laysImage 90 = .ok (.aload_n 0, 1) := by decide +kernel
theorem dX8_laysImage_91 : decode cX8_laysImage 91 = .ok (.getfield 34, 3) := by decide +kernel
theorem dX8_laysImage_94 : decode cX8_laysImage 94 = .ok (.bipush 11, 2) := by decide +kernel
theorem dX8_laysImage_96 : decode cX8_laysImage 96 = .ok (.bipush 12, 2) := by decide +kernel
theorem dX8_laysImage_98 : decode cX8_laysImage 98 = .ok (.iload_n 1, 1) := by decide +kernel
theorem dX8_laysImage_99 : decode cX8_laysImage 99 = .ok (.imul, 1) := by decide +kernel
theorem dX8_laysImage_100 : decode cX8_laysImage 100 = .ok (.iadd, 1) := by decide +kernel
theorem dX8_laysImage_101 : decode cX8_laysImage 101 = .ok (.iload_n 2, 1) := by decide +kernel
theorem dX8_laysImage_102 : decode cX8_laysImage 102 = .ok (.iadd, 1) := by decide +kernel
theorem dX8_laysImage_103 : decode cX8_laysImage 103 = .ok (.iload_n 3, 1) := by decide +kernel
theorem dX8_laysImage_104 : decode cX8_laysImage 104 = .ok (.sipush 1000, 3) := by decide +kernel
theorem dX8_laysImage_107 : decode cX8_laysImage 107 = .ok (.if_icmp .lt 34, 3) := by decide +kernel
theorem dX8_laysImage_110 : decode cX8_laysImage 110 = .ok (.sipush 1000, 3) := by decide +kernel
theorem dX8_laysImage_113 : decode cX8_laysImage 113 = .ok (.bipush 100, 2) := by decide +kernel
theorem dX8_laysImage_115 : decode cX8_laysImage 115 = .ok (.aload_n 0, 1) := by decide +kernel
theorem dX8_laysImage_116 : decode cX8_laysImage 116 = .ok (.iload_n 3, 1) := by decide +kernel
theorem dX8_laysImage_117 : decode cX8_laysImage 117 = .ok (.sipush 1000, 3) := by decide +kernel
theorem dX8_laysImage_120 : decode cX8_laysImage 120 = .ok (.isub, 1) := by decide +kernel
theorem dX8_laysImage_121 : decode cX8_laysImage 121 = .ok (.bipush 100, 2) := by decide +kernel
theorem dX8_laysImage_123 : decode cX8_laysImage 123 = .ok (.idiv, 1) := by decide +kernel
theorem dX8_laysImage_124 : decode cX8_laysImage 124 = .ok (.invokevirtual 110, 3) := by decide +kernel
theorem dX8_laysImage_127 : decode cX8_laysImage 127 = .ok (.imul, 1) := by decide +kernel
theorem dX8_laysImage_128 : decode cX8_laysImage 128 = .ok (.iadd, 1) := by decide +kernel
theorem dX8_laysImage_129 : decode cX8_laysImage 129 = .ok (.iload_n 3, 1) := by decide +kernel
theorem dX8_laysImage_130 : decode cX8_laysImage 130 = .ok (.sipush 1000, 3) := by decide +kernel
theorem dX8_laysImage_133 : decode cX8_laysImage 133 = .ok (.isub, 1) := by decide +kernel
theorem dX8_laysImage_134 : decode cX8_laysImage 134 = .ok (.bipush 100, 2) := by decide +kernel
theorem dX8_laysImage_136 : decode cX8_laysImage 136 = .ok (.irem, 1) := by decide +kernel
theorem dX8_laysImage_137 : decode cX8_laysImage 137 = .ok (.iadd, 1) := by decide +kernel
theorem dX8_laysImage_138 : decode cX8_laysImage 138 = .ok (.goto 4, 3) := by decide +kernel
theorem dX8_laysImage_141 : decode cX8_laysImage 141 = .ok (.iload_n 3, 1) := by decide +kernel
theorem dX8_laysImage_142 : decode cX8_laysImage 142 = .ok (.iastore, 1) := by decide +kernel
theorem dX8_laysImage_143 : decode cX8_laysImage 143 = .ok (.iinc 2 1, 3) := by decide +kernel
theorem dX8_laysImage_146 : decode cX8_laysImage 146 = .ok (.goto (-84), 3) := by decide +kernel
theorem dX8_laysImage_149 : decode cX8_laysImage 149 = .ok (.iinc 1 1, 3) := by decide +kernel
theorem dX8_laysImage_152 : decode cX8_laysImage 152 = .ok (.goto (-118), 3) := by decide +kernel
theorem dX8_laysImage_155 : decode cX8_laysImage 155 = .ok (.return_, 1) := by decide +kernel
theorem dX8_imageLaid_0 : decode cX8_imageLaid 0 = .ok (.iconst 0, 1) := by decide +kernel
theorem dX8_imageLaid_1 : decode cX8_imageLaid 1 = .ok (.istore_n 1, 1) := by decide +kernel
theorem dX8_imageLaid_2 : decode cX8_imageLaid 2 = .ok (.iload_n 1, 1) := by decide +kernel
theorem dX8_imageLaid_3 : decode cX8_imageLaid 3 = .ok (.aload_n 0, 1) := by decide +kernel
theorem dX8_imageLaid_4 : decode cX8_imageLaid 4 = .ok (.getfield 7, 3) := by decide +kernel
theorem dX8_imageLaid_7 : decode cX8_imageLaid 7 = .ok (.sipush 170, 3) := by decide +kernel
theorem dX8_imageLaid_10 : decode cX8_imageLaid 10 = .ok (.iaload, 1) := by decide +kernel
theorem dX8_imageLaid_11 : decode cX8_imageLaid 11 = .ok (.if_icmp .ge 67, 3) := by decide +kernel
theorem dX8_imageLaid_14 : decode cX8_imageLaid 14 = .ok (.iconst 1, 1) := by decide +kernel
theorem dX8_imageLaid_15 : decode cX8_imageLaid 15 = .ok (.istore_n 2, 1) := by decide +kernel
theorem dX8_imageLaid_16 : decode cX8_imageLaid 16 = .ok (.iconst 0, 1) := by decide +kernel
theorem dX8_imageLaid_17 : decode cX8_imageLaid 17 = .ok (.istore_n 3, 1) := by decide +kernel
theorem dX8_imageLaid_18 : decode cX8_imageLaid 18 = .ok (.iload_n 3, 1) := by decide +kernel
theorem dX8_imageLaid_19 : decode cX8_imageLaid 19 = .ok (.sipush 131, 3) := by decide +kernel
theorem dX8_imageLaid_22 : decode cX8_imageLaid 22 = .ok (.if_icmp .ge 44, 3) := by decide +kernel
theorem dX8_imageLaid_25 : decode cX8_imageLaid 25 = .ok (.iload_n 2, 1) := by decide +kernel
theorem dX8_imageLaid_26 : decode cX8_imageLaid 26 = .ok (.ifCond .eq 40, 3) := by decide +kernel
theorem dX8_imageLaid_29 : decode cX8_imageLaid 29 = .ok (.aload_n 0, 1) := by decide +kernel
theorem dX8_imageLaid_30 : decode cX8_imageLaid 30 = .ok (.getfield 7, 3) := by decide +kernel
theorem dX8_imageLaid_33 : decode cX8_imageLaid 33 = .ok (.sipush 171, 3) := by decide +kernel
theorem dX8_imageLaid_36 : decode cX8_imageLaid 36 = .ok (.sipush 131, 3) := by decide +kernel
theorem dX8_imageLaid_39 : decode cX8_imageLaid 39 = .ok (.iload_n 1, 1) := by decide +kernel
theorem dX8_imageLaid_40 : decode cX8_imageLaid 40 = .ok (.imul, 1) := by decide +kernel
theorem dX8_imageLaid_41 : decode cX8_imageLaid 41 = .ok (.iadd, 1) := by decide +kernel
theorem dX8_imageLaid_42 : decode cX8_imageLaid 42 = .ok (.iload_n 3, 1) := by decide +kernel
theorem dX8_imageLaid_43 : decode cX8_imageLaid 43 = .ok (.iadd, 1) := by decide +kernel
theorem dX8_imageLaid_44 : decode cX8_imageLaid 44 = .ok (.iaload, 1) := by decide +kernel
theorem dX8_imageLaid_45 : decode cX8_imageLaid 45 = .ok (.aload_n 0, 1) := by decide +kernel
theorem dX8_imageLaid_46 : decode cX8_imageLaid 46 = .ok (.getfield 34, 3) := by decide +kernel
theorem dX8_imageLaid_49 : decode cX8_imageLaid 49 = .ok (.iload_n 3, 1) := by decide +kernel
theorem dX8_imageLaid_50 : decode cX8_imageLaid 50 = .ok (.iaload, 1) := by decide +kernel
theorem dX8_imageLaid_51 : decode cX8_imageLaid 51 = .ok (.if_icmp .ne 7, 3) := by decide +kernel
theorem dX8_imageLaid_54 : decode cX8_imageLaid 54 = .ok (.iconst 1, 1) := by decide +kernel
theorem dX8_imageLaid_55 : decode cX8_imageLaid 55 = .ok (.goto 4, 3) := by decide +kernel
theorem dX8_imageLaid_58 : decode cX8_imageLaid 58 = .ok (.iconst 0, 1) := by decide +kernel
theorem dX8_imageLaid_59 : decode cX8_imageLaid 59 = .ok (.istore_n 2, 1) := by decide +kernel
theorem dX8_imageLaid_60 : decode cX8_imageLaid 60 = .ok (.iinc 3 1, 3) := by decide +kernel
theorem dX8_imageLaid_63 : decode cX8_imageLaid 63 = .ok (.goto (-45), 3) := by decide +kernel
theorem dX8_imageLaid_66 : decode cX8_imageLaid 66 = .ok (.iload_n 2, 1) := by decide +kernel
theorem dX8_imageLaid_67 : decode cX8_imageLaid 67 = .ok (.ifCond .eq 5, 3) := by decide +kernel
theorem dX8_imageLaid_70 : decode cX8_imageLaid 70 = .ok (.iload_n 1, 1) := by decide +kernel
theorem dX8_imageLaid_71 : decode cX8_imageLaid 71 = .ok (.ireturn, 1) := by decide +kernel
theorem dX8_imageLaid_72 : decode cX8_imageLaid 72 = .ok (.iinc 1 1, 3) := by decide +kernel
theorem dX8_imageLaid_75 : decode cX8_imageLaid 75 = .ok (.goto (-73), 3) := by decide +kernel
theorem dX8_imageLaid_78 : decode cX8_imageLaid 78 = .ok (.iconst (-1), 1) := by decide +kernel
theorem dX8_imageLaid_79 : decode cX8_imageLaid 79 = .ok (.ireturn, 1) := by decide +kernel
theorem dX8_freezes_0 : decode cX8_freezes 0 = .ok (.iload_n 1, 1) := by decide +kernel
theorem dX8_freezes_1 : decode cX8_freezes 1 = .ok (.invokestatic 85, 3) := by decide +kernel
theorem dX8_freezes_4 : decode cX8_freezes 4 = .ok (.ifCond .ne 6, 3) := by decide +kernel
theorem dX8_freezes_7 : decode cX8_freezes 7 = .ok (.bipush (-2), 2) := by decide +kernel
theorem dX8_freezes_9 : decode cX8_freezes 9 = .ok (.ireturn, 1) := by decide +kernel
theorem dX8_freezes_10 : decode cX8_freezes 10 = .ok (.aload_n 0, 1) := by decide +kernel
theorem dX8_freezes_11 : decode cX8_freezes 11 = .ok (.iload_n 1, 1) := by decide +kernel
theorem dX8_freezes_12 : decode cX8_freezes 12 = .ok (.invokevirtual 71, 3) := by decide +kernel
theorem dX8_freezes_15 : decode cX8_freezes 15 = .ok (.istore_n 2, 1) := by decide +kernel
theorem dX8_freezes_16 : decode cX8_freezes 16 = .ok (.iload_n 2, 1) := by decide +kernel
theorem dX8_freezes_17 : decode cX8_freezes 17 = .ok (.ifCond .ne 14, 3) := by decide +kernel
theorem dX8_freezes_20 : decode cX8_freezes 20 = .ok (.aload_n 0, 1) := by decide +kernel
theorem dX8_freezes_21 : decode cX8_freezes 21 = .ok (.iload_n 1, 1) := by decide +kernel
theorem dX8_freezes_22 : decode cX8_freezes 22 = .ok (.invokevirtual 65, 3) := by decide +kernel
theorem dX8_freezes_25 : decode cX8_freezes 25 = .ok (.ifCond .eq 6, 3) := by decide +kernel
theorem dX8_freezes_28 : decode cX8_freezes 28 = .ok (.bipush 9, 2) := by decide +kernel
theorem dX8_freezes_30 : decode cX8_freezes 30 = .ok (.istore_n 2, 1) := by decide +kernel
theorem dX8_freezes_31 : decode cX8_freezes 31 = .ok (.iload_n 2, 1) := by decide +kernel
theorem dX8_freezes_32 : decode cX8_freezes 32 = .ok (.ifCond .ne 25, 3) := by decide +kernel
theorem dX8_freezes_35 : decode cX8_freezes 35 = .ok (.aload_n 0, 1) := by decide +kernel
theorem dX8_freezes_36 : decode cX8_freezes 36 = .ok (.aload_n 0, 1) := by decide +kernel
theorem dX8_freezes_37 : decode cX8_freezes 37 = .ok (.iload_n 1, 1) := by decide +kernel
theorem dX8_freezes_38 : decode cX8_freezes 38 = .ok (.invokevirtual 58, 3) := by decide +kernel
theorem dX8_freezes_41 : decode cX8_freezes 41 = .ok (.invokevirtual 113, 3) := by decide +kernel
theorem dX8_freezes_44 : decode cX8_freezes 44 = .ok (.aload_n 0, 1) := by decide +kernel
theorem dX8_freezes_45 : decode cX8_freezes 45 = .ok (.invokevirtual 117, 3) := by decide +kernel
theorem dX8_freezes_48 : decode cX8_freezes 48 = .ok (.ifCond .eq 7, 3) := by decide +kernel
theorem dX8_freezes_51 : decode cX8_freezes 51 = .ok (.iconst 0, 1) := by decide +kernel
theorem dX8_freezes_52 : decode cX8_freezes 52 = .ok (.goto 4, 3) := by decide +kernel
theorem dX8_freezes_55 : decode cX8_freezes 55 = .ok (.iconst 3, 1) := by decide +kernel
theorem dX8_freezes_56 : decode cX8_freezes 56 = .ok (.istore_n 2, 1) := by decide +kernel
theorem dX8_freezes_57 : decode cX8_freezes 57 = .ok (.iload_n 2, 1) := by decide +kernel
theorem dX8_freezes_58 : decode cX8_freezes 58 = .ok (.ifCond .eq 8, 3) := by decide +kernel
theorem dX8_freezes_61 : decode cX8_freezes 61 = .ok (.iload_n 2, 1) := by decide +kernel
theorem dX8_freezes_62 : decode cX8_freezes 62 = .ok (.invokestatic 92, 3) := by decide +kernel
theorem dX8_freezes_65 : decode cX8_freezes 65 = .ok (.ireturn, 1) := by decide +kernel
theorem dX8_freezes_66 : decode cX8_freezes 66 = .ok (.aload_n 0, 1) := by decide +kernel
theorem dX8_freezes_67 : decode cX8_freezes 67 = .ok (.invokevirtual 121, 3) := by decide +kernel
theorem dX8_freezes_70 : decode cX8_freezes 70 = .ok (.aload_n 0, 1) := by decide +kernel
theorem dX8_freezes_71 : decode cX8_freezes 71 = .ok (.invokevirtual 124, 3) := by decide +kernel
theorem dX8_freezes_74 : decode cX8_freezes 74 = .ok (.istore_n 3, 1) := by decide +kernel
theorem dX8_freezes_75 : decode cX8_freezes 75 = .ok (.iload_n 3, 1) := by decide +kernel
theorem dX8_freezes_76 : decode cX8_freezes 76 = .ok (.iconst (-1), 1) := by decide +kernel
theorem dX8_freezes_77 : decode cX8_freezes 77 = .ok (.if_icmp .ne 74, 3) := by decide +kernel
theorem dX8_freezes_80 : decode cX8_freezes 80 = .ok (.aload_n 0, 1) := by decide +kernel
theorem dX8_freezes_81 : decode cX8_freezes 81 = .ok (.getfield 7, 3) := by decide +kernel
theorem dX8_freezes_84 : decode cX8_freezes 84 = .ok (.sipush 170, 3) := by decide +kernel
theorem dX8_freezes_87 : decode cX8_freezes 87 = .ok (.iaload, 1) := by decide +kernel
theorem dX8_freezes_88 : decode cX8_freezes 88 = .ok (.istore_n 3, 1) := by decide +kernel
theorem dX8_freezes_89 : decode cX8_freezes 89 = .ok (.iload_n 3, 1) := by decide +kernel
theorem dX8_freezes_90 : decode cX8_freezes 90 = .ok (.bipush 8, 2) := by decide +kernel
theorem dX8_freezes_92 : decode cX8_freezes 92 = .ok (.if_icmp .ne 6, 3) := by decide +kernel
theorem dX8_freezes_95 : decode cX8_freezes 95 = .ok (.bipush (-4), 2) := by decide +kernel
theorem dX8_freezes_97 : decode cX8_freezes 97 = .ok (.ireturn, 1) := by decide +kernel
theorem dX8_freezes_98 : decode cX8_freezes 98 = .ok (.iconst 0, 1) := by decide +kernel
theorem dX8_freezes_99 : decode cX8_freezes 99 = .ok (.istore 4, 2) := by decide +kernel
theorem dX8_freezes_101 : decode cX8_freezes 101 = .ok (.iload 4, 2) := by decide +kernel
theorem dX8_freezes_103 : decode cX8_freezes 103 = .ok (.sipush 131, 3) := by decide +kernel
theorem dX8_freezes_106 : decode cX8_freezes 106 = .ok (.if_icmp .ge 33, 3) := by decide +kernel
theorem dX8_freezes_109 : decode cX8_freezes 109 = .ok (.aload_n 0, 1) := by decide +kernel
theorem dX8_freezes_110 : decode cX8_freezes 110 = .ok (.getfield 7, 3) := by decide +kernel
theorem dX8_freezes_113 : decode cX8_freezes 113 = .ok (.sipush 171, 3) := by decide +kernel
theorem dX8_freezes_116 : decode cX8_freezes 116 = .ok (.sipush 131, 3) := by decide +kernel
theorem dX8_freezes_119 : decode cX8_freezes 119 = .ok (.iload_n 3, 1) := by decide +kernel
theorem dX8_freezes_120 : decode cX8_freezes 120 = .ok (.imul, 1) := by decide +kernel
theorem dX8_freezes_121 : decode cX8_freezes 121 = .ok (.iadd, 1) := by decide +kernel
theorem dX8_freezes_122 : decode cX8_freezes 122 = .ok (.iload 4, 2) := by decide +kernel
theorem dX8_freezes_124 : decode cX8_freezes 124 = .ok (.iadd, 1) := by decide +kernel
theorem dX8_freezes_125 : decode cX8_freezes 125 = .ok (.aload_n 0, 1) := by decide +kernel
theorem dX8_freezes_126 : decode cX8_freezes 126 = .ok (.getfield 34, 3) := by decide +kernel
theorem dX8_freezes_129 : decode cX8_freezes 129 = .ok (.iload 4, 2) := by decide +kernel
theorem dX8_freezes_131 : decode cX8_freezes 131 = .ok (.iaload, 1) := by decide +kernel
theorem dX8_freezes_132 : decode cX8_freezes 132 = .ok (.iastore, 1) := by decide +kernel
theorem dX8_freezes_133 : decode cX8_freezes 133 = .ok (.iinc 4 1, 3) := by decide +kernel
theorem dX8_freezes_136 : decode cX8_freezes 136 = .ok (.goto (-35), 3) := by decide +kernel
theorem dX8_freezes_139 : decode cX8_freezes 139 = .ok (.aload_n 0, 1) := by decide +kernel
theorem dX8_freezes_140 : decode cX8_freezes 140 = .ok (.getfield 7, 3) := by decide +kernel
theorem dX8_freezes_143 : decode cX8_freezes 143 = .ok (.sipush 170, 3) := by decide +kernel
theorem dX8_freezes_146 : decode cX8_freezes 146 = .ok (.dup2, 1) := by decide +kernel
theorem dX8_freezes_147 : decode cX8_freezes 147 = .ok (.iaload, 1) := by decide +kernel
theorem dX8_freezes_148 : decode cX8_freezes 148 = .ok (.iconst 1, 1) := by decide +kernel
theorem dX8_freezes_149 : decode cX8_freezes 149 = .ok (.iadd, 1) := by decide +kernel
theorem dX8_freezes_150 : decode cX8_freezes 150 = .ok (.iastore, 1) := by decide +kernel
theorem dX8_freezes_151 : decode cX8_freezes 151 = .ok (.iconst 0, 1) := by decide +kernel
theorem dX8_freezes_152 : decode cX8_freezes 152 = .ok (.istore 4, 2) := by decide +kernel
theorem dX8_freezes_154 : decode cX8_freezes 154 = .ok (.iload 4, 2) := by decide +kernel
theorem dX8_freezes_156 : decode cX8_freezes 156 = .ok (.aload_n 0, 1) := by decide +kernel
theorem dX8_freezes_157 : decode cX8_freezes 157 = .ok (.getfield 107, 3) := by decide +kernel
theorem dX8_freezes_160 : decode cX8_freezes 160 = .ok (.if_icmp .ge 27, 3) := by decide +kernel
theorem dX8_freezes_163 : decode cX8_freezes 163 = .ok (.aload_n 0, 1) := by decide +kernel
theorem dX8_freezes_164 : decode cX8_freezes 164 = .ok (.getfield 7, 3) := by decide +kernel
theorem dX8_freezes_167 : decode cX8_freezes 167 = .ok (.aload_n 0, 1) := by decide +kernel
theorem dX8_freezes_168 : decode cX8_freezes 168 = .ok (.getfield 31, 3) := by decide +kernel
theorem dX8_freezes_171 : decode cX8_freezes 171 = .ok (.iload 4, 2) := by decide +kernel
theorem dX8_freezes_173 : decode cX8_freezes 173 = .ok (.iaload, 1) := by decide +kernel
theorem dX8_freezes_174 : decode cX8_freezes 174 = .ok (.invokestatic 47, 3) := by decide +kernel
theorem dX8_freezes_177 : decode cX8_freezes 177 = .ok (.iconst 2, 1) := by decide +kernel
theorem dX8_freezes_178 : decode cX8_freezes 178 = .ok (.iadd, 1) := by decide +kernel
theorem dX8_freezes_179 : decode cX8_freezes 179 = .ok (.iconst 1, 1) := by decide +kernel
theorem dX8_freezes_180 : decode cX8_freezes 180 = .ok (.iastore, 1) := by decide +kernel
theorem dX8_freezes_181 : decode cX8_freezes 181 = .ok (.iinc 4 1, 3) := by decide +kernel
theorem dX8_freezes_184 : decode cX8_freezes 184 = .ok (.goto (-30), 3) := by decide +kernel
theorem dX8_freezes_187 : decode cX8_freezes 187 = .ok (.iload_n 3, 1) := by decide +kernel
theorem dX8_freezes_188 : decode cX8_freezes 188 = .ok (.ireturn, 1) := by decide +kernel
theorem dX8_acts_0 : decode cX8_acts 0 = .ok (.iload_n 1, 1) := by decide +kernel
theorem dX8_acts_1 : decode cX8_acts 1 = .ok (.tableswitch 164 98 119 #[155, 123, 164, 110, 164, 164, 164, 164, 164, 164, 146, 103, 164, 164, 164, 164, 164, 116, 164, 164, 130, 137], 103) := by decide +kernel
theorem dX8_acts_104 : decode cX8_acts 104 = .ok (.aload_n 0, 1) := by decide +kernel
theorem dX8_acts_105 : decode cX8_acts 105 = .ok (.iload_n 2, 1) := by decide +kernel
theorem dX8_acts_106 : decode cX8_acts 106 = .ok (.iload_n 3, 1) := by decide +kernel
theorem dX8_acts_107 : decode cX8_acts 107 = .ok (.invokevirtual 128, 3) := by decide +kernel
theorem dX8_acts_110 : decode cX8_acts 110 = .ok (.ireturn, 1) := by decide +kernel
theorem dX8_acts_111 : decode cX8_acts 111 = .ok (.aload_n 0, 1) := by decide +kernel
theorem dX8_acts_112 : decode cX8_acts 112 = .ok (.iload_n 2, 1) := by decide +kernel
theorem dX8_acts_113 : decode cX8_acts 113 = .ok (.invokevirtual 131, 3) := by decide +kernel
theorem dX8_acts_116 : decode cX8_acts 116 = .ok (.ireturn, 1) := by decide +kernel
theorem dX8_acts_117 : decode cX8_acts 117 = .ok (.aload_n 0, 1) := by decide +kernel
theorem dX8_acts_118 : decode cX8_acts 118 = .ok (.iload_n 2, 1) := by decide +kernel
theorem dX8_acts_119 : decode cX8_acts 119 = .ok (.iload_n 3, 1) := by decide +kernel
theorem dX8_acts_120 : decode cX8_acts 120 = .ok (.invokevirtual 134, 3) := by decide +kernel
theorem dX8_acts_123 : decode cX8_acts 123 = .ok (.ireturn, 1) := by decide +kernel
theorem dX8_acts_124 : decode cX8_acts 124 = .ok (.aload_n 0, 1) := by decide +kernel
theorem dX8_acts_125 : decode cX8_acts 125 = .ok (.iload_n 2, 1) := by decide +kernel
theorem dX8_acts_126 : decode cX8_acts 126 = .ok (.iload_n 3, 1) := by decide +kernel
theorem dX8_acts_127 : decode cX8_acts 127 = .ok (.invokevirtual 137, 3) := by decide +kernel
theorem dX8_acts_130 : decode cX8_acts 130 = .ok (.ireturn, 1) := by decide +kernel
theorem dX8_acts_131 : decode cX8_acts 131 = .ok (.aload_n 0, 1) := by decide +kernel
theorem dX8_acts_132 : decode cX8_acts 132 = .ok (.iload_n 2, 1) := by decide +kernel
theorem dX8_acts_133 : decode cX8_acts 133 = .ok (.iload_n 3, 1) := by decide +kernel
theorem dX8_acts_134 : decode cX8_acts 134 = .ok (.invokevirtual 140, 3) := by decide +kernel
theorem dX8_acts_137 : decode cX8_acts 137 = .ok (.ireturn, 1) := by decide +kernel
theorem dX8_acts_138 : decode cX8_acts 138 = .ok (.aload_n 0, 1) := by decide +kernel
theorem dX8_acts_139 : decode cX8_acts 139 = .ok (.iload_n 2, 1) := by decide +kernel
theorem dX8_acts_140 : decode cX8_acts 140 = .ok (.iload_n 3, 1) := by decide +kernel
theorem dX8_acts_141 : decode cX8_acts 141 = .ok (.iload 4, 2) := by decide +kernel
theorem dX8_acts_143 : decode cX8_acts 143 = .ok (.invokevirtual 143, 3) := by decide +kernel
theorem dX8_acts_146 : decode cX8_acts 146 = .ok (.ireturn, 1) := by decide +kernel
theorem dX8_acts_147 : decode cX8_acts 147 = .ok (.aload_n 0, 1) := by decide +kernel
theorem dX8_acts_148 : decode cX8_acts 148 = .ok (.iload_n 2, 1) := by decide +kernel
theorem dX8_acts_149 : decode cX8_acts 149 = .ok (.iload_n 3, 1) := by decide +kernel
theorem dX8_acts_150 : decode cX8_acts 150 = .ok (.iload 4, 2) := by decide +kernel
theorem dX8_acts_152 : decode cX8_acts 152 = .ok (.invokevirtual 147, 3) := by decide +kernel
theorem dX8_acts_155 : decode cX8_acts 155 = .ok (.ireturn, 1) := by decide +kernel
theorem dX8_acts_156 : decode cX8_acts 156 = .ok (.aload_n 0, 1) := by decide +kernel
theorem dX8_acts_157 : decode cX8_acts 157 = .ok (.iload_n 2, 1) := by decide +kernel
theorem dX8_acts_158 : decode cX8_acts 158 = .ok (.iload_n 3, 1) := by decide +kernel
theorem dX8_acts_159 : decode cX8_acts 159 = .ok (.iload 4, 2) := by decide +kernel
theorem dX8_acts_161 : decode cX8_acts 161 = .ok (.invokevirtual 150, 3) := by decide +kernel
theorem dX8_acts_164 : decode cX8_acts 164 = .ok (.ireturn, 1) := by decide +kernel
theorem dX8_acts_165 : decode cX8_acts 165 = .ok (.aload_n 0, 1) := by decide +kernel
theorem dX8_acts_166 : decode cX8_acts 166 = .ok (.iload_n 2, 1) := by decide +kernel
theorem dX8_acts_167 : decode cX8_acts 167 = .ok (.invokevirtual 153, 3) := by decide +kernel
theorem dX8_acts_170 : decode cX8_acts 170 = .ok (.ireturn, 1) := by decide +kernel
theorem dX8_calls_0 : decode cX8_calls 0 = .ok (.aload_n 0, 1) := by decide +kernel
theorem dX8_calls_1 : decode cX8_calls 1 = .ok (.invokevirtual 156, 3) := by decide +kernel
theorem dX8_calls_4 : decode cX8_calls 4 = .ok (.aload_n 0, 1) := by decide +kernel
theorem dX8_calls_5 : decode cX8_calls 5 = .ok (.iload_n 1, 1) := by decide +kernel
theorem dX8_calls_6 : decode cX8_calls 6 = .ok (.iload_n 2, 1) := by decide +kernel
theorem dX8_calls_7 : decode cX8_calls 7 = .ok (.iload_n 3, 1) := by decide +kernel
theorem dX8_calls_8 : decode cX8_calls 8 = .ok (.iload 4, 2) := by decide +kernel
theorem dX8_calls_10 : decode cX8_calls 10 = .ok (.invokevirtual 159, 3) := by decide +kernel
theorem dX8_calls_13 : decode cX8_calls 13 = .ok (.istore 5, 2) := by decide +kernel
theorem dX8_calls_15 : decode cX8_calls 15 = .ok (.iload 5, 2) := by decide +kernel
theorem dX8_calls_17 : decode cX8_calls 17 = .ok (.ifCond .lt 7, 3) := by decide +kernel
theorem dX8_calls_20 : decode cX8_calls 20 = .ok (.aload_n 0, 1) := by decide +kernel
theorem dX8_calls_21 : decode cX8_calls 21 = .ok (.invokevirtual 162, 3) := by decide +kernel
theorem dX8_calls_24 : decode cX8_calls 24 = .ok (.aload_n 0, 1) := by decide +kernel
theorem dX8_calls_25 : decode cX8_calls 25 = .ok (.iload 5, 2) := by decide +kernel
theorem dX8_calls_27 : decode cX8_calls 27 = .ok (.invokevirtual 165, 3) := by decide +kernel
theorem dX8_calls_30 : decode cX8_calls 30 = .ok (.ireturn, 1) := by decide +kernel
theorem dX8_make_0 : decode cX8_make 0 = .ok (.aload_n 0, 1) := by decide +kernel
theorem dX8_make_1 : decode cX8_make 1 = .ok (.bipush 109, 2) := by decide +kernel
theorem dX8_make_3 : decode cX8_make 3 = .ok (.iload_n 1, 1) := by decide +kernel
theorem dX8_make_4 : decode cX8_make 4 = .ok (.iload_n 2, 1) := by decide +kernel
theorem dX8_make_5 : decode cX8_make 5 = .ok (.iconst 0, 1) := by decide +kernel
theorem dX8_make_6 : decode cX8_make 6 = .ok (.invokevirtual 168, 3) := by decide +kernel
theorem dX8_make_9 : decode cX8_make 9 = .ok (.ireturn, 1) := by decide +kernel
theorem dX8_end_0 : decode cX8_end 0 = .ok (.aload_n 0, 1) := by decide +kernel
theorem dX8_end_1 : decode cX8_end 1 = .ok (.bipush 101, 2) := by decide +kernel
theorem dX8_end_3 : decode cX8_end 3 = .ok (.iload_n 1, 1) := by decide +kernel
theorem dX8_end_4 : decode cX8_end 4 = .ok (.iconst 0, 1) := by decide +kernel
theorem dX8_end_5 : decode cX8_end 5 = .ok (.iconst 0, 1) := by decide +kernel
theorem dX8_end_6 : decode cX8_end 6 = .ok (.invokevirtual 168, 3) := by decide +kernel
theorem dX8_end_9 : decode cX8_end 9 = .ok (.ireturn, 1) := by decide +kernel
theorem dX8_set_0 : decode cX8_set 0 = .ok (.aload_n 0, 1) := by decide +kernel
theorem dX8_set_1 : decode cX8_set 1 = .ok (.bipush 115, 2) := by decide +kernel
theorem dX8_set_3 : decode cX8_set 3 = .ok (.iload_n 1, 1) := by decide +kernel
theorem dX8_set_4 : decode cX8_set 4 = .ok (.iload_n 2, 1) := by decide +kernel
theorem dX8_set_5 : decode cX8_set 5 = .ok (.iconst 0, 1) := by decide +kernel
theorem dX8_set_6 : decode cX8_set 6 = .ok (.invokevirtual 168, 3) := by decide +kernel
theorem dX8_set_9 : decode cX8_set 9 = .ok (.ireturn, 1) := by decide +kernel
theorem dX8_copy_0 : decode cX8_copy 0 = .ok (.aload_n 0, 1) := by decide +kernel
theorem dX8_copy_1 : decode cX8_copy 1 = .ok (.bipush 99, 2) := by decide +kernel
theorem dX8_copy_3 : decode cX8_copy 3 = .ok (.iload_n 1, 1) := by decide +kernel
theorem dX8_copy_4 : decode cX8_copy 4 = .ok (.iload_n 2, 1) := by decide +kernel
theorem dX8_copy_5 : decode cX8_copy 5 = .ok (.iconst 0, 1) := by decide +kernel
theorem dX8_copy_6 : decode cX8_copy 6 = .ok (.invokevirtual 168, 3) := by decide +kernel
theorem dX8_copy_9 : decode cX8_copy 9 = .ok (.ireturn, 1) := by decide +kernel
theorem dX8_move_0 : decode cX8_move 0 = .ok (.aload_n 0, 1) := by decide +kernel
theorem dX8_move_1 : decode cX8_move 1 = .ok (.bipush 118, 2) := by decide +kernel
theorem dX8_move_3 : decode cX8_move 3 = .ok (.iload_n 1, 1) := by decide +kernel
theorem dX8_move_4 : decode cX8_move 4 = .ok (.iload_n 2, 1) := by decide +kernel
theorem dX8_move_5 : decode cX8_move 5 = .ok (.iconst 0, 1) := by decide +kernel
theorem dX8_move_6 : decode cX8_move 6 = .ok (.invokevirtual 168, 3) := by decide +kernel
theorem dX8_move_9 : decode cX8_move 9 = .ok (.ireturn, 1) := by decide +kernel
theorem dX8_store_0 : decode cX8_store 0 = .ok (.aload_n 0, 1) := by decide +kernel
theorem dX8_store_1 : decode cX8_store 1 = .ok (.bipush 119, 2) := by decide +kernel
theorem dX8_store_3 : decode cX8_store 3 = .ok (.iload_n 1, 1) := by decide +kernel
theorem dX8_store_4 : decode cX8_store 4 = .ok (.iload_n 2, 1) := by decide +kernel
theorem dX8_store_5 : decode cX8_store 5 = .ok (.iload_n 3, 1) := by decide +kernel
theorem dX8_store_6 : decode cX8_store 6 = .ok (.invokevirtual 168, 3) := by decide +kernel
theorem dX8_store_9 : decode cX8_store 9 = .ok (.ireturn, 1) := by decide +kernel
theorem dX8_load_0 : decode cX8_load 0 = .ok (.aload_n 0, 1) := by decide +kernel
theorem dX8_load_1 : decode cX8_load 1 = .ok (.bipush 108, 2) := by decide +kernel
theorem dX8_load_3 : decode cX8_load 3 = .ok (.iload_n 1, 1) := by decide +kernel
theorem dX8_load_4 : decode cX8_load 4 = .ok (.iload_n 2, 1) := by decide +kernel
theorem dX8_load_5 : decode cX8_load 5 = .ok (.iload_n 3, 1) := by decide +kernel
theorem dX8_load_6 : decode cX8_load 6 = .ok (.invokevirtual 168, 3) := by decide +kernel
theorem dX8_load_9 : decode cX8_load 9 = .ok (.ireturn, 1) := by decide +kernel
theorem dX8_compare_0 : decode cX8_compare 0 = .ok (.aload_n 0, 1) := by decide +kernel
theorem dX8_compare_1 : decode cX8_compare 1 = .ok (.aload_n 0, 1) := by decide +kernel
theorem dX8_compare_2 : decode cX8_compare 2 = .ok (.iload_n 1, 1) := by decide +kernel
theorem dX8_compare_3 : decode cX8_compare 3 = .ok (.iload_n 2, 1) := by decide +kernel
theorem dX8_compare_4 : decode cX8_compare 4 = .ok (.invokevirtual 171, 3) := by decide +kernel
theorem dX8_compare_7 : decode cX8_compare 7 = .ok (.invokevirtual 165, 3) := by decide +kernel
theorem dX8_compare_10 : decode cX8_compare 10 = .ok (.ireturn, 1) := by decide +kernel
theorem dX8_blit_0 : decode cX8_blit 0 = .ok (.aload_n 0, 1) := by decide +kernel
theorem dX8_blit_1 : decode cX8_blit 1 = .ok (.bipush 98, 2) := by decide +kernel
theorem dX8_blit_3 : decode cX8_blit 3 = .ok (.iload_n 1, 1) := by decide +kernel
theorem dX8_blit_4 : decode cX8_blit 4 = .ok (.iload_n 2, 1) := by decide +kernel
theorem dX8_blit_5 : decode cX8_blit 5 = .ok (.iload_n 3, 1) := by decide +kernel
theorem dX8_blit_6 : decode cX8_blit 6 = .ok (.invokevirtual 168, 3) := by decide +kernel
theorem dX8_blit_9 : decode cX8_blit 9 = .ok (.ireturn, 1) := by decide +kernel
theorem dX8_freeze_0 : decode cX8_freeze 0 = .ok (.aload_n 0, 1) := by decide +kernel
theorem dX8_freeze_1 : decode cX8_freeze 1 = .ok (.bipush 122, 2) := by decide +kernel
theorem dX8_freeze_3 : decode cX8_freeze 3 = .ok (.iload_n 1, 1) := by decide +kernel
theorem dX8_freeze_4 : decode cX8_freeze 4 = .ok (.iconst 0, 1) := by decide +kernel
theorem dX8_freeze_5 : decode cX8_freeze 5 = .ok (.iconst 0, 1) := by decide +kernel
theorem dX8_freeze_6 : decode cX8_freeze 6 = .ok (.invokevirtual 168, 3) := by decide +kernel
theorem dX8_freeze_9 : decode cX8_freeze 9 = .ok (.ireturn, 1) := by decide +kernel
theorem dX8_forget_0 : decode cX8_forget 0 = .ok (.iload_n 1, 1) := by decide +kernel
theorem dX8_forget_1 : decode cX8_forget 1 = .ok (.invokestatic 85, 3) := by decide +kernel
theorem dX8_forget_4 : decode cX8_forget 4 = .ok (.ifCond .ne 8, 3) := by decide +kernel
theorem dX8_forget_7 : decode cX8_forget 7 = .ok (.aload_n 0, 1) := by decide +kernel
theorem dX8_forget_8 : decode cX8_forget 8 = .ok (.invokevirtual 174, 3) := by decide +kernel
theorem dX8_forget_11 : decode cX8_forget 11 = .ok (.ireturn, 1) := by decide +kernel
theorem dX8_forget_12 : decode cX8_forget 12 = .ok (.aload_n 0, 1) := by decide +kernel
theorem dX8_forget_13 : decode cX8_forget 13 = .ok (.invokevirtual 156, 3) := by decide +kernel
theorem dX8_forget_16 : decode cX8_forget 16 = .ok (.aload_n 0, 1) := by decide +kernel
theorem dX8_forget_17 : decode cX8_forget 17 = .ok (.invokevirtual 162, 3) := by decide +kernel
theorem dX8_forget_20 : decode cX8_forget 20 = .ok (.aload_n 0, 1) := by decide +kernel
theorem dX8_forget_21 : decode cX8_forget 21 = .ok (.iload_n 1, 1) := by decide +kernel
theorem dX8_forget_22 : decode cX8_forget 22 = .ok (.invokevirtual 55, 3) := by decide +kernel
theorem dX8_forget_25 : decode cX8_forget 25 = .ok (.istore_n 2, 1) := by decide +kernel
theorem dX8_forget_26 : decode cX8_forget 26 = .ok (.aload_n 0, 1) := by decide +kernel
theorem dX8_forget_27 : decode cX8_forget 27 = .ok (.iload_n 1, 1) := by decide +kernel
theorem dX8_forget_28 : decode cX8_forget 28 = .ok (.iconst 0, 1) := by decide +kernel
theorem dX8_forget_29 : decode cX8_forget 29 = .ok (.iconst 0, 1) := by decide +kernel
theorem dX8_forget_30 : decode cX8_forget 30 = .ok (.iconst 0, 1) := by decide +kernel
theorem dX8_forget_31 : decode cX8_forget 31 = .ok (.invokevirtual 88, 3) := by decide +kernel
theorem dX8_forget_34 : decode cX8_forget 34 = .ok (.pop, 1) := by decide +kernel
theorem dX8_forget_35 : decode cX8_forget 35 = .ok (.iload_n 2, 1) := by decide +kernel
theorem dX8_forget_36 : decode cX8_forget 36 = .ok (.ireturn, 1) := by decide +kernel
theorem dX8_budget_0 : decode cX8_budget 0 = .ok (.iload_n 1, 1) := by decide +kernel
theorem dX8_budget_1 : decode cX8_budget 1 = .ok (.iconst 1, 1) := by decide +kernel
theorem dX8_budget_2 : decode cX8_budget 2 = .ok (.bipush 60, 2) := by decide +kernel
theorem dX8_budget_4 : decode cX8_budget 4 = .ok (.invokestatic 51, 3) := by decide +kernel
theorem dX8_budget_7 : decode cX8_budget 7 = .ok (.ifCond .ne 8, 3) := by decide +kernel
theorem dX8_budget_10 : decode cX8_budget 10 = .ok (.aload_n 0, 1) := by decide +kernel
theorem dX8_budget_11 : decode cX8_budget 11 = .ok (.invokevirtual 174, 3) := by decide +kernel
theorem dX8_budget_14 : decode cX8_budget 14 = .ok (.ireturn, 1) := by decide +kernel
theorem dX8_budget_15 : decode cX8_budget 15 = .ok (.aload_n 0, 1) := by decide +kernel
theorem dX8_budget_16 : decode cX8_budget 16 = .ok (.invokevirtual 156, 3) := by decide +kernel
theorem dX8_budget_19 : decode cX8_budget 19 = .ok (.aload_n 0, 1) := by decide +kernel
theorem dX8_budget_20 : decode cX8_budget 20 = .ok (.invokevirtual 162, 3) := by decide +kernel
theorem dX8_budget_23 : decode cX8_budget 23 = .ok (.aload_n 0, 1) := by decide +kernel
theorem dX8_budget_24 : decode cX8_budget 24 = .ok (.getfield 7, 3) := by decide +kernel
theorem dX8_budget_27 : decode cX8_budget 27 = .ok (.sipush 169, 3) := by decide +kernel
theorem dX8_budget_30 : decode cX8_budget 30 = .ok (.iaload, 1) := by decide +kernel
theorem dX8_budget_31 : decode cX8_budget 31 = .ok (.istore_n 2, 1) := by decide +kernel
theorem dX8_budget_32 : decode cX8_budget 32 = .ok (.aload_n 0, 1) := by decide +kernel
theorem dX8_budget_33 : decode cX8_budget 33 = .ok (.getfield 7, 3) := by decide +kernel
theorem dX8_budget_36 : decode cX8_budget 36 = .ok (.sipush 169, 3) := by decide +kernel
theorem dX8_budget_39 : decode cX8_budget 39 = .ok (.iload_n 1, 1) := by decide +kernel
theorem dX8_budget_40 : decode cX8_budget 40 = .ok (.iastore, 1) := by decide +kernel
theorem dX8_budget_41 : decode cX8_budget 41 = .ok (.iload_n 2, 1) := by decide +kernel
theorem dX8_budget_42 : decode cX8_budget 42 = .ok (.ireturn, 1) := by decide +kernel
theorem dX8_ofRegister_0 : decode cX8_ofRegister 0 = .ok (.iload_n 2, 1) := by decide +kernel
theorem dX8_ofRegister_1 : decode cX8_ofRegister 1 = .ok (.ifCond .ne 9, 3) := by decide +kernel
theorem dX8_ofRegister_4 : decode cX8_ofRegister 4 = .ok (.aload_n 0, 1) := by decide +kernel
theorem dX8_ofRegister_5 : decode cX8_ofRegister 5 = .ok (.iload_n 1, 1) := by decide +kernel
theorem dX8_ofRegister_6 : decode cX8_ofRegister 6 = .ok (.invokevirtual 55, 3) := by decide +kernel
theorem dX8_ofRegister_9 : decode cX8_ofRegister 9 = .ok (.ireturn, 1) := by decide +kernel
theorem dX8_ofRegister_10 : decode cX8_ofRegister 10 = .ok (.iload_n 2, 1) := by decide +kernel
theorem dX8_ofRegister_11 : decode cX8_ofRegister 11 = .ok (.iconst 1, 1) := by decide +kernel
theorem dX8_ofRegister_12 : decode cX8_ofRegister 12 = .ok (.if_icmp .ne 23, 3) := by decide +kernel
theorem dX8_ofRegister_15 : decode cX8_ofRegister 15 = .ok (.aload_n 0, 1) := by decide +kernel
theorem dX8_ofRegister_16 : decode cX8_ofRegister 16 = .ok (.iload_n 1, 1) := by decide +kernel
theorem dX8_ofRegister_17 : decode cX8_ofRegister 17 = .ok (.invokevirtual 55, 3) := by decide +kernel
theorem dX8_ofRegister_20 : decode cX8_ofRegister 20 = .ok (.ifCond .ne 7, 3) := by decide +kernel
theorem dX8_ofRegister_23 : decode cX8_ofRegister 23 = .ok (.iconst (-1), 1) := by decide +kernel
theorem dX8_ofRegister_24 : decode cX8_ofRegister 24 = .ok (.goto 29, 3) := by decide +kernel
theorem dX8_ofRegister_27 : decode cX8_ofRegister 27 = .ok (.aload_n 0, 1) := by decide +kernel
theorem dX8_ofRegister_28 : decode cX8_ofRegister 28 = .ok (.iload_n 1, 1) := by decide +kernel
theorem dX8_ofRegister_29 : decode cX8_ofRegister 29 = .ok (.invokevirtual 58, 3) := by decide +kernel
theorem dX8_ofRegister_32 : decode cX8_ofRegister 32 = .ok (.goto 21, 3) := by decide +kernel
theorem dX8_ofRegister_35 : decode cX8_ofRegister 35 = .ok (.aload_n 0, 1) := by decide +kernel
theorem dX8_ofRegister_36 : decode cX8_ofRegister 36 = .ok (.iload_n 1, 1) := by decide +kernel
theorem dX8_ofRegister_37 : decode cX8_ofRegister 37 = .ok (.invokevirtual 55, 3) := by decide +kernel
theorem dX8_ofRegister_40 : decode cX8_ofRegister 40 = .ok (.iconst 2, 1) := by decide +kernel
theorem dX8_ofRegister_41 : decode cX8_ofRegister 41 = .ok (.if_icmp .ne 11, 3) := by decide +kernel
theorem dX8_ofRegister_44 : decode cX8_ofRegister 44 = .ok (.aload_n 0, 1) := by decide +kernel
theorem dX8_ofRegister_45 : decode cX8_ofRegister 45 = .ok (.iload_n 1, 1) := by decide +kernel
theorem dX8_ofRegister_46 : decode cX8_ofRegister 46 = .ok (.invokevirtual 65, 3) := by decide +kernel
theorem dX8_ofRegister_49 : decode cX8_ofRegister 49 = .ok (.goto 4, 3) := by decide +kernel
theorem dX8_ofRegister_52 : decode cX8_ofRegister 52 = .ok (.iconst (-1), 1) := by decide +kernel
theorem dX8_ofRegister_53 : decode cX8_ofRegister 53 = .ok (.ireturn, 1) := by decide +kernel
theorem dX8_register_0 : decode cX8_register 0 = .ok (.iload_n 1, 1) := by decide +kernel
theorem dX8_register_1 : decode cX8_register 1 = .ok (.invokestatic 85, 3) := by decide +kernel
theorem dX8_register_4 : decode cX8_register 4 = .ok (.ifCond .eq 21, 3) := by decide +kernel
theorem dX8_register_7 : decode cX8_register 7 = .ok (.iload_n 2, 1) := by decide +kernel
theorem dX8_register_8 : decode cX8_register 8 = .ok (.iconst 0, 1) := by decide +kernel
theorem dX8_register_9 : decode cX8_register 9 = .ok (.iconst 2, 1) := by decide +kernel
theorem dX8_register_10 : decode cX8_register 10 = .ok (.invokestatic 51, 3) := by decide +kernel
theorem dX8_register_13 : decode cX8_register 13 = .ok (.ifCond .eq 12, 3) := by decide +kernel
theorem dX8_register_16 : decode cX8_register 16 = .ok (.aload_n 0, 1) := by decide +kernel
theorem dX8_register_17 : decode cX8_register 17 = .ok (.iload_n 1, 1) := by decide +kernel
theorem dX8_register_18 : decode cX8_register 18 = .ok (.iload_n 2, 1) := by decide +kernel
theorem dX8_register_19 : decode cX8_register 19 = .ok (.invokevirtual 177, 3) := by decide +kernel
theorem dX8_register_22 : decode cX8_register 22 = .ok (.goto 7, 3) := by decide +kernel
theorem dX8_register_25 : decode cX8_register 25 = .ok (.aload_n 0, 1) := by decide +kernel
theorem dX8_register_26 : decode cX8_register 26 = .ok (.invokevirtual 174, 3) := by decide +kernel
theorem dX8_register_29 : decode cX8_register 29 = .ok (.ireturn, 1) := by decide +kernel
theorem dX8_isPiece_0 : decode cX8_isPiece 0 = .ok (.iload_n 1, 1) := by decide +kernel
theorem dX8_isPiece_1 : decode cX8_isPiece 1 = .ok (.iconst 0, 1) := by decide +kernel
theorem dX8_isPiece_2 : decode cX8_isPiece 2 = .ok (.aload_n 0, 1) := by decide +kernel
theorem dX8_isPiece_3 : decode cX8_isPiece 3 = .ok (.getfield 7, 3) := by decide +kernel
theorem dX8_isPiece_6 : decode cX8_isPiece 6 = .ok (.iconst 0, 1) := by decide +kernel
theorem dX8_isPiece_7 : decode cX8_isPiece 7 = .ok (.iaload, 1) := by decide +kernel
theorem dX8_isPiece_8 : decode cX8_isPiece 8 = .ok (.iconst 1, 1) := by decide +kernel
theorem dX8_isPiece_9 : decode cX8_isPiece 9 = .ok (.isub, 1) := by decide +kernel
theorem dX8_isPiece_10 : decode cX8_isPiece 10 = .ok (.invokestatic 51, 3) := by decide +kernel
theorem dX8_isPiece_13 : decode cX8_isPiece 13 = .ok (.ireturn, 1) := by decide +kernel
theorem dX8_bytesOf_0 : decode cX8_bytesOf 0 = .ok (.iconst 0, 1) := by decide +kernel
theorem dX8_bytesOf_1 : decode cX8_bytesOf 1 = .ok (.istore_n 3, 1) := by decide +kernel
theorem dX8_bytesOf_2 : decode cX8_bytesOf 2 = .ok (.iconst 0, 1) := by decide +kernel
theorem dX8_bytesOf_3 : decode cX8_bytesOf 3 = .ok (.istore 4, 2) := by decide +kernel
end
section
theorem dX8_bytesOf_5 : decode cX8_bytesOf 5 = .ok (.iload 4, 2) := by decide +kernel
theorem dX8_bytesOf_7 : decode cX8_bytesOf 7 = .ok (.aload_n 0, 1) := by decide +kernel
theorem dX8_bytesOf_8 : decode cX8_bytesOf 8 = .ok (.iload_n 1, 1) := by decide +kernel
theorem dX8_bytesOf_9 : decode cX8_bytesOf 9 = .ok (.invokevirtual 68, 3) := by decide +kernel
theorem dX8_bytesOf_12 : decode cX8_bytesOf 12 = .ok (.if_icmp .ge 56, 3) := by decide +kernel
theorem dX8_bytesOf_15 : decode cX8_bytesOf 15 = .ok (.aload_n 0, 1) := by decide +kernel
theorem dX8_bytesOf_16 : decode cX8_bytesOf 16 = .ok (.getfield 7, 3) := by decide +kernel
theorem dX8_bytesOf_19 : decode cX8_bytesOf 19 = .ok (.iload_n 1, 1) := by decide +kernel
theorem dX8_bytesOf_20 : decode cX8_bytesOf 20 = .ok (.iload 4, 2) := by decide +kernel
theorem dX8_bytesOf_22 : decode cX8_bytesOf 22 = .ok (.invokestatic 81, 3) := by decide +kernel
theorem dX8_bytesOf_25 : decode cX8_bytesOf 25 = .ok (.iaload, 1) := by decide +kernel
theorem dX8_bytesOf_26 : decode cX8_bytesOf 26 = .ok (.istore 5, 2) := by decide +kernel
theorem dX8_bytesOf_28 : decode cX8_bytesOf 28 = .ok (.iload_n 3, 1) := by decide +kernel
theorem dX8_bytesOf_29 : decode cX8_bytesOf 29 = .ok (.iload_n 2, 1) := by decide +kernel
theorem dX8_bytesOf_30 : decode cX8_bytesOf 30 = .ok (.ifCond .eq 19, 3) := by decide +kernel
theorem dX8_bytesOf_33 : decode cX8_bytesOf 33 = .ok (.iload 5, 2) := by decide +kernel
theorem dX8_bytesOf_35 : decode cX8_bytesOf 35 = .ok (.sipush 1000, 3) := by decide +kernel
theorem dX8_bytesOf_38 : decode cX8_bytesOf 38 = .ok (.if_icmp .lt 7, 3) := by decide +kernel
theorem dX8_bytesOf_41 : decode cX8_bytesOf 41 = .ok (.iconst 1, 1) := by decide +kernel
theorem dX8_bytesOf_42 : decode cX8_bytesOf 42 = .ok (.goto 18, 3) := by decide +kernel
theorem dX8_bytesOf_45 : decode cX8_bytesOf 45 = .ok (.iconst 0, 1) := by decide +kernel
theorem dX8_bytesOf_46 : decode cX8_bytesOf 46 = .ok (.goto 14, 3) := by decide +kernel
theorem dX8_bytesOf_49 : decode cX8_bytesOf 49 = .ok (.iload 5, 2) := by decide +kernel
theorem dX8_bytesOf_51 : decode cX8_bytesOf 51 = .ok (.iconst (-1), 1) := by decide +kernel
theorem dX8_bytesOf_52 : decode cX8_bytesOf 52 = .ok (.if_icmp .ne 7, 3) := by decide +kernel
theorem dX8_bytesOf_55 : decode cX8_bytesOf 55 = .ok (.iconst 1, 1) := by decide +kernel
theorem dX8_bytesOf_56 : decode cX8_bytesOf 56 = .ok (.goto 4, 3) := by decide +kernel
theorem dX8_bytesOf_59 : decode cX8_bytesOf 59 = .ok (.iconst 0, 1) := by decide +kernel
theorem dX8_bytesOf_60 : decode cX8_bytesOf 60 = .ok (.iadd, 1) := by decide +kernel
theorem dX8_bytesOf_61 : decode cX8_bytesOf 61 = .ok (.istore_n 3, 1) := by decide +kernel
theorem dX8_bytesOf_62 : decode cX8_bytesOf 62 = .ok (.iinc 4 1, 3) := by decide +kernel
theorem dX8_bytesOf_65 : decode cX8_bytesOf 65 = .ok (.goto (-60), 3) := by decide +kernel
theorem dX8_bytesOf_68 : decode cX8_bytesOf 68 = .ok (.iload_n 3, 1) := by decide +kernel
theorem dX8_bytesOf_69 : decode cX8_bytesOf 69 = .ok (.ireturn, 1) := by decide +kernel
theorem dX8_reachedOf_0 : decode cX8_reachedOf 0 = .ok (.aload_n 0, 1) := by decide +kernel
theorem dX8_reachedOf_1 : decode cX8_reachedOf 1 = .ok (.iload_n 1, 1) := by decide +kernel
theorem dX8_reachedOf_2 : decode cX8_reachedOf 2 = .ok (.invokevirtual 113, 3) := by decide +kernel
theorem dX8_reachedOf_5 : decode cX8_reachedOf 5 = .ok (.aload_n 0, 1) := by decide +kernel
theorem dX8_reachedOf_6 : decode cX8_reachedOf 6 = .ok (.getfield 107, 3) := by decide +kernel
theorem dX8_reachedOf_9 : decode cX8_reachedOf 9 = .ok (.ireturn, 1) := by decide +kernel
theorem dX8_ofPiece_0 : decode cX8_ofPiece 0 = .ok (.iload_n 2, 1) := by decide +kernel
theorem dX8_ofPiece_1 : decode cX8_ofPiece 1 = .ok (.tableswitch 47 3 5 #[27, 34, 41], 27) := by decide +kernel
theorem dX8_ofPiece_28 : decode cX8_ofPiece 28 = .ok (.aload_n 0, 1) := by decide +kernel
theorem dX8_ofPiece_29 : decode cX8_ofPiece 29 = .ok (.iload_n 1, 1) := by decide +kernel
theorem dX8_ofPiece_30 : decode cX8_ofPiece 30 = .ok (.iconst 0, 1) := by decide +kernel
theorem dX8_ofPiece_31 : decode cX8_ofPiece 31 = .ok (.invokevirtual 180, 3) := by decide +kernel
theorem dX8_ofPiece_34 : decode cX8_ofPiece 34 = .ok (.ireturn, 1) := by decide +kernel
theorem dX8_ofPiece_35 : decode cX8_ofPiece 35 = .ok (.aload_n 0, 1) := by decide +kernel
theorem dX8_ofPiece_36 : decode cX8_ofPiece 36 = .ok (.iload_n 1, 1) := by decide +kernel
theorem dX8_ofPiece_37 : decode cX8_ofPiece 37 = .ok (.iconst 1, 1) := by decide +kernel
theorem dX8_ofPiece_38 : decode cX8_ofPiece 38 = .ok (.invokevirtual 180, 3) := by decide +kernel
theorem dX8_ofPiece_41 : decode cX8_ofPiece 41 = .ok (.ireturn, 1) := by decide +kernel
theorem dX8_ofPiece_42 : decode cX8_ofPiece 42 = .ok (.aload_n 0, 1) := by decide +kernel
theorem dX8_ofPiece_43 : decode cX8_ofPiece 43 = .ok (.iload_n 1, 1) := by decide +kernel
theorem dX8_ofPiece_44 : decode cX8_ofPiece 44 = .ok (.invokevirtual 184, 3) := by decide +kernel
theorem dX8_ofPiece_47 : decode cX8_ofPiece 47 = .ok (.ireturn, 1) := by decide +kernel
theorem dX8_ofPiece_48 : decode cX8_ofPiece 48 = .ok (.aload_n 0, 1) := by decide +kernel
theorem dX8_ofPiece_49 : decode cX8_ofPiece 49 = .ok (.getfield 7, 3) := by decide +kernel
theorem dX8_ofPiece_52 : decode cX8_ofPiece 52 = .ok (.iload_n 1, 1) := by decide +kernel
theorem dX8_ofPiece_53 : decode cX8_ofPiece 53 = .ok (.invokestatic 47, 3) := by decide +kernel
theorem dX8_ofPiece_56 : decode cX8_ofPiece 56 = .ok (.iload_n 2, 1) := by decide +kernel
theorem dX8_ofPiece_57 : decode cX8_ofPiece 57 = .ok (.iadd, 1) := by decide +kernel
theorem dX8_ofPiece_58 : decode cX8_ofPiece 58 = .ok (.iaload, 1) := by decide +kernel
theorem dX8_ofPiece_59 : decode cX8_ofPiece 59 = .ok (.ireturn, 1) := by decide +kernel
theorem dX8_piece_0 : decode cX8_piece 0 = .ok (.aload_n 0, 1) := by decide +kernel
theorem dX8_piece_1 : decode cX8_piece 1 = .ok (.iload_n 1, 1) := by decide +kernel
theorem dX8_piece_2 : decode cX8_piece 2 = .ok (.invokevirtual 187, 3) := by decide +kernel
theorem dX8_piece_5 : decode cX8_piece 5 = .ok (.ifCond .eq 21, 3) := by decide +kernel
theorem dX8_piece_8 : decode cX8_piece 8 = .ok (.iload_n 2, 1) := by decide +kernel
theorem dX8_piece_9 : decode cX8_piece 9 = .ok (.iconst 0, 1) := by decide +kernel
theorem dX8_piece_10 : decode cX8_piece 10 = .ok (.iconst 5, 1) := by decide +kernel
theorem dX8_piece_11 : decode cX8_piece 11 = .ok (.invokestatic 51, 3) := by decide +kernel
theorem dX8_piece_14 : decode cX8_piece 14 = .ok (.ifCond .eq 12, 3) := by decide +kernel
theorem dX8_piece_17 : decode cX8_piece 17 = .ok (.aload_n 0, 1) := by decide +kernel
theorem dX8_piece_18 : decode cX8_piece 18 = .ok (.iload_n 1, 1) := by decide +kernel
theorem dX8_piece_19 : decode cX8_piece 19 = .ok (.iload_n 2, 1) := by decide +kernel
theorem dX8_piece_20 : decode cX8_piece 20 = .ok (.invokevirtual 190, 3) := by decide +kernel
theorem dX8_piece_23 : decode cX8_piece 23 = .ok (.goto 7, 3) := by decide +kernel
theorem dX8_piece_26 : decode cX8_piece 26 = .ok (.aload_n 0, 1) := by decide +kernel
theorem dX8_piece_27 : decode cX8_piece 27 = .ok (.invokevirtual 174, 3) := by decide +kernel
theorem dX8_piece_30 : decode cX8_piece 30 = .ok (.ireturn, 1) := by decide +kernel
theorem dX8_at_0 : decode cX8_at 0 = .ok (.aload_n 0, 1) := by decide +kernel
theorem dX8_at_1 : decode cX8_at 1 = .ok (.iload_n 1, 1) := by decide +kernel
theorem dX8_at_2 : decode cX8_at 2 = .ok (.invokevirtual 187, 3) := by decide +kernel
theorem dX8_at_5 : decode cX8_at 5 = .ok (.ifCond .eq 31, 3) := by decide +kernel
theorem dX8_at_8 : decode cX8_at 8 = .ok (.iload_n 2, 1) := by decide +kernel
theorem dX8_at_9 : decode cX8_at 9 = .ok (.iconst 0, 1) := by decide +kernel
theorem dX8_at_10 : decode cX8_at 10 = .ok (.aload_n 0, 1) := by decide +kernel
theorem dX8_at_11 : decode cX8_at 11 = .ok (.iload_n 1, 1) := by decide +kernel
theorem dX8_at_12 : decode cX8_at 12 = .ok (.invokevirtual 68, 3) := by decide +kernel
theorem dX8_at_15 : decode cX8_at 15 = .ok (.iconst 1, 1) := by decide +kernel
theorem dX8_at_16 : decode cX8_at 16 = .ok (.isub, 1) := by decide +kernel
theorem dX8_at_17 : decode cX8_at 17 = .ok (.invokestatic 51, 3) := by decide +kernel
theorem dX8_at_20 : decode cX8_at 20 = .ok (.ifCond .eq 16, 3) := by decide +kernel
theorem dX8_at_23 : decode cX8_at 23 = .ok (.aload_n 0, 1) := by decide +kernel
theorem dX8_at_24 : decode cX8_at 24 = .ok (.getfield 7, 3) := by decide +kernel
theorem dX8_at_27 : decode cX8_at 27 = .ok (.iload_n 1, 1) := by decide +kernel
theorem dX8_at_28 : decode cX8_at 28 = .ok (.iload_n 2, 1) := by decide +kernel
theorem dX8_at_29 : decode cX8_at 29 = .ok (.invokestatic 81, 3) := by decide +kernel
theorem dX8_at_32 : decode cX8_at 32 = .ok (.iaload, 1) := by decide +kernel
theorem dX8_at_33 : decode cX8_at 33 = .ok (.goto 7, 3) := by decide +kernel
theorem dX8_at_36 : decode cX8_at 36 = .ok (.aload_n 0, 1) := by decide +kernel
theorem dX8_at_37 : decode cX8_at 37 = .ok (.invokevirtual 174, 3) := by decide +kernel
theorem dX8_at_40 : decode cX8_at 40 = .ok (.ireturn, 1) := by decide +kernel
theorem dX8_isImage_0 : decode cX8_isImage 0 = .ok (.iload_n 1, 1) := by decide +kernel
theorem dX8_isImage_1 : decode cX8_isImage 1 = .ok (.iconst 0, 1) := by decide +kernel
theorem dX8_isImage_2 : decode cX8_isImage 2 = .ok (.aload_n 0, 1) := by decide +kernel
theorem dX8_isImage_3 : decode cX8_isImage 3 = .ok (.getfield 7, 3) := by decide +kernel
theorem dX8_isImage_6 : decode cX8_isImage 6 = .ok (.sipush 170, 3) := by decide +kernel
theorem dX8_isImage_9 : decode cX8_isImage 9 = .ok (.iaload, 1) := by decide +kernel
theorem dX8_isImage_10 : decode cX8_isImage 10 = .ok (.iconst 1, 1) := by decide +kernel
theorem dX8_isImage_11 : decode cX8_isImage 11 = .ok (.isub, 1) := by decide +kernel
theorem dX8_isImage_12 : decode cX8_isImage 12 = .ok (.invokestatic 51, 3) := by decide +kernel
theorem dX8_isImage_15 : decode cX8_isImage 15 = .ok (.ireturn, 1) := by decide +kernel
theorem dX8_ofImage_0 : decode cX8_ofImage 0 = .ok (.sipush 171, 3) := by decide +kernel
theorem dX8_ofImage_3 : decode cX8_ofImage 3 = .ok (.sipush 131, 3) := by decide +kernel
theorem dX8_ofImage_6 : decode cX8_ofImage 6 = .ok (.iload_n 1, 1) := by decide +kernel
theorem dX8_ofImage_7 : decode cX8_ofImage 7 = .ok (.imul, 1) := by decide +kernel
theorem dX8_ofImage_8 : decode cX8_ofImage 8 = .ok (.iadd, 1) := by decide +kernel
theorem dX8_ofImage_9 : decode cX8_ofImage 9 = .ok (.istore_n 3, 1) := by decide +kernel
theorem dX8_ofImage_10 : decode cX8_ofImage 10 = .ok (.iconst 0, 1) := by decide +kernel
theorem dX8_ofImage_11 : decode cX8_ofImage 11 = .ok (.istore 4, 2) := by decide +kernel
theorem dX8_ofImage_13 : decode cX8_ofImage 13 = .ok (.iconst 0, 1) := by decide +kernel
theorem dX8_ofImage_14 : decode cX8_ofImage 14 = .ok (.istore 5, 2) := by decide +kernel
theorem dX8_ofImage_16 : decode cX8_ofImage 16 = .ok (.iconst 0, 1) := by decide +kernel
theorem dX8_ofImage_17 : decode cX8_ofImage 17 = .ok (.istore 6, 2) := by decide +kernel
theorem dX8_ofImage_19 : decode cX8_ofImage 19 = .ok (.iload 6, 2) := by decide +kernel
theorem dX8_ofImage_21 : decode cX8_ofImage 21 = .ok (.aload_n 0, 1) := by decide +kernel
theorem dX8_ofImage_22 : decode cX8_ofImage 22 = .ok (.getfield 7, 3) := by decide +kernel
theorem dX8_ofImage_25 : decode cX8_ofImage 25 = .ok (.iload_n 3, 1) := by decide +kernel
theorem dX8_ofImage_26 : decode cX8_ofImage 26 = .ok (.iaload, 1) := by decide +kernel
theorem dX8_ofImage_27 : decode cX8_ofImage 27 = .ok (.if_icmp .ge 84, 3) := by decide +kernel
theorem dX8_ofImage_30 : decode cX8_ofImage 30 = .ok (.iload 4, 2) := by decide +kernel
theorem dX8_ofImage_32 : decode cX8_ofImage 32 = .ok (.aload_n 0, 1) := by decide +kernel
theorem dX8_ofImage_33 : decode cX8_ofImage 33 = .ok (.getfield 7, 3) := by decide +kernel
theorem dX8_ofImage_36 : decode cX8_ofImage 36 = .ok (.iload_n 3, 1) := by decide +kernel
theorem dX8_ofImage_37 : decode cX8_ofImage 37 = .ok (.iconst 1, 1) := by decide +kernel
theorem dX8_ofImage_38 : decode cX8_ofImage 38 = .ok (.iadd, 1) := by decide +kernel
theorem dX8_ofImage_39 : decode cX8_ofImage 39 = .ok (.iload 6, 2) := by decide +kernel
theorem dX8_ofImage_41 : decode cX8_ofImage 41 = .ok (.iadd, 1) := by decide +kernel
theorem dX8_ofImage_42 : decode cX8_ofImage 42 = .ok (.iaload, 1) := by decide +kernel
theorem dX8_ofImage_43 : decode cX8_ofImage 43 = .ok (.iadd, 1) := by decide +kernel
theorem dX8_ofImage_44 : decode cX8_ofImage 44 = .ok (.istore 4, 2) := by decide +kernel
theorem dX8_ofImage_46 : decode cX8_ofImage 46 = .ok (.iconst 0, 1) := by decide +kernel
theorem dX8_ofImage_47 : decode cX8_ofImage 47 = .ok (.istore 7, 2) := by decide +kernel
theorem dX8_ofImage_49 : decode cX8_ofImage 49 = .ok (.iload 7, 2) := by decide +kernel
theorem dX8_ofImage_51 : decode cX8_ofImage 51 = .ok (.aload_n 0, 1) := by decide +kernel
theorem dX8_ofImage_52 : decode cX8_ofImage 52 = .ok (.getfield 7, 3) := by decide +kernel
theorem dX8_ofImage_55 : decode cX8_ofImage 55 = .ok (.iload_n 3, 1) := by decide +kernel
theorem dX8_ofImage_56 : decode cX8_ofImage 56 = .ok (.iconst 1, 1) := by decide +kernel
theorem dX8_ofImage_57 : decode cX8_ofImage 57 = .ok (.iadd, 1) := by decide +kernel
theorem dX8_ofImage_58 : decode cX8_ofImage 58 = .ok (.iload 6, 2) := by decide +kernel
theorem dX8_ofImage_60 : decode cX8_ofImage 60 = .ok (.iadd, 1) := by decide +kernel
theorem dX8_ofImage_61 : decode cX8_ofImage 61 = .ok (.iaload, 1) := by decide +kernel
theorem dX8_ofImage_62 : decode cX8_ofImage 62 = .ok (.if_icmp .ge 43, 3) := by decide +kernel
theorem dX8_ofImage_65 : decode cX8_ofImage 65 = .ok (.iload 5, 2) := by decide +kernel
theorem dX8_ofImage_67 : decode cX8_ofImage 67 = .ok (.aload_n 0, 1) := by decide +kernel
theorem dX8_ofImage_68 : decode cX8_ofImage 68 = .ok (.getfield 7, 3) := by decide +kernel
theorem dX8_ofImage_71 : decode cX8_ofImage 71 = .ok (.iload_n 3, 1) := by decide +kernel
theorem dX8_ofImage_72 : decode cX8_ofImage 72 = .ok (.bipush 11, 2) := by decide +kernel
theorem dX8_ofImage_74 : decode cX8_ofImage 74 = .ok (.iadd, 1) := by decide +kernel
theorem dX8_ofImage_75 : decode cX8_ofImage 75 = .ok (.bipush 12, 2) := by decide +kernel
theorem dX8_ofImage_77 : decode cX8_ofImage 77 = .ok (.iload 6, 2) := by decide +kernel
theorem dX8_ofImage_79 : decode cX8_ofImage 79 = .ok (.imul, 1) := by decide +kernel
theorem dX8_ofImage_80 : decode cX8_ofImage 80 = .ok (.iadd, 1) := by decide +kernel
theorem dX8_ofImage_81 : decode cX8_ofImage 81 = .ok (.iload 7, 2) := by decide +kernel
theorem dX8_ofImage_83 : decode cX8_ofImage 83 = .ok (.iadd, 1) := by decide +kernel
theorem dX8_ofImage_84 : decode cX8_ofImage 84 = .ok (.iaload, 1) := by decide +kernel
theorem dX8_ofImage_85 : decode cX8_ofImage 85 = .ok (.sipush 1000, 3) := by decide +kernel
theorem dX8_ofImage_88 : decode cX8_ofImage 88 = .ok (.if_icmp .lt 7, 3) := by decide +kernel
theorem dX8_ofImage_91 : decode cX8_ofImage 91 = .ok (.iconst 1, 1) := by decide +kernel
theorem dX8_ofImage_92 : decode cX8_ofImage 92 = .ok (.goto 4, 3) := by decide +kernel
theorem dX8_ofImage_95 : decode cX8_ofImage 95 = .ok (.iconst 0, 1) := by decide +kernel
theorem dX8_ofImage_96 : decode cX8_ofImage 96 = .ok (.iadd, 1) := by decide +kernel
theorem dX8_ofImage_97 : decode cX8_ofImage 97 = .ok (.istore 5, 2) := by decide +kernel
theorem dX8_ofImage_99 : decode cX8_ofImage 99 = .ok (.iinc 7 1, 3) := by decide +kernel
theorem dX8_ofImage_102 : decode cX8_ofImage 102 = .ok (.goto (-53), 3) := by decide +kernel
theorem dX8_ofImage_105 : decode cX8_ofImage 105 = .ok (.iinc 6 1, 3) := by decide +kernel
theorem dX8_ofImage_108 : decode cX8_ofImage 108 = .ok (.goto (-89), 3) := by decide +kernel
theorem dX8_ofImage_111 : decode cX8_ofImage 111 = .ok (.iload_n 2, 1) := by decide +kernel
theorem dX8_ofImage_112 : decode cX8_ofImage 112 = .ok (.ifCond .ne 12, 3) := by decide +kernel
theorem dX8_ofImage_115 : decode cX8_ofImage 115 = .ok (.aload_n 0, 1) := by decide +kernel
theorem dX8_ofImage_116 : decode cX8_ofImage 116 = .ok (.getfield 7, 3) := by decide +kernel
theorem dX8_ofImage_119 : decode cX8_ofImage 119 = .ok (.iload_n 3, 1) := by decide +kernel
theorem dX8_ofImage_120 : decode cX8_ofImage 120 = .ok (.iaload, 1) := by decide +kernel
theorem dX8_ofImage_121 : decode cX8_ofImage 121 = .ok (.goto 15, 3) := by decide +kernel
theorem dX8_ofImage_124 : decode cX8_ofImage 124 = .ok (.iload_n 2, 1) := by decide +kernel
theorem dX8_ofImage_125 : decode cX8_ofImage 125 = .ok (.iconst 1, 1) := by decide +kernel
theorem dX8_ofImage_126 : decode cX8_ofImage 126 = .ok (.if_icmp .ne 8, 3) := by decide +kernel
theorem dX8_ofImage_129 : decode cX8_ofImage 129 = .ok (.iload 4, 2) := by decide +kernel
theorem dX8_ofImage_131 : decode cX8_ofImage 131 = .ok (.goto 5, 3) := by decide +kernel
theorem dX8_ofImage_134 : decode cX8_ofImage 134 = .ok (.iload 5, 2) := by decide +kernel
theorem dX8_ofImage_136 : decode cX8_ofImage 136 = .ok (.ireturn, 1) := by decide +kernel
theorem dX8_image_0 : decode cX8_image 0 = .ok (.aload_n 0, 1) := by decide +kernel
theorem dX8_image_1 : decode cX8_image 1 = .ok (.iload_n 1, 1) := by decide +kernel
theorem dX8_image_2 : decode cX8_image 2 = .ok (.invokevirtual 193, 3) := by decide +kernel
theorem dX8_image_5 : decode cX8_image 5 = .ok (.ifCond .eq 21, 3) := by decide +kernel
theorem dX8_image_8 : decode cX8_image 8 = .ok (.iload_n 2, 1) := by decide +kernel
theorem dX8_image_9 : decode cX8_image 9 = .ok (.iconst 0, 1) := by decide +kernel
theorem dX8_image_10 : decode cX8_image 10 = .ok (.iconst 2, 1) := by decide +kernel
theorem dX8_image_11 : decode cX8_image 11 = .ok (.invokestatic 51, 3) := by decide +kernel
theorem dX8_image_14 : decode cX8_image 14 = .ok (.ifCond .eq 12, 3) := by decide +kernel
theorem dX8_image_17 : decode cX8_image 17 = .ok (.aload_n 0, 1) := by decide +kernel
theorem dX8_image_18 : decode cX8_image 18 = .ok (.iload_n 1, 1) := by decide +kernel
theorem dX8_image_19 : decode cX8_image 19 = .ok (.iload_n 2, 1) := by decide +kernel
theorem dX8_image_20 : decode cX8_image 20 = .ok (.invokevirtual 196, 3) := by decide +kernel
theorem dX8_image_23 : decode cX8_image 23 = .ok (.goto 7, 3) := by decide +kernel
theorem dX8_image_26 : decode cX8_image 26 = .ok (.aload_n 0, 1) := by decide +kernel
theorem dX8_image_27 : decode cX8_image 27 = .ok (.invokevirtual 174, 3) := by decide +kernel
theorem dX8_image_30 : decode cX8_image 30 = .ok (.ireturn, 1) := by decide +kernel
theorem dX8_imaged_0 : decode cX8_imaged 0 = .ok (.aload_n 0, 1) := by decide +kernel
theorem dX8_imaged_1 : decode cX8_imaged 1 = .ok (.iload_n 1, 1) := by decide +kernel
theorem dX8_imaged_2 : decode cX8_imaged 2 = .ok (.invokevirtual 193, 3) := by decide +kernel
theorem dX8_imaged_5 : decode cX8_imaged 5 = .ok (.ifCond .eq 31, 3) := by decide +kernel
theorem dX8_imaged_8 : decode cX8_imaged 8 = .ok (.iload_n 3, 1) := by decide +kernel
theorem dX8_imaged_9 : decode cX8_imaged 9 = .ok (.ifCond .lt 27, 3) := by decide +kernel
theorem dX8_imaged_12 : decode cX8_imaged 12 = .ok (.iload_n 2, 1) := by decide +kernel
theorem dX8_imaged_13 : decode cX8_imaged 13 = .ok (.iconst 0, 1) := by decide +kernel
theorem dX8_imaged_14 : decode cX8_imaged 14 = .ok (.aload_n 0, 1) := by decide +kernel
theorem dX8_imaged_15 : decode cX8_imaged 15 = .ok (.getfield 7, 3) := by decide +kernel
theorem dX8_imaged_18 : decode cX8_imaged 18 = .ok (.sipush 171, 3) := by decide +kernel
theorem dX8_imaged_21 : decode cX8_imaged 21 = .ok (.sipush 131, 3) := by decide +kernel
theorem dX8_imaged_24 : decode cX8_imaged 24 = .ok (.iload_n 1, 1) := by decide +kernel
theorem dX8_imaged_25 : decode cX8_imaged 25 = .ok (.imul, 1) := by decide +kernel
theorem dX8_imaged_26 : decode cX8_imaged 26 = .ok (.iadd, 1) := by decide +kernel
theorem dX8_imaged_27 : decode cX8_imaged 27 = .ok (.iaload, 1) := by decide +kernel
theorem dX8_imaged_28 : decode cX8_imaged 28 = .ok (.iconst 1, 1) := by decide +kernel
theorem dX8_imaged_29 : decode cX8_imaged 29 = .ok (.isub, 1) := by decide +kernel
theorem dX8_imaged_30 : decode cX8_imaged 30 = .ok (.invokestatic 51, 3) := by decide +kernel
theorem dX8_imaged_33 : decode cX8_imaged 33 = .ok (.ifCond .ne 8, 3) := by decide +kernel
theorem dX8_imaged_36 : decode cX8_imaged 36 = .ok (.aload_n 0, 1) := by decide +kernel
theorem dX8_imaged_37 : decode cX8_imaged 37 = .ok (.invokevirtual 174, 3) := by decide +kernel
theorem dX8_imaged_40 : decode cX8_imaged 40 = .ok (.ireturn, 1) := by decide +kernel
theorem dX8_imaged_41 : decode cX8_imaged 41 = .ok (.sipush 171, 3) := by decide +kernel
theorem dX8_imaged_44 : decode cX8_imaged 44 = .ok (.sipush 131, 3) := by decide +kernel
theorem dX8_imaged_47 : decode cX8_imaged 47 = .ok (.iload_n 1, 1) := by decide +kernel
theorem dX8_imaged_48 : decode cX8_imaged 48 = .ok (.imul, 1) := by decide +kernel
theorem dX8_imaged_49 : decode cX8_imaged 49 = .ok (.iadd, 1) := by decide +kernel
theorem dX8_imaged_50 : decode cX8_imaged 50 = .ok (.istore 4, 2) := by decide +kernel
theorem dX8_imaged_52 : decode cX8_imaged 52 = .ok (.iload_n 3, 1) := by decide +kernel
theorem dX8_imaged_53 : decode cX8_imaged 53 = .ok (.aload_n 0, 1) := by decide +kernel
theorem dX8_imaged_54 : decode cX8_imaged 54 = .ok (.getfield 7, 3) := by decide +kernel
theorem dX8_imaged_57 : decode cX8_imaged 57 = .ok (.iload 4, 2) := by decide +kernel
theorem dX8_imaged_59 : decode cX8_imaged 59 = .ok (.iconst 1, 1) := by decide +kernel
theorem dX8_imaged_60 : decode cX8_imaged 60 = .ok (.iadd, 1) := by decide +kernel
theorem dX8_imaged_61 : decode cX8_imaged 61 = .ok (.iload_n 2, 1) := by decide +kernel
theorem dX8_imaged_62 : decode cX8_imaged 62 = .ok (.iadd, 1) := by decide +kernel
theorem dX8_imaged_63 : decode cX8_imaged 63 = .ok (.iaload, 1) := by decide +kernel
theorem dX8_imaged_64 : decode cX8_imaged 64 = .ok (.if_icmp .ge 23, 3) := by decide +kernel
theorem dX8_imaged_67 : decode cX8_imaged 67 = .ok (.aload_n 0, 1) := by decide +kernel
theorem dX8_imaged_68 : decode cX8_imaged 68 = .ok (.getfield 7, 3) := by decide +kernel
theorem dX8_imaged_71 : decode cX8_imaged 71 = .ok (.iload 4, 2) := by decide +kernel
theorem dX8_imaged_73 : decode cX8_imaged 73 = .ok (.bipush 11, 2) := by decide +kernel
theorem dX8_imaged_75 : decode cX8_imaged 75 = .ok (.iadd, 1) := by decide +kernel
theorem dX8_imaged_76 : decode cX8_imaged 76 = .ok (.bipush 12, 2) := by decide +kernel
theorem dX8_imaged_78 : decode cX8_imaged 78 = .ok (.iload_n 2, 1) := by decide +kernel
theorem dX8_imaged_79 : decode cX8_imaged 79 = .ok (.imul, 1) := by decide +kernel
theorem dX8_imaged_80 : decode cX8_imaged 80 = .ok (.iadd, 1) := by decide +kernel
theorem dX8_imaged_81 : decode cX8_imaged 81 = .ok (.iload_n 3, 1) := by decide +kernel
theorem dX8_imaged_82 : decode cX8_imaged 82 = .ok (.iadd, 1) := by decide +kernel
theorem dX8_imaged_83 : decode cX8_imaged 83 = .ok (.iaload, 1) := by decide +kernel
theorem dX8_imaged_84 : decode cX8_imaged 84 = .ok (.goto 5, 3) := by decide +kernel
theorem dX8_imaged_87 : decode cX8_imaged 87 = .ok (.bipush (-5), 2) := by decide +kernel
theorem dX8_imaged_89 : decode cX8_imaged 89 = .ok (.ireturn, 1) := by decide +kernel
theorem dX8_like_0 : decode cX8_like 0 = .ok (.aload_n 0, 1) := by decide +kernel
theorem dX8_like_1 : decode cX8_like 1 = .ok (.iload_n 1, 1) := by decide +kernel
theorem dX8_like_2 : decode cX8_like 2 = .ok (.invokevirtual 187, 3) := by decide +kernel
theorem dX8_like_5 : decode cX8_like 5 = .ok (.ifCond .ne 8, 3) := by decide +kernel
theorem dX8_like_8 : decode cX8_like 8 = .ok (.aload_n 0, 1) := by decide +kernel
theorem dX8_like_9 : decode cX8_like 9 = .ok (.invokevirtual 174, 3) := by decide +kernel
theorem dX8_like_12 : decode cX8_like 12 = .ok (.ireturn, 1) := by decide +kernel
theorem dX8_like_13 : decode cX8_like 13 = .ok (.aload_n 0, 1) := by decide +kernel
theorem dX8_like_14 : decode cX8_like 14 = .ok (.iload_n 1, 1) := by decide +kernel
theorem dX8_like_15 : decode cX8_like 15 = .ok (.invokevirtual 113, 3) := by decide +kernel
theorem dX8_like_18 : decode cX8_like 18 = .ok (.aload_n 0, 1) := by decide +kernel
theorem dX8_like_19 : decode cX8_like 19 = .ok (.invokevirtual 117, 3) := by decide +kernel
theorem dX8_like_22 : decode cX8_like 22 = .ok (.ifCond .ne 16, 3) := by decide +kernel
theorem dX8_like_25 : decode cX8_like 25 = .ok (.aload_n 0, 1) := by decide +kernel
theorem dX8_like_26 : decode cX8_like 26 = .ok (.getfield 19, 3) := by decide +kernel
theorem dX8_like_29 : decode cX8_like 29 = .ok (.iconst 1, 1) := by decide +kernel
theorem dX8_like_30 : decode cX8_like 30 = .ok (.dup2, 1) := by decide +kernel
theorem dX8_like_31 : decode cX8_like 31 = .ok (.iaload, 1) := by decide +kernel
theorem dX8_like_32 : decode cX8_like 32 = .ok (.iconst 1, 1) := by decide +kernel
theorem dX8_like_33 : decode cX8_like 33 = .ok (.iadd, 1) := by decide +kernel
theorem dX8_like_34 : decode cX8_like 34 = .ok (.iastore, 1) := by decide +kernel
theorem dX8_like_35 : decode cX8_like 35 = .ok (.bipush (-3), 2) := by decide +kernel
theorem dX8_like_37 : decode cX8_like 37 = .ok (.ireturn, 1) := by decide +kernel
theorem dX8_like_38 : decode cX8_like 38 = .ok (.aload_n 0, 1) := by decide +kernel
theorem dX8_like_39 : decode cX8_like 39 = .ok (.invokevirtual 121, 3) := by decide +kernel
theorem dX8_like_42 : decode cX8_like 42 = .ok (.aload_n 0, 1) := by decide +kernel
theorem dX8_like_43 : decode cX8_like 43 = .ok (.invokevirtual 124, 3) := by decide +kernel
theorem dX8_like_46 : decode cX8_like 46 = .ok (.ireturn, 1) := by decide +kernel
theorem dX8_livePieces_0 : decode cX8_livePieces 0 = .ok (.iconst 0, 1) := by decide +kernel
theorem dX8_livePieces_1 : decode cX8_livePieces 1 = .ok (.istore_n 1, 1) := by decide +kernel
theorem dX8_livePieces_2 : decode cX8_livePieces 2 = .ok (.iconst 0, 1) := by decide +kernel
theorem dX8_livePieces_3 : decode cX8_livePieces 3 = .ok (.istore_n 2, 1) := by decide +kernel
theorem dX8_livePieces_4 : decode cX8_livePieces 4 = .ok (.iload_n 2, 1) := by decide +kernel
theorem dX8_livePieces_5 : decode cX8_livePieces 5 = .ok (.aload_n 0, 1) := by decide +kernel
theorem dX8_livePieces_6 : decode cX8_livePieces 6 = .ok (.getfield 7, 3) := by decide +kernel
theorem dX8_livePieces_9 : decode cX8_livePieces 9 = .ok (.iconst 0, 1) := by decide +kernel
theorem dX8_livePieces_10 : decode cX8_livePieces 10 = .ok (.iaload, 1) := by decide +kernel
theorem dX8_livePieces_11 : decode cX8_livePieces 11 = .ok (.if_icmp .ge 25, 3) := by decide +kernel
theorem dX8_livePieces_14 : decode cX8_livePieces 14 = .ok (.iload_n 1, 1) := by decide +kernel
theorem dX8_livePieces_15 : decode cX8_livePieces 15 = .ok (.aload_n 0, 1) := by decide +kernel
theorem dX8_livePieces_16 : decode cX8_livePieces 16 = .ok (.iload_n 2, 1) := by decide +kernel
theorem dX8_livePieces_17 : decode cX8_livePieces 17 = .ok (.invokevirtual 61, 3) := by decide +kernel
theorem dX8_livePieces_20 : decode cX8_livePieces 20 = .ok (.ifCond .eq 7, 3) := by decide +kernel
theorem dX8_livePieces_23 : decode cX8_livePieces 23 = .ok (.iconst 1, 1) := by decide +kernel
theorem dX8_livePieces_24 : decode cX8_livePieces 24 = .ok (.goto 4, 3) := by decide +kernel
theorem dX8_livePieces_27 : decode cX8_livePieces 27 = .ok (.iconst 0, 1) := by decide +kernel
theorem dX8_livePieces_28 : decode cX8_livePieces 28 = .ok (.iadd, 1) := by decide +kernel
theorem dX8_livePieces_29 : decode cX8_livePieces 29 = .ok (.istore_n 1, 1) := by decide +kernel
theorem dX8_livePieces_30 : decode cX8_livePieces 30 = .ok (.iinc 2 1, 3) := by decide +kernel
theorem dX8_livePieces_33 : decode cX8_livePieces 33 = .ok (.goto (-29), 3) := by decide +kernel
theorem dX8_livePieces_36 : decode cX8_livePieces 36 = .ok (.iload_n 1, 1) := by decide +kernel
theorem dX8_livePieces_37 : decode cX8_livePieces 37 = .ok (.ireturn, 1) := by decide +kernel
theorem dX8_countOf_0 : decode cX8_countOf 0 = .ok (.iload_n 1, 1) := by decide +kernel
theorem dX8_countOf_1 : decode cX8_countOf 1 = .ok (.tableswitch 102 0 9 #[55, 62, 71, 76, 102, 102, 102, 85, 92, 97], 55) := by decide +kernel
theorem dX8_countOf_56 : decode cX8_countOf 56 = .ok (.aload_n 0, 1) := by decide +kernel
theorem dX8_countOf_57 : decode cX8_countOf 57 = .ok (.getfield 7, 3) := by decide +kernel
theorem dX8_countOf_60 : decode cX8_countOf 60 = .ok (.iconst 0, 1) := by decide +kernel
theorem dX8_countOf_61 : decode cX8_countOf 61 = .ok (.iaload, 1) := by decide +kernel
theorem dX8_countOf_62 : decode cX8_countOf 62 = .ok (.ireturn, 1) := by decide +kernel
theorem dX8_countOf_63 : decode cX8_countOf 63 = .ok (.aload_n 0, 1) := by decide +kernel
theorem dX8_countOf_64 : decode cX8_countOf 64 = .ok (.getfield 7, 3) := by decide +kernel
theorem dX8_countOf_67 : decode cX8_countOf 67 = .ok (.sipush 170, 3) := by decide +kernel
theorem dX8_countOf_70 : decode cX8_countOf 70 = .ok (.iaload, 1) := by decide +kernel
theorem dX8_countOf_71 : decode cX8_countOf 71 = .ok (.ireturn, 1) := by decide +kernel
theorem dX8_countOf_72 : decode cX8_countOf 72 = .ok (.aload_n 0, 1) := by decide +kernel
theorem dX8_countOf_73 : decode cX8_countOf 73 = .ok (.invokevirtual 199, 3) := by decide +kernel
theorem dX8_countOf_76 : decode cX8_countOf 76 = .ok (.ireturn, 1) := by decide +kernel
theorem dX8_countOf_77 : decode cX8_countOf 77 = .ok (.aload_n 0, 1) := by decide +kernel
theorem dX8_countOf_78 : decode cX8_countOf 78 = .ok (.getfield 7, 3) := by decide +kernel
theorem dX8_countOf_81 : decode cX8_countOf 81 = .ok (.sipush 169, 3) := by decide +kernel
theorem dX8_countOf_84 : decode cX8_countOf 84 = .ok (.iaload, 1) := by decide +kernel
theorem dX8_countOf_85 : decode cX8_countOf 85 = .ok (.ireturn, 1) := by decide +kernel
theorem dX8_countOf_86 : decode cX8_countOf 86 = .ok (.aload_n 0, 1) := by decide +kernel
theorem dX8_countOf_87 : decode cX8_countOf 87 = .ok (.getfield 22, 3) := by decide +kernel
theorem dX8_countOf_90 : decode cX8_countOf 90 = .ok (.iconst 0, 1) := by decide +kernel
theorem dX8_countOf_91 : decode cX8_countOf 91 = .ok (.iaload, 1) := by decide +kernel
theorem dX8_countOf_92 : decode cX8_countOf 92 = .ok (.ireturn, 1) := by decide +kernel
theorem dX8_countOf_93 : decode cX8_countOf 93 = .ok (.aload_n 0, 1) := by decide +kernel
theorem dX8_countOf_94 : decode cX8_countOf 94 = .ok (.getfield 202, 3) := by decide +kernel
theorem dX8_countOf_97 : decode cX8_countOf 97 = .ok (.ireturn, 1) := by decide +kernel
theorem dX8_countOf_98 : decode cX8_countOf 98 = .ok (.aload_n 0, 1) := by decide +kernel
theorem dX8_countOf_99 : decode cX8_countOf 99 = .ok (.getfield 43, 3) := by decide +kernel
theorem dX8_countOf_102 : decode cX8_countOf 102 = .ok (.ireturn, 1) := by decide +kernel
theorem dX8_countOf_103 : decode cX8_countOf 103 = .ok (.aload_n 0, 1) := by decide +kernel
theorem dX8_countOf_104 : decode cX8_countOf 104 = .ok (.getfield 19, 3) := by decide +kernel
theorem dX8_countOf_107 : decode cX8_countOf 107 = .ok (.iload_n 1, 1) := by decide +kernel
theorem dX8_countOf_108 : decode cX8_countOf 108 = .ok (.iconst 4, 1) := by decide +kernel
theorem dX8_countOf_109 : decode cX8_countOf 109 = .ok (.isub, 1) := by decide +kernel
theorem dX8_countOf_110 : decode cX8_countOf 110 = .ok (.iaload, 1) := by decide +kernel
theorem dX8_countOf_111 : decode cX8_countOf 111 = .ok (.ireturn, 1) := by decide +kernel
theorem dX8_count_0 : decode cX8_count 0 = .ok (.iload_n 1, 1) := by decide +kernel
theorem dX8_count_1 : decode cX8_count 1 = .ok (.iconst 0, 1) := by decide +kernel
theorem dX8_count_2 : decode cX8_count 2 = .ok (.bipush 9, 2) := by decide +kernel
theorem dX8_count_4 : decode cX8_count 4 = .ok (.invokestatic 51, 3) := by decide +kernel
theorem dX8_count_7 : decode cX8_count 7 = .ok (.ifCond .eq 11, 3) := by decide +kernel
theorem dX8_count_10 : decode cX8_count 10 = .ok (.aload_n 0, 1) := by decide +kernel
theorem dX8_count_11 : decode cX8_count 11 = .ok (.iload_n 1, 1) := by decide +kernel
theorem dX8_count_12 : decode cX8_count 12 = .ok (.invokevirtual 205, 3) := by decide +kernel
theorem dX8_count_15 : decode cX8_count 15 = .ok (.goto 7, 3) := by decide +kernel
theorem dX8_count_18 : decode cX8_count 18 = .ok (.aload_n 0, 1) := by decide +kernel
theorem dX8_count_19 : decode cX8_count 19 = .ok (.invokevirtual 174, 3) := by decide +kernel
theorem dX8_count_22 : decode cX8_count 22 = .ok (.ireturn, 1) := by decide +kernel
theorem dX8_undefined_0 : decode cX8_undefined 0 = .ok (.iload_n 1, 1) := by decide +kernel
theorem dX8_undefined_1 : decode cX8_undefined 1 = .ok (.iconst 1, 1) := by decide +kernel
theorem dX8_undefined_2 : decode cX8_undefined 2 = .ok (.bipush 9, 2) := by decide +kernel
theorem dX8_undefined_4 : decode cX8_undefined 4 = .ok (.invokestatic 51, 3) := by decide +kernel
theorem dX8_undefined_7 : decode cX8_undefined 7 = .ok (.ifCond .eq 12, 3) := by decide +kernel
theorem dX8_undefined_10 : decode cX8_undefined 10 = .ok (.aload_n 0, 1) := by decide +kernel
theorem dX8_undefined_11 : decode cX8_undefined 11 = .ok (.getfield 22, 3) := by decide +kernel
theorem dX8_undefined_14 : decode cX8_undefined 14 = .ok (.iload_n 1, 1) := by decide +kernel
theorem dX8_undefined_15 : decode cX8_undefined 15 = .ok (.iaload, 1) := by decide +kernel
theorem dX8_undefined_16 : decode cX8_undefined 16 = .ok (.goto 7, 3) := by decide +kernel
theorem dX8_undefined_19 : decode cX8_undefined 19 = .ok (.aload_n 0, 1) := by decide +kernel
theorem dX8_undefined_20 : decode cX8_undefined 20 = .ok (.invokevirtual 174, 3) := by decide +kernel
theorem dX8_undefined_23 : decode cX8_undefined 23 = .ok (.ireturn, 1) := by decide +kernel
theorem dX8_type_0 : decode cX8_type 0 = .ok (.iload_n 1, 1) := by decide +kernel
theorem dX8_type_1 : decode cX8_type 1 = .ok (.iconst 0, 1) := by decide +kernel
theorem dX8_type_2 : decode cX8_type 2 = .ok (.bipush 127, 2) := by decide +kernel
theorem dX8_type_4 : decode cX8_type 4 = .ok (.invokestatic 51, 3) := by decide +kernel
theorem dX8_type_7 : decode cX8_type 7 = .ok (.ifCond .ne 8, 3) := by decide +kernel
theorem dX8_type_10 : decode cX8_type 10 = .ok (.aload_n 0, 1) := by decide +kernel
theorem dX8_type_11 : decode cX8_type 11 = .ok (.invokevirtual 174, 3) := by decide +kernel
theorem dX8_type_14 : decode cX8_type 14 = .ok (.ireturn, 1) := by decide +kernel
theorem dX8_type_15 : decode cX8_type 15 = .ok (.aload_n 0, 1) := by decide +kernel
theorem dX8_type_16 : decode cX8_type 16 = .ok (.getfield 202, 3) := by decide +kernel
theorem dX8_type_19 : decode cX8_type 19 = .ok (.bipush 120, 2) := by decide +kernel
theorem dX8_type_21 : decode cX8_type 21 = .ok (.if_icmp .ne 16, 3) := by decide +kernel
theorem dX8_type_24 : decode cX8_type 24 = .ok (.aload_n 0, 1) := by decide +kernel
theorem dX8_type_25 : decode cX8_type 25 = .ok (.getfield 19, 3) := by decide +kernel
theorem dX8_type_28 : decode cX8_type 28 = .ok (.iconst 2, 1) := by decide +kernel
theorem dX8_type_29 : decode cX8_type 29 = .ok (.dup2, 1) := by decide +kernel
theorem dX8_type_30 : decode cX8_type 30 = .ok (.iaload, 1) := by decide +kernel
theorem dX8_type_31 : decode cX8_type 31 = .ok (.iconst 1, 1) := by decide +kernel
theorem dX8_type_32 : decode cX8_type 32 = .ok (.iadd, 1) := by decide +kernel
theorem dX8_type_33 : decode cX8_type 33 = .ok (.iastore, 1) := by decide +kernel
theorem dX8_type_34 : decode cX8_type 34 = .ok (.bipush (-4), 2) := by decide +kernel
theorem dX8_type_36 : decode cX8_type 36 = .ok (.ireturn, 1) := by decide +kernel
theorem dX8_type_37 : decode cX8_type 37 = .ok (.aload_n 0, 1) := by decide +kernel
theorem dX8_type_38 : decode cX8_type 38 = .ok (.getfield 25, 3) := by decide +kernel
theorem dX8_type_41 : decode cX8_type 41 = .ok (.aload_n 0, 1) := by decide +kernel
theorem dX8_type_42 : decode cX8_type 42 = .ok (.getfield 202, 3) := by decide +kernel
theorem dX8_type_45 : decode cX8_type 45 = .ok (.iload_n 1, 1) := by decide +kernel
theorem dX8_type_46 : decode cX8_type 46 = .ok (.iastore, 1) := by decide +kernel
theorem dX8_type_47 : decode cX8_type 47 = .ok (.aload_n 0, 1) := by decide +kernel
theorem dX8_type_48 : decode cX8_type 48 = .ok (.dup, 1) := by decide +kernel
theorem dX8_type_49 : decode cX8_type 49 = .ok (.getfield 202, 3) := by decide +kernel
theorem dX8_type_52 : decode cX8_type 52 = .ok (.iconst 1, 1) := by decide +kernel
theorem dX8_type_53 : decode cX8_type 53 = .ok (.iadd, 1) := by decide +kernel
theorem dX8_type_54 : decode cX8_type 54 = .ok (.putfield 202, 3) := by decide +kernel
theorem dX8_type_57 : decode cX8_type 57 = .ok (.aload_n 0, 1) := by decide +kernel
theorem dX8_type_58 : decode cX8_type 58 = .ok (.getfield 202, 3) := by decide +kernel
theorem dX8_type_61 : decode cX8_type 61 = .ok (.ireturn, 1) := by decide +kernel
theorem dX8_clear_0 : decode cX8_clear 0 = .ok (.aload_n 0, 1) := by decide +kernel
theorem dX8_clear_1 : decode cX8_clear 1 = .ok (.getfield 202, 3) := by decide +kernel
theorem dX8_clear_4 : decode cX8_clear 4 = .ok (.istore_n 1, 1) := by decide +kernel
theorem dX8_clear_5 : decode cX8_clear 5 = .ok (.aload_n 0, 1) := by decide +kernel
theorem dX8_clear_6 : decode cX8_clear 6 = .ok (.iconst 0, 1) := by decide +kernel
theorem dX8_clear_7 : decode cX8_clear 7 = .ok (.putfield 202, 3) := by decide +kernel
theorem dX8_clear_10 : decode cX8_clear 10 = .ok (.iload_n 1, 1) := by decide +kernel
theorem dX8_clear_11 : decode cX8_clear 11 = .ok (.ireturn, 1) := by decide +kernel
theorem dX8_isAt_0 : decode cX8_isAt 0 = .ok (.aload_n 0, 1) := by decide +kernel
theorem dX8_isAt_1 : decode cX8_isAt 1 = .ok (.getfield 208, 3) := by decide +kernel
theorem dX8_isAt_4 : decode cX8_isAt 4 = .ok (.aload_n 0, 1) := by decide +kernel
theorem dX8_isAt_5 : decode cX8_isAt 5 = .ok (.getfield 202, 3) := by decide +kernel
theorem dX8_isAt_8 : decode cX8_isAt 8 = .ok (.if_icmp .ge 24, 3) := by decide +kernel
theorem dX8_isAt_11 : decode cX8_isAt 11 = .ok (.aload_n 0, 1) := by decide +kernel
theorem dX8_isAt_12 : decode cX8_isAt 12 = .ok (.getfield 25, 3) := by decide +kernel
theorem dX8_isAt_15 : decode cX8_isAt 15 = .ok (.aload_n 0, 1) := by decide +kernel
theorem dX8_isAt_16 : decode cX8_isAt 16 = .ok (.getfield 208, 3) := by decide +kernel
theorem dX8_isAt_19 : decode cX8_isAt 19 = .ok (.iaload, 1) := by decide +kernel
theorem dX8_isAt_20 : decode cX8_isAt 20 = .ok (.iload_n 1, 1) := by decide +kernel
theorem dX8_isAt_21 : decode cX8_isAt 21 = .ok (.iload_n 2, 1) := by decide +kernel
theorem dX8_isAt_22 : decode cX8_isAt 22 = .ok (.invokestatic 51, 3) := by decide +kernel
theorem dX8_isAt_25 : decode cX8_isAt 25 = .ok (.ifCond .eq 7, 3) := by decide +kernel
theorem dX8_isAt_28 : decode cX8_isAt 28 = .ok (.iconst 1, 1) := by decide +kernel
theorem dX8_isAt_29 : decode cX8_isAt 29 = .ok (.goto 4, 3) := by decide +kernel
theorem dX8_isAt_32 : decode cX8_isAt 32 = .ok (.iconst 0, 1) := by decide +kernel
theorem dX8_isAt_33 : decode cX8_isAt 33 = .ok (.ireturn, 1) := by decide +kernel
theorem dX8_blanks_0 : decode cX8_blanks 0 = .ok (.aload_n 0, 1) := by decide +kernel
theorem dX8_blanks_1 : decode cX8_blanks 1 = .ok (.bipush 32, 2) := by decide +kernel
theorem dX8_blanks_3 : decode cX8_blanks 3 = .ok (.bipush 32, 2) := by decide +kernel
theorem dX8_blanks_5 : decode cX8_blanks 5 = .ok (.invokevirtual 211, 3) := by decide +kernel
theorem dX8_blanks_8 : decode cX8_blanks 8 = .ok (.ifCond .eq 16, 3) := by decide +kernel
theorem dX8_blanks_11 : decode cX8_blanks 11 = .ok (.aload_n 0, 1) := by decide +kernel
theorem dX8_blanks_12 : decode cX8_blanks 12 = .ok (.dup, 1) := by decide +kernel
theorem dX8_blanks_13 : decode cX8_blanks 13 = .ok (.getfield 208, 3) := by decide +kernel
theorem dX8_blanks_16 : decode cX8_blanks 16 = .ok (.iconst 1, 1) := by decide +kernel
theorem dX8_blanks_17 : decode cX8_blanks 17 = .ok (.iadd, 1) := by decide +kernel
theorem dX8_blanks_18 : decode cX8_blanks 18 = .ok (.putfield 208, 3) := by decide +kernel
theorem dX8_blanks_21 : decode cX8_blanks 21 = .ok (.goto (-21), 3) := by decide +kernel
theorem dX8_blanks_24 : decode cX8_blanks 24 = .ok (.return_, 1) := by decide +kernel
theorem dX8_fails_0 : decode cX8_fails 0 = .ok (.aload_n 0, 1) := by decide +kernel
theorem dX8_fails_1 : decode cX8_fails 1 = .ok (.iload_n 1, 1) := by decide +kernel
theorem dX8_fails_2 : decode cX8_fails 2 = .ok (.putfield 214, 3) := by decide +kernel
theorem dX8_fails_5 : decode cX8_fails 5 = .ok (.iconst 0, 1) := by decide +kernel
theorem dX8_fails_6 : decode cX8_fails 6 = .ok (.ireturn, 1) := by decide +kernel
theorem dX8_manyOf_0 : decode cX8_manyOf 0 = .ok (.iload_n 0, 1) := by decide +kernel
theorem dX8_manyOf_1 : decode cX8_manyOf 1 = .ok (.tableswitch 121 98 122 #[119, 117, 119, 115, 121, 121, 121, 121, 117, 121, 119, 117, 121, 121, 121, 121, 121, 117, 121, 121, 117, 119, 121, 121, 115], 115) := by decide +kernel
theorem dX8_manyOf_116 : decode cX8_manyOf 116 = .ok (.iconst 1, 1) := by decide +kernel
theorem dX8_manyOf_117 : decode cX8_manyOf 117 = .ok (.ireturn, 1) := by decide +kernel
theorem dX8_manyOf_118 : decode cX8_manyOf 118 = .ok (.iconst 2, 1) := by decide +kernel
theorem dX8_manyOf_119 : decode cX8_manyOf 119 = .ok (.ireturn, 1) := by decide +kernel
theorem dX8_manyOf_120 : decode cX8_manyOf 120 = .ok (.iconst 3, 1) := by decide +kernel
theorem dX8_manyOf_121 : decode cX8_manyOf 121 = .ok (.ireturn, 1) := by decide +kernel
theorem dX8_manyOf_122 : decode cX8_manyOf 122 = .ok (.iconst (-1), 1) := by decide +kernel
theorem dX8_manyOf_123 : decode cX8_manyOf 123 = .ok (.ireturn, 1) := by decide +kernel
theorem dX8_takesNumber_0 : decode cX8_takesNumber 0 = .ok (.aload_n 0, 1) := by decide +kernel
theorem dX8_takesNumber_1 : decode cX8_takesNumber 1 = .ok (.invokevirtual 217, 3) := by decide +kernel
theorem dX8_takesNumber_4 : decode cX8_takesNumber 4 = .ok (.iload_n 2, 1) := by decide +kernel
theorem dX8_takesNumber_5 : decode cX8_takesNumber 5 = .ok (.ifCond .eq 18, 3) := by decide +kernel
theorem dX8_takesNumber_8 : decode cX8_takesNumber 8 = .ok (.aload_n 0, 1) := by decide +kernel
theorem dX8_takesNumber_9 : decode cX8_takesNumber 9 = .ok (.bipush 45, 2) := by decide +kernel
theorem dX8_takesNumber_11 : decode cX8_takesNumber 11 = .ok (.bipush 45, 2) := by decide +kernel
theorem dX8_takesNumber_13 : decode cX8_takesNumber 13 = .ok (.invokevirtual 211, 3) := by decide +kernel
theorem dX8_takesNumber_16 : decode cX8_takesNumber 16 = .ok (.ifCond .eq 7, 3) := by decide +kernel
theorem dX8_takesNumber_19 : decode cX8_takesNumber 19 = .ok (.iconst 1, 1) := by decide +kernel
theorem dX8_takesNumber_20 : decode cX8_takesNumber 20 = .ok (.goto 4, 3) := by decide +kernel
theorem dX8_takesNumber_23 : decode cX8_takesNumber 23 = .ok (.iconst 0, 1) := by decide +kernel
theorem dX8_takesNumber_24 : decode cX8_takesNumber 24 = .ok (.istore_n 3, 1) := by decide +kernel
theorem dX8_takesNumber_25 : decode cX8_takesNumber 25 = .ok (.aload_n 0, 1) := by decide +kernel
theorem dX8_takesNumber_26 : decode cX8_takesNumber 26 = .ok (.dup, 1) := by decide +kernel
theorem dX8_takesNumber_27 : decode cX8_takesNumber 27 = .ok (.getfield 208, 3) := by decide +kernel
theorem dX8_takesNumber_30 : decode cX8_takesNumber 30 = .ok (.iload_n 3, 1) := by decide +kernel
theorem dX8_takesNumber_31 : decode cX8_takesNumber 31 = .ok (.ifCond .eq 7, 3) := by decide +kernel
theorem dX8_takesNumber_34 : decode cX8_takesNumber 34 = .ok (.iconst 1, 1) := by decide +kernel
theorem dX8_takesNumber_35 : decode cX8_takesNumber 35 = .ok (.goto 4, 3) := by decide +kernel
theorem dX8_takesNumber_38 : decode cX8_takesNumber 38 = .ok (.iconst 0, 1) := by decide +kernel
theorem dX8_takesNumber_39 : decode cX8_takesNumber 39 = .ok (.iadd, 1) := by decide +kernel
theorem dX8_takesNumber_40 : decode cX8_takesNumber 40 = .ok (.putfield 208, 3) := by decide +kernel
theorem dX8_takesNumber_43 : decode cX8_takesNumber 43 = .ok (.aload_n 0, 1) := by decide +kernel
theorem dX8_takesNumber_44 : decode cX8_takesNumber 44 = .ok (.getfield 208, 3) := by decide +kernel
theorem dX8_takesNumber_47 : decode cX8_takesNumber 47 = .ok (.istore 4, 2) := by decide +kernel
theorem dX8_takesNumber_49 : decode cX8_takesNumber 49 = .ok (.iconst 0, 1) := by decide +kernel
theorem dX8_takesNumber_50 : decode cX8_takesNumber 50 = .ok (.istore 5, 2) := by decide +kernel
theorem dX8_takesNumber_52 : decode cX8_takesNumber 52 = .ok (.aload_n 0, 1) := by decide +kernel
theorem dX8_takesNumber_53 : decode cX8_takesNumber 53 = .ok (.bipush 48, 2) := by decide +kernel
theorem dX8_takesNumber_55 : decode cX8_takesNumber 55 = .ok (.bipush 57, 2) := by decide +kernel
theorem dX8_takesNumber_57 : decode cX8_takesNumber 57 = .ok (.invokevirtual 211, 3) := by decide +kernel
theorem dX8_takesNumber_60 : decode cX8_takesNumber 60 = .ok (.ifCond .eq 56, 3) := by decide +kernel
theorem dX8_takesNumber_63 : decode cX8_takesNumber 63 = .ok (.aload_n 0, 1) := by decide +kernel
theorem dX8_takesNumber_64 : decode cX8_takesNumber 64 = .ok (.getfield 208, 3) := by decide +kernel
theorem dX8_takesNumber_67 : decode cX8_takesNumber 67 = .ok (.iload 4, 2) := by decide +kernel
theorem dX8_takesNumber_69 : decode cX8_takesNumber 69 = .ok (.iconst 5, 1) := by decide +kernel
theorem dX8_takesNumber_70 : decode cX8_takesNumber 70 = .ok (.iadd, 1) := by decide +kernel
theorem dX8_takesNumber_71 : decode cX8_takesNumber 71 = .ok (.if_icmp .ne 12, 3) := by decide +kernel
theorem dX8_takesNumber_74 : decode cX8_takesNumber 74 = .ok (.aload_n 0, 1) := by decide +kernel
theorem dX8_takesNumber_75 : decode cX8_takesNumber 75 = .ok (.aload_n 0, 1) := by decide +kernel
theorem dX8_takesNumber_76 : decode cX8_takesNumber 76 = .ok (.getfield 208, 3) := by decide +kernel
theorem dX8_takesNumber_79 : decode cX8_takesNumber 79 = .ok (.invokevirtual 220, 3) := by decide +kernel
theorem dX8_takesNumber_82 : decode cX8_takesNumber 82 = .ok (.ireturn, 1) := by decide +kernel
theorem dX8_takesNumber_83 : decode cX8_takesNumber 83 = .ok (.bipush 10, 2) := by decide +kernel
theorem dX8_takesNumber_85 : decode cX8_takesNumber 85 = .ok (.iload 5, 2) := by decide +kernel
theorem dX8_takesNumber_87 : decode cX8_takesNumber 87 = .ok (.imul, 1) := by decide +kernel
theorem dX8_takesNumber_88 : decode cX8_takesNumber 88 = .ok (.aload_n 0, 1) := by decide +kernel
theorem dX8_takesNumber_89 : decode cX8_takesNumber 89 = .ok (.getfield 25, 3) := by decide +kernel
theorem dX8_takesNumber_92 : decode cX8_takesNumber 92 = .ok (.aload_n 0, 1) := by decide +kernel
theorem dX8_takesNumber_93 : decode cX8_takesNumber 93 = .ok (.getfield 208, 3) := by decide +kernel
theorem dX8_takesNumber_96 : decode cX8_takesNumber 96 = .ok (.iaload, 1) := by decide +kernel
theorem dX8_takesNumber_97 : decode cX8_takesNumber 97 = .ok (.iadd, 1) := by decide +kernel
theorem dX8_takesNumber_98 : decode cX8_takesNumber 98 = .ok (.bipush 48, 2) := by decide +kernel
theorem dX8_takesNumber_100 : decode cX8_takesNumber 100 = .ok (.isub, 1) := by decide +kernel
theorem dX8_takesNumber_101 : decode cX8_takesNumber 101 = .ok (.istore 5, 2) := by decide +kernel
theorem dX8_takesNumber_103 : decode cX8_takesNumber 103 = .ok (.aload_n 0, 1) := by decide +kernel
theorem dX8_takesNumber_104 : decode cX8_takesNumber 104 = .ok (.dup, 1) := by decide +kernel
theorem dX8_takesNumber_105 : decode cX8_takesNumber 105 = .ok (.getfield 208, 3) := by decide +kernel
theorem dX8_takesNumber_108 : decode cX8_takesNumber 108 = .ok (.iconst 1, 1) := by decide +kernel
theorem dX8_takesNumber_109 : decode cX8_takesNumber 109 = .ok (.iadd, 1) := by decide +kernel
theorem dX8_takesNumber_110 : decode cX8_takesNumber 110 = .ok (.putfield 208, 3) := by decide +kernel
theorem dX8_takesNumber_113 : decode cX8_takesNumber 113 = .ok (.goto (-61), 3) := by decide +kernel
theorem dX8_takesNumber_116 : decode cX8_takesNumber 116 = .ok (.aload_n 0, 1) := by decide +kernel
theorem dX8_takesNumber_117 : decode cX8_takesNumber 117 = .ok (.getfield 40, 3) := by decide +kernel
theorem dX8_takesNumber_120 : decode cX8_takesNumber 120 = .ok (.iload_n 1, 1) := by decide +kernel
theorem dX8_takesNumber_121 : decode cX8_takesNumber 121 = .ok (.iload_n 3, 1) := by decide +kernel
theorem dX8_takesNumber_122 : decode cX8_takesNumber 122 = .ok (.ifCond .eq 9, 3) := by decide +kernel
theorem dX8_takesNumber_125 : decode cX8_takesNumber 125 = .ok (.iload 5, 2) := by decide +kernel
theorem dX8_takesNumber_127 : decode cX8_takesNumber 127 = .ok (.ineg, 1) := by decide +kernel
theorem dX8_takesNumber_128 : decode cX8_takesNumber 128 = .ok (.goto 5, 3) := by decide +kernel
theorem dX8_takesNumber_131 : decode cX8_takesNumber 131 = .ok (.iload 5, 2) := by decide +kernel
theorem dX8_takesNumber_133 : decode cX8_takesNumber 133 = .ok (.iastore, 1) := by decide +kernel
theorem dX8_takesNumber_134 : decode cX8_takesNumber 134 = .ok (.aload_n 0, 1) := by decide +kernel
theorem dX8_takesNumber_135 : decode cX8_takesNumber 135 = .ok (.getfield 208, 3) := by decide +kernel
theorem dX8_takesNumber_138 : decode cX8_takesNumber 138 = .ok (.iload 4, 2) := by decide +kernel
theorem dX8_takesNumber_140 : decode cX8_takesNumber 140 = .ok (.if_icmp .gt 14, 3) := by decide +kernel
theorem dX8_takesNumber_143 : decode cX8_takesNumber 143 = .ok (.aload_n 0, 1) := by decide +kernel
theorem dX8_takesNumber_144 : decode cX8_takesNumber 144 = .ok (.aload_n 0, 1) := by decide +kernel
theorem dX8_takesNumber_145 : decode cX8_takesNumber 145 = .ok (.getfield 208, 3) := by decide +kernel
theorem dX8_takesNumber_148 : decode cX8_takesNumber 148 = .ok (.invokevirtual 220, 3) := by decide +kernel
theorem dX8_takesNumber_151 : decode cX8_takesNumber 151 = .ok (.ifCond .eq 7, 3) := by decide +kernel
theorem dX8_takesNumber_154 : decode cX8_takesNumber 154 = .ok (.iconst 1, 1) := by decide +kernel
theorem dX8_takesNumber_155 : decode cX8_takesNumber 155 = .ok (.goto 4, 3) := by decide +kernel
theorem dX8_takesNumber_158 : decode cX8_takesNumber 158 = .ok (.iconst 0, 1) := by decide +kernel
theorem dX8_takesNumber_159 : decode cX8_takesNumber 159 = .ok (.ireturn, 1) := by decide +kernel
theorem dX8_takesOrder_0 : decode cX8_takesOrder 0 = .ok (.aload_n 0, 1) := by decide +kernel
theorem dX8_takesOrder_1 : decode cX8_takesOrder 1 = .ok (.getfield 25, 3) := by decide +kernel
theorem dX8_takesOrder_4 : decode cX8_takesOrder 4 = .ok (.aload_n 0, 1) := by decide +kernel
theorem dX8_takesOrder_5 : decode cX8_takesOrder 5 = .ok (.getfield 208, 3) := by decide +kernel
theorem dX8_takesOrder_8 : decode cX8_takesOrder 8 = .ok (.iaload, 1) := by decide +kernel
theorem dX8_takesOrder_9 : decode cX8_takesOrder 9 = .ok (.istore_n 1, 1) := by decide +kernel
theorem dX8_takesOrder_10 : decode cX8_takesOrder 10 = .ok (.iload_n 1, 1) := by decide +kernel
theorem dX8_takesOrder_11 : decode cX8_takesOrder 11 = .ok (.invokestatic 223, 3) := by decide +kernel
theorem dX8_takesOrder_14 : decode cX8_takesOrder 14 = .ok (.istore_n 2, 1) := by decide +kernel
theorem dX8_takesOrder_15 : decode cX8_takesOrder 15 = .ok (.iload_n 2, 1) := by decide +kernel
theorem dX8_takesOrder_16 : decode cX8_takesOrder 16 = .ok (.ifCond .ge 12, 3) := by decide +kernel
theorem dX8_takesOrder_19 : decode cX8_takesOrder 19 = .ok (.aload_n 0, 1) := by decide +kernel
theorem dX8_takesOrder_20 : decode cX8_takesOrder 20 = .ok (.aload_n 0, 1) := by decide +kernel
theorem dX8_takesOrder_21 : decode cX8_takesOrder 21 = .ok (.getfield 208, 3) := by decide +kernel
theorem dX8_takesOrder_24 : decode cX8_takesOrder 24 = .ok (.invokevirtual 220, 3) := by decide +kernel
theorem dX8_takesOrder_27 : decode cX8_takesOrder 27 = .ok (.ireturn, 1) := by decide +kernel
theorem dX8_takesOrder_28 : decode cX8_takesOrder 28 = .ok (.aload_n 0, 1) := by decide +kernel
theorem dX8_takesOrder_29 : decode cX8_takesOrder 29 = .ok (.getfield 37, 3) := by decide +kernel
theorem dX8_takesOrder_32 : decode cX8_takesOrder 32 = .ok (.aload_n 0, 1) := by decide +kernel
theorem dX8_takesOrder_33 : decode cX8_takesOrder 33 = .ok (.getfield 226, 3) := by decide +kernel
theorem dX8_takesOrder_36 : decode cX8_takesOrder 36 = .ok (.iload_n 1, 1) := by decide +kernel
theorem dX8_takesOrder_37 : decode cX8_takesOrder 37 = .ok (.iastore, 1) := by decide +kernel
theorem dX8_takesOrder_38 : decode cX8_takesOrder 38 = .ok (.aload_n 0, 1) := by decide +kernel
theorem dX8_takesOrder_39 : decode cX8_takesOrder 39 = .ok (.dup, 1) := by decide +kernel
theorem dX8_takesOrder_40 : decode cX8_takesOrder 40 = .ok (.getfield 208, 3) := by decide +kernel
theorem dX8_takesOrder_43 : decode cX8_takesOrder 43 = .ok (.iconst 1, 1) := by decide +kernel
theorem dX8_takesOrder_44 : decode cX8_takesOrder 44 = .ok (.iadd, 1) := by decide +kernel
theorem dX8_takesOrder_45 : decode cX8_takesOrder 45 = .ok (.putfield 208, 3) := by decide +kernel
theorem dX8_takesOrder_48 : decode cX8_takesOrder 48 = .ok (.iconst 0, 1) := by decide +kernel
theorem dX8_takesOrder_49 : decode cX8_takesOrder 49 = .ok (.istore_n 3, 1) := by decide +kernel
theorem dX8_takesOrder_50 : decode cX8_takesOrder 50 = .ok (.iload_n 3, 1) := by decide +kernel
theorem dX8_takesOrder_51 : decode cX8_takesOrder 51 = .ok (.iload_n 2, 1) := by decide +kernel
theorem dX8_takesOrder_52 : decode cX8_takesOrder 52 = .ok (.if_icmp .ge 42, 3) := by decide +kernel
theorem dX8_takesOrder_55 : decode cX8_takesOrder 55 = .ok (.aload_n 0, 1) := by decide +kernel
theorem dX8_takesOrder_56 : decode cX8_takesOrder 56 = .ok (.iconst 3, 1) := by decide +kernel
theorem dX8_takesOrder_57 : decode cX8_takesOrder 57 = .ok (.aload_n 0, 1) := by decide +kernel
theorem dX8_takesOrder_58 : decode cX8_takesOrder 58 = .ok (.getfield 226, 3) := by decide +kernel
theorem dX8_takesOrder_61 : decode cX8_takesOrder 61 = .ok (.imul, 1) := by decide +kernel
theorem dX8_takesOrder_62 : decode cX8_takesOrder 62 = .ok (.iload_n 3, 1) := by decide +kernel
theorem dX8_takesOrder_63 : decode cX8_takesOrder 63 = .ok (.iadd, 1) := by decide +kernel
theorem dX8_takesOrder_64 : decode cX8_takesOrder 64 = .ok (.iload_n 1, 1) := by decide +kernel
theorem dX8_takesOrder_65 : decode cX8_takesOrder 65 = .ok (.bipush 118, 2) := by decide +kernel
theorem dX8_takesOrder_67 : decode cX8_takesOrder 67 = .ok (.if_icmp .ne 12, 3) := by decide +kernel
theorem dX8_takesOrder_70 : decode cX8_takesOrder 70 = .ok (.iload_n 3, 1) := by decide +kernel
theorem dX8_takesOrder_71 : decode cX8_takesOrder 71 = .ok (.iconst 1, 1) := by decide +kernel
theorem dX8_takesOrder_72 : decode cX8_takesOrder 72 = .ok (.if_icmp .ne 7, 3) := by decide +kernel
theorem dX8_takesOrder_75 : decode cX8_takesOrder 75 = .ok (.iconst 1, 1) := by decide +kernel
theorem dX8_takesOrder_76 : decode cX8_takesOrder 76 = .ok (.goto 4, 3) := by decide +kernel
theorem dX8_takesOrder_79 : decode cX8_takesOrder 79 = .ok (.iconst 0, 1) := by decide +kernel
theorem dX8_takesOrder_80 : decode cX8_takesOrder 80 = .ok (.invokevirtual 229, 3) := by decide +kernel
theorem dX8_takesOrder_83 : decode cX8_takesOrder 83 = .ok (.ifCond .ne 5, 3) := by decide +kernel
theorem dX8_takesOrder_86 : decode cX8_takesOrder 86 = .ok (.iconst 0, 1) := by decide +kernel
theorem dX8_takesOrder_87 : decode cX8_takesOrder 87 = .ok (.ireturn, 1) := by decide +kernel
theorem dX8_takesOrder_88 : decode cX8_takesOrder 88 = .ok (.iinc 3 1, 3) := by decide +kernel
theorem dX8_takesOrder_91 : decode cX8_takesOrder 91 = .ok (.goto (-41), 3) := by decide +kernel
theorem dX8_takesOrder_94 : decode cX8_takesOrder 94 = .ok (.aload_n 0, 1) := by decide +kernel
theorem dX8_takesOrder_95 : decode cX8_takesOrder 95 = .ok (.invokevirtual 217, 3) := by decide +kernel
theorem dX8_takesOrder_98 : decode cX8_takesOrder 98 = .ok (.aload_n 0, 1) := by decide +kernel
theorem dX8_takesOrder_99 : decode cX8_takesOrder 99 = .ok (.bipush 59, 2) := by decide +kernel
theorem dX8_takesOrder_101 : decode cX8_takesOrder 101 = .ok (.bipush 59, 2) := by decide +kernel
theorem dX8_takesOrder_103 : decode cX8_takesOrder 103 = .ok (.invokevirtual 211, 3) := by decide +kernel
theorem dX8_takesOrder_106 : decode cX8_takesOrder 106 = .ok (.ifCond .ne 12, 3) := by decide +kernel
theorem dX8_takesOrder_109 : decode cX8_takesOrder 109 = .ok (.aload_n 0, 1) := by decide +kernel
theorem dX8_takesOrder_110 : decode cX8_takesOrder 110 = .ok (.aload_n 0, 1) := by decide +kernel
theorem dX8_takesOrder_111 : decode cX8_takesOrder 111 = .ok (.getfield 208, 3) := by decide +kernel
theorem dX8_takesOrder_114 : decode cX8_takesOrder 114 = .ok (.invokevirtual 220, 3) := by decide +kernel
theorem dX8_takesOrder_117 : decode cX8_takesOrder 117 = .ok (.ireturn, 1) := by decide +kernel
theorem dX8_takesOrder_118 : decode cX8_takesOrder 118 = .ok (.aload_n 0, 1) := by decide +kernel
theorem dX8_takesOrder_119 : decode cX8_takesOrder 119 = .ok (.dup, 1) := by decide +kernel
theorem dX8_takesOrder_120 : decode cX8_takesOrder 120 = .ok (.getfield 208, 3) := by decide +kernel
theorem dX8_takesOrder_123 : decode cX8_takesOrder 123 = .ok (.iconst 1, 1) := by decide +kernel
theorem dX8_takesOrder_124 : decode cX8_takesOrder 124 = .ok (.iadd, 1) := by decide +kernel
theorem dX8_takesOrder_125 : decode cX8_takesOrder 125 = .ok (.putfield 208, 3) := by decide +kernel
theorem dX8_takesOrder_128 : decode cX8_takesOrder 128 = .ok (.aload_n 0, 1) := by decide +kernel
theorem dX8_takesOrder_129 : decode cX8_takesOrder 129 = .ok (.dup, 1) := by decide +kernel
theorem dX8_takesOrder_130 : decode cX8_takesOrder 130 = .ok (.getfield 226, 3) := by decide +kernel
theorem dX8_takesOrder_133 : decode cX8_takesOrder 133 = .ok (.iconst 1, 1) := by decide +kernel
theorem dX8_takesOrder_134 : decode cX8_takesOrder 134 = .ok (.iadd, 1) := by decide +kernel
theorem dX8_takesOrder_135 : decode cX8_takesOrder 135 = .ok (.putfield 226, 3) := by decide +kernel
theorem dX8_takesOrder_138 : decode cX8_takesOrder 138 = .ok (.iconst 1, 1) := by decide +kernel
theorem dX8_takesOrder_139 : decode cX8_takesOrder 139 = .ok (.ireturn, 1) := by decide +kernel
theorem dX8_isRead_0 : decode cX8_isRead 0 = .ok (.aload_n 0, 1) := by decide +kernel
theorem dX8_isRead_1 : decode cX8_isRead 1 = .ok (.iconst 0, 1) := by decide +kernel
theorem dX8_isRead_2 : decode cX8_isRead 2 = .ok (.putfield 208, 3) := by decide +kernel
theorem dX8_isRead_5 : decode cX8_isRead 5 = .ok (.aload_n 0, 1) := by decide +kernel
theorem dX8_isRead_6 : decode cX8_isRead 6 = .ok (.iconst 0, 1) := by decide +kernel
theorem dX8_isRead_7 : decode cX8_isRead 7 = .ok (.putfield 226, 3) := by decide +kernel
theorem dX8_isRead_10 : decode cX8_isRead 10 = .ok (.aload_n 0, 1) := by decide +kernel
theorem dX8_isRead_11 : decode cX8_isRead 11 = .ok (.invokevirtual 217, 3) := by decide +kernel
theorem dX8_isRead_14 : decode cX8_isRead 14 = .ok (.aload_n 0, 1) := by decide +kernel
theorem dX8_isRead_15 : decode cX8_isRead 15 = .ok (.getfield 208, 3) := by decide +kernel
theorem dX8_isRead_18 : decode cX8_isRead 18 = .ok (.aload_n 0, 1) := by decide +kernel
theorem dX8_isRead_19 : decode cX8_isRead 19 = .ok (.getfield 202, 3) := by decide +kernel
theorem dX8_isRead_22 : decode cX8_isRead 22 = .ok (.if_icmp .ge 19, 3) := by decide +kernel
theorem dX8_isRead_25 : decode cX8_isRead 25 = .ok (.aload_n 0, 1) := by decide +kernel
theorem dX8_isRead_26 : decode cX8_isRead 26 = .ok (.invokevirtual 233, 3) := by decide +kernel
theorem dX8_isRead_29 : decode cX8_isRead 29 = .ok (.ifCond .ne 5, 3) := by decide +kernel
theorem dX8_isRead_32 : decode cX8_isRead 32 = .ok (.iconst 0, 1) := by decide +kernel
theorem dX8_isRead_33 : decode cX8_isRead 33 = .ok (.ireturn, 1) := by decide +kernel
theorem dX8_isRead_34 : decode cX8_isRead 34 = .ok (.aload_n 0, 1) := by decide +kernel
theorem dX8_isRead_35 : decode cX8_isRead 35 = .ok (.invokevirtual 217, 3) := by decide +kernel
theorem dX8_isRead_38 : decode cX8_isRead 38 = .ok (.goto (-24), 3) := by decide +kernel
theorem dX8_isRead_41 : decode cX8_isRead 41 = .ok (.aload_n 0, 1) := by decide +kernel
theorem dX8_isRead_42 : decode cX8_isRead 42 = .ok (.getfield 226, 3) := by decide +kernel
theorem dX8_isRead_45 : decode cX8_isRead 45 = .ok (.ifCond .gt 14, 3) := by decide +kernel
theorem dX8_isRead_48 : decode cX8_isRead 48 = .ok (.aload_n 0, 1) := by decide +kernel
theorem dX8_isRead_49 : decode cX8_isRead 49 = .ok (.aload_n 0, 1) := by decide +kernel
theorem dX8_isRead_50 : decode cX8_isRead 50 = .ok (.getfield 202, 3) := by decide +kernel
theorem dX8_isRead_53 : decode cX8_isRead 53 = .ok (.invokevirtual 220, 3) := by decide +kernel
theorem dX8_isRead_56 : decode cX8_isRead 56 = .ok (.ifCond .eq 7, 3) := by decide +kernel
theorem dX8_isRead_59 : decode cX8_isRead 59 = .ok (.iconst 1, 1) := by decide +kernel
theorem dX8_isRead_60 : decode cX8_isRead 60 = .ok (.goto 4, 3) := by decide +kernel
theorem dX8_isRead_63 : decode cX8_isRead 63 = .ok (.iconst 0, 1) := by decide +kernel
theorem dX8_isRead_64 : decode cX8_isRead 64 = .ok (.ireturn, 1) := by decide +kernel
theorem dX8_steps_0 : decode cX8_steps 0 = .ok (.aload_n 0, 1) := by decide +kernel
theorem dX8_steps_1 : decode cX8_steps 1 = .ok (.getfield 40, 3) := by decide +kernel
theorem dX8_steps_4 : decode cX8_steps 4 = .ok (.iconst 3, 1) := by decide +kernel
theorem dX8_steps_5 : decode cX8_steps 5 = .ok (.iload_n 1, 1) := by decide +kernel
theorem dX8_steps_6 : decode cX8_steps 6 = .ok (.imul, 1) := by decide +kernel
theorem dX8_steps_7 : decode cX8_steps 7 = .ok (.iaload, 1) := by decide +kernel
theorem dX8_steps_8 : decode cX8_steps 8 = .ok (.istore_n 2, 1) := by decide +kernel
theorem dX8_steps_9 : decode cX8_steps 9 = .ok (.aload_n 0, 1) := by decide +kernel
theorem dX8_steps_10 : decode cX8_steps 10 = .ok (.getfield 40, 3) := by decide +kernel
theorem dX8_steps_13 : decode cX8_steps 13 = .ok (.iconst 3, 1) := by decide +kernel
theorem dX8_steps_14 : decode cX8_steps 14 = .ok (.iload_n 1, 1) := by decide +kernel
theorem dX8_steps_15 : decode cX8_steps 15 = .ok (.imul, 1) := by decide +kernel
theorem dX8_steps_16 : decode cX8_steps 16 = .ok (.iconst 1, 1) := by decide +kernel
theorem dX8_steps_17 : decode cX8_steps 17 = .ok (.iadd, 1) := by decide +kernel
theorem dX8_steps_18 : decode cX8_steps 18 = .ok (.iaload, 1) := by decide +kernel
theorem dX8_steps_19 : decode cX8_steps 19 = .ok (.istore_n 3, 1) := by decide +kernel
theorem dX8_steps_20 : decode cX8_steps 20 = .ok (.aload_n 0, 1) := by decide +kernel
theorem dX8_steps_21 : decode cX8_steps 21 = .ok (.getfield 40, 3) := by decide +kernel
theorem dX8_steps_24 : decode cX8_steps 24 = .ok (.iconst 3, 1) := by decide +kernel
theorem dX8_steps_25 : decode cX8_steps 25 = .ok (.iload_n 1, 1) := by decide +kernel
theorem dX8_steps_26 : decode cX8_steps 26 = .ok (.imul, 1) := by decide +kernel
theorem dX8_steps_27 : decode cX8_steps 27 = .ok (.iconst 2, 1) := by decide +kernel
theorem dX8_steps_28 : decode cX8_steps 28 = .ok (.iadd, 1) := by decide +kernel
theorem dX8_steps_29 : decode cX8_steps 29 = .ok (.iaload, 1) := by decide +kernel
theorem dX8_steps_30 : decode cX8_steps 30 = .ok (.istore 4, 2) := by decide +kernel
theorem dX8_steps_32 : decode cX8_steps 32 = .ok (.aload_n 0, 1) := by decide +kernel
theorem dX8_steps_33 : decode cX8_steps 33 = .ok (.iload_n 1, 1) := by decide +kernel
theorem dX8_steps_34 : decode cX8_steps 34 = .ok (.iconst 1, 1) := by decide +kernel
theorem dX8_steps_35 : decode cX8_steps 35 = .ok (.iadd, 1) := by decide +kernel
theorem dX8_steps_36 : decode cX8_steps 36 = .ok (.putfield 236, 3) := by decide +kernel
theorem dX8_steps_39 : decode cX8_steps 39 = .ok (.aload_n 0, 1) := by decide +kernel
theorem dX8_steps_40 : decode cX8_steps 40 = .ok (.getfield 37, 3) := by decide +kernel
theorem dX8_steps_43 : decode cX8_steps 43 = .ok (.iload_n 1, 1) := by decide +kernel
theorem dX8_steps_44 : decode cX8_steps 44 = .ok (.iaload, 1) := by decide +kernel
theorem dX8_steps_45 : decode cX8_steps 45 = .ok (.bipush 106, 2) := by decide +kernel
theorem dX8_steps_47 : decode cX8_steps 47 = .ok (.if_icmp .ne 10, 3) := by decide +kernel
theorem dX8_steps_50 : decode cX8_steps 50 = .ok (.aload_n 0, 1) := by decide +kernel
theorem dX8_steps_51 : decode cX8_steps 51 = .ok (.iload_n 2, 1) := by decide +kernel
theorem dX8_steps_52 : decode cX8_steps 52 = .ok (.iload_n 3, 1) := by decide +kernel
theorem dX8_steps_53 : decode cX8_steps 53 = .ok (.invokevirtual 239, 3) := by decide +kernel
theorem dX8_steps_56 : decode cX8_steps 56 = .ok (.ireturn, 1) := by decide +kernel
theorem dX8_steps_57 : decode cX8_steps 57 = .ok (.aload_n 0, 1) := by decide +kernel
theorem dX8_steps_58 : decode cX8_steps 58 = .ok (.getfield 37, 3) := by decide +kernel
theorem dX8_steps_61 : decode cX8_steps 61 = .ok (.iload_n 1, 1) := by decide +kernel
theorem dX8_steps_62 : decode cX8_steps 62 = .ok (.iaload, 1) := by decide +kernel
theorem dX8_steps_63 : decode cX8_steps 63 = .ok (.bipush 100, 2) := by decide +kernel
theorem dX8_steps_65 : decode cX8_steps 65 = .ok (.if_icmp .eq 18, 3) := by decide +kernel
theorem dX8_steps_68 : decode cX8_steps 68 = .ok (.aload_n 0, 1) := by decide +kernel
theorem dX8_steps_69 : decode cX8_steps 69 = .ok (.aload_n 0, 1) := by decide +kernel
theorem dX8_steps_70 : decode cX8_steps 70 = .ok (.getfield 37, 3) := by decide +kernel
theorem dX8_steps_73 : decode cX8_steps 73 = .ok (.iload_n 1, 1) := by decide +kernel
theorem dX8_steps_74 : decode cX8_steps 74 = .ok (.iaload, 1) := by decide +kernel
theorem dX8_steps_75 : decode cX8_steps 75 = .ok (.iload_n 2, 1) := by decide +kernel
theorem dX8_steps_76 : decode cX8_steps 76 = .ok (.iload_n 3, 1) := by decide +kernel
theorem dX8_steps_77 : decode cX8_steps 77 = .ok (.iload 4, 2) := by decide +kernel
theorem dX8_steps_79 : decode cX8_steps 79 = .ok (.invokevirtual 159, 3) := by decide +kernel
theorem dX8_steps_82 : decode cX8_steps 82 = .ok (.ireturn, 1) := by decide +kernel
theorem dX8_steps_83 : decode cX8_steps 83 = .ok (.iload 4, 2) := by decide +kernel
theorem dX8_steps_85 : decode cX8_steps 85 = .ok (.invokestatic 85, 3) := by decide +kernel
theorem dX8_steps_88 : decode cX8_steps 88 = .ok (.ifCond .eq 12, 3) := by decide +kernel
theorem dX8_steps_91 : decode cX8_steps 91 = .ok (.aload_n 0, 1) := by decide +kernel
theorem dX8_steps_92 : decode cX8_steps 92 = .ok (.iload_n 2, 1) := by decide +kernel
theorem dX8_steps_93 : decode cX8_steps 93 = .ok (.iload_n 3, 1) := by decide +kernel
theorem dX8_steps_94 : decode cX8_steps 94 = .ok (.invokevirtual 171, 3) := by decide +kernel
theorem dX8_steps_97 : decode cX8_steps 97 = .ok (.goto 5, 3) := by decide +kernel
theorem dX8_steps_100 : decode cX8_steps 100 = .ok (.bipush (-2), 2) := by decide +kernel
theorem dX8_steps_102 : decode cX8_steps 102 = .ok (.istore 5, 2) := by decide +kernel
theorem dX8_steps_104 : decode cX8_steps 104 = .ok (.iload 5, 2) := by decide +kernel
theorem dX8_steps_106 : decode cX8_steps 106 = .ok (.ifCond .ge 8, 3) := by decide +kernel
theorem dX8_steps_109 : decode cX8_steps 109 = .ok (.iload 5, 2) := by decide +kernel
theorem dX8_steps_111 : decode cX8_steps 111 = .ok (.goto 13, 3) := by decide +kernel
theorem dX8_steps_114 : decode cX8_steps 114 = .ok (.aload_n 0, 1) := by decide +kernel
theorem dX8_steps_115 : decode cX8_steps 115 = .ok (.iload 4, 2) := by decide +kernel
theorem dX8_steps_117 : decode cX8_steps 117 = .ok (.iconst 1, 1) := by decide +kernel
theorem dX8_steps_118 : decode cX8_steps 118 = .ok (.iload 5, 2) := by decide +kernel
theorem dX8_steps_120 : decode cX8_steps 120 = .ok (.iconst 0, 1) := by decide +kernel
theorem dX8_steps_121 : decode cX8_steps 121 = .ok (.invokevirtual 88, 3) := by decide +kernel
theorem dX8_steps_124 : decode cX8_steps 124 = .ok (.ireturn, 1) := by decide +kernel
theorem dX8_jumps_0 : decode cX8_jumps 0 = .ok (.iload_n 1, 1) := by decide +kernel
theorem dX8_jumps_1 : decode cX8_jumps 1 = .ok (.invokestatic 85, 3) := by decide +kernel
theorem dX8_jumps_4 : decode cX8_jumps 4 = .ok (.ifCond .ne 6, 3) := by decide +kernel
theorem dX8_jumps_7 : decode cX8_jumps 7 = .ok (.bipush (-2), 2) := by decide +kernel
theorem dX8_jumps_9 : decode cX8_jumps 9 = .ok (.ireturn, 1) := by decide +kernel
theorem dX8_jumps_10 : decode cX8_jumps 10 = .ok (.aload_n 0, 1) := by decide +kernel
theorem dX8_jumps_11 : decode cX8_jumps 11 = .ok (.iload_n 1, 1) := by decide +kernel
theorem dX8_jumps_12 : decode cX8_jumps 12 = .ok (.invokevirtual 55, 3) := by decide +kernel
theorem dX8_jumps_15 : decode cX8_jumps 15 = .ok (.iconst 1, 1) := by decide +kernel
theorem dX8_jumps_16 : decode cX8_jumps 16 = .ok (.if_icmp .eq 21, 3) := by decide +kernel
theorem dX8_jumps_19 : decode cX8_jumps 19 = .ok (.aload_n 0, 1) := by decide +kernel
theorem dX8_jumps_20 : decode cX8_jumps 20 = .ok (.iload_n 1, 1) := by decide +kernel
theorem dX8_jumps_21 : decode cX8_jumps 21 = .ok (.invokevirtual 55, 3) := by decide +kernel
theorem dX8_jumps_24 : decode cX8_jumps 24 = .ok (.ifCond .ne 7, 3) := by decide +kernel
theorem dX8_jumps_27 : decode cX8_jumps 27 = .ok (.iconst 1, 1) := by decide +kernel
theorem dX8_jumps_28 : decode cX8_jumps 28 = .ok (.goto 5, 3) := by decide +kernel
theorem dX8_jumps_31 : decode cX8_jumps 31 = .ok (.bipush 7, 2) := by decide +kernel
theorem dX8_jumps_33 : decode cX8_jumps 33 = .ok (.invokestatic 92, 3) := by decide +kernel
theorem dX8_jumps_36 : decode cX8_jumps 36 = .ok (.ireturn, 1) := by decide +kernel
theorem dX8_jumps_37 : decode cX8_jumps 37 = .ok (.aload_n 0, 1) := by decide +kernel
theorem dX8_jumps_38 : decode cX8_jumps 38 = .ok (.aload_n 0, 1) := by decide +kernel
theorem dX8_jumps_39 : decode cX8_jumps 39 = .ok (.iload_n 1, 1) := by decide +kernel
theorem dX8_jumps_40 : decode cX8_jumps 40 = .ok (.invokevirtual 58, 3) := by decide +kernel
theorem dX8_jumps_43 : decode cX8_jumps 43 = .ok (.ifCond .ne 10, 3) := by decide +kernel
theorem dX8_jumps_46 : decode cX8_jumps 46 = .ok (.aload_n 0, 1) := by decide +kernel
theorem dX8_jumps_47 : decode cX8_jumps 47 = .ok (.getfield 236, 3) := by decide +kernel
theorem dX8_jumps_50 : decode cX8_jumps 50 = .ok (.goto 4, 3) := by decide +kernel
theorem dX8_jumps_53 : decode cX8_jumps 53 = .ok (.iload_n 2, 1) := by decide +kernel
theorem dX8_jumps_54 : decode cX8_jumps 54 = .ok (.putfield 236, 3) := by decide +kernel
theorem dX8_jumps_57 : decode cX8_jumps 57 = .ok (.iconst 0, 1) := by decide +kernel
theorem dX8_jumps_58 : decode cX8_jumps 58 = .ok (.ireturn, 1) := by decide +kernel
theorem dX8_toldAs_0 : decode cX8_toldAs 0 = .ok (.iload_n 0, 1) := by decide +kernel
theorem dX8_toldAs_1 : decode cX8_toldAs 1 = .ok (.bipush (-2), 2) := by decide +kernel
theorem dX8_toldAs_3 : decode cX8_toldAs 3 = .ok (.if_icmp .ne 11, 3) := by decide +kernel
theorem dX8_toldAs_6 : decode cX8_toldAs 6 = .ok (.sipush (-2000), 3) := by decide +kernel
theorem dX8_toldAs_9 : decode cX8_toldAs 9 = .ok (.iload_n 1, 1) := by decide +kernel
theorem dX8_toldAs_10 : decode cX8_toldAs 10 = .ok (.isub, 1) := by decide +kernel
theorem dX8_toldAs_11 : decode cX8_toldAs 11 = .ok (.goto 31, 3) := by decide +kernel
theorem dX8_toldAs_14 : decode cX8_toldAs 14 = .ok (.iload_n 0, 1) := by decide +kernel
theorem dX8_toldAs_15 : decode cX8_toldAs 15 = .ok (.bipush (-4), 2) := by decide +kernel
theorem dX8_toldAs_17 : decode cX8_toldAs 17 = .ok (.if_icmp .ne 11, 3) := by decide +kernel
theorem dX8_toldAs_20 : decode cX8_toldAs 20 = .ok (.sipush (-3000), 3) := by decide +kernel
theorem dX8_toldAs_23 : decode cX8_toldAs 23 = .ok (.iload_n 1, 1) := by decide +kernel
theorem dX8_toldAs_24 : decode cX8_toldAs 24 = .ok (.isub, 1) := by decide +kernel
theorem dX8_toldAs_25 : decode cX8_toldAs 25 = .ok (.goto 17, 3) := by decide +kernel
theorem dX8_toldAs_28 : decode cX8_toldAs 28 = .ok (.sipush (-4000), 3) := by decide +kernel
theorem dX8_toldAs_31 : decode cX8_toldAs 31 = .ok (.sipush 1000, 3) := by decide +kernel
theorem dX8_toldAs_34 : decode cX8_toldAs 34 = .ok (.bipush (-10), 2) := by decide +kernel
theorem dX8_toldAs_36 : decode cX8_toldAs 36 = .ok (.iload_n 0, 1) := by decide +kernel
theorem dX8_toldAs_37 : decode cX8_toldAs 37 = .ok (.isub, 1) := by decide +kernel
theorem dX8_toldAs_38 : decode cX8_toldAs 38 = .ok (.imul, 1) := by decide +kernel
theorem dX8_toldAs_39 : decode cX8_toldAs 39 = .ok (.isub, 1) := by decide +kernel
theorem dX8_toldAs_40 : decode cX8_toldAs 40 = .ok (.iload_n 1, 1) := by decide +kernel
theorem dX8_toldAs_41 : decode cX8_toldAs 41 = .ok (.isub, 1) := by decide +kernel
theorem dX8_toldAs_42 : decode cX8_toldAs 42 = .ok (.ireturn, 1) := by decide +kernel
theorem dX8_goes_0 : decode cX8_goes 0 = .ok (.iconst 0, 1) := by decide +kernel
theorem dX8_goes_1 : decode cX8_goes 1 = .ok (.istore_n 1, 1) := by decide +kernel
theorem dX8_goes_2 : decode cX8_goes 2 = .ok (.iconst 0, 1) := by decide +kernel
theorem dX8_goes_3 : decode cX8_goes 3 = .ok (.istore_n 2, 1) := by decide +kernel
theorem dX8_goes_4 : decode cX8_goes 4 = .ok (.iload_n 2, 1) := by decide +kernel
theorem dX8_goes_5 : decode cX8_goes 5 = .ok (.aload_n 0, 1) := by decide +kernel
theorem dX8_goes_6 : decode cX8_goes 6 = .ok (.getfield 226, 3) := by decide +kernel
theorem dX8_goes_9 : decode cX8_goes 9 = .ok (.if_icmp .ge 46, 3) := by decide +kernel
theorem dX8_goes_12 : decode cX8_goes 12 = .ok (.iload_n 1, 1) := by decide +kernel
theorem dX8_goes_13 : decode cX8_goes 13 = .ok (.aload_n 0, 1) := by decide +kernel
theorem dX8_goes_14 : decode cX8_goes 14 = .ok (.getfield 7, 3) := by decide +kernel
theorem dX8_goes_17 : decode cX8_goes 17 = .ok (.sipush 169, 3) := by decide +kernel
theorem dX8_goes_20 : decode cX8_goes 20 = .ok (.iaload, 1) := by decide +kernel
theorem dX8_goes_21 : decode cX8_goes 21 = .ok (.if_icmp .ne 7, 3) := by decide +kernel
theorem dX8_goes_24 : decode cX8_goes 24 = .ok (.sipush (-500), 3) := by decide +kernel
theorem dX8_goes_27 : decode cX8_goes 27 = .ok (.ireturn, 1) := by decide +kernel
theorem dX8_goes_28 : decode cX8_goes 28 = .ok (.aload_n 0, 1) := by decide +kernel
theorem dX8_goes_29 : decode cX8_goes 29 = .ok (.iload_n 2, 1) := by decide +kernel
theorem dX8_goes_30 : decode cX8_goes 30 = .ok (.invokevirtual 242, 3) := by decide +kernel
theorem dX8_goes_33 : decode cX8_goes 33 = .ok (.istore_n 3, 1) := by decide +kernel
theorem dX8_goes_34 : decode cX8_goes 34 = .ok (.iload_n 3, 1) := by decide +kernel
theorem dX8_goes_35 : decode cX8_goes 35 = .ok (.ifCond .ge 9, 3) := by decide +kernel
theorem dX8_goes_38 : decode cX8_goes 38 = .ok (.iload_n 3, 1) := by decide +kernel
theorem dX8_goes_39 : decode cX8_goes 39 = .ok (.iload_n 2, 1) := by decide +kernel
theorem dX8_goes_40 : decode cX8_goes 40 = .ok (.invokestatic 245, 3) := by decide +kernel
theorem dX8_goes_43 : decode cX8_goes 43 = .ok (.ireturn, 1) := by decide +kernel
theorem dX8_goes_44 : decode cX8_goes 44 = .ok (.iinc 1 1, 3) := by decide +kernel
theorem dX8_goes_47 : decode cX8_goes 47 = .ok (.aload_n 0, 1) := by decide +kernel
theorem dX8_goes_48 : decode cX8_goes 48 = .ok (.getfield 236, 3) := by decide +kernel
theorem dX8_goes_51 : decode cX8_goes 51 = .ok (.istore_n 2, 1) := by decide +kernel
theorem dX8_goes_52 : decode cX8_goes 52 = .ok (.goto (-48), 3) := by decide +kernel
theorem dX8_goes_55 : decode cX8_goes 55 = .ok (.iload_n 1, 1) := by decide +kernel
theorem dX8_goes_56 : decode cX8_goes 56 = .ok (.ireturn, 1) := by decide +kernel
theorem dX8_does_0 : decode cX8_does 0 = .ok (.aload_n 0, 1) := by decide +kernel
theorem dX8_does_1 : decode cX8_does 1 = .ok (.invokevirtual 248, 3) := by decide +kernel
theorem dX8_does_4 : decode cX8_does 4 = .ok (.ifCond .ne 11, 3) := by decide +kernel
theorem dX8_does_7 : decode cX8_does 7 = .ok (.bipush (-10), 2) := by decide +kernel
theorem dX8_does_9 : decode cX8_does 9 = .ok (.aload_n 0, 1) := by decide +kernel
theorem dX8_does_10 : decode cX8_does 10 = .ok (.getfield 214, 3) := by decide +kernel
theorem dX8_does_13 : decode cX8_does 13 = .ok (.isub, 1) := by decide +kernel
theorem dX8_does_14 : decode cX8_does 14 = .ok (.ireturn, 1) := by decide +kernel
theorem dX8_does_15 : decode cX8_does 15 = .ok (.aload_n 0, 1) := by decide +kernel
theorem dX8_does_16 : decode cX8_does 16 = .ok (.invokevirtual 156, 3) := by decide +kernel
theorem dX8_does_19 : decode cX8_does 19 = .ok (.aload_n 0, 1) := by decide +kernel
theorem dX8_does_20 : decode cX8_does 20 = .ok (.invokevirtual 251, 3) := by decide +kernel
theorem dX8_does_23 : decode cX8_does 23 = .ok (.istore_n 1, 1) := by decide +kernel
theorem dX8_does_24 : decode cX8_does 24 = .ok (.iload_n 1, 1) := by decide +kernel
theorem dX8_does_25 : decode cX8_does 25 = .ok (.ifCond .lt 9, 3) := by decide +kernel
theorem dX8_does_28 : decode cX8_does 28 = .ok (.aload_n 0, 1) := by decide +kernel
theorem dX8_does_29 : decode cX8_does 29 = .ok (.invokevirtual 162, 3) := by decide +kernel
theorem dX8_does_32 : decode cX8_does 32 = .ok (.iload_n 1, 1) := by decide +kernel
theorem dX8_does_33 : decode cX8_does 33 = .ok (.ireturn, 1) := by decide +kernel
theorem dX8_does_34 : decode cX8_does 34 = .ok (.iconst 0, 1) := by decide +kernel
theorem dX8_does_35 : decode cX8_does 35 = .ok (.istore_n 2, 1) := by decide +kernel
theorem dX8_does_36 : decode cX8_does 36 = .ok (.iload_n 2, 1) := by decide +kernel
theorem dX8_does_37 : decode cX8_does 37 = .ok (.sipush 1219, 3) := by decide +kernel
theorem dX8_does_40 : decode cX8_does 40 = .ok (.if_icmp .ge 21, 3) := by decide +kernel
theorem dX8_does_43 : decode cX8_does 43 = .ok (.aload_n 0, 1) := by decide +kernel
theorem dX8_does_44 : decode cX8_does 44 = .ok (.getfield 7, 3) := by decide +kernel
theorem dX8_does_47 : decode cX8_does 47 = .ok (.iload_n 2, 1) := by decide +kernel
theorem dX8_does_48 : decode cX8_does 48 = .ok (.aload_n 0, 1) := by decide +kernel
theorem dX8_does_49 : decode cX8_does 49 = .ok (.getfield 13, 3) := by decide +kernel
theorem dX8_does_52 : decode cX8_does 52 = .ok (.iload_n 2, 1) := by decide +kernel
theorem dX8_does_53 : decode cX8_does 53 = .ok (.iaload, 1) := by decide +kernel
theorem dX8_does_54 : decode cX8_does 54 = .ok (.iastore, 1) := by decide +kernel
theorem dX8_does_55 : decode cX8_does 55 = .ok (.iinc 2 1, 3) := by decide +kernel
theorem dX8_does_58 : decode cX8_does 58 = .ok (.goto (-22), 3) := by decide +kernel
theorem dX8_does_61 : decode cX8_does 61 = .ok (.iload_n 1, 1) := by decide +kernel
theorem dX8_does_62 : decode cX8_does 62 = .ok (.ireturn, 1) := by decide +kernel
theorem dX8_mix_0 : decode cX8_mix 0 = .ok (.aload_n 0, 1) := by decide +kernel
theorem dX8_mix_1 : decode cX8_mix 1 = .ok (.ldc2_w 254, 3) := by decide +kernel
theorem dX8_mix_4 : decode cX8_mix 4 = .ok (.aload_n 0, 1) := by decide +kernel
theorem dX8_mix_5 : decode cX8_mix 5 = .ok (.getfield 256, 3) := by decide +kernel
theorem dX8_mix_8 : decode cX8_mix 8 = .ok (.lmul, 1) := by decide +kernel
theorem dX8_mix_9 : decode cX8_mix 9 = .ok (.lload_n 1, 1) := by decide +kernel
theorem dX8_mix_10 : decode cX8_mix 10 = .ok (.ladd, 1) := by decide +kernel
theorem dX8_mix_11 : decode cX8_mix 11 = .ok (.putfield 256, 3) := by decide +kernel
theorem dX8_mix_14 : decode cX8_mix 14 = .ok (.return_, 1) := by decide +kernel
theorem dX8_mixImage_0 : decode cX8_mixImage 0 = .ok (.sipush 171, 3) := by decide +kernel
theorem dX8_mixImage_3 : decode cX8_mixImage 3 = .ok (.sipush 131, 3) := by decide +kernel
theorem dX8_mixImage_6 : decode cX8_mixImage 6 = .ok (.iload_n 1, 1) := by decide +kernel
theorem dX8_mixImage_7 : decode cX8_mixImage 7 = .ok (.imul, 1) := by decide +kernel
theorem dX8_mixImage_8 : decode cX8_mixImage 8 = .ok (.iadd, 1) := by decide +kernel
theorem dX8_mixImage_9 : decode cX8_mixImage 9 = .ok (.istore_n 2, 1) := by decide +kernel
theorem dX8_mixImage_10 : decode cX8_mixImage 10 = .ok (.iconst 0, 1) := by decide +kernel
theorem dX8_mixImage_11 : decode cX8_mixImage 11 = .ok (.istore_n 3, 1) := by decide +kernel
theorem dX8_mixImage_12 : decode cX8_mixImage 12 = .ok (.iload_n 3, 1) := by decide +kernel
theorem dX8_mixImage_13 : decode cX8_mixImage 13 = .ok (.iconst 3, 1) := by decide +kernel
theorem dX8_mixImage_14 : decode cX8_mixImage 14 = .ok (.if_icmp .ge 20, 3) := by decide +kernel
theorem dX8_mixImage_17 : decode cX8_mixImage 17 = .ok (.aload_n 0, 1) := by decide +kernel
theorem dX8_mixImage_18 : decode cX8_mixImage 18 = .ok (.aload_n 0, 1) := by decide +kernel
theorem dX8_mixImage_19 : decode cX8_mixImage 19 = .ok (.iload_n 1, 1) := by decide +kernel
theorem dX8_mixImage_20 : decode cX8_mixImage 20 = .ok (.iload_n 3, 1) := by decide +kernel
theorem dX8_mixImage_21 : decode cX8_mixImage 21 = .ok (.invokevirtual 196, 3) := by decide +kernel
theorem dX8_mixImage_24 : decode cX8_mixImage 24 = .ok (.i2l, 1) := by decide +kernel
theorem dX8_mixImage_25 : decode cX8_mixImage 25 = .ok (.invokevirtual 260, 3) := by decide +kernel
theorem dX8_mixImage_28 : decode cX8_mixImage 28 = .ok (.iinc 3 1, 3) := by decide +kernel
theorem dX8_mixImage_31 : decode cX8_mixImage 31 = .ok (.goto (-19), 3) := by decide +kernel
theorem dX8_mixImage_34 : decode cX8_mixImage 34 = .ok (.iconst 0, 1) := by decide +kernel
theorem dX8_mixImage_35 : decode cX8_mixImage 35 = .ok (.istore_n 3, 1) := by decide +kernel
theorem dX8_mixImage_36 : decode cX8_mixImage 36 = .ok (.iload_n 3, 1) := by decide +kernel
theorem dX8_mixImage_37 : decode cX8_mixImage 37 = .ok (.aload_n 0, 1) := by decide +kernel
theorem dX8_mixImage_38 : decode cX8_mixImage 38 = .ok (.getfield 7, 3) := by decide +kernel
theorem dX8_mixImage_41 : decode cX8_mixImage 41 = .ok (.iload_n 2, 1) := by decide +kernel
theorem dX8_mixImage_42 : decode cX8_mixImage 42 = .ok (.iaload, 1) := by decide +kernel
theorem dX8_mixImage_43 : decode cX8_mixImage 43 = .ok (.if_icmp .ge 55, 3) := by decide +kernel
theorem dX8_mixImage_46 : decode cX8_mixImage 46 = .ok (.iconst 0, 1) := by decide +kernel
theorem dX8_mixImage_47 : decode cX8_mixImage 47 = .ok (.istore 4, 2) := by decide +kernel
theorem dX8_mixImage_49 : decode cX8_mixImage 49 = .ok (.iload 4, 2) := by decide +kernel
theorem dX8_mixImage_51 : decode cX8_mixImage 51 = .ok (.aload_n 0, 1) := by decide +kernel
theorem dX8_mixImage_52 : decode cX8_mixImage 52 = .ok (.getfield 7, 3) := by decide +kernel
theorem dX8_mixImage_55 : decode cX8_mixImage 55 = .ok (.iload_n 2, 1) := by decide +kernel
theorem dX8_mixImage_56 : decode cX8_mixImage 56 = .ok (.iconst 1, 1) := by decide +kernel
theorem dX8_mixImage_57 : decode cX8_mixImage 57 = .ok (.iadd, 1) := by decide +kernel
theorem dX8_mixImage_58 : decode cX8_mixImage 58 = .ok (.iload_n 3, 1) := by decide +kernel
theorem dX8_mixImage_59 : decode cX8_mixImage 59 = .ok (.iadd, 1) := by decide +kernel
theorem dX8_mixImage_60 : decode cX8_mixImage 60 = .ok (.iaload, 1) := by decide +kernel
theorem dX8_mixImage_61 : decode cX8_mixImage 61 = .ok (.if_icmp .ge 31, 3) := by decide +kernel
theorem dX8_mixImage_64 : decode cX8_mixImage 64 = .ok (.aload_n 0, 1) := by decide +kernel
theorem dX8_mixImage_65 : decode cX8_mixImage 65 = .ok (.aload_n 0, 1) := by decide +kernel
theorem dX8_mixImage_66 : decode cX8_mixImage 66 = .ok (.getfield 7, 3) := by decide +kernel
theorem dX8_mixImage_69 : decode cX8_mixImage 69 = .ok (.iload_n 2, 1) := by decide +kernel
theorem dX8_mixImage_70 : decode cX8_mixImage 70 = .ok (.bipush 11, 2) := by decide +kernel
theorem dX8_mixImage_72 : decode cX8_mixImage 72 = .ok (.iadd, 1) := by decide +kernel
theorem dX8_mixImage_73 : decode cX8_mixImage 73 = .ok (.bipush 12, 2) := by decide +kernel
theorem dX8_mixImage_75 : decode cX8_mixImage 75 = .ok (.iload_n 3, 1) := by decide +kernel
theorem dX8_mixImage_76 : decode cX8_mixImage 76 = .ok (.imul, 1) := by decide +kernel
theorem dX8_mixImage_77 : decode cX8_mixImage 77 = .ok (.iadd, 1) := by decide +kernel
theorem dX8_mixImage_78 : decode cX8_mixImage 78 = .ok (.iload 4, 2) := by decide +kernel
theorem dX8_mixImage_80 : decode cX8_mixImage 80 = .ok (.iadd, 1) := by decide +kernel
theorem dX8_mixImage_81 : decode cX8_mixImage 81 = .ok (.iaload, 1) := by decide +kernel
theorem dX8_mixImage_82 : decode cX8_mixImage 82 = .ok (.i2l, 1) := by decide +kernel
theorem dX8_mixImage_83 : decode cX8_mixImage 83 = .ok (.invokevirtual 260, 3) := by decide +kernel
theorem dX8_mixImage_86 : decode cX8_mixImage 86 = .ok (.iinc 4 1, 3) := by decide +kernel
theorem dX8_mixImage_89 : decode cX8_mixImage 89 = .ok (.goto (-40), 3) := by decide +kernel
theorem dX8_mixImage_92 : decode cX8_mixImage 92 = .ok (.iinc 3 1, 3) := by decide +kernel
theorem dX8_mixImage_95 : decode cX8_mixImage 95 = .ok (.goto (-59), 3) := by decide +kernel
theorem dX8_mixImage_98 : decode cX8_mixImage 98 = .ok (.return_, 1) := by decide +kernel
theorem dX8_digest_0 : decode cX8_digest 0 = .ok (.aload_n 0, 1) := by decide +kernel
theorem dX8_digest_1 : decode cX8_digest 1 = .ok (.ldc2_w 264, 3) := by decide +kernel
theorem dX8_digest_4 : decode cX8_digest 4 = .ok (.putfield 256, 3) := by decide +kernel
theorem dX8_digest_7 : decode cX8_digest 7 = .ok (.iconst 0, 1) := by decide +kernel
theorem dX8_digest_8 : decode cX8_digest 8 = .ok (.istore_n 1, 1) := by decide +kernel
theorem dX8_digest_9 : decode cX8_digest 9 = .ok (.iload_n 1, 1) := by decide +kernel
theorem dX8_digest_10 : decode cX8_digest 10 = .ok (.bipush 10, 2) := by decide +kernel
theorem dX8_digest_12 : decode cX8_digest 12 = .ok (.if_icmp .ge 19, 3) := by decide +kernel
theorem dX8_digest_15 : decode cX8_digest 15 = .ok (.aload_n 0, 1) := by decide +kernel
theorem dX8_digest_16 : decode cX8_digest 16 = .ok (.aload_n 0, 1) := by decide +kernel
theorem dX8_digest_17 : decode cX8_digest 17 = .ok (.iload_n 1, 1) := by decide +kernel
theorem dX8_digest_18 : decode cX8_digest 18 = .ok (.invokevirtual 205, 3) := by decide +kernel
theorem dX8_digest_21 : decode cX8_digest 21 = .ok (.i2l, 1) := by decide +kernel
theorem dX8_digest_22 : decode cX8_digest 22 = .ok (.invokevirtual 260, 3) := by decide +kernel
theorem dX8_digest_25 : decode cX8_digest 25 = .ok (.iinc 1 1, 3) := by decide +kernel
theorem dX8_digest_28 : decode cX8_digest 28 = .ok (.goto (-19), 3) := by decide +kernel
theorem dX8_digest_31 : decode cX8_digest 31 = .ok (.iconst 1, 1) := by decide +kernel
theorem dX8_digest_32 : decode cX8_digest 32 = .ok (.istore_n 1, 1) := by decide +kernel
theorem dX8_digest_33 : decode cX8_digest 33 = .ok (.iload_n 1, 1) := by decide +kernel
theorem dX8_digest_34 : decode cX8_digest 34 = .ok (.bipush 10, 2) := by decide +kernel
theorem dX8_digest_36 : decode cX8_digest 36 = .ok (.if_icmp .ge 20, 3) := by decide +kernel
theorem dX8_digest_39 : decode cX8_digest 39 = .ok (.aload_n 0, 1) := by decide +kernel
theorem dX8_digest_40 : decode cX8_digest 40 = .ok (.aload_n 0, 1) := by decide +kernel
theorem dX8_digest_41 : decode cX8_digest 41 = .ok (.getfield 22, 3) := by decide +kernel
theorem dX8_digest_44 : decode cX8_digest 44 = .ok (.iload_n 1, 1) := by decide +kernel
theorem dX8_digest_45 : decode cX8_digest 45 = .ok (.iaload, 1) := by decide +kernel
theorem dX8_digest_46 : decode cX8_digest 46 = .ok (.i2l, 1) := by decide +kernel
theorem dX8_digest_47 : decode cX8_digest 47 = .ok (.invokevirtual 260, 3) := by decide +kernel
theorem dX8_digest_50 : decode cX8_digest 50 = .ok (.iinc 1 1, 3) := by decide +kernel
theorem dX8_digest_53 : decode cX8_digest 53 = .ok (.goto (-20), 3) := by decide +kernel
theorem dX8_digest_56 : decode cX8_digest 56 = .ok (.iconst 0, 1) := by decide +kernel
theorem dX8_digest_57 : decode cX8_digest 57 = .ok (.istore_n 1, 1) := by decide +kernel
theorem dX8_digest_58 : decode cX8_digest 58 = .ok (.iload_n 1, 1) := by decide +kernel
theorem dX8_digest_59 : decode cX8_digest 59 = .ok (.bipush 6, 2) := by decide +kernel
theorem dX8_digest_61 : decode cX8_digest 61 = .ok (.if_icmp .ge 33, 3) := by decide +kernel
theorem dX8_digest_64 : decode cX8_digest 64 = .ok (.iconst 0, 1) := by decide +kernel
theorem dX8_digest_65 : decode cX8_digest 65 = .ok (.istore_n 2, 1) := by decide +kernel
theorem dX8_digest_66 : decode cX8_digest 66 = .ok (.iload_n 2, 1) := by decide +kernel
theorem dX8_digest_67 : decode cX8_digest 67 = .ok (.iconst 3, 1) := by decide +kernel
theorem dX8_digest_68 : decode cX8_digest 68 = .ok (.if_icmp .ge 20, 3) := by decide +kernel
theorem dX8_digest_71 : decode cX8_digest 71 = .ok (.aload_n 0, 1) := by decide +kernel
theorem dX8_digest_72 : decode cX8_digest 72 = .ok (.aload_n 0, 1) := by decide +kernel
theorem dX8_digest_73 : decode cX8_digest 73 = .ok (.iload_n 1, 1) := by decide +kernel
theorem dX8_digest_74 : decode cX8_digest 74 = .ok (.iload_n 2, 1) := by decide +kernel
theorem dX8_digest_75 : decode cX8_digest 75 = .ok (.invokevirtual 177, 3) := by decide +kernel
theorem dX8_digest_78 : decode cX8_digest 78 = .ok (.i2l, 1) := by decide +kernel
theorem dX8_digest_79 : decode cX8_digest 79 = .ok (.invokevirtual 260, 3) := by decide +kernel
theorem dX8_digest_82 : decode cX8_digest 82 = .ok (.iinc 2 1, 3) := by decide +kernel
theorem dX8_digest_85 : decode cX8_digest 85 = .ok (.goto (-19), 3) := by decide +kernel
theorem dX8_digest_88 : decode cX8_digest 88 = .ok (.iinc 1 1, 3) := by decide +kernel
theorem dX8_digest_91 : decode cX8_digest 91 = .ok (.goto (-33), 3) := by decide +kernel
theorem dX8_digest_94 : decode cX8_digest 94 = .ok (.iconst 0, 1) := by decide +kernel
theorem dX8_digest_95 : decode cX8_digest 95 = .ok (.istore_n 1, 1) := by decide +kernel
theorem dX8_digest_96 : decode cX8_digest 96 = .ok (.iload_n 1, 1) := by decide +kernel
theorem dX8_digest_97 : decode cX8_digest 97 = .ok (.aload_n 0, 1) := by decide +kernel
theorem dX8_digest_98 : decode cX8_digest 98 = .ok (.getfield 7, 3) := by decide +kernel
theorem dX8_digest_101 : decode cX8_digest 101 = .ok (.iconst 0, 1) := by decide +kernel
theorem dX8_digest_102 : decode cX8_digest 102 = .ok (.iaload, 1) := by decide +kernel
theorem dX8_digest_103 : decode cX8_digest 103 = .ok (.if_icmp .ge 65, 3) := by decide +kernel
theorem dX8_digest_106 : decode cX8_digest 106 = .ok (.iconst 0, 1) := by decide +kernel
theorem dX8_digest_107 : decode cX8_digest 107 = .ok (.istore_n 2, 1) := by decide +kernel
theorem dX8_digest_108 : decode cX8_digest 108 = .ok (.iload_n 2, 1) := by decide +kernel
theorem dX8_digest_109 : decode cX8_digest 109 = .ok (.iconst 5, 1) := by decide +kernel
theorem dX8_digest_110 : decode cX8_digest 110 = .ok (.if_icmp .ge 20, 3) := by decide +kernel
theorem dX8_digest_113 : decode cX8_digest 113 = .ok (.aload_n 0, 1) := by decide +kernel
theorem dX8_digest_114 : decode cX8_digest 114 = .ok (.aload_n 0, 1) := by decide +kernel
theorem dX8_digest_115 : decode cX8_digest 115 = .ok (.iload_n 1, 1) := by decide +kernel
theorem dX8_digest_116 : decode cX8_digest 116 = .ok (.iload_n 2, 1) := by decide +kernel
theorem dX8_digest_117 : decode cX8_digest 117 = .ok (.invokevirtual 190, 3) := by decide +kernel
theorem dX8_digest_120 : decode cX8_digest 120 = .ok (.i2l, 1) := by decide +kernel
theorem dX8_digest_121 : decode cX8_digest 121 = .ok (.invokevirtual 260, 3) := by decide +kernel
theorem dX8_digest_124 : decode cX8_digest 124 = .ok (.iinc 2 1, 3) := by decide +kernel
theorem dX8_digest_127 : decode cX8_digest 127 = .ok (.goto (-19), 3) := by decide +kernel
theorem dX8_digest_130 : decode cX8_digest 130 = .ok (.iconst 0, 1) := by decide +kernel
theorem dX8_digest_131 : decode cX8_digest 131 = .ok (.istore_n 2, 1) := by decide +kernel
theorem dX8_digest_132 : decode cX8_digest 132 = .ok (.iload_n 2, 1) := by decide +kernel
theorem dX8_digest_133 : decode cX8_digest 133 = .ok (.aload_n 0, 1) := by decide +kernel
theorem dX8_digest_134 : decode cX8_digest 134 = .ok (.iload_n 1, 1) := by decide +kernel
theorem dX8_digest_135 : decode cX8_digest 135 = .ok (.invokevirtual 68, 3) := by decide +kernel
theorem dX8_digest_138 : decode cX8_digest 138 = .ok (.if_icmp .ge 24, 3) := by decide +kernel
theorem dX8_digest_141 : decode cX8_digest 141 = .ok (.aload_n 0, 1) := by decide +kernel
theorem dX8_digest_142 : decode cX8_digest 142 = .ok (.aload_n 0, 1) := by decide +kernel
theorem dX8_digest_143 : decode cX8_digest 143 = .ok (.getfield 7, 3) := by decide +kernel
theorem dX8_digest_146 : decode cX8_digest 146 = .ok (.iload_n 1, 1) := by decide +kernel
theorem dX8_digest_147 : decode cX8_digest 147 = .ok (.iload_n 2, 1) := by decide +kernel
theorem dX8_digest_148 : decode cX8_digest 148 = .ok (.invokestatic 81, 3) := by decide +kernel
theorem dX8_digest_151 : decode cX8_digest 151 = .ok (.iaload, 1) := by decide +kernel
theorem dX8_digest_152 : decode cX8_digest 152 = .ok (.i2l, 1) := by decide +kernel
theorem dX8_digest_153 : decode cX8_digest 153 = .ok (.invokevirtual 260, 3) := by decide +kernel
theorem dX8_digest_156 : decode cX8_digest 156 = .ok (.iinc 2 1, 3) := by decide +kernel
theorem dX8_digest_159 : decode cX8_digest 159 = .ok (.goto (-27), 3) := by decide +kernel
theorem dX8_digest_162 : decode cX8_digest 162 = .ok (.iinc 1 1, 3) := by decide +kernel
theorem dX8_digest_165 : decode cX8_digest 165 = .ok (.goto (-69), 3) := by decide +kernel
theorem dX8_digest_168 : decode cX8_digest 168 = .ok (.iconst 0, 1) := by decide +kernel
theorem dX8_digest_169 : decode cX8_digest 169 = .ok (.istore_n 1, 1) := by decide +kernel
theorem dX8_digest_170 : decode cX8_digest 170 = .ok (.iload_n 1, 1) := by decide +kernel
theorem dX8_digest_171 : decode cX8_digest 171 = .ok (.aload_n 0, 1) := by decide +kernel
theorem dX8_digest_172 : decode cX8_digest 172 = .ok (.getfield 7, 3) := by decide +kernel
theorem dX8_digest_175 : decode cX8_digest 175 = .ok (.sipush 170, 3) := by decide +kernel
theorem dX8_digest_178 : decode cX8_digest 178 = .ok (.iaload, 1) := by decide +kernel
theorem dX8_digest_179 : decode cX8_digest 179 = .ok (.if_icmp .ge 14, 3) := by decide +kernel
theorem dX8_digest_182 : decode cX8_digest 182 = .ok (.aload_n 0, 1) := by decide +kernel
theorem dX8_digest_183 : decode cX8_digest 183 = .ok (.iload_n 1, 1) := by decide +kernel
theorem dX8_digest_184 : decode cX8_digest 184 = .ok (.invokevirtual 266, 3) := by decide +kernel
theorem dX8_digest_187 : decode cX8_digest 187 = .ok (.iinc 1 1, 3) := by decide +kernel
theorem dX8_digest_190 : decode cX8_digest 190 = .ok (.goto (-20), 3) := by decide +kernel
theorem dX8_digest_193 : decode cX8_digest 193 = .ok (.aload_n 0, 1) := by decide +kernel
theorem dX8_digest_194 : decode cX8_digest 194 = .ok (.getfield 256, 3) := by decide +kernel
theorem dX8_digest_197 : decode cX8_digest 197 = .ok (.lreturn, 1) := by decide +kernel
theorem dJ9_floorMod_7cf53_0 : decode cJ9_floorMod_7cf53 0 = .ok (.iload_n 0, 1) := by decide +kernel
theorem dJ9_floorMod_7cf53_1 : decode cJ9_floorMod_7cf53 1 = .ok (.iload_n 1, 1) := by decide +kernel
theorem dJ9_floorMod_7cf53_2 : decode cJ9_floorMod_7cf53 2 = .ok (.irem, 1) := by decide +kernel
theorem dJ9_floorMod_7cf53_3 : decode cJ9_floorMod_7cf53 3 = .ok (.istore_n 2, 1) := by decide +kernel
theorem dJ9_floorMod_7cf53_4 : decode cJ9_floorMod_7cf53 4 = .ok (.iload_n 0, 1) := by decide +kernel
theorem dJ9_floorMod_7cf53_5 : decode cJ9_floorMod_7cf53 5 = .ok (.iload_n 1, 1) := by decide +kernel
theorem dJ9_floorMod_7cf53_6 : decode cJ9_floorMod_7cf53 6 = .ok (.ixor, 1) := by decide +kernel
theorem dJ9_floorMod_7cf53_7 : decode cJ9_floorMod_7cf53 7 = .ok (.ifCond .ge 11, 3) := by decide +kernel
theorem dJ9_floorMod_7cf53_10 : decode cJ9_floorMod_7cf53 10 = .ok (.iload_n 2, 1) := by decide +kernel
theorem dJ9_floorMod_7cf53_11 : decode cJ9_floorMod_7cf53 11 = .ok (.ifCond .eq 7, 3) := by decide +kernel
theorem dJ9_floorMod_7cf53_14 : decode cJ9_floorMod_7cf53 14 = .ok (.iload_n 2, 1) := by decide +kernel
theorem dJ9_floorMod_7cf53_15 : decode cJ9_floorMod_7cf53 15 = .ok (.iload_n 1, 1) := by decide +kernel
theorem dJ9_floorMod_7cf53_16 : decode cJ9_floorMod_7cf53 16 = .ok (.iadd, 1) := by decide +kernel
theorem dJ9_floorMod_7cf53_17 : decode cJ9_floorMod_7cf53 17 = .ok (.ireturn, 1) := by decide +kernel
theorem dJ9_floorMod_7cf53_18 : decode cJ9_floorMod_7cf53 18 = .ok (.iload_n 2, 1) := by decide +kernel
theorem dJ9_floorMod_7cf53_19 : decode cJ9_floorMod_7cf53 19 = .ok (.ireturn, 1) := by decide +kernel
theorem dL_law_0 : decode cL_law 0 = .ok (.new 7, 3) := by decide +kernel
theorem dL_law_3 : decode cL_law 3 = .ok (.dup, 1) := by decide +kernel
theorem dL_law_4 : decode cL_law 4 = .ok (.invokespecial 9, 3) := by decide +kernel
theorem dL_law_7 : decode cL_law 7 = .ok (.astore_n 1, 1) := by decide +kernel
theorem dL_law_8 : decode cL_law 8 = .ok (.new 10, 3) := by decide +kernel
theorem dL_law_11 : decode cL_law 11 = .ok (.dup, 1) := by decide +kernel
theorem dL_law_12 : decode cL_law 12 = .ok (.invokespecial 12, 3) := by decide +kernel
theorem dL_law_15 : decode cL_law 15 = .ok (.astore_n 2, 1) := by decide +kernel
theorem dL_law_16 : decode cL_law 16 = .ok (.iconst 0, 1) := by decide +kernel
theorem dL_law_17 : decode cL_law 17 = .ok (.istore_n 3, 1) := by decide +kernel
theorem dL_law_18 : decode cL_law 18 = .ok (.iload_n 3, 1) := by decide +kernel
theorem dL_law_19 : decode cL_law 19 = .ok (.aload_n 0, 1) := by decide +kernel
theorem dL_law_20 : decode cL_law 20 = .ok (.arraylength, 1) := by decide +kernel
theorem dL_law_21 : decode cL_law 21 = .ok (.iconst 4, 1) := by decide +kernel
theorem dL_law_22 : decode cL_law 22 = .ok (.isub, 1) := by decide +kernel
theorem dL_law_23 : decode cL_law 23 = .ok (.if_icmp .gt 837, 3) := by decide +kernel
theorem dL_law_26 : decode cL_law 26 = .ok (.aload_n 0, 1) := by decide +kernel
theorem dL_law_27 : decode cL_law 27 = .ok (.iload_n 3, 1) := by decide +kernel
theorem dL_law_28 : decode cL_law 28 = .ok (.iaload, 1) := by decide +kernel
theorem dL_law_29 : decode cL_law 29 = .ok (.bipush 31, 2) := by decide +kernel
theorem dL_law_31 : decode cL_law 31 = .ok (.iand, 1) := by decide +kernel
theorem dL_law_32 : decode cL_law 32 = .ok (.tableswitch 822 0 24 #[116, 149, 172, 205, 238, 271, 314, 357, 390, 433, 456, 479, 502, 535, 568, 601, 634, 677, 700, 723, 746, 769, 782, 795, 808], 116) := by decide +kernel
theorem dL_law_148 : decode cL_law 148 = .ok (.aload_n 1, 1) := by decide +kernel
theorem dL_law_149 : decode cL_law 149 = .ok (.aload_n 0, 1) := by decide +kernel
theorem dL_law_150 : decode cL_law 150 = .ok (.iload_n 3, 1) := by decide +kernel
theorem dL_law_151 : decode cL_law 151 = .ok (.iconst 1, 1) := by decide +kernel
theorem dL_law_152 : decode cL_law 152 = .ok (.iadd, 1) := by decide +kernel
theorem dL_law_153 : decode cL_law 153 = .ok (.iaload, 1) := by decide +kernel
theorem dL_law_154 : decode cL_law 154 = .ok (.aload_n 0, 1) := by decide +kernel
theorem dL_law_155 : decode cL_law 155 = .ok (.iload_n 3, 1) := by decide +kernel
theorem dL_law_156 : decode cL_law 156 = .ok (.iconst 2, 1) := by decide +kernel
theorem dL_law_157 : decode cL_law 157 = .ok (.iadd, 1) := by decide +kernel
theorem dL_law_158 : decode cL_law 158 = .ok (.iaload, 1) := by decide +kernel
theorem dL_law_159 : decode cL_law 159 = .ok (.invokevirtual 13, 3) := by decide +kernel
theorem dL_law_162 : decode cL_law 162 = .ok (.aload_n 2, 1) := by decide +kernel
theorem dL_law_163 : decode cL_law 163 = .ok (.aload_n 0, 1) := by decide +kernel
theorem dL_law_164 : decode cL_law 164 = .ok (.iload_n 3, 1) := by decide +kernel
theorem dL_law_165 : decode cL_law 165 = .ok (.iconst 1, 1) := by decide +kernel
theorem dL_law_166 : decode cL_law 166 = .ok (.iadd, 1) := by decide +kernel
theorem dL_law_167 : decode cL_law 167 = .ok (.iaload, 1) := by decide +kernel
theorem dL_law_168 : decode cL_law 168 = .ok (.aload_n 0, 1) := by decide +kernel
theorem dL_law_169 : decode cL_law 169 = .ok (.iload_n 3, 1) := by decide +kernel
theorem dL_law_170 : decode cL_law 170 = .ok (.iconst 2, 1) := by decide +kernel
theorem dL_law_171 : decode cL_law 171 = .ok (.iadd, 1) := by decide +kernel
theorem dL_law_172 : decode cL_law 172 = .ok (.iaload, 1) := by decide +kernel
theorem dL_law_173 : decode cL_law 173 = .ok (.invokevirtual 17, 3) := by decide +kernel
theorem dL_law_176 : decode cL_law 176 = .ok (.if_icmp .eq 678, 3) := by decide +kernel
theorem dL_law_179 : decode cL_law 179 = .ok (.iconst 0, 1) := by decide +kernel
theorem dL_law_180 : decode cL_law 180 = .ok (.ireturn, 1) := by decide +kernel
theorem dL_law_181 : decode cL_law 181 = .ok (.aload_n 1, 1) := by decide +kernel
theorem dL_law_182 : decode cL_law 182 = .ok (.aload_n 0, 1) := by decide +kernel
theorem dL_law_183 : decode cL_law 183 = .ok (.iload_n 3, 1) := by decide +kernel
theorem dL_law_184 : decode cL_law 184 = .ok (.iconst 1, 1) := by decide +kernel
theorem dL_law_185 : decode cL_law 185 = .ok (.iadd, 1) := by decide +kernel
theorem dL_law_186 : decode cL_law 186 = .ok (.iaload, 1) := by decide +kernel
theorem dL_law_187 : decode cL_law 187 = .ok (.invokevirtual 18, 3) := by decide +kernel
theorem dL_law_190 : decode cL_law 190 = .ok (.aload_n 2, 1) := by decide +kernel
theorem dL_law_191 : decode cL_law 191 = .ok (.aload_n 0, 1) := by decide +kernel
theorem dL_law_192 : decode cL_law 192 = .ok (.iload_n 3, 1) := by decide +kernel
theorem dL_law_193 : decode cL_law 193 = .ok (.iconst 1, 1) := by decide +kernel
theorem dL_law_194 : decode cL_law 194 = .ok (.iadd, 1) := by decide +kernel
theorem dL_law_195 : decode cL_law 195 = .ok (.iaload, 1) := by decide +kernel
theorem dL_law_196 : decode cL_law 196 = .ok (.invokevirtual 22, 3) := by decide +kernel
theorem dL_law_199 : decode cL_law 199 = .ok (.if_icmp .eq 655, 3) := by decide +kernel
theorem dL_law_202 : decode cL_law 202 = .ok (.iconst 0, 1) := by decide +kernel
theorem dL_law_203 : decode cL_law 203 = .ok (.ireturn, 1) := by decide +kernel
theorem dL_law_204 : decode cL_law 204 = .ok (.aload_n 1, 1) := by decide +kernel
theorem dL_law_205 : decode cL_law 205 = .ok (.aload_n 0, 1) := by decide +kernel
theorem dL_law_206 : decode cL_law 206 = .ok (.iload_n 3, 1) := by decide +kernel
theorem dL_law_207 : decode cL_law 207 = .ok (.iconst 1, 1) := by decide +kernel
theorem dL_law_208 : decode cL_law 208 = .ok (.iadd, 1) := by decide +kernel
theorem dL_law_209 : decode cL_law 209 = .ok (.iaload, 1) := by decide +kernel
theorem dL_law_210 : decode cL_law 210 = .ok (.aload_n 0, 1) := by decide +kernel
theorem dL_law_211 : decode cL_law 211 = .ok (.iload_n 3, 1) := by decide +kernel
theorem dL_law_212 : decode cL_law 212 = .ok (.iconst 2, 1) := by decide +kernel
theorem dL_law_213 : decode cL_law 213 = .ok (.iadd, 1) := by decide +kernel
theorem dL_law_214 : decode cL_law 214 = .ok (.iaload, 1) := by decide +kernel
theorem dL_law_215 : decode cL_law 215 = .ok (.invokevirtual 23, 3) := by decide +kernel
theorem dL_law_218 : decode cL_law 218 = .ok (.aload_n 2, 1) := by decide +kernel
theorem dL_law_219 : decode cL_law 219 = .ok (.aload_n 0, 1) := by decide +kernel
theorem dL_law_220 : decode cL_law 220 = .ok (.iload_n 3, 1) := by decide +kernel
theorem dL_law_221 : decode cL_law 221 = .ok (.iconst 1, 1) := by decide +kernel
theorem dL_law_222 : decode cL_law 222 = .ok (.iadd, 1) := by decide +kernel
theorem dL_law_223 : decode cL_law 223 = .ok (.iaload, 1) := by decide +kernel
theorem dL_law_224 : decode cL_law 224 = .ok (.aload_n 0, 1) := by decide +kernel
theorem dL_law_225 : decode cL_law 225 = .ok (.iload_n 3, 1) := by decide +kernel
theorem dL_law_226 : decode cL_law 226 = .ok (.iconst 2, 1) := by decide +kernel
theorem dL_law_227 : decode cL_law 227 = .ok (.iadd, 1) := by decide +kernel
theorem dL_law_228 : decode cL_law 228 = .ok (.iaload, 1) := by decide +kernel
theorem dL_law_229 : decode cL_law 229 = .ok (.invokevirtual 26, 3) := by decide +kernel
theorem dL_law_232 : decode cL_law 232 = .ok (.if_icmp .eq 622, 3) := by decide +kernel
theorem dL_law_235 : decode cL_law 235 = .ok (.iconst 0, 1) := by decide +kernel
theorem dL_law_236 : decode cL_law 236 = .ok (.ireturn, 1) := by decide +kernel
theorem dL_law_237 : decode cL_law 237 = .ok (.aload_n 1, 1) := by decide +kernel
theorem dL_law_238 : decode cL_law 238 = .ok (.aload_n 0, 1) := by decide +kernel
theorem dL_law_239 : decode cL_law 239 = .ok (.iload_n 3, 1) := by decide +kernel
theorem dL_law_240 : decode cL_law 240 = .ok (.iconst 1, 1) := by decide +kernel
theorem dL_law_241 : decode cL_law 241 = .ok (.iadd, 1) := by decide +kernel
theorem dL_law_242 : decode cL_law 242 = .ok (.iaload, 1) := by decide +kernel
theorem dL_law_243 : decode cL_law 243 = .ok (.aload_n 0, 1) := by decide +kernel
theorem dL_law_244 : decode cL_law 244 = .ok (.iload_n 3, 1) := by decide +kernel
theorem dL_law_245 : decode cL_law 245 = .ok (.iconst 2, 1) := by decide +kernel
theorem dL_law_246 : decode cL_law 246 = .ok (.iadd, 1) := by decide +kernel
theorem dL_law_247 : decode cL_law 247 = .ok (.iaload, 1) := by decide +kernel
theorem dL_law_248 : decode cL_law 248 = .ok (.invokevirtual 27, 3) := by decide +kernel
theorem dL_law_251 : decode cL_law 251 = .ok (.aload_n 2, 1) := by decide +kernel
theorem dL_law_252 : decode cL_law 252 = .ok (.aload_n 0, 1) := by decide +kernel
theorem dL_law_253 : decode cL_law 253 = .ok (.iload_n 3, 1) := by decide +kernel
theorem dL_law_254 : decode cL_law 254 = .ok (.iconst 1, 1) := by decide +kernel
theorem dL_law_255 : decode cL_law 255 = .ok (.iadd, 1) := by decide +kernel
theorem dL_law_256 : decode cL_law 256 = .ok (.iaload, 1) := by decide +kernel
theorem dL_law_257 : decode cL_law 257 = .ok (.aload_n 0, 1) := by decide +kernel
theorem dL_law_258 : decode cL_law 258 = .ok (.iload_n 3, 1) := by decide +kernel
theorem dL_law_259 : decode cL_law 259 = .ok (.iconst 2, 1) := by decide +kernel
theorem dL_law_260 : decode cL_law 260 = .ok (.iadd, 1) := by decide +kernel
theorem dL_law_261 : decode cL_law 261 = .ok (.iaload, 1) := by decide +kernel
theorem dL_law_262 : decode cL_law 262 = .ok (.invokevirtual 30, 3) := by decide +kernel
theorem dL_law_265 : decode cL_law 265 = .ok (.if_icmp .eq 589, 3) := by decide +kernel
theorem dL_law_268 : decode cL_law 268 = .ok (.iconst 0, 1) := by decide +kernel
theorem dL_law_269 : decode cL_law 269 = .ok (.ireturn, 1) := by decide +kernel
theorem dL_law_270 : decode cL_law 270 = .ok (.aload_n 1, 1) := by decide +kernel
theorem dL_law_271 : decode cL_law 271 = .ok (.aload_n 0, 1) := by decide +kernel
theorem dL_law_272 : decode cL_law 272 = .ok (.iload_n 3, 1) := by decide +kernel
theorem dL_law_273 : decode cL_law 273 = .ok (.iconst 1, 1) := by decide +kernel
theorem dL_law_274 : decode cL_law 274 = .ok (.iadd, 1) := by decide +kernel
theorem dL_law_275 : decode cL_law 275 = .ok (.iaload, 1) := by decide +kernel
theorem dL_law_276 : decode cL_law 276 = .ok (.aload_n 0, 1) := by decide +kernel
theorem dL_law_277 : decode cL_law 277 = .ok (.iload_n 3, 1) := by decide +kernel
theorem dL_law_278 : decode cL_law 278 = .ok (.iconst 2, 1) := by decide +kernel
theorem dL_law_279 : decode cL_law 279 = .ok (.iadd, 1) := by decide +kernel
theorem dL_law_280 : decode cL_law 280 = .ok (.iaload, 1) := by decide +kernel
theorem dL_law_281 : decode cL_law 281 = .ok (.invokevirtual 31, 3) := by decide +kernel
theorem dL_law_284 : decode cL_law 284 = .ok (.aload_n 2, 1) := by decide +kernel
theorem dL_law_285 : decode cL_law 285 = .ok (.aload_n 0, 1) := by decide +kernel
theorem dL_law_286 : decode cL_law 286 = .ok (.iload_n 3, 1) := by decide +kernel
theorem dL_law_287 : decode cL_law 287 = .ok (.iconst 1, 1) := by decide +kernel
theorem dL_law_288 : decode cL_law 288 = .ok (.iadd, 1) := by decide +kernel
theorem dL_law_289 : decode cL_law 289 = .ok (.iaload, 1) := by decide +kernel
theorem dL_law_290 : decode cL_law 290 = .ok (.aload_n 0, 1) := by decide +kernel
theorem dL_law_291 : decode cL_law 291 = .ok (.iload_n 3, 1) := by decide +kernel
theorem dL_law_292 : decode cL_law 292 = .ok (.iconst 2, 1) := by decide +kernel
theorem dL_law_293 : decode cL_law 293 = .ok (.iadd, 1) := by decide +kernel
theorem dL_law_294 : decode cL_law 294 = .ok (.iaload, 1) := by decide +kernel
theorem dL_law_295 : decode cL_law 295 = .ok (.invokevirtual 34, 3) := by decide +kernel
theorem dL_law_298 : decode cL_law 298 = .ok (.if_icmp .eq 556, 3) := by decide +kernel
theorem dL_law_301 : decode cL_law 301 = .ok (.iconst 0, 1) := by decide +kernel
theorem dL_law_302 : decode cL_law 302 = .ok (.ireturn, 1) := by decide +kernel
theorem dL_law_303 : decode cL_law 303 = .ok (.aload_n 1, 1) := by decide +kernel
theorem dL_law_304 : decode cL_law 304 = .ok (.aload_n 0, 1) := by decide +kernel
theorem dL_law_305 : decode cL_law 305 = .ok (.iload_n 3, 1) := by decide +kernel
theorem dL_law_306 : decode cL_law 306 = .ok (.iconst 1, 1) := by decide +kernel
theorem dL_law_307 : decode cL_law 307 = .ok (.iadd, 1) := by decide +kernel
theorem dL_law_308 : decode cL_law 308 = .ok (.iaload, 1) := by decide +kernel
theorem dL_law_309 : decode cL_law 309 = .ok (.aload_n 0, 1) := by decide +kernel
theorem dL_law_310 : decode cL_law 310 = .ok (.iload_n 3, 1) := by decide +kernel
theorem dL_law_311 : decode cL_law 311 = .ok (.iconst 2, 1) := by decide +kernel
theorem dL_law_312 : decode cL_law 312 = .ok (.iadd, 1) := by decide +kernel
theorem dL_law_313 : decode cL_law 313 = .ok (.iaload, 1) := by decide +kernel
theorem dL_law_314 : decode cL_law 314 = .ok (.aload_n 0, 1) := by decide +kernel
theorem dL_law_315 : decode cL_law 315 = .ok (.iload_n 3, 1) := by decide +kernel
theorem dL_law_316 : decode cL_law 316 = .ok (.iconst 3, 1) := by decide +kernel
theorem dL_law_317 : decode cL_law 317 = .ok (.iadd, 1) := by decide +kernel
theorem dL_law_318 : decode cL_law 318 = .ok (.iaload, 1) := by decide +kernel
theorem dL_law_319 : decode cL_law 319 = .ok (.invokevirtual 35, 3) := by decide +kernel
theorem dL_law_322 : decode cL_law 322 = .ok (.aload_n 2, 1) := by decide +kernel
theorem dL_law_323 : decode cL_law 323 = .ok (.aload_n 0, 1) := by decide +kernel
theorem dL_law_324 : decode cL_law 324 = .ok (.iload_n 3, 1) := by decide +kernel
theorem dL_law_325 : decode cL_law 325 = .ok (.iconst 1, 1) := by decide +kernel
theorem dL_law_326 : decode cL_law 326 = .ok (.iadd, 1) := by decide +kernel
theorem dL_law_327 : decode cL_law 327 = .ok (.iaload, 1) := by decide +kernel
theorem dL_law_328 : decode cL_law 328 = .ok (.aload_n 0, 1) := by decide +kernel
theorem dL_law_329 : decode cL_law 329 = .ok (.iload_n 3, 1) := by decide +kernel
theorem dL_law_330 : decode cL_law 330 = .ok (.iconst 2, 1) := by decide +kernel
theorem dL_law_331 : decode cL_law 331 = .ok (.iadd, 1) := by decide +kernel
theorem dL_law_332 : decode cL_law 332 = .ok (.iaload, 1) := by decide +kernel
theorem dL_law_333 : decode cL_law 333 = .ok (.aload_n 0, 1) := by decide +kernel
theorem dL_law_334 : decode cL_law 334 = .ok (.iload_n 3, 1) := by decide +kernel
theorem dL_law_335 : decode cL_law 335 = .ok (.iconst 3, 1) := by decide +kernel
theorem dL_law_336 : decode cL_law 336 = .ok (.iadd, 1) := by decide +kernel
theorem dL_law_337 : decode cL_law 337 = .ok (.iaload, 1) := by decide +kernel
theorem dL_law_338 : decode cL_law 338 = .ok (.invokevirtual 39, 3) := by decide +kernel
theorem dL_law_341 : decode cL_law 341 = .ok (.if_icmp .eq 513, 3) := by decide +kernel
theorem dL_law_344 : decode cL_law 344 = .ok (.iconst 0, 1) := by decide +kernel
theorem dL_law_345 : decode cL_law 345 = .ok (.ireturn, 1) := by decide +kernel
theorem dL_law_346 : decode cL_law 346 = .ok (.aload_n 1, 1) := by decide +kernel
theorem dL_law_347 : decode cL_law 347 = .ok (.aload_n 0, 1) := by decide +kernel
theorem dL_law_348 : decode cL_law 348 = .ok (.iload_n 3, 1) := by decide +kernel
theorem dL_law_349 : decode cL_law 349 = .ok (.iconst 1, 1) := by decide +kernel
theorem dL_law_350 : decode cL_law 350 = .ok (.iadd, 1) := by decide +kernel
theorem dL_law_351 : decode cL_law 351 = .ok (.iaload, 1) := by decide +kernel
theorem dL_law_352 : decode cL_law 352 = .ok (.aload_n 0, 1) := by decide +kernel
theorem dL_law_353 : decode cL_law 353 = .ok (.iload_n 3, 1) := by decide +kernel
theorem dL_law_354 : decode cL_law 354 = .ok (.iconst 2, 1) := by decide +kernel
theorem dL_law_355 : decode cL_law 355 = .ok (.iadd, 1) := by decide +kernel
theorem dL_law_356 : decode cL_law 356 = .ok (.iaload, 1) := by decide +kernel
theorem dL_law_357 : decode cL_law 357 = .ok (.aload_n 0, 1) := by decide +kernel
theorem dL_law_358 : decode cL_law 358 = .ok (.iload_n 3, 1) := by decide +kernel
theorem dL_law_359 : decode cL_law 359 = .ok (.iconst 3, 1) := by decide +kernel
theorem dL_law_360 : decode cL_law 360 = .ok (.iadd, 1) := by decide +kernel
theorem dL_law_361 : decode cL_law 361 = .ok (.iaload, 1) := by decide +kernel
theorem dL_law_362 : decode cL_law 362 = .ok (.invokevirtual 40, 3) := by decide +kernel
theorem dL_law_365 : decode cL_law 365 = .ok (.aload_n 2, 1) := by decide +kernel
theorem dL_law_366 : decode cL_law 366 = .ok (.aload_n 0, 1) := by decide +kernel
theorem dL_law_367 : decode cL_law 367 = .ok (.iload_n 3, 1) := by decide +kernel
theorem dL_law_368 : decode cL_law 368 = .ok (.iconst 1, 1) := by decide +kernel
theorem dL_law_369 : decode cL_law 369 = .ok (.iadd, 1) := by decide +kernel
theorem dL_law_370 : decode cL_law 370 = .ok (.iaload, 1) := by decide +kernel
theorem dL_law_371 : decode cL_law 371 = .ok (.aload_n 0, 1) := by decide +kernel
theorem dL_law_372 : decode cL_law 372 = .ok (.iload_n 3, 1) := by decide +kernel
theorem dL_law_373 : decode cL_law 373 = .ok (.iconst 2, 1) := by decide +kernel
theorem dL_law_374 : decode cL_law 374 = .ok (.iadd, 1) := by decide +kernel
theorem dL_law_375 : decode cL_law 375 = .ok (.iaload, 1) := by decide +kernel
theorem dL_law_376 : decode cL_law 376 = .ok (.aload_n 0, 1) := by decide +kernel
theorem dL_law_377 : decode cL_law 377 = .ok (.iload_n 3, 1) := by decide +kernel
theorem dL_law_378 : decode cL_law 378 = .ok (.iconst 3, 1) := by decide +kernel
theorem dL_law_379 : decode cL_law 379 = .ok (.iadd, 1) := by decide +kernel
theorem dL_law_380 : decode cL_law 380 = .ok (.iaload, 1) := by decide +kernel
theorem dL_law_381 : decode cL_law 381 = .ok (.invokevirtual 43, 3) := by decide +kernel
theorem dL_law_384 : decode cL_law 384 = .ok (.if_icmp .eq 470, 3) := by decide +kernel
theorem dL_law_387 : decode cL_law 387 = .ok (.iconst 0, 1) := by decide +kernel
theorem dL_law_388 : decode cL_law 388 = .ok (.ireturn, 1) := by decide +kernel
theorem dL_law_389 : decode cL_law 389 = .ok (.aload_n 1, 1) := by decide +kernel
theorem dL_law_390 : decode cL_law 390 = .ok (.aload_n 0, 1) := by decide +kernel
theorem dL_law_391 : decode cL_law 391 = .ok (.iload_n 3, 1) := by decide +kernel
theorem dL_law_392 : decode cL_law 392 = .ok (.iconst 1, 1) := by decide +kernel
theorem dL_law_393 : decode cL_law 393 = .ok (.iadd, 1) := by decide +kernel
theorem dL_law_394 : decode cL_law 394 = .ok (.iaload, 1) := by decide +kernel
theorem dL_law_395 : decode cL_law 395 = .ok (.aload_n 0, 1) := by decide +kernel
theorem dL_law_396 : decode cL_law 396 = .ok (.iload_n 3, 1) := by decide +kernel
theorem dL_law_397 : decode cL_law 397 = .ok (.iconst 2, 1) := by decide +kernel
theorem dL_law_398 : decode cL_law 398 = .ok (.iadd, 1) := by decide +kernel
theorem dL_law_399 : decode cL_law 399 = .ok (.iaload, 1) := by decide +kernel
theorem dL_law_400 : decode cL_law 400 = .ok (.invokevirtual 44, 3) := by decide +kernel
theorem dL_law_403 : decode cL_law 403 = .ok (.aload_n 2, 1) := by decide +kernel
theorem dL_law_404 : decode cL_law 404 = .ok (.aload_n 0, 1) := by decide +kernel
theorem dL_law_405 : decode cL_law 405 = .ok (.iload_n 3, 1) := by decide +kernel
theorem dL_law_406 : decode cL_law 406 = .ok (.iconst 1, 1) := by decide +kernel
theorem dL_law_407 : decode cL_law 407 = .ok (.iadd, 1) := by decide +kernel
theorem dL_law_408 : decode cL_law 408 = .ok (.iaload, 1) := by decide +kernel
theorem dL_law_409 : decode cL_law 409 = .ok (.aload_n 0, 1) := by decide +kernel
theorem dL_law_410 : decode cL_law 410 = .ok (.iload_n 3, 1) := by decide +kernel
theorem dL_law_411 : decode cL_law 411 = .ok (.iconst 2, 1) := by decide +kernel
theorem dL_law_412 : decode cL_law 412 = .ok (.iadd, 1) := by decide +kernel
theorem dL_law_413 : decode cL_law 413 = .ok (.iaload, 1) := by decide +kernel
theorem dL_law_414 : decode cL_law 414 = .ok (.invokevirtual 47, 3) := by decide +kernel
theorem dL_law_417 : decode cL_law 417 = .ok (.if_icmp .eq 437, 3) := by decide +kernel
theorem dL_law_420 : decode cL_law 420 = .ok (.iconst 0, 1) := by decide +kernel
theorem dL_law_421 : decode cL_law 421 = .ok (.ireturn, 1) := by decide +kernel
theorem dL_law_422 : decode cL_law 422 = .ok (.aload_n 1, 1) := by decide +kernel
theorem dL_law_423 : decode cL_law 423 = .ok (.aload_n 0, 1) := by decide +kernel
theorem dL_law_424 : decode cL_law 424 = .ok (.iload_n 3, 1) := by decide +kernel
theorem dL_law_425 : decode cL_law 425 = .ok (.iconst 1, 1) := by decide +kernel
theorem dL_law_426 : decode cL_law 426 = .ok (.iadd, 1) := by decide +kernel
theorem dL_law_427 : decode cL_law 427 = .ok (.iaload, 1) := by decide +kernel
theorem dL_law_428 : decode cL_law 428 = .ok (.aload_n 0, 1) := by decide +kernel
theorem dL_law_429 : decode cL_law 429 = .ok (.iload_n 3, 1) := by decide +kernel
theorem dL_law_430 : decode cL_law 430 = .ok (.iconst 2, 1) := by decide +kernel
theorem dL_law_431 : decode cL_law 431 = .ok (.iadd, 1) := by decide +kernel
theorem dL_law_432 : decode cL_law 432 = .ok (.iaload, 1) := by decide +kernel
theorem dL_law_433 : decode cL_law 433 = .ok (.aload_n 0, 1) := by decide +kernel
theorem dL_law_434 : decode cL_law 434 = .ok (.iload_n 3, 1) := by decide +kernel
theorem dL_law_435 : decode cL_law 435 = .ok (.iconst 3, 1) := by decide +kernel
theorem dL_law_436 : decode cL_law 436 = .ok (.iadd, 1) := by decide +kernel
theorem dL_law_437 : decode cL_law 437 = .ok (.iaload, 1) := by decide +kernel
theorem dL_law_438 : decode cL_law 438 = .ok (.invokevirtual 48, 3) := by decide +kernel
theorem dL_law_441 : decode cL_law 441 = .ok (.aload_n 2, 1) := by decide +kernel
theorem dL_law_442 : decode cL_law 442 = .ok (.aload_n 0, 1) := by decide +kernel
theorem dL_law_443 : decode cL_law 443 = .ok (.iload_n 3, 1) := by decide +kernel
theorem dL_law_444 : decode cL_law 444 = .ok (.iconst 1, 1) := by decide +kernel
theorem dL_law_445 : decode cL_law 445 = .ok (.iadd, 1) := by decide +kernel
theorem dL_law_446 : decode cL_law 446 = .ok (.iaload, 1) := by decide +kernel
theorem dL_law_447 : decode cL_law 447 = .ok (.aload_n 0, 1) := by decide +kernel
theorem dL_law_448 : decode cL_law 448 = .ok (.iload_n 3, 1) := by decide +kernel
theorem dL_law_449 : decode cL_law 449 = .ok (.iconst 2, 1) := by decide +kernel
theorem dL_law_450 : decode cL_law 450 = .ok (.iadd, 1) := by decide +kernel
theorem dL_law_451 : decode cL_law 451 = .ok (.iaload, 1) := by decide +kernel
theorem dL_law_452 : decode cL_law 452 = .ok (.aload_n 0, 1) := by decide +kernel
theorem dL_law_453 : decode cL_law 453 = .ok (.iload_n 3, 1) := by decide +kernel
theorem dL_law_454 : decode cL_law 454 = .ok (.iconst 3, 1) := by decide +kernel
theorem dL_law_455 : decode cL_law 455 = .ok (.iadd, 1) := by decide +kernel
theorem dL_law_456 : decode cL_law 456 = .ok (.iaload, 1) := by decide +kernel
theorem dL_law_457 : decode cL_law 457 = .ok (.invokevirtual 51, 3) := by decide +kernel
theorem dL_law_460 : decode cL_law 460 = .ok (.if_icmp .eq 394, 3) := by decide +kernel
theorem dL_law_463 : decode cL_law 463 = .ok (.iconst 0, 1) := by decide +kernel
theorem dL_law_464 : decode cL_law 464 = .ok (.ireturn, 1) := by decide +kernel
theorem dL_law_465 : decode cL_law 465 = .ok (.aload_n 1, 1) := by decide +kernel
theorem dL_law_466 : decode cL_law 466 = .ok (.aload_n 0, 1) := by decide +kernel
theorem dL_law_467 : decode cL_law 467 = .ok (.iload_n 3, 1) := by decide +kernel
theorem dL_law_468 : decode cL_law 468 = .ok (.iconst 1, 1) := by decide +kernel
theorem dL_law_469 : decode cL_law 469 = .ok (.iadd, 1) := by decide +kernel
theorem dL_law_470 : decode cL_law 470 = .ok (.iaload, 1) := by decide +kernel
theorem dL_law_471 : decode cL_law 471 = .ok (.invokevirtual 52, 3) := by decide +kernel
theorem dL_law_474 : decode cL_law 474 = .ok (.aload_n 2, 1) := by decide +kernel
theorem dL_law_475 : decode cL_law 475 = .ok (.aload_n 0, 1) := by decide +kernel
theorem dL_law_476 : decode cL_law 476 = .ok (.iload_n 3, 1) := by decide +kernel
theorem dL_law_477 : decode cL_law 477 = .ok (.iconst 1, 1) := by decide +kernel
theorem dL_law_478 : decode cL_law 478 = .ok (.iadd, 1) := by decide +kernel
theorem dL_law_479 : decode cL_law 479 = .ok (.iaload, 1) := by decide +kernel
theorem dL_law_480 : decode cL_law 480 = .ok (.invokevirtual 55, 3) := by decide +kernel
theorem dL_law_483 : decode cL_law 483 = .ok (.if_icmp .eq 371, 3) := by decide +kernel
theorem dL_law_486 : decode cL_law 486 = .ok (.iconst 0, 1) := by decide +kernel
theorem dL_law_487 : decode cL_law 487 = .ok (.ireturn, 1) := by decide +kernel
theorem dL_law_488 : decode cL_law 488 = .ok (.aload_n 1, 1) := by decide +kernel
theorem dL_law_489 : decode cL_law 489 = .ok (.aload_n 0, 1) := by decide +kernel
theorem dL_law_490 : decode cL_law 490 = .ok (.iload_n 3, 1) := by decide +kernel
theorem dL_law_491 : decode cL_law 491 = .ok (.iconst 1, 1) := by decide +kernel
theorem dL_law_492 : decode cL_law 492 = .ok (.iadd, 1) := by decide +kernel
theorem dL_law_493 : decode cL_law 493 = .ok (.iaload, 1) := by decide +kernel
theorem dL_law_494 : decode cL_law 494 = .ok (.invokevirtual 56, 3) := by decide +kernel
theorem dL_law_497 : decode cL_law 497 = .ok (.aload_n 2, 1) := by decide +kernel
theorem dL_law_498 : decode cL_law 498 = .ok (.aload_n 0, 1) := by decide +kernel
theorem dL_law_499 : decode cL_law 499 = .ok (.iload_n 3, 1) := by decide +kernel
theorem dL_law_500 : decode cL_law 500 = .ok (.iconst 1, 1) := by decide +kernel
theorem dL_law_501 : decode cL_law 501 = .ok (.iadd, 1) := by decide +kernel
theorem dL_law_502 : decode cL_law 502 = .ok (.iaload, 1) := by decide +kernel
theorem dL_law_503 : decode cL_law 503 = .ok (.invokevirtual 59, 3) := by decide +kernel
theorem dL_law_506 : decode cL_law 506 = .ok (.if_icmp .eq 348, 3) := by decide +kernel
theorem dL_law_509 : decode cL_law 509 = .ok (.iconst 0, 1) := by decide +kernel
theorem dL_law_510 : decode cL_law 510 = .ok (.ireturn, 1) := by decide +kernel
theorem dL_law_511 : decode cL_law 511 = .ok (.aload_n 1, 1) := by decide +kernel
theorem dL_law_512 : decode cL_law 512 = .ok (.aload_n 0, 1) := by decide +kernel
theorem dL_law_513 : decode cL_law 513 = .ok (.iload_n 3, 1) := by decide +kernel
theorem dL_law_514 : decode cL_law 514 = .ok (.iconst 1, 1) := by decide +kernel
theorem dL_law_515 : decode cL_law 515 = .ok (.iadd, 1) := by decide +kernel
theorem dL_law_516 : decode cL_law 516 = .ok (.iaload, 1) := by decide +kernel
theorem dL_law_517 : decode cL_law 517 = .ok (.invokevirtual 60, 3) := by decide +kernel
theorem dL_law_520 : decode cL_law 520 = .ok (.aload_n 2, 1) := by decide +kernel
theorem dL_law_521 : decode cL_law 521 = .ok (.aload_n 0, 1) := by decide +kernel
theorem dL_law_522 : decode cL_law 522 = .ok (.iload_n 3, 1) := by decide +kernel
theorem dL_law_523 : decode cL_law 523 = .ok (.iconst 1, 1) := by decide +kernel
theorem dL_law_524 : decode cL_law 524 = .ok (.iadd, 1) := by decide +kernel
theorem dL_law_525 : decode cL_law 525 = .ok (.iaload, 1) := by decide +kernel
theorem dL_law_526 : decode cL_law 526 = .ok (.invokevirtual 63, 3) := by decide +kernel
theorem dL_law_529 : decode cL_law 529 = .ok (.if_icmp .eq 325, 3) := by decide +kernel
theorem dL_law_532 : decode cL_law 532 = .ok (.iconst 0, 1) := by decide +kernel
theorem dL_law_533 : decode cL_law 533 = .ok (.ireturn, 1) := by decide +kernel
theorem dL_law_534 : decode cL_law 534 = .ok (.aload_n 1, 1) := by decide +kernel
theorem dL_law_535 : decode cL_law 535 = .ok (.aload_n 0, 1) := by decide +kernel
theorem dL_law_536 : decode cL_law 536 = .ok (.iload_n 3, 1) := by decide +kernel
theorem dL_law_537 : decode cL_law 537 = .ok (.iconst 1, 1) := by decide +kernel
theorem dL_law_538 : decode cL_law 538 = .ok (.iadd, 1) := by decide +kernel
theorem dL_law_539 : decode cL_law 539 = .ok (.iaload, 1) := by decide +kernel
theorem dL_law_540 : decode cL_law 540 = .ok (.aload_n 0, 1) := by decide +kernel
theorem dL_law_541 : decode cL_law 541 = .ok (.iload_n 3, 1) := by decide +kernel
theorem dL_law_542 : decode cL_law 542 = .ok (.iconst 2, 1) := by decide +kernel
theorem dL_law_543 : decode cL_law 543 = .ok (.iadd, 1) := by decide +kernel
theorem dL_law_544 : decode cL_law 544 = .ok (.iaload, 1) := by decide +kernel
theorem dL_law_545 : decode cL_law 545 = .ok (.invokevirtual 64, 3) := by decide +kernel
theorem dL_law_548 : decode cL_law 548 = .ok (.aload_n 2, 1) := by decide +kernel
theorem dL_law_549 : decode cL_law 549 = .ok (.aload_n 0, 1) := by decide +kernel
theorem dL_law_550 : decode cL_law 550 = .ok (.iload_n 3, 1) := by decide +kernel
theorem dL_law_551 : decode cL_law 551 = .ok (.iconst 1, 1) := by decide +kernel
theorem dL_law_552 : decode cL_law 552 = .ok (.iadd, 1) := by decide +kernel
theorem dL_law_553 : decode cL_law 553 = .ok (.iaload, 1) := by decide +kernel
theorem dL_law_554 : decode cL_law 554 = .ok (.aload_n 0, 1) := by decide +kernel
theorem dL_law_555 : decode cL_law 555 = .ok (.iload_n 3, 1) := by decide +kernel
theorem dL_law_556 : decode cL_law 556 = .ok (.iconst 2, 1) := by decide +kernel
theorem dL_law_557 : decode cL_law 557 = .ok (.iadd, 1) := by decide +kernel
theorem dL_law_558 : decode cL_law 558 = .ok (.iaload, 1) := by decide +kernel
theorem dL_law_559 : decode cL_law 559 = .ok (.invokevirtual 67, 3) := by decide +kernel
theorem dL_law_562 : decode cL_law 562 = .ok (.if_icmp .eq 292, 3) := by decide +kernel
theorem dL_law_565 : decode cL_law 565 = .ok (.iconst 0, 1) := by decide +kernel
theorem dL_law_566 : decode cL_law 566 = .ok (.ireturn, 1) := by decide +kernel
theorem dL_law_567 : decode cL_law 567 = .ok (.aload_n 1, 1) := by decide +kernel
theorem dL_law_568 : decode cL_law 568 = .ok (.aload_n 0, 1) := by decide +kernel
theorem dL_law_569 : decode cL_law 569 = .ok (.iload_n 3, 1) := by decide +kernel
theorem dL_law_570 : decode cL_law 570 = .ok (.iconst 1, 1) := by decide +kernel
theorem dL_law_571 : decode cL_law 571 = .ok (.iadd, 1) := by decide +kernel
theorem dL_law_572 : decode cL_law 572 = .ok (.iaload, 1) := by decide +kernel
theorem dL_law_573 : decode cL_law 573 = .ok (.aload_n 0, 1) := by decide +kernel
theorem dL_law_574 : decode cL_law 574 = .ok (.iload_n 3, 1) := by decide +kernel
theorem dL_law_575 : decode cL_law 575 = .ok (.iconst 2, 1) := by decide +kernel
theorem dL_law_576 : decode cL_law 576 = .ok (.iadd, 1) := by decide +kernel
theorem dL_law_577 : decode cL_law 577 = .ok (.iaload, 1) := by decide +kernel
theorem dL_law_578 : decode cL_law 578 = .ok (.invokevirtual 68, 3) := by decide +kernel
theorem dL_law_581 : decode cL_law 581 = .ok (.aload_n 2, 1) := by decide +kernel
theorem dL_law_582 : decode cL_law 582 = .ok (.aload_n 0, 1) := by decide +kernel
theorem dL_law_583 : decode cL_law 583 = .ok (.iload_n 3, 1) := by decide +kernel
theorem dL_law_584 : decode cL_law 584 = .ok (.iconst 1, 1) := by decide +kernel
theorem dL_law_585 : decode cL_law 585 = .ok (.iadd, 1) := by decide +kernel
theorem dL_law_586 : decode cL_law 586 = .ok (.iaload, 1) := by decide +kernel
theorem dL_law_587 : decode cL_law 587 = .ok (.aload_n 0, 1) := by decide +kernel
theorem dL_law_588 : decode cL_law 588 = .ok (.iload_n 3, 1) := by decide +kernel
theorem dL_law_589 : decode cL_law 589 = .ok (.iconst 2, 1) := by decide +kernel
theorem dL_law_590 : decode cL_law 590 = .ok (.iadd, 1) := by decide +kernel
theorem dL_law_591 : decode cL_law 591 = .ok (.iaload, 1) := by decide +kernel
theorem dL_law_592 : decode cL_law 592 = .ok (.invokevirtual 71, 3) := by decide +kernel
theorem dL_law_595 : decode cL_law 595 = .ok (.if_icmp .eq 259, 3) := by decide +kernel
theorem dL_law_598 : decode cL_law 598 = .ok (.iconst 0, 1) := by decide +kernel
theorem dL_law_599 : decode cL_law 599 = .ok (.ireturn, 1) := by decide +kernel
theorem dL_law_600 : decode cL_law 600 = .ok (.aload_n 1, 1) := by decide +kernel
theorem dL_law_601 : decode cL_law 601 = .ok (.aload_n 0, 1) := by decide +kernel
theorem dL_law_602 : decode cL_law 602 = .ok (.iload_n 3, 1) := by decide +kernel
theorem dL_law_603 : decode cL_law 603 = .ok (.iconst 1, 1) := by decide +kernel
theorem dL_law_604 : decode cL_law 604 = .ok (.iadd, 1) := by decide +kernel
theorem dL_law_605 : decode cL_law 605 = .ok (.iaload, 1) := by decide +kernel
theorem dL_law_606 : decode cL_law 606 = .ok (.aload_n 0, 1) := by decide +kernel
theorem dL_law_607 : decode cL_law 607 = .ok (.iload_n 3, 1) := by decide +kernel
theorem dL_law_608 : decode cL_law 608 = .ok (.iconst 2, 1) := by decide +kernel
theorem dL_law_609 : decode cL_law 609 = .ok (.iadd, 1) := by decide +kernel
theorem dL_law_610 : decode cL_law 610 = .ok (.iaload, 1) := by decide +kernel
theorem dL_law_611 : decode cL_law 611 = .ok (.invokevirtual 72, 3) := by decide +kernel
theorem dL_law_614 : decode cL_law 614 = .ok (.aload_n 2, 1) := by decide +kernel
theorem dL_law_615 : decode cL_law 615 = .ok (.aload_n 0, 1) := by decide +kernel
theorem dL_law_616 : decode cL_law 616 = .ok (.iload_n 3, 1) := by decide +kernel
theorem dL_law_617 : decode cL_law 617 = .ok (.iconst 1, 1) := by decide +kernel
theorem dL_law_618 : decode cL_law 618 = .ok (.iadd, 1) := by decide +kernel
theorem dL_law_619 : decode cL_law 619 = .ok (.iaload, 1) := by decide +kernel
theorem dL_law_620 : decode cL_law 620 = .ok (.aload_n 0, 1) := by decide +kernel
theorem dL_law_621 : decode cL_law 621 = .ok (.iload_n 3, 1) := by decide +kernel
theorem dL_law_622 : decode cL_law 622 = .ok (.iconst 2, 1) := by decide +kernel
theorem dL_law_623 : decode cL_law 623 = .ok (.iadd, 1) := by decide +kernel
theorem dL_law_624 : decode cL_law 624 = .ok (.iaload, 1) := by decide +kernel
theorem dL_law_625 : decode cL_law 625 = .ok (.invokevirtual 75, 3) := by decide +kernel
theorem dL_law_628 : decode cL_law 628 = .ok (.if_icmp .eq 226, 3) := by decide +kernel
theorem dL_law_631 : decode cL_law 631 = .ok (.iconst 0, 1) := by decide +kernel
theorem dL_law_632 : decode cL_law 632 = .ok (.ireturn, 1) := by decide +kernel
theorem dL_law_633 : decode cL_law 633 = .ok (.aload_n 1, 1) := by decide +kernel
theorem dL_law_634 : decode cL_law 634 = .ok (.aload_n 0, 1) := by decide +kernel
theorem dL_law_635 : decode cL_law 635 = .ok (.iload_n 3, 1) := by decide +kernel
theorem dL_law_636 : decode cL_law 636 = .ok (.iconst 1, 1) := by decide +kernel
theorem dL_law_637 : decode cL_law 637 = .ok (.iadd, 1) := by decide +kernel
theorem dL_law_638 : decode cL_law 638 = .ok (.iaload, 1) := by decide +kernel
theorem dL_law_639 : decode cL_law 639 = .ok (.aload_n 0, 1) := by decide +kernel
theorem dL_law_640 : decode cL_law 640 = .ok (.iload_n 3, 1) := by decide +kernel
theorem dL_law_641 : decode cL_law 641 = .ok (.iconst 2, 1) := by decide +kernel
theorem dL_law_642 : decode cL_law 642 = .ok (.iadd, 1) := by decide +kernel
theorem dL_law_643 : decode cL_law 643 = .ok (.iaload, 1) := by decide +kernel
theorem dL_law_644 : decode cL_law 644 = .ok (.invokevirtual 76, 3) := by decide +kernel
theorem dL_law_647 : decode cL_law 647 = .ok (.aload_n 2, 1) := by decide +kernel
theorem dL_law_648 : decode cL_law 648 = .ok (.aload_n 0, 1) := by decide +kernel
theorem dL_law_649 : decode cL_law 649 = .ok (.iload_n 3, 1) := by decide +kernel
theorem dL_law_650 : decode cL_law 650 = .ok (.iconst 1, 1) := by decide +kernel
theorem dL_law_651 : decode cL_law 651 = .ok (.iadd, 1) := by decide +kernel
theorem dL_law_652 : decode cL_law 652 = .ok (.iaload, 1) := by decide +kernel
theorem dL_law_653 : decode cL_law 653 = .ok (.aload_n 0, 1) := by decide +kernel
theorem dL_law_654 : decode cL_law 654 = .ok (.iload_n 3, 1) := by decide +kernel
theorem dL_law_655 : decode cL_law 655 = .ok (.iconst 2, 1) := by decide +kernel
theorem dL_law_656 : decode cL_law 656 = .ok (.iadd, 1) := by decide +kernel
theorem dL_law_657 : decode cL_law 657 = .ok (.iaload, 1) := by decide +kernel
theorem dL_law_658 : decode cL_law 658 = .ok (.invokevirtual 79, 3) := by decide +kernel
theorem dL_law_661 : decode cL_law 661 = .ok (.if_icmp .eq 193, 3) := by decide +kernel
theorem dL_law_664 : decode cL_law 664 = .ok (.iconst 0, 1) := by decide +kernel
theorem dL_law_665 : decode cL_law 665 = .ok (.ireturn, 1) := by decide +kernel
theorem dL_law_666 : decode cL_law 666 = .ok (.aload_n 1, 1) := by decide +kernel
theorem dL_law_667 : decode cL_law 667 = .ok (.aload_n 0, 1) := by decide +kernel
theorem dL_law_668 : decode cL_law 668 = .ok (.iload_n 3, 1) := by decide +kernel
theorem dL_law_669 : decode cL_law 669 = .ok (.iconst 1, 1) := by decide +kernel
theorem dL_law_670 : decode cL_law 670 = .ok (.iadd, 1) := by decide +kernel
theorem dL_law_671 : decode cL_law 671 = .ok (.iaload, 1) := by decide +kernel
theorem dL_law_672 : decode cL_law 672 = .ok (.aload_n 0, 1) := by decide +kernel
theorem dL_law_673 : decode cL_law 673 = .ok (.iload_n 3, 1) := by decide +kernel
theorem dL_law_674 : decode cL_law 674 = .ok (.iconst 2, 1) := by decide +kernel
theorem dL_law_675 : decode cL_law 675 = .ok (.iadd, 1) := by decide +kernel
theorem dL_law_676 : decode cL_law 676 = .ok (.iaload, 1) := by decide +kernel
theorem dL_law_677 : decode cL_law 677 = .ok (.aload_n 0, 1) := by decide +kernel
theorem dL_law_678 : decode cL_law 678 = .ok (.iload_n 3, 1) := by decide +kernel
theorem dL_law_679 : decode cL_law 679 = .ok (.iconst 3, 1) := by decide +kernel
theorem dL_law_680 : decode cL_law 680 = .ok (.iadd, 1) := by decide +kernel
theorem dL_law_681 : decode cL_law 681 = .ok (.iaload, 1) := by decide +kernel
theorem dL_law_682 : decode cL_law 682 = .ok (.invokevirtual 80, 3) := by decide +kernel
theorem dL_law_685 : decode cL_law 685 = .ok (.aload_n 2, 1) := by decide +kernel
theorem dL_law_686 : decode cL_law 686 = .ok (.aload_n 0, 1) := by decide +kernel
theorem dL_law_687 : decode cL_law 687 = .ok (.iload_n 3, 1) := by decide +kernel
theorem dL_law_688 : decode cL_law 688 = .ok (.iconst 1, 1) := by decide +kernel
theorem dL_law_689 : decode cL_law 689 = .ok (.iadd, 1) := by decide +kernel
theorem dL_law_690 : decode cL_law 690 = .ok (.iaload, 1) := by decide +kernel
theorem dL_law_691 : decode cL_law 691 = .ok (.aload_n 0, 1) := by decide +kernel
theorem dL_law_692 : decode cL_law 692 = .ok (.iload_n 3, 1) := by decide +kernel
theorem dL_law_693 : decode cL_law 693 = .ok (.iconst 2, 1) := by decide +kernel
theorem dL_law_694 : decode cL_law 694 = .ok (.iadd, 1) := by decide +kernel
theorem dL_law_695 : decode cL_law 695 = .ok (.iaload, 1) := by decide +kernel
theorem dL_law_696 : decode cL_law 696 = .ok (.aload_n 0, 1) := by decide +kernel
theorem dL_law_697 : decode cL_law 697 = .ok (.iload_n 3, 1) := by decide +kernel
theorem dL_law_698 : decode cL_law 698 = .ok (.iconst 3, 1) := by decide +kernel
theorem dL_law_699 : decode cL_law 699 = .ok (.iadd, 1) := by decide +kernel
theorem dL_law_700 : decode cL_law 700 = .ok (.iaload, 1) := by decide +kernel
theorem dL_law_701 : decode cL_law 701 = .ok (.invokevirtual 83, 3) := by decide +kernel
theorem dL_law_704 : decode cL_law 704 = .ok (.if_icmp .eq 150, 3) := by decide +kernel
theorem dL_law_707 : decode cL_law 707 = .ok (.iconst 0, 1) := by decide +kernel
theorem dL_law_708 : decode cL_law 708 = .ok (.ireturn, 1) := by decide +kernel
theorem dL_law_709 : decode cL_law 709 = .ok (.aload_n 1, 1) := by decide +kernel
theorem dL_law_710 : decode cL_law 710 = .ok (.aload_n 0, 1) := by decide +kernel
theorem dL_law_711 : decode cL_law 711 = .ok (.iload_n 3, 1) := by decide +kernel
theorem dL_law_712 : decode cL_law 712 = .ok (.iconst 1, 1) := by decide +kernel
theorem dL_law_713 : decode cL_law 713 = .ok (.iadd, 1) := by decide +kernel
theorem dL_law_714 : decode cL_law 714 = .ok (.iaload, 1) := by decide +kernel
theorem dL_law_715 : decode cL_law 715 = .ok (.invokevirtual 84, 3) := by decide +kernel
theorem dL_law_718 : decode cL_law 718 = .ok (.aload_n 2, 1) := by decide +kernel
theorem dL_law_719 : decode cL_law 719 = .ok (.aload_n 0, 1) := by decide +kernel
theorem dL_law_720 : decode cL_law 720 = .ok (.iload_n 3, 1) := by decide +kernel
theorem dL_law_721 : decode cL_law 721 = .ok (.iconst 1, 1) := by decide +kernel
theorem dL_law_722 : decode cL_law 722 = .ok (.iadd, 1) := by decide +kernel
theorem dL_law_723 : decode cL_law 723 = .ok (.iaload, 1) := by decide +kernel
theorem dL_law_724 : decode cL_law 724 = .ok (.invokevirtual 87, 3) := by decide +kernel
theorem dL_law_727 : decode cL_law 727 = .ok (.if_icmp .eq 127, 3) := by decide +kernel
theorem dL_law_730 : decode cL_law 730 = .ok (.iconst 0, 1) := by decide +kernel
theorem dL_law_731 : decode cL_law 731 = .ok (.ireturn, 1) := by decide +kernel
theorem dL_law_732 : decode cL_law 732 = .ok (.aload_n 1, 1) := by decide +kernel
theorem dL_law_733 : decode cL_law 733 = .ok (.aload_n 0, 1) := by decide +kernel
theorem dL_law_734 : decode cL_law 734 = .ok (.iload_n 3, 1) := by decide +kernel
theorem dL_law_735 : decode cL_law 735 = .ok (.iconst 1, 1) := by decide +kernel
theorem dL_law_736 : decode cL_law 736 = .ok (.iadd, 1) := by decide +kernel
theorem dL_law_737 : decode cL_law 737 = .ok (.iaload, 1) := by decide +kernel
theorem dL_law_738 : decode cL_law 738 = .ok (.invokevirtual 88, 3) := by decide +kernel
theorem dL_law_741 : decode cL_law 741 = .ok (.aload_n 2, 1) := by decide +kernel
theorem dL_law_742 : decode cL_law 742 = .ok (.aload_n 0, 1) := by decide +kernel
theorem dL_law_743 : decode cL_law 743 = .ok (.iload_n 3, 1) := by decide +kernel
theorem dL_law_744 : decode cL_law 744 = .ok (.iconst 1, 1) := by decide +kernel
theorem dL_law_745 : decode cL_law 745 = .ok (.iadd, 1) := by decide +kernel
theorem dL_law_746 : decode cL_law 746 = .ok (.iaload, 1) := by decide +kernel
theorem dL_law_747 : decode cL_law 747 = .ok (.invokevirtual 91, 3) := by decide +kernel
theorem dL_law_750 : decode cL_law 750 = .ok (.if_icmp .eq 104, 3) := by decide +kernel
theorem dL_law_753 : decode cL_law 753 = .ok (.iconst 0, 1) := by decide +kernel
theorem dL_law_754 : decode cL_law 754 = .ok (.ireturn, 1) := by decide +kernel
theorem dL_law_755 : decode cL_law 755 = .ok (.aload_n 1, 1) := by decide +kernel
theorem dL_law_756 : decode cL_law 756 = .ok (.aload_n 0, 1) := by decide +kernel
theorem dL_law_757 : decode cL_law 757 = .ok (.iload_n 3, 1) := by decide +kernel
theorem dL_law_758 : decode cL_law 758 = .ok (.iconst 1, 1) := by decide +kernel
theorem dL_law_759 : decode cL_law 759 = .ok (.iadd, 1) := by decide +kernel
theorem dL_law_760 : decode cL_law 760 = .ok (.iaload, 1) := by decide +kernel
theorem dL_law_761 : decode cL_law 761 = .ok (.invokevirtual 92, 3) := by decide +kernel
theorem dL_law_764 : decode cL_law 764 = .ok (.aload_n 2, 1) := by decide +kernel
theorem dL_law_765 : decode cL_law 765 = .ok (.aload_n 0, 1) := by decide +kernel
theorem dL_law_766 : decode cL_law 766 = .ok (.iload_n 3, 1) := by decide +kernel
theorem dL_law_767 : decode cL_law 767 = .ok (.iconst 1, 1) := by decide +kernel
theorem dL_law_768 : decode cL_law 768 = .ok (.iadd, 1) := by decide +kernel
theorem dL_law_769 : decode cL_law 769 = .ok (.iaload, 1) := by decide +kernel
theorem dL_law_770 : decode cL_law 770 = .ok (.invokevirtual 95, 3) := by decide +kernel
theorem dL_law_773 : decode cL_law 773 = .ok (.if_icmp .eq 81, 3) := by decide +kernel
theorem dL_law_776 : decode cL_law 776 = .ok (.iconst 0, 1) := by decide +kernel
theorem dL_law_777 : decode cL_law 777 = .ok (.ireturn, 1) := by decide +kernel
theorem dL_law_778 : decode cL_law 778 = .ok (.aload_n 1, 1) := by decide +kernel
theorem dL_law_779 : decode cL_law 779 = .ok (.aload_n 0, 1) := by decide +kernel
theorem dL_law_780 : decode cL_law 780 = .ok (.iload_n 3, 1) := by decide +kernel
theorem dL_law_781 : decode cL_law 781 = .ok (.iconst 1, 1) := by decide +kernel
theorem dL_law_782 : decode cL_law 782 = .ok (.iadd, 1) := by decide +kernel
theorem dL_law_783 : decode cL_law 783 = .ok (.iaload, 1) := by decide +kernel
theorem dL_law_784 : decode cL_law 784 = .ok (.invokevirtual 96, 3) := by decide +kernel
theorem dL_law_787 : decode cL_law 787 = .ok (.aload_n 2, 1) := by decide +kernel
theorem dL_law_788 : decode cL_law 788 = .ok (.aload_n 0, 1) := by decide +kernel
theorem dL_law_789 : decode cL_law 789 = .ok (.iload_n 3, 1) := by decide +kernel
theorem dL_law_790 : decode cL_law 790 = .ok (.iconst 1, 1) := by decide +kernel
theorem dL_law_791 : decode cL_law 791 = .ok (.iadd, 1) := by decide +kernel
theorem dL_law_792 : decode cL_law 792 = .ok (.iaload, 1) := by decide +kernel
theorem dL_law_793 : decode cL_law 793 = .ok (.invokevirtual 99, 3) := by decide +kernel
theorem dL_law_796 : decode cL_law 796 = .ok (.if_icmp .eq 58, 3) := by decide +kernel
theorem dL_law_799 : decode cL_law 799 = .ok (.iconst 0, 1) := by decide +kernel
theorem dL_law_800 : decode cL_law 800 = .ok (.ireturn, 1) := by decide +kernel
theorem dL_law_801 : decode cL_law 801 = .ok (.aload_n 1, 1) := by decide +kernel
theorem dL_law_802 : decode cL_law 802 = .ok (.invokevirtual 100, 3) := by decide +kernel
theorem dL_law_805 : decode cL_law 805 = .ok (.aload_n 2, 1) := by decide +kernel
theorem dL_law_806 : decode cL_law 806 = .ok (.invokevirtual 104, 3) := by decide +kernel
theorem dL_law_809 : decode cL_law 809 = .ok (.if_icmp .eq 45, 3) := by decide +kernel
theorem dL_law_812 : decode cL_law 812 = .ok (.iconst 0, 1) := by decide +kernel
theorem dL_law_813 : decode cL_law 813 = .ok (.ireturn, 1) := by decide +kernel
theorem dL_law_814 : decode cL_law 814 = .ok (.aload_n 1, 1) := by decide +kernel
theorem dL_law_815 : decode cL_law 815 = .ok (.invokevirtual 105, 3) := by decide +kernel
theorem dL_law_818 : decode cL_law 818 = .ok (.aload_n 2, 1) := by decide +kernel
theorem dL_law_819 : decode cL_law 819 = .ok (.invokevirtual 108, 3) := by decide +kernel
theorem dL_law_822 : decode cL_law 822 = .ok (.if_icmp .eq 32, 3) := by decide +kernel
theorem dL_law_825 : decode cL_law 825 = .ok (.iconst 0, 1) := by decide +kernel
theorem dL_law_826 : decode cL_law 826 = .ok (.ireturn, 1) := by decide +kernel
theorem dL_law_827 : decode cL_law 827 = .ok (.aload_n 1, 1) := by decide +kernel
theorem dL_law_828 : decode cL_law 828 = .ok (.invokevirtual 109, 3) := by decide +kernel
theorem dL_law_831 : decode cL_law 831 = .ok (.aload_n 2, 1) := by decide +kernel
theorem dL_law_832 : decode cL_law 832 = .ok (.invokevirtual 112, 3) := by decide +kernel
theorem dL_law_835 : decode cL_law 835 = .ok (.if_icmp .eq 19, 3) := by decide +kernel
theorem dL_law_838 : decode cL_law 838 = .ok (.iconst 0, 1) := by decide +kernel
theorem dL_law_839 : decode cL_law 839 = .ok (.ireturn, 1) := by decide +kernel
theorem dL_law_840 : decode cL_law 840 = .ok (.aload_n 1, 1) := by decide +kernel
theorem dL_law_841 : decode cL_law 841 = .ok (.invokevirtual 113, 3) := by decide +kernel
theorem dL_law_844 : decode cL_law 844 = .ok (.aload_n 2, 1) := by decide +kernel
theorem dL_law_845 : decode cL_law 845 = .ok (.invokevirtual 117, 3) := by decide +kernel
theorem dL_law_848 : decode cL_law 848 = .ok (.lcmp, 1) := by decide +kernel
theorem dL_law_849 : decode cL_law 849 = .ok (.ifCond .eq 5, 3) := by decide +kernel
theorem dL_law_852 : decode cL_law 852 = .ok (.iconst 0, 1) := by decide +kernel
theorem dL_law_853 : decode cL_law 853 = .ok (.ireturn, 1) := by decide +kernel
theorem dL_law_854 : decode cL_law 854 = .ok (.iinc 3 4, 3) := by decide +kernel
theorem dL_law_857 : decode cL_law 857 = .ok (.goto (-839), 3) := by decide +kernel
theorem dL_law_860 : decode cL_law 860 = .ok (.iconst 1, 1) := by decide +kernel
theorem dL_law_861 : decode cL_law 861 = .ok (.ireturn, 1) := by decide +kernel
end
section
set_option maxRecDepth 20000 in
theorem lwi_1 : wsL_law_r1 = [95, 96, 84, 828, 829, 92, 97, 98, 99, 100, 101, 102, 103, 104, 85, 281, 148, 149, 86, 282, 185, 186, 88, 283].filterMap (fun i => lw_tbl[i]?) := by decide +kernel
set_option maxRecDepth 20000 in
theorem lwi_2 : wsL_law_r2 = [201, 202, 89, 284, 239, 240, 90, 285, 259, 260, 91, 286, 105, 106, 107, 108, 147, 109, 110, 111, 112, 113, 114, 115].filterMap (fun i => lw_tbl[i]?) := by decide +kernel
set_option maxRecDepth 20000 in
theorem lwi_3 : wsL_law_r3 = [123, 150, 151, 152, 153, 154, 172, 156, 87, 173, 174, 157, 158, 159, 160, 161, 162, 187, 188, 189, 190, 191, 192, 193].filterMap (fun i => lw_tbl[i]?) := by decide +kernel
set_option maxRecDepth 20000 in
theorem lwi_4 : wsL_law_r4 = [203, 204, 205, 206, 207, 208, 209, 241, 242, 243, 244, 245, 248, 247, 261, 262, 263, 264, 265, 830, 831, 832, 833, 834].filterMap (fun i => lw_tbl[i]?) := by decide +kernel
set_option maxRecDepth 20000 in
theorem lwi_5 : wsL_law_r5 = [835, 836, 838, 839, 840, 842, 843, 845, 846, 847, 300, 301, 302, 303, 304, 305, 306, 307, 308, 310, 0, 311, 249, 312].filterMap (fun i => lw_tbl[i]?) := by decide +kernel
set_option maxRecDepth 20000 in
theorem lwi_6 : wsL_law_r6 = [313, 93, 314, 315, 316, 317, 318, 319, 321, 320, 94, 117, 119, 322, 323, 324, 325, 116, 327, 328, 329, 330, 331, 332].filterMap (fun i => lw_tbl[i]?) := by decide +kernel
set_option maxRecDepth 20000 in
theorem lwi_7 : wsL_law_r7 = [333, 334, 335, 336, 337, 338, 339, 340, 341, 342, 343, 344, 345, 347, 1, 348, 349, 350, 351, 352, 250, 353, 354, 355].filterMap (fun i => lw_tbl[i]?) := by decide +kernel
set_option maxRecDepth 20000 in
theorem lwi_8 : wsL_law_r8 = [356, 266, 268, 270, 896, 897, 898, 899, 900, 902, 30, 903, 904, 906, 31, 907, 908, 910, 32, 911, 912, 914, 33, 915].filterMap (fun i => lw_tbl[i]?) := by decide +kernel
set_option maxRecDepth 20000 in
theorem lwi_9 : wsL_law_r9 = [916, 917, 918, 919, 920, 921, 922, 923, 924, 925, 927, 34, 928, 929, 931, 35, 932, 933, 935, 36, 936, 937, 939, 37].filterMap (fun i => lw_tbl[i]?) := by decide +kernel
set_option maxRecDepth 20000 in
theorem lwi_10 : wsL_law_r10 = [940, 941, 943, 38, 944, 945, 947, 39, 948, 949, 951, 40, 952, 953, 955, 41, 956, 957, 958, 959, 960, 962, 42, 963].filterMap (fun i => lw_tbl[i]?) := by decide +kernel
set_option maxRecDepth 20000 in
theorem lwi_11 : wsL_law_r11 = [964, 965, 967, 43, 968, 969, 971, 44, 972, 973, 974, 976, 45, 977, 978, 980, 46, 981, 982, 984, 47, 985, 986, 988].filterMap (fun i => lw_tbl[i]?) := by decide +kernel
set_option maxRecDepth 20000 in
theorem lwi_12 : wsL_law_r12 = [48, 989, 990, 992, 49, 993, 994, 995, 996, 997, 999, 50, 1000, 1001, 1003, 51, 1004, 1005, 1007, 52, 1008, 1009, 1011, 53].filterMap (fun i => lw_tbl[i]?) := by decide +kernel
set_option maxRecDepth 20000 in
theorem lwi_13 : wsL_law_r13 = [1012, 844, 1013, 1015, 54, 1016, 1017, 1019, 55, 1020, 1021, 1023, 56, 1024, 1025, 1027, 57, 1028, 1029, 1031, 58, 1032, 1033, 1035].filterMap (fun i => lw_tbl[i]?) := by decide +kernel
set_option maxRecDepth 20000 in
theorem lwi_14 : wsL_law_r14 = [59, 1036, 837, 1037, 1039, 60, 1040, 357, 358, 359, 360, 361, 362, 363, 364, 365, 367, 2, 368, 369, 371, 3, 372, 373].filterMap (fun i => lw_tbl[i]?) := by decide +kernel
set_option maxRecDepth 20000 in
theorem lwi_15 : wsL_law_r15 = [374, 375, 376, 377, 378, 379, 380, 381, 382, 383, 384, 385, 386, 387, 388, 389, 390, 391, 392, 393, 394, 395, 396, 1041].filterMap (fun i => lw_tbl[i]?) := by decide +kernel
set_option maxRecDepth 20000 in
theorem lwi_16 : wsL_law_r16 = [1042, 1043, 1044, 397, 398, 399, 400, 401, 402, 403, 404, 405, 406, 407, 408, 409, 1045, 1046, 1047, 1048, 410, 411, 412, 413].filterMap (fun i => lw_tbl[i]?) := by decide +kernel
set_option maxRecDepth 20000 in
theorem lwi_17 : wsL_law_r17 = [414, 415, 416, 417, 418, 1049, 1050, 1051, 1052, 419, 420, 421, 422, 423, 424, 425, 426, 427, 429, 4, 430, 431, 432, 434].filterMap (fun i => lw_tbl[i]?) := by decide +kernel
set_option maxRecDepth 20000 in
theorem lwi_18 : wsL_law_r18 = [5, 435, 436, 437, 438, 439, 1053, 1054, 1055, 1056, 440, 441, 442, 443, 444, 445, 446, 447, 448, 450, 6, 451, 452, 454].filterMap (fun i => lw_tbl[i]?) := by decide +kernel
set_option maxRecDepth 20000 in
theorem lwi_19 : wsL_law_r19 = [7, 455, 456, 458, 8, 459, 460, 461, 462, 463, 464, 466, 467, 468, 470, 9, 471, 473, 474, 1057, 1058, 1059, 1060, 475].filterMap (fun i => lw_tbl[i]?) := by decide +kernel
set_option maxRecDepth 20000 in
theorem lwi_20 : wsL_law_r20 = [476, 477, 478, 479, 480, 481, 482, 483, 485, 10, 486, 488, 489, 491, 492, 1061, 1062, 1063, 1064, 493, 494, 495, 496, 497].filterMap (fun i => lw_tbl[i]?) := by decide +kernel
set_option maxRecDepth 20000 in
theorem lwi_21 : wsL_law_r21 = [498, 499, 500, 501, 502, 503, 1065, 1066, 1067, 1068, 1069, 1071, 61, 1072, 504, 505, 506, 507, 508, 509, 510, 511, 512, 514].filterMap (fun i => lw_tbl[i]?) := by decide +kernel
set_option maxRecDepth 20000 in
theorem lwi_22 : wsL_law_r22 = [11, 515, 516, 518, 12, 519, 1073, 1074, 1075, 1076, 520, 521, 522, 523, 524, 525, 526, 527, 122, 528, 529, 530, 531, 175].filterMap (fun i => lw_tbl[i]?) := by decide +kernel
set_option maxRecDepth 20000 in
theorem lwi_23 : wsL_law_r23 = [532, 534, 13, 535, 536, 538, 14, 539, 540, 541, 544, 545, 546, 547, 548, 549, 550, 551, 552, 120, 553, 554, 555, 556].filterMap (fun i => lw_tbl[i]?) := by decide +kernel
set_option maxRecDepth 20000 in
theorem lwi_24 : wsL_law_r24 = [557, 558, 559, 560, 163, 561, 562, 563, 564, 565, 567, 15, 568, 571, 572, 573, 574, 575, 576, 577, 578, 579, 580, 581].filterMap (fun i => lw_tbl[i]?) := by decide +kernel
set_option maxRecDepth 20000 in
theorem lwi_25 : wsL_law_r25 = [582, 583, 584, 585, 586, 587, 588, 589, 590, 1077, 1078, 1079, 1080, 591, 592, 593, 594, 595, 596, 597, 598, 1081, 1082, 1083].filterMap (fun i => lw_tbl[i]?) := by decide +kernel
set_option maxRecDepth 20000 in
theorem lwi_26 : wsL_law_r26 = [1084, 1085, 1087, 62, 1088, 599, 600, 601, 602, 603, 604, 605, 606, 124, 1089, 1090, 1091, 1092, 607, 608, 609, 610, 611, 612].filterMap (fun i => lw_tbl[i]?) := by decide +kernel
set_option maxRecDepth 20000 in
theorem lwi_27 : wsL_law_r27 = [613, 614, 1093, 1094, 1095, 1096, 1097, 1099, 63, 1100, 616, 617, 618, 619, 620, 621, 622, 623, 624, 625, 626, 627, 628, 629].filterMap (fun i => lw_tbl[i]?) := by decide +kernel
set_option maxRecDepth 20000 in
theorem lwi_28 : wsL_law_r28 = [630, 632, 16, 633, 634, 635, 636, 638, 17, 639, 1101, 1102, 1103, 1104, 1105, 1107, 64, 1108, 1109, 1111, 65, 1112, 1113, 1115].filterMap (fun i => lw_tbl[i]?) := by decide +kernel
set_option maxRecDepth 20000 in
theorem lwi_29 : wsL_law_r29 = [66, 1116, 1117, 1119, 67, 1120, 641, 642, 643, 644, 645, 646, 1121, 1122, 1123, 1124, 647, 648, 649, 650, 651, 652, 653, 654].filterMap (fun i => lw_tbl[i]?) := by decide +kernel
set_option maxRecDepth 20000 in
theorem lwi_30 : wsL_law_r30 = [655, 656, 657, 658, 659, 660, 661, 662, 663, 664, 665, 666, 667, 1125, 1126, 1127, 1128, 1129, 1131, 68, 1132, 1133, 1135, 69].filterMap (fun i => lw_tbl[i]?) := by decide +kernel
set_option maxRecDepth 20000 in
theorem lwi_31 : wsL_law_r31 = [1136, 669, 670, 671, 672, 673, 674, 675, 676, 677, 678, 1137, 1138, 1139, 1140, 679, 680, 681, 682, 121, 683, 684, 685, 1141].filterMap (fun i => lw_tbl[i]?) := by decide +kernel
set_option maxRecDepth 20000 in
theorem lwi_32 : wsL_law_r32 = [1142, 1143, 1144, 686, 687, 688, 689, 690, 692, 18, 693, 118, 125, 267, 269, 271, 211, 251, 694, 695, 696, 697, 698, 699].filterMap (fun i => lw_tbl[i]?) := by decide +kernel
set_option maxRecDepth 20000 in
theorem lwi_33 : wsL_law_r33 = [700, 701, 702, 1145, 1146, 1147, 1148, 1149, 1151, 70, 1152, 841, 1153, 1155, 71, 1156, 703, 704, 705, 706, 707, 708, 709, 710].filterMap (fun i => lw_tbl[i]?) := by decide +kernel
set_option maxRecDepth 20000 in
theorem lwi_34 : wsL_law_r34 = [1157, 1158, 1159, 1160, 711, 712, 713, 714, 715, 716, 717, 718, 210, 1161, 1162, 1163, 1164, 719, 720, 721, 722, 723, 724, 725].filterMap (fun i => lw_tbl[i]?) := by decide +kernel
set_option maxRecDepth 20000 in
theorem lwi_35 : wsL_law_r35 = [726, 1165, 1166, 1167, 1168, 727, 728, 729, 730, 731, 732, 733, 734, 212, 213, 735, 737, 19, 738, 216, 215, 739, 741, 20].filterMap (fun i => lw_tbl[i]?) := by decide +kernel
set_option maxRecDepth 20000 in
theorem lwi_36 : wsL_law_r36 = [742, 214, 743, 744, 745, 746, 748, 21, 749, 217, 750, 752, 22, 753, 754, 756, 23, 757, 758, 760, 24, 761, 762, 764].filterMap (fun i => lw_tbl[i]?) := by decide +kernel
set_option maxRecDepth 20000 in
theorem lwi_37 : wsL_law_r37 = [25, 765, 766, 767, 768, 769, 770, 772, 26, 773, 774, 776, 27, 777, 778, 779, 780, 781, 782, 783, 784, 785, 786, 787].filterMap (fun i => lw_tbl[i]?) := by decide +kernel
set_option maxRecDepth 20000 in
theorem lwi_38 : wsL_law_r38 = [788, 789, 790, 791, 792, 793, 794, 795, 796, 797, 798, 799, 800, 801, 802, 1169, 1170, 1171, 1172, 850, 1173, 1175, 72, 1176].filterMap (fun i => lw_tbl[i]?) := by decide +kernel
set_option maxRecDepth 20000 in
theorem lwi_39 : wsL_law_r39 = [849, 848, 1177, 1179, 73, 1180, 1181, 1183, 74, 1184, 1185, 1187, 75, 1188, 1189, 1190, 1191, 1192, 1194, 76, 1195, 1196, 1198, 77].filterMap (fun i => lw_tbl[i]?) := by decide +kernel
set_option maxRecDepth 20000 in
theorem lwi_40 : wsL_law_r40 = [1199, 1200, 1202, 78, 1203, 851, 1204, 1206, 79, 1207, 1208, 1210, 80, 1211, 1212, 1213, 1214, 803, 804, 805, 806, 807, 808, 809].filterMap (fun i => lw_tbl[i]?) := by decide +kernel
set_option maxRecDepth 20000 in
theorem lwi_41 : wsL_law_r41 = [810, 892, 893, 894, 895, 811, 812, 813, 814, 815, 816, 817, 818, 819, 820, 822, 28, 823, 824, 826, 29, 827, 164, 1215].filterMap (fun i => lw_tbl[i]?) := by decide +kernel
set_option maxRecDepth 20000 in
theorem lwi_42 : wsL_law_r42 = [1216, 1217, 1218, 1219, 852, 1220, 1222, 81, 1223, 1224, 1225, 1227, 82, 1228].filterMap (fun i => lw_tbl[i]?) := by decide +kernel
set_option maxRecDepth 20000 in
theorem lwf_0 : wsX00 = [176, 178, 180, 182].filterMap (fun i => lw_tbl[i]?) := by decide +kernel
set_option maxRecDepth 20000 in
theorem lwf_1 : wsX10 = [165, 167, 169].filterMap (fun i => lw_tbl[i]?) := by decide +kernel
set_option maxRecDepth 20000 in
theorem lwf_2 : wsX20 = [194, 196, 198].filterMap (fun i => lw_tbl[i]?) := by decide +kernel
set_option maxRecDepth 20000 in
theorem lwf_3 : wsX30 = [252, 254, 256].filterMap (fun i => lw_tbl[i]?) := by decide +kernel
set_option maxRecDepth 20000 in
theorem lwf_4 : wsX40 = [218, 220, 222, 224, 226, 228, 230, 232, 234, 236].filterMap (fun i => lw_tbl[i]?) := by decide +kernel
set_option maxRecDepth 20000 in
theorem lwf_5 : wsX50 = [126, 128, 130, 132, 134, 136, 138, 140, 142, 144].filterMap (fun i => lw_tbl[i]?) := by decide +kernel
set_option maxRecDepth 20000 in
theorem lwf_6 : wsX60 = [272, 274, 276, 278].filterMap (fun i => lw_tbl[i]?) := by decide +kernel
set_option maxRecDepth 20000 in
theorem lwf_7 : wsX70 = [287, 289, 291, 293, 295, 297].filterMap (fun i => lw_tbl[i]?) := by decide +kernel
set_option maxRecDepth 20000 in
theorem lwf_8 : wsX80 = [853, 855, 857, 859, 861, 863, 865, 867, 869, 871, 873, 875, 877, 879, 881, 883, 885, 887, 889].filterMap (fun i => lw_tbl[i]?) := by decide +kernel
set_option maxRecDepth 20000 in
theorem lwi_of {ws : List Cond} {ps : List Nat} (h : ws = ps.filterMap (fun i => lw_tbl[i]?)) : ∀ w ∈ ws, w ∈ lw_tbl := by
  intro w hw
  rw [h] at hw
  obtain ⟨i, -, hi⟩ := List.mem_filterMap.mp hw
  exact List.mem_of_getElem? hi
set_option maxRecDepth 20000 in
theorem wsL_law_in : ∀ w ∈ wsL_law, w ∈ lw_tbl := List.forall_mem_append.mpr ⟨List.forall_mem_append.mpr ⟨List.forall_mem_append.mpr ⟨List.forall_mem_append.mpr ⟨List.forall_mem_append.mpr ⟨List.forall_mem_append.mpr ⟨List.forall_mem_append.mpr ⟨List.forall_mem_append.mpr ⟨List.forall_mem_append.mpr ⟨List.forall_mem_append.mpr ⟨List.forall_mem_append.mpr ⟨lwi_of lwi_1, List.forall_mem_append.mpr ⟨lwi_of lwi_2, List.forall_mem_append.mpr ⟨lwi_of lwi_3, List.forall_mem_append.mpr ⟨lwi_of lwi_4, List.forall_mem_append.mpr ⟨lwi_of lwi_5, List.forall_mem_append.mpr ⟨lwi_of lwi_6, List.forall_mem_append.mpr ⟨lwi_of lwi_7, List.forall_mem_append.mpr ⟨lwi_of lwi_8, List.forall_mem_append.mpr ⟨lwi_of lwi_9, List.forall_mem_append.mpr ⟨lwi_of lwi_10, List.forall_mem_append.mpr ⟨lwi_of lwi_11, List.forall_mem_append.mpr ⟨lwi_of lwi_12, List.forall_mem_append.mpr ⟨lwi_of lwi_13, List.forall_mem_append.mpr ⟨lwi_of lwi_14, List.forall_mem_append.mpr ⟨lwi_of lwi_15, List.forall_mem_append.mpr ⟨lwi_of lwi_16, List.forall_mem_append.mpr ⟨lwi_of lwi_17, List.forall_mem_append.mpr ⟨lwi_of lwi_18, List.forall_mem_append.mpr ⟨lwi_of lwi_19, List.forall_mem_append.mpr ⟨lwi_of lwi_20, List.forall_mem_append.mpr ⟨lwi_of lwi_21, List.forall_mem_append.mpr ⟨lwi_of lwi_22, List.forall_mem_append.mpr ⟨lwi_of lwi_23, List.forall_mem_append.mpr ⟨lwi_of lwi_24, List.forall_mem_append.mpr ⟨lwi_of lwi_25, List.forall_mem_append.mpr ⟨lwi_of lwi_26, List.forall_mem_append.mpr ⟨lwi_of lwi_27, List.forall_mem_append.mpr ⟨lwi_of lwi_28, List.forall_mem_append.mpr ⟨lwi_of lwi_29, List.forall_mem_append.mpr ⟨lwi_of lwi_30, List.forall_mem_append.mpr ⟨lwi_of lwi_31, List.forall_mem_append.mpr ⟨lwi_of lwi_32, List.forall_mem_append.mpr ⟨lwi_of lwi_33, List.forall_mem_append.mpr ⟨lwi_of lwi_34, List.forall_mem_append.mpr ⟨lwi_of lwi_35, List.forall_mem_append.mpr ⟨lwi_of lwi_36, List.forall_mem_append.mpr ⟨lwi_of lwi_37, List.forall_mem_append.mpr ⟨lwi_of lwi_38, List.forall_mem_append.mpr ⟨lwi_of lwi_39, List.forall_mem_append.mpr ⟨lwi_of lwi_40, List.forall_mem_append.mpr ⟨lwi_of lwi_41, lwi_of lwi_42⟩⟩⟩⟩⟩⟩⟩⟩⟩⟩⟩⟩⟩⟩⟩⟩⟩⟩⟩⟩⟩⟩⟩⟩⟩⟩⟩⟩⟩⟩⟩⟩⟩⟩⟩⟩⟩⟩⟩⟩⟩, lwi_of lwf_7⟩, lwi_of lwf_8⟩, lwi_of lwf_5⟩, lwi_of lwf_0⟩, lwi_of lwf_2⟩, lwi_of lwf_4⟩, lwi_of lwf_3⟩, lwi_of lwf_6⟩, lwi_of lwf_1⟩, fun _ h => absurd h List.not_mem_nil⟩
theorem inlX0 : ∀ w ∈ wsX00, w ∈ wsL_law := fun _ h => List.mem_append_left _ (List.mem_append_left _ (List.mem_append_left _ (List.mem_append_left _ (List.mem_append_left _ (List.mem_append_left _ (List.mem_append_right _ h))))))
theorem inX0 : ∀ w ∈ wsX00, w ∈ lw_tbl := fun w h => wsL_law_in w (inlX0 w h)
theorem inlX1 : ∀ w ∈ wsX10, w ∈ wsL_law := fun _ h => List.mem_append_left _ (List.mem_append_right _ h)
theorem inX1 : ∀ w ∈ wsX10, w ∈ lw_tbl := fun w h => wsL_law_in w (inlX1 w h)
theorem inlX2 : ∀ w ∈ wsX20, w ∈ wsL_law := fun _ h => List.mem_append_left _ (List.mem_append_left _ (List.mem_append_left _ (List.mem_append_left _ (List.mem_append_left _ (List.mem_append_right _ h)))))
theorem inX2 : ∀ w ∈ wsX20, w ∈ lw_tbl := fun w h => wsL_law_in w (inlX2 w h)
theorem inlX3 : ∀ w ∈ wsX30, w ∈ wsL_law := fun _ h => List.mem_append_left _ (List.mem_append_left _ (List.mem_append_left _ (List.mem_append_right _ h)))
theorem inX3 : ∀ w ∈ wsX30, w ∈ lw_tbl := fun w h => wsL_law_in w (inlX3 w h)
theorem inlX4 : ∀ w ∈ wsX40, w ∈ wsL_law := fun _ h => List.mem_append_left _ (List.mem_append_left _ (List.mem_append_left _ (List.mem_append_left _ (List.mem_append_right _ h))))
theorem inX4 : ∀ w ∈ wsX40, w ∈ lw_tbl := fun w h => wsL_law_in w (inlX4 w h)
theorem inlX5 : ∀ w ∈ wsX50, w ∈ wsL_law := fun _ h => List.mem_append_left _ (List.mem_append_left _ (List.mem_append_left _ (List.mem_append_left _ (List.mem_append_left _ (List.mem_append_left _ (List.mem_append_left _ (List.mem_append_right _ h)))))))
theorem inX5 : ∀ w ∈ wsX50, w ∈ lw_tbl := fun w h => wsL_law_in w (inlX5 w h)
theorem inlX6 : ∀ w ∈ wsX60, w ∈ wsL_law := fun _ h => List.mem_append_left _ (List.mem_append_left _ (List.mem_append_right _ h))
theorem inX6 : ∀ w ∈ wsX60, w ∈ lw_tbl := fun w h => wsL_law_in w (inlX6 w h)
theorem inlX7 : ∀ w ∈ wsX70, w ∈ wsL_law := fun _ h => List.mem_append_left _ (List.mem_append_left _ (List.mem_append_left _ (List.mem_append_left _ (List.mem_append_left _ (List.mem_append_left _ (List.mem_append_left _ (List.mem_append_left _ (List.mem_append_left _ (List.mem_append_right _ h)))))))))
theorem inX7 : ∀ w ∈ wsX70, w ∈ lw_tbl := fun w h => wsL_law_in w (inlX7 w h)
theorem inlX8 : ∀ w ∈ wsX80, w ∈ wsL_law := fun _ h => List.mem_append_left _ (List.mem_append_left _ (List.mem_append_left _ (List.mem_append_left _ (List.mem_append_left _ (List.mem_append_left _ (List.mem_append_left _ (List.mem_append_left _ (List.mem_append_right _ h))))))))
theorem inX8 : ∀ w ∈ wsX80, w ∈ lw_tbl := fun w h => wsL_law_in w (inlX8 w h)
theorem lw_good : wsL_law.all goodWord = true := by decide +kernel
end
