section
-- ===== PART A: goes FIRST, ahead of the names: the tables' words, and 'selects' of the private methods out of them =====
/-- a private method of a class that the tables say can be made, by its rows of tables_1 -/
def lw_okq (q : MethodName × Nat) : Prop := (q.1.cls ≠ "java/lang/invoke/MethodHandle" ∧ q.1.cls ≠ "java/lang/invoke/VarHandle") ∧ Cond.instantiable q.1.cls q.2 ∈ tables_1 ∧ Cond.privateMethod q.1 ∈ tables_1 ∧ Cond.instanceMethod q.1 ∈ tables_1
theorem lw_p0 : lw_okq (⟨"OneTwoOneTwo", "refuse", "(I)I"⟩, 8) := ⟨⟨by decide +kernel, by decide +kernel⟩, List.mem_of_getElem? (i := 14) (by decide +kernel), List.mem_of_getElem? (i := 206) (by decide +kernel), List.mem_of_getElem? (i := 207) (by decide +kernel)⟩
theorem lw_p1 : lw_okq (⟨"OneTwoOneTwo", "rowTrouble", "(I)I"⟩, 8) := ⟨⟨by decide +kernel, by decide +kernel⟩, List.mem_of_getElem? (i := 14) (by decide +kernel), List.mem_of_getElem? (i := 218) (by decide +kernel), List.mem_of_getElem? (i := 219) (by decide +kernel)⟩
theorem lw_p2 : lw_okq (⟨"OneTwoOneTwo", "copyTrouble", "(II)I"⟩, 8) := ⟨⟨by decide +kernel, by decide +kernel⟩, List.mem_of_getElem? (i := 14) (by decide +kernel), List.mem_of_getElem? (i := 243) (by decide +kernel), List.mem_of_getElem? (i := 244) (by decide +kernel)⟩
theorem lw_p3 : lw_okq (⟨"OneTwoOneTwo", "saying", "(II)I"⟩, 8) := ⟨⟨by decide +kernel, by decide +kernel⟩, List.mem_of_getElem? (i := 14) (by decide +kernel), List.mem_of_getElem? (i := 293) (by decide +kernel), List.mem_of_getElem? (i := 294) (by decide +kernel)⟩
theorem lw_p4 : lw_okq (⟨"OneTwoOneTwo", "areTwo", "(II)Z"⟩, 8) := ⟨⟨by decide +kernel, by decide +kernel⟩, List.mem_of_getElem? (i := 14) (by decide +kernel), List.mem_of_getElem? (i := 326) (by decide +kernel), List.mem_of_getElem? (i := 327) (by decide +kernel)⟩
theorem lw_p5 : lw_okq (⟨"OneTwoOneTwo$Tape", "readStatement", "(LOneTwoOneTwo$Yard;)Z"⟩, 5) := ⟨⟨by decide +kernel, by decide +kernel⟩, List.mem_of_getElem? (i := 127) (by decide +kernel), List.mem_of_getElem? (i := 371) (by decide +kernel), List.mem_of_getElem? (i := 372) (by decide +kernel)⟩
theorem lw_p6 : lw_okq (⟨"OneTwoOneTwo$Tape", "nextToken", "()V"⟩, 5) := ⟨⟨by decide +kernel, by decide +kernel⟩, List.mem_of_getElem? (i := 127) (by decide +kernel), List.mem_of_getElem? (i := 375) (by decide +kernel), List.mem_of_getElem? (i := 376) (by decide +kernel)⟩
theorem lw_p7 : lw_okq (⟨"OneTwoOneTwo$Tape", "isWord", "(Ljava/lang/String;)Z"⟩, 5) := ⟨⟨by decide +kernel, by decide +kernel⟩, List.mem_of_getElem? (i := 127) (by decide +kernel), List.mem_of_getElem? (i := 383) (by decide +kernel), List.mem_of_getElem? (i := 384) (by decide +kernel)⟩
theorem lw_p8 : lw_okq (⟨"OneTwoOneTwo$Tape", "readChild", "(LOneTwoOneTwo$Yard;)Z"⟩, 5) := ⟨⟨by decide +kernel, by decide +kernel⟩, List.mem_of_getElem? (i := 127) (by decide +kernel), List.mem_of_getElem? (i := 435) (by decide +kernel), List.mem_of_getElem? (i := 436) (by decide +kernel)⟩
theorem lw_p9 : lw_okq (⟨"OneTwoOneTwo$Tape", "nextNumber", "(II)I"⟩, 5) := ⟨⟨by decide +kernel, by decide +kernel⟩, List.mem_of_getElem? (i := 127) (by decide +kernel), List.mem_of_getElem? (i := 439) (by decide +kernel), List.mem_of_getElem? (i := 440) (by decide +kernel)⟩
theorem lw_p10 : lw_okq (⟨"OneTwoOneTwo$Tape", "readCount", "(LOneTwoOneTwo$Yard;)Z"⟩, 5) := ⟨⟨by decide +kernel, by decide +kernel⟩, List.mem_of_getElem? (i := 127) (by decide +kernel), List.mem_of_getElem? (i := 446) (by decide +kernel), List.mem_of_getElem? (i := 447) (by decide +kernel)⟩
theorem lw_p11 : lw_okq (⟨"OneTwoOneTwo$Tape", "readWish", "(LOneTwoOneTwo$Yard;Z)Z"⟩, 5) := ⟨⟨by decide +kernel, by decide +kernel⟩, List.mem_of_getElem? (i := 127) (by decide +kernel), List.mem_of_getElem? (i := 452) (by decide +kernel), List.mem_of_getElem? (i := 453) (by decide +kernel)⟩
theorem lw_p12 : lw_okq (⟨"OneTwoOneTwo$Tape", "readSwap", "(LOneTwoOneTwo$Yard;)Z"⟩, 5) := ⟨⟨by decide +kernel, by decide +kernel⟩, List.mem_of_getElem? (i := 127) (by decide +kernel), List.mem_of_getElem? (i := 459) (by decide +kernel), List.mem_of_getElem? (i := 460) (by decide +kernel)⟩
theorem lw_p13 : lw_okq (⟨"OneTwoOneTwo$Yard", "stand", "(II)V"⟩, 15) := ⟨⟨by decide +kernel, by decide +kernel⟩, List.mem_of_getElem? (i := 22) (by decide +kernel), List.mem_of_getElem? (i := 467) (by decide +kernel), List.mem_of_getElem? (i := 468) (by decide +kernel)⟩
theorem lw_p14 : lw_okq (⟨"OneTwoOneTwo$Tape", "readMove", "(LOneTwoOneTwo$Yard;)Z"⟩, 5) := ⟨⟨by decide +kernel, by decide +kernel⟩, List.mem_of_getElem? (i := 127) (by decide +kernel), List.mem_of_getElem? (i := 472) (by decide +kernel), List.mem_of_getElem? (i := 473) (by decide +kernel)⟩
theorem lw_p15 : lw_okq (⟨"OneTwoOneTwo$Finder", "takeSides", "(I)V"⟩, 6) := ⟨⟨by decide +kernel, by decide +kernel⟩, List.mem_of_getElem? (i := 101) (by decide +kernel), List.mem_of_getElem? (i := 594) (by decide +kernel), List.mem_of_getElem? (i := 595) (by decide +kernel)⟩
def lw_privs_1 : List (MethodName × Nat) := [(⟨"OneTwoOneTwo", "refuse", "(I)I"⟩, 8), (⟨"OneTwoOneTwo", "rowTrouble", "(I)I"⟩, 8), (⟨"OneTwoOneTwo", "copyTrouble", "(II)I"⟩, 8), (⟨"OneTwoOneTwo", "saying", "(II)I"⟩, 8), (⟨"OneTwoOneTwo", "areTwo", "(II)Z"⟩, 8), (⟨"OneTwoOneTwo$Tape", "readStatement", "(LOneTwoOneTwo$Yard;)Z"⟩, 5), (⟨"OneTwoOneTwo$Tape", "nextToken", "()V"⟩, 5), (⟨"OneTwoOneTwo$Tape", "isWord", "(Ljava/lang/String;)Z"⟩, 5), (⟨"OneTwoOneTwo$Tape", "readChild", "(LOneTwoOneTwo$Yard;)Z"⟩, 5), (⟨"OneTwoOneTwo$Tape", "nextNumber", "(II)I"⟩, 5), (⟨"OneTwoOneTwo$Tape", "readCount", "(LOneTwoOneTwo$Yard;)Z"⟩, 5), (⟨"OneTwoOneTwo$Tape", "readWish", "(LOneTwoOneTwo$Yard;Z)Z"⟩, 5), (⟨"OneTwoOneTwo$Tape", "readSwap", "(LOneTwoOneTwo$Yard;)Z"⟩, 5), (⟨"OneTwoOneTwo$Yard", "stand", "(II)V"⟩, 15), (⟨"OneTwoOneTwo$Tape", "readMove", "(LOneTwoOneTwo$Yard;)Z"⟩, 5), (⟨"OneTwoOneTwo$Finder", "takeSides", "(I)V"⟩, 6)]
theorem lw_r1 : ∀ q ∈ lw_privs_1, lw_okq q := List.forall_mem_cons.mpr ⟨lw_p0, List.forall_mem_cons.mpr ⟨lw_p1, List.forall_mem_cons.mpr ⟨lw_p2, List.forall_mem_cons.mpr ⟨lw_p3, List.forall_mem_cons.mpr ⟨lw_p4, List.forall_mem_cons.mpr ⟨lw_p5, List.forall_mem_cons.mpr ⟨lw_p6, List.forall_mem_cons.mpr ⟨lw_p7, List.forall_mem_cons.mpr ⟨lw_p8, List.forall_mem_cons.mpr ⟨lw_p9, List.forall_mem_cons.mpr ⟨lw_p10, List.forall_mem_cons.mpr ⟨lw_p11, List.forall_mem_cons.mpr ⟨lw_p12, List.forall_mem_cons.mpr ⟨lw_p13, List.forall_mem_cons.mpr ⟨lw_p14, List.forall_mem_cons.mpr ⟨lw_p15, fun _ h => absurd h List.not_mem_nil⟩⟩⟩⟩⟩⟩⟩⟩⟩⟩⟩⟩⟩⟩⟩⟩
theorem lw_p16 : lw_okq (⟨"OneTwoOneTwo$Finder", "valueOfSides", "()I"⟩, 6) := ⟨⟨by decide +kernel, by decide +kernel⟩, List.mem_of_getElem? (i := 101) (by decide +kernel), List.mem_of_getElem? (i := 599) (by decide +kernel), List.mem_of_getElem? (i := 600) (by decide +kernel)⟩
theorem lw_p17 : lw_okq (⟨"OneTwoOneTwo$Finder", "oneChangeReaches", "(III)Z"⟩, 6) := ⟨⟨by decide +kernel, by decide +kernel⟩, List.mem_of_getElem? (i := 101) (by decide +kernel), List.mem_of_getElem? (i := 607) (by decide +kernel), List.mem_of_getElem? (i := 608) (by decide +kernel)⟩
theorem lw_p18 : lw_okq (⟨"OneTwoOneTwo$Finder", "valueWithChange", "(II)I"⟩, 6) := ⟨⟨by decide +kernel, by decide +kernel⟩, List.mem_of_getElem? (i := 101) (by decide +kernel), List.mem_of_getElem? (i := 611) (by decide +kernel), List.mem_of_getElem? (i := 612) (by decide +kernel)⟩
theorem lw_p19 : lw_okq (⟨"OneTwoOneTwo$Finder", "exchangeSides", "(II)V"⟩, 6) := ⟨⟨by decide +kernel, by decide +kernel⟩, List.mem_of_getElem? (i := 101) (by decide +kernel), List.mem_of_getElem? (i := 615) (by decide +kernel), List.mem_of_getElem? (i := 616) (by decide +kernel)⟩
theorem lw_p20 : lw_okq (⟨"OneTwoOneTwo$Finder", "twoChangesReach", "(I)Z"⟩, 6) := ⟨⟨by decide +kernel, by decide +kernel⟩, List.mem_of_getElem? (i := 101) (by decide +kernel), List.mem_of_getElem? (i := 619) (by decide +kernel), List.mem_of_getElem? (i := 620) (by decide +kernel)⟩
theorem lw_p21 : lw_okq (⟨"OneTwoOneTwo", "merit", "(II)I"⟩, 8) := ⟨⟨by decide +kernel, by decide +kernel⟩, List.mem_of_getElem? (i := 14) (by decide +kernel), List.mem_of_getElem? (i := 649) (by decide +kernel), List.mem_of_getElem? (i := 650) (by decide +kernel)⟩
theorem lw_p22 : lw_okq (⟨"OneTwoOneTwo$Finder", "shortestMoveOf", "(III)I"⟩, 6) := ⟨⟨by decide +kernel, by decide +kernel⟩, List.mem_of_getElem? (i := 101) (by decide +kernel), List.mem_of_getElem? (i := 691) (by decide +kernel), List.mem_of_getElem? (i := 692) (by decide +kernel)⟩
theorem lw_p23 : lw_okq (⟨"OneTwoOneTwo$Finder", "greatestFrom", "(I)I"⟩, 6) := ⟨⟨by decide +kernel, by decide +kernel⟩, List.mem_of_getElem? (i := 101) (by decide +kernel), List.mem_of_getElem? (i := 711) (by decide +kernel), List.mem_of_getElem? (i := 712) (by decide +kernel)⟩
theorem lw_p24 : lw_okq (⟨"OneTwoOneTwo$Finder", "isLikeOneAhead", "(I)Z"⟩, 6) := ⟨⟨by decide +kernel, by decide +kernel⟩, List.mem_of_getElem? (i := 101) (by decide +kernel), List.mem_of_getElem? (i := 715) (by decide +kernel), List.mem_of_getElem? (i := 716) (by decide +kernel)⟩
theorem lw_p25 : lw_okq (⟨"OneTwoOneTwo", "toldTrouble", "(II)I"⟩, 8) := ⟨⟨by decide +kernel, by decide +kernel⟩, List.mem_of_getElem? (i := 14) (by decide +kernel), List.mem_of_getElem? (i := 762) (by decide +kernel), List.mem_of_getElem? (i := 763) (by decide +kernel)⟩
theorem lw_p26 : lw_okq (⟨"OneTwoOneTwo", "firstWrong", "(II)I"⟩, 8) := ⟨⟨by decide +kernel, by decide +kernel⟩, List.mem_of_getElem? (i := 14) (by decide +kernel), List.mem_of_getElem? (i := 789) (by decide +kernel), List.mem_of_getElem? (i := 790) (by decide +kernel)⟩
theorem lw_p27 : lw_okq (⟨"OneTwoOneTwo", "shelvesInUse", "()I"⟩, 8) := ⟨⟨by decide +kernel, by decide +kernel⟩, List.mem_of_getElem? (i := 14) (by decide +kernel), List.mem_of_getElem? (i := 862) (by decide +kernel), List.mem_of_getElem? (i := 863) (by decide +kernel)⟩
theorem lw_p28 : lw_okq (⟨"OneTwoOneTwoModel", "refuse", "(I)I"⟩, 35) := ⟨⟨by decide +kernel, by decide +kernel⟩, List.mem_of_getElem? (i := 866) (by decide +kernel), List.mem_of_getElem? (i := 990) (by decide +kernel), List.mem_of_getElem? (i := 991) (by decide +kernel)⟩
theorem lw_p29 : lw_okq (⟨"OneTwoOneTwoModel", "noRow", "(I)I"⟩, 35) := ⟨⟨by decide +kernel, by decide +kernel⟩, List.mem_of_getElem? (i := 866) (by decide +kernel), List.mem_of_getElem? (i := 998) (by decide +kernel), List.mem_of_getElem? (i := 999) (by decide +kernel)⟩
theorem lw_p30 : lw_okq (⟨"OneTwoOneTwoModel", "isCount", "(I)Z"⟩, 35) := ⟨⟨by decide +kernel, by decide +kernel⟩, List.mem_of_getElem? (i := 866) (by decide +kernel), List.mem_of_getElem? (i := 1021) (by decide +kernel), List.mem_of_getElem? (i := 1022) (by decide +kernel)⟩
theorem lw_p31 : lw_okq (⟨"OneTwoOneTwoModel", "teamAt", "(II)I"⟩, 35) := ⟨⟨by decide +kernel, by decide +kernel⟩, List.mem_of_getElem? (i := 866) (by decide +kernel), List.mem_of_getElem? (i := 1033) (by decide +kernel), List.mem_of_getElem? (i := 1034) (by decide +kernel)⟩
def lw_privs_2 : List (MethodName × Nat) := [(⟨"OneTwoOneTwo$Finder", "valueOfSides", "()I"⟩, 6), (⟨"OneTwoOneTwo$Finder", "oneChangeReaches", "(III)Z"⟩, 6), (⟨"OneTwoOneTwo$Finder", "valueWithChange", "(II)I"⟩, 6), (⟨"OneTwoOneTwo$Finder", "exchangeSides", "(II)V"⟩, 6), (⟨"OneTwoOneTwo$Finder", "twoChangesReach", "(I)Z"⟩, 6), (⟨"OneTwoOneTwo", "merit", "(II)I"⟩, 8), (⟨"OneTwoOneTwo$Finder", "shortestMoveOf", "(III)I"⟩, 6), (⟨"OneTwoOneTwo$Finder", "greatestFrom", "(I)I"⟩, 6), (⟨"OneTwoOneTwo$Finder", "isLikeOneAhead", "(I)Z"⟩, 6), (⟨"OneTwoOneTwo", "toldTrouble", "(II)I"⟩, 8), (⟨"OneTwoOneTwo", "firstWrong", "(II)I"⟩, 8), (⟨"OneTwoOneTwo", "shelvesInUse", "()I"⟩, 8), (⟨"OneTwoOneTwoModel", "refuse", "(I)I"⟩, 35), (⟨"OneTwoOneTwoModel", "noRow", "(I)I"⟩, 35), (⟨"OneTwoOneTwoModel", "isCount", "(I)Z"⟩, 35), (⟨"OneTwoOneTwoModel", "teamAt", "(II)I"⟩, 35)]
theorem lw_r2 : ∀ q ∈ lw_privs_2, lw_okq q := List.forall_mem_cons.mpr ⟨lw_p16, List.forall_mem_cons.mpr ⟨lw_p17, List.forall_mem_cons.mpr ⟨lw_p18, List.forall_mem_cons.mpr ⟨lw_p19, List.forall_mem_cons.mpr ⟨lw_p20, List.forall_mem_cons.mpr ⟨lw_p21, List.forall_mem_cons.mpr ⟨lw_p22, List.forall_mem_cons.mpr ⟨lw_p23, List.forall_mem_cons.mpr ⟨lw_p24, List.forall_mem_cons.mpr ⟨lw_p25, List.forall_mem_cons.mpr ⟨lw_p26, List.forall_mem_cons.mpr ⟨lw_p27, List.forall_mem_cons.mpr ⟨lw_p28, List.forall_mem_cons.mpr ⟨lw_p29, List.forall_mem_cons.mpr ⟨lw_p30, List.forall_mem_cons.mpr ⟨lw_p31, fun _ h => absurd h List.not_mem_nil⟩⟩⟩⟩⟩⟩⟩⟩⟩⟩⟩⟩⟩⟩⟩⟩
theorem lw_p32 : lw_okq (⟨"OneTwoOneTwoModel", "slipped", "(II)I"⟩, 35) := ⟨⟨by decide +kernel, by decide +kernel⟩, List.mem_of_getElem? (i := 866) (by decide +kernel), List.mem_of_getElem? (i := 1037) (by decide +kernel), List.mem_of_getElem? (i := 1038) (by decide +kernel)⟩
theorem lw_p33 : lw_okq (⟨"OneTwoOneTwoModel", "addChild", "(II)V"⟩, 35) := ⟨⟨by decide +kernel, by decide +kernel⟩, List.mem_of_getElem? (i := 866) (by decide +kernel), List.mem_of_getElem? (i := 1047) (by decide +kernel), List.mem_of_getElem? (i := 1048) (by decide +kernel)⟩
theorem lw_p34 : lw_okq (⟨"OneTwoOneTwoModel", "addCount", "(III)V"⟩, 35) := ⟨⟨by decide +kernel, by decide +kernel⟩, List.mem_of_getElem? (i := 866) (by decide +kernel), List.mem_of_getElem? (i := 1057) (by decide +kernel), List.mem_of_getElem? (i := 1058) (by decide +kernel)⟩
theorem lw_p35 : lw_okq (⟨"OneTwoOneTwoModel", "areTwo", "(JJ)Z"⟩, 35) := ⟨⟨by decide +kernel, by decide +kernel⟩, List.mem_of_getElem? (i := 866) (by decide +kernel), List.mem_of_getElem? (i := 1065) (by decide +kernel), List.mem_of_getElem? (i := 1066) (by decide +kernel)⟩
theorem lw_p36 : lw_okq (⟨"OneTwoOneTwoModel", "isChild", "(J)Z"⟩, 35) := ⟨⟨by decide +kernel, by decide +kernel⟩, List.mem_of_getElem? (i := 866) (by decide +kernel), List.mem_of_getElem? (i := 1069) (by decide +kernel), List.mem_of_getElem? (i := 1070) (by decide +kernel)⟩
theorem lw_p37 : lw_okq (⟨"OneTwoOneTwoModel", "addWish", "(IIII)V"⟩, 35) := ⟨⟨by decide +kernel, by decide +kernel⟩, List.mem_of_getElem? (i := 866) (by decide +kernel), List.mem_of_getElem? (i := 1073) (by decide +kernel), List.mem_of_getElem? (i := 1074) (by decide +kernel)⟩
theorem lw_p38 : lw_okq (⟨"OneTwoOneTwoModel", "fresh", "()LOneTwoOneTwoModel;"⟩, 35) := ⟨⟨by decide +kernel, by decide +kernel⟩, List.mem_of_getElem? (i := 866) (by decide +kernel), List.mem_of_getElem? (i := 1094) (by decide +kernel), List.mem_of_getElem? (i := 1095) (by decide +kernel)⟩
theorem lw_p39 : lw_okq (⟨"OneTwoOneTwoModel", "takeFrom", "(LOneTwoOneTwoModel;)V"⟩, 35) := ⟨⟨by decide +kernel, by decide +kernel⟩, List.mem_of_getElem? (i := 866) (by decide +kernel), List.mem_of_getElem? (i := 1100) (by decide +kernel), List.mem_of_getElem? (i := 1101) (by decide +kernel)⟩
theorem lw_p40 : lw_okq (⟨"OneTwoOneTwoModel", "readAll", "()Z"⟩, 35) := ⟨⟨by decide +kernel, by decide +kernel⟩, List.mem_of_getElem? (i := 866) (by decide +kernel), List.mem_of_getElem? (i := 1107) (by decide +kernel), List.mem_of_getElem? (i := 1108) (by decide +kernel)⟩
theorem lw_p41 : lw_okq (⟨"OneTwoOneTwoModel", "look", "()V"⟩, 35) := ⟨⟨by decide +kernel, by decide +kernel⟩, List.mem_of_getElem? (i := 866) (by decide +kernel), List.mem_of_getElem? (i := 1111) (by decide +kernel), List.mem_of_getElem? (i := 1112) (by decide +kernel)⟩
theorem lw_p42 : lw_okq (⟨"OneTwoOneTwoModel", "statement", "()Z"⟩, 35) := ⟨⟨by decide +kernel, by decide +kernel⟩, List.mem_of_getElem? (i := 866) (by decide +kernel), List.mem_of_getElem? (i := 1121) (by decide +kernel), List.mem_of_getElem? (i := 1122) (by decide +kernel)⟩
theorem lw_p43 : lw_okq (⟨"OneTwoOneTwoModel", "isWord", "(Ljava/lang/String;)Z"⟩, 35) := ⟨⟨by decide +kernel, by decide +kernel⟩, List.mem_of_getElem? (i := 866) (by decide +kernel), List.mem_of_getElem? (i := 1126) (by decide +kernel), List.mem_of_getElem? (i := 1127) (by decide +kernel)⟩
theorem lw_p44 : lw_okq (⟨"OneTwoOneTwoModel", "tells", "(II)Z"⟩, 35) := ⟨⟨by decide +kernel, by decide +kernel⟩, List.mem_of_getElem? (i := 866) (by decide +kernel), List.mem_of_getElem? (i := 1132) (by decide +kernel), List.mem_of_getElem? (i := 1133) (by decide +kernel)⟩
theorem lw_p45 : lw_okq (⟨"OneTwoOneTwoModel", "number", "(III)Z"⟩, 35) := ⟨⟨by decide +kernel, by decide +kernel⟩, List.mem_of_getElem? (i := 866) (by decide +kernel), List.mem_of_getElem? (i := 1136) (by decide +kernel), List.mem_of_getElem? (i := 1137) (by decide +kernel)⟩
theorem lw_p46 : lw_okq (⟨"OneTwoOneTwoModel", "wrong", "()Z"⟩, 35) := ⟨⟨by decide +kernel, by decide +kernel⟩, List.mem_of_getElem? (i := 866) (by decide +kernel), List.mem_of_getElem? (i := 1140) (by decide +kernel), List.mem_of_getElem? (i := 1141) (by decide +kernel)⟩
theorem lw_p47 : lw_okq (⟨"OneTwoOneTwoModel", "wishTold", "(I)Z"⟩, 35) := ⟨⟨by decide +kernel, by decide +kernel⟩, List.mem_of_getElem? (i := 866) (by decide +kernel), List.mem_of_getElem? (i := 1146) (by decide +kernel), List.mem_of_getElem? (i := 1147) (by decide +kernel)⟩
def lw_privs_3 : List (MethodName × Nat) := [(⟨"OneTwoOneTwoModel", "slipped", "(II)I"⟩, 35), (⟨"OneTwoOneTwoModel", "addChild", "(II)V"⟩, 35), (⟨"OneTwoOneTwoModel", "addCount", "(III)V"⟩, 35), (⟨"OneTwoOneTwoModel", "areTwo", "(JJ)Z"⟩, 35), (⟨"OneTwoOneTwoModel", "isChild", "(J)Z"⟩, 35), (⟨"OneTwoOneTwoModel", "addWish", "(IIII)V"⟩, 35), (⟨"OneTwoOneTwoModel", "fresh", "()LOneTwoOneTwoModel;"⟩, 35), (⟨"OneTwoOneTwoModel", "takeFrom", "(LOneTwoOneTwoModel;)V"⟩, 35), (⟨"OneTwoOneTwoModel", "readAll", "()Z"⟩, 35), (⟨"OneTwoOneTwoModel", "look", "()V"⟩, 35), (⟨"OneTwoOneTwoModel", "statement", "()Z"⟩, 35), (⟨"OneTwoOneTwoModel", "isWord", "(Ljava/lang/String;)Z"⟩, 35), (⟨"OneTwoOneTwoModel", "tells", "(II)Z"⟩, 35), (⟨"OneTwoOneTwoModel", "number", "(III)Z"⟩, 35), (⟨"OneTwoOneTwoModel", "wrong", "()Z"⟩, 35), (⟨"OneTwoOneTwoModel", "wishTold", "(I)Z"⟩, 35)]
theorem lw_r3 : ∀ q ∈ lw_privs_3, lw_okq q := List.forall_mem_cons.mpr ⟨lw_p32, List.forall_mem_cons.mpr ⟨lw_p33, List.forall_mem_cons.mpr ⟨lw_p34, List.forall_mem_cons.mpr ⟨lw_p35, List.forall_mem_cons.mpr ⟨lw_p36, List.forall_mem_cons.mpr ⟨lw_p37, List.forall_mem_cons.mpr ⟨lw_p38, List.forall_mem_cons.mpr ⟨lw_p39, List.forall_mem_cons.mpr ⟨lw_p40, List.forall_mem_cons.mpr ⟨lw_p41, List.forall_mem_cons.mpr ⟨lw_p42, List.forall_mem_cons.mpr ⟨lw_p43, List.forall_mem_cons.mpr ⟨lw_p44, List.forall_mem_cons.mpr ⟨lw_p45, List.forall_mem_cons.mpr ⟨lw_p46, List.forall_mem_cons.mpr ⟨lw_p47, fun _ h => absurd h List.not_mem_nil⟩⟩⟩⟩⟩⟩⟩⟩⟩⟩⟩⟩⟩⟩⟩⟩
theorem lw_p48 : lw_okq (⟨"OneTwoOneTwoModel", "twoTold", "()Z"⟩, 35) := ⟨⟨by decide +kernel, by decide +kernel⟩, List.mem_of_getElem? (i := 866) (by decide +kernel), List.mem_of_getElem? (i := 1150) (by decide +kernel), List.mem_of_getElem? (i := 1151) (by decide +kernel)⟩
theorem lw_p49 : lw_okq (⟨"OneTwoOneTwoModel", "swaps", "(II)V"⟩, 35) := ⟨⟨by decide +kernel, by decide +kernel⟩, List.mem_of_getElem? (i := 866) (by decide +kernel), List.mem_of_getElem? (i := 1156) (by decide +kernel), List.mem_of_getElem? (i := 1157) (by decide +kernel)⟩
theorem lw_p50 : lw_okq (⟨"OneTwoOneTwoModel", "moves", "(II)V"⟩, 35) := ⟨⟨by decide +kernel, by decide +kernel⟩, List.mem_of_getElem? (i := 866) (by decide +kernel), List.mem_of_getElem? (i := 1161) (by decide +kernel), List.mem_of_getElem? (i := 1162) (by decide +kernel)⟩
theorem lw_p51 : lw_okq (⟨"OneTwoOneTwoModel", "standing", "(I)I"⟩, 35) := ⟨⟨by decide +kernel, by decide +kernel⟩, List.mem_of_getElem? (i := 866) (by decide +kernel), List.mem_of_getElem? (i := 1182) (by decide +kernel), List.mem_of_getElem? (i := 1183) (by decide +kernel)⟩
theorem lw_p52 : lw_okq (⟨"OneTwoOneTwoModel", "teamOf", "(II)I"⟩, 35) := ⟨⟨by decide +kernel, by decide +kernel⟩, List.mem_of_getElem? (i := 866) (by decide +kernel), List.mem_of_getElem? (i := 1190) (by decide +kernel), List.mem_of_getElem? (i := 1191) (by decide +kernel)⟩
theorem lw_p53 : lw_okq (⟨"OneTwoOneTwoModel", "isTeam", "(II)Z"⟩, 35) := ⟨⟨by decide +kernel, by decide +kernel⟩, List.mem_of_getElem? (i := 866) (by decide +kernel), List.mem_of_getElem? (i := 1198) (by decide +kernel), List.mem_of_getElem? (i := 1199) (by decide +kernel)⟩
theorem lw_p54 : lw_okq (⟨"OneTwoOneTwoModel", "strengthOf", "(II)I"⟩, 35) := ⟨⟨by decide +kernel, by decide +kernel⟩, List.mem_of_getElem? (i := 866) (by decide +kernel), List.mem_of_getElem? (i := 1206) (by decide +kernel), List.mem_of_getElem? (i := 1207) (by decide +kernel)⟩
theorem lw_p55 : lw_okq (⟨"OneTwoOneTwoModel", "turns", "()V"⟩, 35) := ⟨⟨by decide +kernel, by decide +kernel⟩, List.mem_of_getElem? (i := 866) (by decide +kernel), List.mem_of_getElem? (i := 1218) (by decide +kernel), List.mem_of_getElem? (i := 1219) (by decide +kernel)⟩
theorem lw_p56 : lw_okq (⟨"OneTwoOneTwoModel", "valueOf", "(I)I"⟩, 35) := ⟨⟨by decide +kernel, by decide +kernel⟩, List.mem_of_getElem? (i := 866) (by decide +kernel), List.mem_of_getElem? (i := 1222) (by decide +kernel), List.mem_of_getElem? (i := 1223) (by decide +kernel)⟩
theorem lw_p57 : lw_okq (⟨"OneTwoOneTwoModel", "isMet", "(II)Z"⟩, 35) := ⟨⟨by decide +kernel, by decide +kernel⟩, List.mem_of_getElem? (i := 866) (by decide +kernel), List.mem_of_getElem? (i := 1226) (by decide +kernel), List.mem_of_getElem? (i := 1227) (by decide +kernel)⟩
theorem lw_p58 : lw_okq (⟨"OneTwoOneTwoModel", "areIn", "(III)Z"⟩, 35) := ⟨⟨by decide +kernel, by decide +kernel⟩, List.mem_of_getElem? (i := 866) (by decide +kernel), List.mem_of_getElem? (i := 1230) (by decide +kernel), List.mem_of_getElem? (i := 1231) (by decide +kernel)⟩
theorem lw_p59 : lw_okq (⟨"OneTwoOneTwoModel", "friends", "(I)I"⟩, 35) := ⟨⟨by decide +kernel, by decide +kernel⟩, List.mem_of_getElem? (i := 866) (by decide +kernel), List.mem_of_getElem? (i := 1246) (by decide +kernel), List.mem_of_getElem? (i := 1247) (by decide +kernel)⟩
theorem lw_p60 : lw_okq (⟨"OneTwoOneTwoModel", "evenOf", "(I)I"⟩, 35) := ⟨⟨by decide +kernel, by decide +kernel⟩, List.mem_of_getElem? (i := 866) (by decide +kernel), List.mem_of_getElem? (i := 1273) (by decide +kernel), List.mem_of_getElem? (i := 1274) (by decide +kernel)⟩
theorem lw_p61 : lw_okq (⟨"OneTwoOneTwoModel", "mayChange", "(II)Z"⟩, 35) := ⟨⟨by decide +kernel, by decide +kernel⟩, List.mem_of_getElem? (i := 866) (by decide +kernel), List.mem_of_getElem? (i := 1285) (by decide +kernel), List.mem_of_getElem? (i := 1286) (by decide +kernel)⟩
theorem lw_p62 : lw_okq (⟨"OneTwoOneTwoModel", "canBeBy", "(III)Z"⟩, 35) := ⟨⟨by decide +kernel, by decide +kernel⟩, List.mem_of_getElem? (i := 866) (by decide +kernel), List.mem_of_getElem? (i := 1294) (by decide +kernel), List.mem_of_getElem? (i := 1295) (by decide +kernel)⟩
theorem lw_p63 : lw_okq (⟨"OneTwoOneTwoModel", "seekMost", "(III)V"⟩, 35) := ⟨⟨by decide +kernel, by decide +kernel⟩, List.mem_of_getElem? (i := 866) (by decide +kernel), List.mem_of_getElem? (i := 1310) (by decide +kernel), List.mem_of_getElem? (i := 1311) (by decide +kernel)⟩
def lw_privs_4 : List (MethodName × Nat) := [(⟨"OneTwoOneTwoModel", "twoTold", "()Z"⟩, 35), (⟨"OneTwoOneTwoModel", "swaps", "(II)V"⟩, 35), (⟨"OneTwoOneTwoModel", "moves", "(II)V"⟩, 35), (⟨"OneTwoOneTwoModel", "standing", "(I)I"⟩, 35), (⟨"OneTwoOneTwoModel", "teamOf", "(II)I"⟩, 35), (⟨"OneTwoOneTwoModel", "isTeam", "(II)Z"⟩, 35), (⟨"OneTwoOneTwoModel", "strengthOf", "(II)I"⟩, 35), (⟨"OneTwoOneTwoModel", "turns", "()V"⟩, 35), (⟨"OneTwoOneTwoModel", "valueOf", "(I)I"⟩, 35), (⟨"OneTwoOneTwoModel", "isMet", "(II)Z"⟩, 35), (⟨"OneTwoOneTwoModel", "areIn", "(III)Z"⟩, 35), (⟨"OneTwoOneTwoModel", "friends", "(I)I"⟩, 35), (⟨"OneTwoOneTwoModel", "evenOf", "(I)I"⟩, 35), (⟨"OneTwoOneTwoModel", "mayChange", "(II)Z"⟩, 35), (⟨"OneTwoOneTwoModel", "canBeBy", "(III)Z"⟩, 35), (⟨"OneTwoOneTwoModel", "seekMost", "(III)V"⟩, 35)]
theorem lw_r4 : ∀ q ∈ lw_privs_4, lw_okq q := List.forall_mem_cons.mpr ⟨lw_p48, List.forall_mem_cons.mpr ⟨lw_p49, List.forall_mem_cons.mpr ⟨lw_p50, List.forall_mem_cons.mpr ⟨lw_p51, List.forall_mem_cons.mpr ⟨lw_p52, List.forall_mem_cons.mpr ⟨lw_p53, List.forall_mem_cons.mpr ⟨lw_p54, List.forall_mem_cons.mpr ⟨lw_p55, List.forall_mem_cons.mpr ⟨lw_p56, List.forall_mem_cons.mpr ⟨lw_p57, List.forall_mem_cons.mpr ⟨lw_p58, List.forall_mem_cons.mpr ⟨lw_p59, List.forall_mem_cons.mpr ⟨lw_p60, List.forall_mem_cons.mpr ⟨lw_p61, List.forall_mem_cons.mpr ⟨lw_p62, List.forall_mem_cons.mpr ⟨lw_p63, fun _ h => absurd h List.not_mem_nil⟩⟩⟩⟩⟩⟩⟩⟩⟩⟩⟩⟩⟩⟩⟩⟩
theorem lw_p64 : lw_okq (⟨"OneTwoOneTwoModel", "oftenOf", "(II)I"⟩, 35) := ⟨⟨by decide +kernel, by decide +kernel⟩, List.mem_of_getElem? (i := 866) (by decide +kernel), List.mem_of_getElem? (i := 1322) (by decide +kernel), List.mem_of_getElem? (i := 1323) (by decide +kernel)⟩
theorem lw_p65 : lw_okq (⟨"OneTwoOneTwoModel", "findOut", "(I)V"⟩, 35) := ⟨⟨by decide +kernel, by decide +kernel⟩, List.mem_of_getElem? (i := 866) (by decide +kernel), List.mem_of_getElem? (i := 1335) (by decide +kernel), List.mem_of_getElem? (i := 1336) (by decide +kernel)⟩
theorem lw_p66 : lw_okq (⟨"OneTwoOneTwoModel", "noMorning", "(I)I"⟩, 35) := ⟨⟨by decide +kernel, by decide +kernel⟩, List.mem_of_getElem? (i := 866) (by decide +kernel), List.mem_of_getElem? (i := 1351) (by decide +kernel), List.mem_of_getElem? (i := 1352) (by decide +kernel)⟩
theorem lw_p67 : lw_okq (⟨"OneTwoOneTwoModel", "wrongTeams", "(I[J)I"⟩, 35) := ⟨⟨by decide +kernel, by decide +kernel⟩, List.mem_of_getElem? (i := 866) (by decide +kernel), List.mem_of_getElem? (i := 1355) (by decide +kernel), List.mem_of_getElem? (i := 1356) (by decide +kernel)⟩
theorem lw_p68 : lw_okq (⟨"OneTwoOneTwoModel", "noChanges", "(II)I"⟩, 35) := ⟨⟨by decide +kernel, by decide +kernel⟩, List.mem_of_getElem? (i := 866) (by decide +kernel), List.mem_of_getElem? (i := 1371) (by decide +kernel), List.mem_of_getElem? (i := 1372) (by decide +kernel)⟩
theorem lw_p69 : lw_okq (⟨"OneTwoOneTwoModel", "goesBy", "([JI)I"⟩, 35) := ⟨⟨by decide +kernel, by decide +kernel⟩, List.mem_of_getElem? (i := 866) (by decide +kernel), List.mem_of_getElem? (i := 1375) (by decide +kernel), List.mem_of_getElem? (i := 1376) (by decide +kernel)⟩
theorem lw_p70 : lw_okq (⟨"OneTwoOneTwoModel", "below", "(I)I"⟩, 35) := ⟨⟨by decide +kernel, by decide +kernel⟩, List.mem_of_getElem? (i := 866) (by decide +kernel), List.mem_of_getElem? (i := 1409) (by decide +kernel), List.mem_of_getElem? (i := 1410) (by decide +kernel)⟩
def lw_privs_5 : List (MethodName × Nat) := [(⟨"OneTwoOneTwoModel", "oftenOf", "(II)I"⟩, 35), (⟨"OneTwoOneTwoModel", "findOut", "(I)V"⟩, 35), (⟨"OneTwoOneTwoModel", "noMorning", "(I)I"⟩, 35), (⟨"OneTwoOneTwoModel", "wrongTeams", "(I[J)I"⟩, 35), (⟨"OneTwoOneTwoModel", "noChanges", "(II)I"⟩, 35), (⟨"OneTwoOneTwoModel", "goesBy", "([JI)I"⟩, 35), (⟨"OneTwoOneTwoModel", "below", "(I)I"⟩, 35)]
theorem lw_r5 : ∀ q ∈ lw_privs_5, lw_okq q := List.forall_mem_cons.mpr ⟨lw_p64, List.forall_mem_cons.mpr ⟨lw_p65, List.forall_mem_cons.mpr ⟨lw_p66, List.forall_mem_cons.mpr ⟨lw_p67, List.forall_mem_cons.mpr ⟨lw_p68, List.forall_mem_cons.mpr ⟨lw_p69, List.forall_mem_cons.mpr ⟨lw_p70, fun _ h => absurd h List.not_mem_nil⟩⟩⟩⟩⟩⟩⟩
def lw_privs : List (MethodName × Nat) := lw_privs_1 ++ (lw_privs_2 ++ (lw_privs_3 ++ (lw_privs_4 ++ (lw_privs_5))))
def lw_tbl : List Cond := k2_sels lw_privs ++ tables_1
theorem lw_privs_ok : ∀ q ∈ lw_privs, lw_okq q := by
  show ∀ q ∈ lw_privs_1 ++ (lw_privs_2 ++ (lw_privs_3 ++ (lw_privs_4 ++ (lw_privs_5)))), lw_okq q
  exact List.forall_mem_append.mpr ⟨lw_r1, List.forall_mem_append.mpr ⟨lw_r2, List.forall_mem_append.mpr ⟨lw_r3, List.forall_mem_append.mpr ⟨lw_r4, lw_r5⟩⟩⟩⟩
end
section
def RX0 : String := "OneTwoOneTwo$Finder"
def TX0 : u_T := fun k => match k with
  | 0 => ("OneTwoOneTwo$Finder", "yard", "LOneTwoOneTwo$Yard;", true)
  | 1 => ("OneTwoOneTwo$Finder", "sides", "[I", true)
  | 2 => ("OneTwoOneTwo$Finder", "room", "[I", true)
  | 3 => ("OneTwoOneTwo$Finder", "taken", "[I", true)
  | 4 => ("OneTwoOneTwo$Finder", "ring", "[I", true)
  | _ => ("OneTwoOneTwo$Finder", "leaving", "[I", true)
def tyX0 : Nat → FieldType := fun k => match k with
  | 0 => .object "OneTwoOneTwo$Yard"
  | 1 => .array .int
  | 2 => .array .int
  | 3 => .array .int
  | 4 => .array .int
  | _ => .array .int
abbrev wsX00 : List Cond := u_ws RX0 TX0 6
theorem nmX0 : ∀ a, a < 6 → ∀ b, b < 6 → a ≠ b → (TX0 a).2.1 ≠ (TX0 b).2.1 := by decide +kernel
theorem tyX0_ok : ∀ k, k < 6 → parseFieldDescriptor (TX0 k).2.2.1 = some (tyX0 k) := by decide +kernel
abbrev cX0_init : ByteArray := prog_2_method_1_code
def yX0_init : MethodName := ⟨RX0, "<init>", "(LOneTwoOneTwo$Yard;)V"⟩
abbrev cX0_takeSides : ByteArray := prog_2_method_2_code
def yX0_takeSides : MethodName := ⟨RX0, "takeSides", "(I)V"⟩
abbrev cX0_exchangeSides : ByteArray := prog_2_method_3_code
def yX0_exchangeSides : MethodName := ⟨RX0, "exchangeSides", "(II)V"⟩
abbrev cX0_valueOfSides : ByteArray := prog_2_method_4_code
def yX0_valueOfSides : MethodName := ⟨RX0, "valueOfSides", "()I"⟩
abbrev cX0_valueWithChange : ByteArray := prog_2_method_5_code
def yX0_valueWithChange : MethodName := ⟨RX0, "valueWithChange", "(II)I"⟩
abbrev cX0_bestChange : ByteArray := prog_2_method_6_code
def yX0_bestChange : MethodName := ⟨RX0, "bestChange", "(I)I"⟩
abbrev cX0_fewestChanges : ByteArray := prog_2_method_7_code
def yX0_fewestChanges : MethodName := ⟨RX0, "fewestChanges", "(II)I"⟩
abbrev cX0_oneChangeReaches : ByteArray := prog_2_method_8_code
def yX0_oneChangeReaches : MethodName := ⟨RX0, "oneChangeReaches", "(III)Z"⟩
abbrev cX0_twoChangesReach : ByteArray := prog_2_method_9_code
def yX0_twoChangesReach : MethodName := ⟨RX0, "twoChangesReach", "(I)Z"⟩
abbrev cX0_firstChangeToFit : ByteArray := prog_2_method_10_code
def yX0_firstChangeToFit : MethodName := ⟨RX0, "firstChangeToFit", "(I[J)I"⟩
abbrev cX0_bestPlace : ByteArray := prog_2_method_11_code
def yX0_bestPlace : MethodName := ⟨RX0, "bestPlace", "(I)I"⟩
abbrev cX0_safestPlace : ByteArray := prog_2_method_12_code
def yX0_safestPlace : MethodName := ⟨RX0, "safestPlace", "(II)I"⟩
abbrev cX0_shortestMove : ByteArray := prog_2_method_13_code
def yX0_shortestMove : MethodName := ⟨RX0, "shortestMove", "(III)I"⟩
abbrev cX0_shortestMoveOf : ByteArray := prog_2_method_14_code
def yX0_shortestMoveOf : MethodName := ⟨RX0, "shortestMoveOf", "(III)I"⟩
abbrev cX0_greatestValue : ByteArray := prog_2_method_15_code
def yX0_greatestValue : MethodName := ⟨RX0, "greatestValue", "(I)I"⟩
abbrev cX0_greatestFrom : ByteArray := prog_2_method_16_code
def yX0_greatestFrom : MethodName := ⟨RX0, "greatestFrom", "(I)I"⟩
abbrev cX0_isLikeOneAhead : ByteArray := prog_2_method_17_code
def yX0_isLikeOneAhead : MethodName := ⟨RX0, "isLikeOneAhead", "(I)Z"⟩
abbrev cX0_countOut : ByteArray := prog_2_method_18_code
def yX0_countOut : MethodName := ⟨RX0, "countOut", "(I)V"⟩
def RX1 : String := "OneTwoOneTwo$Shelf"
def TX1 : u_T := fun k => match k with
  | 0 => ("OneTwoOneTwo$Shelf", "thing", "I", false)
  | 1 => ("OneTwoOneTwo$Shelf", "length", "I", false)
  | _ => ("OneTwoOneTwo$Shelf", "elements", "[J", true)
def tyX1 : Nat → FieldType := fun k => match k with
  | 0 => .int
  | 1 => .int
  | _ => .array .long
abbrev wsX10 : List Cond := u_ws RX1 TX1 3
theorem nmX1 : ∀ a, a < 3 → ∀ b, b < 3 → a ≠ b → (TX1 a).2.1 ≠ (TX1 b).2.1 := by decide +kernel
theorem tyX1_ok : ∀ k, k < 3 → parseFieldDescriptor (TX1 k).2.2.1 = some (tyX1 k) := by decide +kernel
abbrev cX1_init : ByteArray := prog_3_method_1_code
def yX1_init : MethodName := ⟨RX1, "<init>", "()V"⟩
abbrev cX1_isRow : ByteArray := prog_3_method_2_code
def yX1_isRow : MethodName := ⟨RX1, "isRow", "()Z"⟩
abbrev cX1_isCount : ByteArray := prog_3_method_3_code
def yX1_isCount : MethodName := ⟨RX1, "isCount", "()Z"⟩
abbrev cX1_countNumber : ByteArray := prog_3_method_4_code
def yX1_countNumber : MethodName := ⟨RX1, "countNumber", "()I"⟩
abbrev cX1_takeNothing : ByteArray := prog_3_method_5_code
def yX1_takeNothing : MethodName := ⟨RX1, "takeNothing", "()V"⟩
abbrev cX1_takeCount : ByteArray := prog_3_method_6_code
def yX1_takeCount : MethodName := ⟨RX1, "takeCount", "(I)V"⟩
abbrev cX1_takeRow : ByteArray := prog_3_method_7_code
def yX1_takeRow : MethodName := ⟨RX1, "takeRow", "(II)V"⟩
abbrev cX1_hasElement : ByteArray := prog_3_method_8_code
def yX1_hasElement : MethodName := ⟨RX1, "hasElement", "(I)Z"⟩
abbrev cX1_hasStretch : ByteArray := prog_3_method_9_code
def yX1_hasStretch : MethodName := ⟨RX1, "hasStretch", "(II)Z"⟩
abbrev cX1_put : ByteArray := prog_3_method_10_code
def yX1_put : MethodName := ⟨RX1, "put", "(IJ)V"⟩
def RX2 : String := "OneTwoOneTwo$Tape"
def TX2 : u_T := fun k => match k with
  | 0 => ("OneTwoOneTwo$Tape", "bytes", "[I", true)
  | 1 => ("OneTwoOneTwo$Tape", "size", "I", false)
  | 2 => ("OneTwoOneTwo$Tape", "token", "I", false)
  | 3 => ("OneTwoOneTwo$Tape", "start", "I", false)
  | _ => ("OneTwoOneTwo$Tape", "end", "I", false)
def tyX2 : Nat → FieldType := fun k => match k with
  | 0 => .array .int
  | 1 => .int
  | 2 => .int
  | 3 => .int
  | _ => .int
abbrev wsX20 : List Cond := u_ws RX2 TX2 5
theorem nmX2 : ∀ a, a < 5 → ∀ b, b < 5 → a ≠ b → (TX2 a).2.1 ≠ (TX2 b).2.1 := by decide +kernel
theorem tyX2_ok : ∀ k, k < 5 → parseFieldDescriptor (TX2 k).2.2.1 = some (tyX2 k) := by decide +kernel
abbrev cX2_init : ByteArray := prog_4_method_1_code
def yX2_init : MethodName := ⟨RX2, "<init>", "()V"⟩
abbrev cX2_put : ByteArray := prog_4_method_2_code
def yX2_put : MethodName := ⟨RX2, "put", "(I)I"⟩
abbrev cX2_clear : ByteArray := prog_4_method_3_code
def yX2_clear : MethodName := ⟨RX2, "clear", "()I"⟩
abbrev cX2_readOnto : ByteArray := prog_4_method_4_code
def yX2_readOnto : MethodName := ⟨RX2, "readOnto", "(LOneTwoOneTwo$Yard;)I"⟩
abbrev cX2_nextToken : ByteArray := prog_4_method_5_code
def yX2_nextToken : MethodName := ⟨RX2, "nextToken", "()V"⟩
abbrev cX2_tokenOf : ByteArray := prog_4_method_6_code
def yX2_tokenOf : MethodName := ⟨RX2, "tokenOf", "(I)I"⟩
abbrev cX2_isWord : ByteArray := prog_4_method_7_code
def yX2_isWord : MethodName := ⟨RX2, "isWord", "(Ljava/lang/String;)Z"⟩
abbrev cX2_nextNumber : ByteArray := prog_4_method_8_code
def yX2_nextNumber : MethodName := ⟨RX2, "nextNumber", "(II)I"⟩
abbrev cX2_readStatement : ByteArray := prog_4_method_9_code
def yX2_readStatement : MethodName := ⟨RX2, "readStatement", "(LOneTwoOneTwo$Yard;)Z"⟩
abbrev cX2_readChild : ByteArray := prog_4_method_10_code
def yX2_readChild : MethodName := ⟨RX2, "readChild", "(LOneTwoOneTwo$Yard;)Z"⟩
abbrev cX2_readCount : ByteArray := prog_4_method_11_code
def yX2_readCount : MethodName := ⟨RX2, "readCount", "(LOneTwoOneTwo$Yard;)Z"⟩
abbrev cX2_readWish : ByteArray := prog_4_method_12_code
def yX2_readWish : MethodName := ⟨RX2, "readWish", "(LOneTwoOneTwo$Yard;Z)Z"⟩
abbrev cX2_readSwap : ByteArray := prog_4_method_13_code
def yX2_readSwap : MethodName := ⟨RX2, "readSwap", "(LOneTwoOneTwo$Yard;)Z"⟩
abbrev cX2_readMove : ByteArray := prog_4_method_14_code
def yX2_readMove : MethodName := ⟨RX2, "readMove", "(LOneTwoOneTwo$Yard;)Z"⟩
def RX3 : String := "OneTwoOneTwo$Yard"
def TX3 : u_T := fun k => match k with
  | 0 => ("OneTwoOneTwo$Yard", "children", "I", false)
  | 1 => ("OneTwoOneTwo$Yard", "strong", "[I", true)
  | 2 => ("OneTwoOneTwo$Yard", "step", "[I", true)
  | 3 => ("OneTwoOneTwo$Yard", "where", "[I", true)
  | 4 => ("OneTwoOneTwo$Yard", "who", "[I", true)
  | 5 => ("OneTwoOneTwo$Yard", "counts", "I", false)
  | 6 => ("OneTwoOneTwo$Yard", "kinds", "[I", true)
  | 7 => ("OneTwoOneTwo$Yard", "teams", "[I", true)
  | 8 => ("OneTwoOneTwo$Yard", "slips", "[I", true)
  | 9 => ("OneTwoOneTwo$Yard", "wishes", "I", false)
  | 10 => ("OneTwoOneTwo$Yard", "firsts", "[I", true)
  | 11 => ("OneTwoOneTwo$Yard", "seconds", "[I", true)
  | 12 => ("OneTwoOneTwo$Yard", "together", "[I", true)
  | 13 => ("OneTwoOneTwo$Yard", "worths", "[I", true)
  | _ => ("OneTwoOneTwo$Yard", "seed", "I", false)
def tyX3 : Nat → FieldType := fun k => match k with
  | 0 => .int
  | 1 => .array .int
  | 2 => .array .int
  | 3 => .array .int
  | 4 => .array .int
  | 5 => .int
  | 6 => .array .int
  | 7 => .array .int
  | 8 => .array .int
  | 9 => .int
  | 10 => .array .int
  | 11 => .array .int
  | 12 => .array .int
  | 13 => .array .int
  | _ => .int
abbrev wsX30 : List Cond := u_ws RX3 TX3 15
theorem nmX3 : ∀ a, a < 15 → ∀ b, b < 15 → a ≠ b → (TX3 a).2.1 ≠ (TX3 b).2.1 := by decide +kernel
theorem tyX3_ok : ∀ k, k < 15 → parseFieldDescriptor (TX3 k).2.2.1 = some (tyX3 k) := by decide +kernel
abbrev cX3_init : ByteArray := prog_5_method_1_code
def yX3_init : MethodName := ⟨RX3, "<init>", "()V"⟩
abbrev cX3_takeOver : ByteArray := prog_5_method_2_code
def yX3_takeOver : MethodName := ⟨RX3, "takeOver", "(LOneTwoOneTwo$Yard;)V"⟩
abbrev cX3_hasChild : ByteArray := prog_5_method_3_code
def yX3_hasChild : MethodName := ⟨RX3, "hasChild", "(I)Z"⟩
abbrev cX3_hasPlace : ByteArray := prog_5_method_4_code
def yX3_hasPlace : MethodName := ⟨RX3, "hasPlace", "(I)Z"⟩
abbrev cX3_hasCount : ByteArray := prog_5_method_5_code
def yX3_hasCount : MethodName := ⟨RX3, "hasCount", "(I)Z"⟩
abbrev cX3_hasTeam : ByteArray := prog_5_method_6_code
def yX3_hasTeam : MethodName := ⟨RX3, "hasTeam", "(II)Z"⟩
abbrev cX3_hasWish : ByteArray := prog_5_method_7_code
def yX3_hasWish : MethodName := ⟨RX3, "hasWish", "(I)Z"⟩
abbrev cX3_addChild : ByteArray := prog_5_method_8_code
def yX3_addChild : MethodName := ⟨RX3, "addChild", "(II)I"⟩
abbrev cX3_addCount : ByteArray := prog_5_method_9_code
def yX3_addCount : MethodName := ⟨RX3, "addCount", "(III)I"⟩
abbrev cX3_addWish : ByteArray := prog_5_method_10_code
def yX3_addWish : MethodName := ⟨RX3, "addWish", "(IIZI)I"⟩
abbrev cX3_wishesOf : ByteArray := prog_5_method_11_code
def yX3_wishesOf : MethodName := ⟨RX3, "wishesOf", "(I)I"⟩
abbrev cX3_allWorths : ByteArray := prog_5_method_12_code
def yX3_allWorths : MethodName := ⟨RX3, "allWorths", "()I"⟩
abbrev cX3_allStrong : ByteArray := prog_5_method_13_code
def yX3_allStrong : MethodName := ⟨RX3, "allStrong", "()I"⟩
abbrev cX3_stand : ByteArray := prog_5_method_14_code
def yX3_stand : MethodName := ⟨RX3, "stand", "(II)V"⟩
abbrev cX3_exchange : ByteArray := prog_5_method_15_code
def yX3_exchange : MethodName := ⟨RX3, "exchange", "(II)V"⟩
abbrev cX3_shift : ByteArray := prog_5_method_16_code
def yX3_shift : MethodName := ⟨RX3, "shift", "(II)V"⟩
abbrev cX3_turnAbout : ByteArray := prog_5_method_17_code
def yX3_turnAbout : MethodName := ⟨RX3, "turnAbout", "()V"⟩
abbrev cX3_dropLast : ByteArray := prog_5_method_18_code
def yX3_dropLast : MethodName := ⟨RX3, "dropLast", "()V"⟩
abbrev cX3_inReach : ByteArray := prog_5_method_19_code
def yX3_inReach : MethodName := ⟨RX3, "inReach", "(II)Z"⟩
abbrev cX3_changeAsTold : ByteArray := prog_5_method_20_code
def yX3_changeAsTold : MethodName := ⟨RX3, "changeAsTold", "(J)Z"⟩
abbrev cX3_draw : ByteArray := prog_5_method_21_code
def yX3_draw : MethodName := ⟨RX3, "draw", "(I)I"⟩
abbrev cX3_evenPlaces : ByteArray := prog_5_method_22_code
def yX3_evenPlaces : MethodName := ⟨RX3, "evenPlaces", "()I"⟩
abbrev cX3_sideAt : ByteArray := prog_5_method_23_code
def yX3_sideAt : MethodName := ⟨RX3, "sideAt", "(II)I"⟩
abbrev cX3_sideOf : ByteArray := prog_5_method_24_code
def yX3_sideOf : MethodName := ⟨RX3, "sideOf", "(II)I"⟩
abbrev cX3_sameSide : ByteArray := prog_5_method_25_code
def yX3_sameSide : MethodName := ⟨RX3, "sameSide", "(III)Z"⟩
abbrev cX3_isMet : ByteArray := prog_5_method_26_code
def yX3_isMet : MethodName := ⟨RX3, "isMet", "(II)Z"⟩
abbrev cX3_valueBy : ByteArray := prog_5_method_27_code
def yX3_valueBy : MethodName := ⟨RX3, "valueBy", "(I)I"⟩
abbrev cX3_valueByAll : ByteArray := prog_5_method_28_code
def yX3_valueByAll : MethodName := ⟨RX3, "valueByAll", "()I"⟩
abbrev cX3_bitsOfSide : ByteArray := prog_5_method_29_code
def yX3_bitsOfSide : MethodName := ⟨RX3, "bitsOfSide", "(II)I"⟩
abbrev cX3_strongOfSide : ByteArray := prog_5_method_30_code
def yX3_strongOfSide : MethodName := ⟨RX3, "strongOfSide", "(II)I"⟩
abbrev cX3_unevenness : ByteArray := prog_5_method_31_code
def yX3_unevenness : MethodName := ⟨RX3, "unevenness", "(I)I"⟩
abbrev cX3_timesTogether : ByteArray := prog_5_method_32_code
def yX3_timesTogether : MethodName := ⟨RX3, "timesTogether", "(II)I"⟩
abbrev cX3_unlikeTold : ByteArray := prog_5_method_33_code
def yX3_unlikeTold : MethodName := ⟨RX3, "unlikeTold", "(I[J)I"⟩
abbrev cX3_hangingWith : ByteArray := prog_5_method_34_code
def yX3_hangingWith : MethodName := ⟨RX3, "hangingWith", "(I)I"⟩
def RX4 : String := "OneTwoOneTwo"
def TX4 : u_T := fun k => match k with
  | 0 => ("OneTwoOneTwo", "now", "LOneTwoOneTwo$Yard;", true)
  | 1 => ("OneTwoOneTwo", "kept", "LOneTwoOneTwo$Yard;", true)
  | 2 => ("OneTwoOneTwo", "draft", "LOneTwoOneTwo$Yard;", true)
  | 3 => ("OneTwoOneTwo", "finder", "LOneTwoOneTwo$Finder;", true)
  | 4 => ("OneTwoOneTwo", "tape", "LOneTwoOneTwo$Tape;", true)
  | 5 => ("OneTwoOneTwo", "shelves", "[LOneTwoOneTwo$Shelf;", true)
  | 6 => ("OneTwoOneTwo", "refusals", "[I", true)
  | _ => ("OneTwoOneTwo", "anythingKept", "Z", false)
def tyX4 : Nat → FieldType := fun k => match k with
  | 0 => .object "OneTwoOneTwo$Yard"
  | 1 => .object "OneTwoOneTwo$Yard"
  | 2 => .object "OneTwoOneTwo$Yard"
  | 3 => .object "OneTwoOneTwo$Finder"
  | 4 => .object "OneTwoOneTwo$Tape"
  | 5 => .array (.object "OneTwoOneTwo$Shelf")
  | 6 => .array .int
  | _ => .boolean
abbrev wsX40 : List Cond := u_ws RX4 TX4 8
theorem nmX4 : ∀ a, a < 8 → ∀ b, b < 8 → a ≠ b → (TX4 a).2.1 ≠ (TX4 b).2.1 := by decide +kernel
theorem tyX4_ok : ∀ k, k < 8 → parseFieldDescriptor (TX4 k).2.2.1 = some (tyX4 k) := by decide +kernel
abbrev cX4_init : ByteArray := prog_1_method_1_code
def yX4_init : MethodName := ⟨RX4, "<init>", "()V"⟩
abbrev cX4_row : ByteArray := prog_1_method_2_code
def yX4_row : MethodName := ⟨RX4, "row", "(III)I"⟩
abbrev cX4_set : ByteArray := prog_1_method_3_code
def yX4_set : MethodName := ⟨RX4, "set", "(IIJ)I"⟩
abbrev cX4_copy : ByteArray := prog_1_method_4_code
def yX4_copy : MethodName := ⟨RX4, "copy", "(IIIII)I"⟩
abbrev cX4_element : ByteArray := prog_1_method_5_code
def yX4_element : MethodName := ⟨RX4, "element", "(II)J"⟩
abbrev cX4_holds : ByteArray := prog_1_method_6_code
def yX4_holds : MethodName := ⟨RX4, "holds", "(I)I"⟩
abbrev cX4_show : ByteArray := prog_1_method_7_code
def yX4_show : MethodName := ⟨RX4, "show", "(II)I"⟩
abbrev cX4_says : ByteArray := prog_1_method_8_code
def yX4_says : MethodName := ⟨RX4, "says", "(II)I"⟩
abbrev cX4_child : ByteArray := prog_1_method_9_code
def yX4_child : MethodName := ⟨RX4, "child", "(II)I"⟩
abbrev cX4_count : ByteArray := prog_1_method_10_code
def yX4_count : MethodName := ⟨RX4, "count", "(III)I"⟩
abbrev cX4_wish : ByteArray := prog_1_method_11_code
def yX4_wish : MethodName := ⟨RX4, "wish", "(IIZI)I"⟩
abbrev cX4_content : ByteArray := prog_1_method_12_code
def yX4_content : MethodName := ⟨RX4, "content", "()I"⟩
abbrev cX4_feed : ByteArray := prog_1_method_13_code
def yX4_feed : MethodName := ⟨RX4, "feed", "(I)I"⟩
abbrev cX4_wipe : ByteArray := prog_1_method_14_code
def yX4_wipe : MethodName := ⟨RX4, "wipe", "()I"⟩
abbrev cX4_yard : ByteArray := prog_1_method_15_code
def yX4_yard : MethodName := ⟨RX4, "yard", "()I"⟩
abbrev cX4_childOf : ByteArray := prog_1_method_16_code
def yX4_childOf : MethodName := ⟨RX4, "childOf", "(II)I"⟩
abbrev cX4_countOf : ByteArray := prog_1_method_17_code
def yX4_countOf : MethodName := ⟨RX4, "countOf", "(II)I"⟩
abbrev cX4_wishOf : ByteArray := prog_1_method_18_code
def yX4_wishOf : MethodName := ⟨RX4, "wishOf", "(II)I"⟩
abbrev cX4_at : ByteArray := prog_1_method_19_code
def yX4_at : MethodName := ⟨RX4, "at", "(I)I"⟩
abbrev cX4_team : ByteArray := prog_1_method_20_code
def yX4_team : MethodName := ⟨RX4, "team", "(II)I"⟩
abbrev cX4_members : ByteArray := prog_1_method_21_code
def yX4_members : MethodName := ⟨RX4, "members", "(II)I"⟩
abbrev cX4_strength : ByteArray := prog_1_method_22_code
def yX4_strength : MethodName := ⟨RX4, "strength", "(II)I"⟩
abbrev cX4_heaviest : ByteArray := prog_1_method_23_code
def yX4_heaviest : MethodName := ⟨RX4, "heaviest", "(I)I"⟩
abbrev cX4_turned : ByteArray := prog_1_method_24_code
def yX4_turned : MethodName := ⟨RX4, "turned", "(I)I"⟩
abbrev cX4_unlike : ByteArray := prog_1_method_25_code
def yX4_unlike : MethodName := ⟨RX4, "unlike", "(II)I"⟩
abbrev cX4_unmet : ByteArray := prog_1_method_26_code
def yX4_unmet : MethodName := ⟨RX4, "unmet", "(I)I"⟩
abbrev cX4_friendsOf : ByteArray := prog_1_method_27_code
def yX4_friendsOf : MethodName := ⟨RX4, "friendsOf", "(I)I"⟩
abbrev cX4_groups : ByteArray := prog_1_method_28_code
def yX4_groups : MethodName := ⟨RX4, "groups", "()I"⟩
abbrev cX4_conflict : ByteArray := prog_1_method_29_code
def yX4_conflict : MethodName := ⟨RX4, "conflict", "()I"⟩
abbrev cX4_changes : ByteArray := prog_1_method_30_code
def yX4_changes : MethodName := ⟨RX4, "changes", "(II)I"⟩
abbrev cX4_place : ByteArray := prog_1_method_31_code
def yX4_place : MethodName := ⟨RX4, "place", "(I)I"⟩
abbrev cX4_value : ByteArray := prog_1_method_32_code
def yX4_value : MethodName := ⟨RX4, "value", "(I)I"⟩
abbrev cX4_met : ByteArray := prog_1_method_33_code
def yX4_met : MethodName := ⟨RX4, "met", "(II)I"⟩
abbrev cX4_best : ByteArray := prog_1_method_34_code
def yX4_best : MethodName := ⟨RX4, "best", "(I)I"⟩
abbrev cX4_even : ByteArray := prog_1_method_35_code
def yX4_even : MethodName := ⟨RX4, "even", "(I)I"⟩
abbrev cX4_change : ByteArray := prog_1_method_36_code
def yX4_change : MethodName := ⟨RX4, "change", "(I)I"⟩
abbrev cX4_far : ByteArray := prog_1_method_37_code
def yX4_far : MethodName := ⟨RX4, "far", "(III)I"⟩
abbrev cX4_most : ByteArray := prog_1_method_38_code
def yX4_most : MethodName := ⟨RX4, "most", "(I)I"⟩
abbrev cX4_always : ByteArray := prog_1_method_39_code
def yX4_always : MethodName := ⟨RX4, "always", "(I)I"⟩
abbrev cX4_often : ByteArray := prog_1_method_40_code
def yX4_often : MethodName := ⟨RX4, "often", "(II)I"⟩
abbrev cX4_safe : ByteArray := prog_1_method_41_code
def yX4_safe : MethodName := ⟨RX4, "safe", "(II)I"⟩
abbrev cX4_out : ByteArray := prog_1_method_42_code
def yX4_out : MethodName := ⟨RX4, "out", "(II)I"⟩
abbrev cX4_outAt : ByteArray := prog_1_method_43_code
def yX4_outAt : MethodName := ⟨RX4, "outAt", "(II)I"⟩
abbrev cX4_stays : ByteArray := prog_1_method_44_code
def yX4_stays : MethodName := ⟨RX4, "stays", "(I)I"⟩
abbrev cX4_fits : ByteArray := prog_1_method_45_code
def yX4_fits : MethodName := ⟨RX4, "fits", "(I)I"⟩
abbrev cX4_moved : ByteArray := prog_1_method_46_code
def yX4_moved : MethodName := ⟨RX4, "moved", "(II)I"⟩
abbrev cX4_miscounted : ByteArray := prog_1_method_47_code
def yX4_miscounted : MethodName := ⟨RX4, "miscounted", "(I)I"⟩
abbrev cX4_judge : ByteArray := prog_1_method_48_code
def yX4_judge : MethodName := ⟨RX4, "judge", "(II)I"⟩
abbrev cX4_behind : ByteArray := prog_1_method_49_code
def yX4_behind : MethodName := ⟨RX4, "behind", "(III)I"⟩
abbrev cX4_done : ByteArray := prog_1_method_50_code
def yX4_done : MethodName := ⟨RX4, "done", "(II)I"⟩
abbrev cX4_swap : ByteArray := prog_1_method_51_code
def yX4_swap : MethodName := ⟨RX4, "swap", "(II)I"⟩
abbrev cX4_move : ByteArray := prog_1_method_52_code
def yX4_move : MethodName := ⟨RX4, "move", "(II)I"⟩
abbrev cX4_turn : ByteArray := prog_1_method_53_code
def yX4_turn : MethodName := ⟨RX4, "turn", "()I"⟩
abbrev cX4_leaves : ByteArray := prog_1_method_54_code
def yX4_leaves : MethodName := ⟨RX4, "leaves", "()I"⟩
abbrev cX4_term : ByteArray := prog_1_method_55_code
def yX4_term : MethodName := ⟨RX4, "term", "(I)I"⟩
abbrev cX4_seed : ByteArray := prog_1_method_56_code
def yX4_seed : MethodName := ⟨RX4, "seed", "(I)I"⟩
abbrev cX4_image : ByteArray := prog_1_method_57_code
def yX4_image : MethodName := ⟨RX4, "image", "()I"⟩
abbrev cX4_back : ByteArray := prog_1_method_58_code
def yX4_back : MethodName := ⟨RX4, "back", "()I"⟩
abbrev cX4_status : ByteArray := prog_1_method_59_code
def yX4_status : MethodName := ⟨RX4, "status", "(I)I"⟩
abbrev cX4_within : ByteArray := prog_1_method_60_code
def yX4_within : MethodName := ⟨RX4, "within", "(III)Z"⟩
abbrev cX4_isShelf : ByteArray := prog_1_method_61_code
def yX4_isShelf : MethodName := ⟨RX4, "isShelf", "(I)Z"⟩
abbrev cX4_isOfKind : ByteArray := prog_1_method_62_code
def yX4_isOfKind : MethodName := ⟨RX4, "isOfKind", "(II)Z"⟩
abbrev cX4_areTwo : ByteArray := prog_1_method_63_code
def yX4_areTwo : MethodName := ⟨RX4, "areTwo", "(II)Z"⟩
abbrev cX4_refuse : ByteArray := prog_1_method_64_code
def yX4_refuse : MethodName := ⟨RX4, "refuse", "(I)I"⟩
abbrev cX4_rowTrouble : ByteArray := prog_1_method_65_code
def yX4_rowTrouble : MethodName := ⟨RX4, "rowTrouble", "(I)I"⟩
abbrev cX4_copyTrouble : ByteArray := prog_1_method_66_code
def yX4_copyTrouble : MethodName := ⟨RX4, "copyTrouble", "(II)I"⟩
abbrev cX4_toldTrouble : ByteArray := prog_1_method_67_code
def yX4_toldTrouble : MethodName := ⟨RX4, "toldTrouble", "(II)I"⟩
abbrev cX4_firstWrong : ByteArray := prog_1_method_68_code
def yX4_firstWrong : MethodName := ⟨RX4, "firstWrong", "(II)I"⟩
abbrev cX4_saying : ByteArray := prog_1_method_69_code
def yX4_saying : MethodName := ⟨RX4, "saying", "(II)I"⟩
abbrev cX4_merit : ByteArray := prog_1_method_70_code
def yX4_merit : MethodName := ⟨RX4, "merit", "(II)I"⟩
abbrev cX4_shelvesInUse : ByteArray := prog_1_method_71_code
def yX4_shelvesInUse : MethodName := ⟨RX4, "shelvesInUse", "()I"⟩
def RX5 : String := "OneTwoOneTwoModel"
def TX5 : u_T := fun k => match k with
  | 0 => ("OneTwoOneTwoModel", "shelf", "[I", true)
  | 1 => ("OneTwoOneTwoModel", "rowSort", "[I", true)
  | 2 => ("OneTwoOneTwoModel", "rowSize", "[I", true)
  | 3 => ("OneTwoOneTwoModel", "rows", "[[J", true)
  | 4 => ("OneTwoOneTwoModel", "carried", "[J", true)
  | 5 => ("OneTwoOneTwoModel", "shown", "[I", true)
  | 6 => ("OneTwoOneTwoModel", "tape", "[I", true)
  | 7 => ("OneTwoOneTwoModel", "tapeSize", "I", false)
  | 8 => ("OneTwoOneTwoModel", "refused", "[I", true)
  | 9 => ("OneTwoOneTwoModel", "children", "I", false)
  | 10 => ("OneTwoOneTwoModel", "strong", "[I", true)
  | 11 => ("OneTwoOneTwoModel", "step", "[I", true)
  | 12 => ("OneTwoOneTwoModel", "place", "[I", true)
  | 13 => ("OneTwoOneTwoModel", "counts", "I", false)
  | 14 => ("OneTwoOneTwoModel", "kind", "[I", true)
  | 15 => ("OneTwoOneTwoModel", "by", "[I", true)
  | 16 => ("OneTwoOneTwoModel", "slips", "[I", true)
  | 17 => ("OneTwoOneTwoModel", "wishes", "I", false)
  | 18 => ("OneTwoOneTwoModel", "one", "[I", true)
  | 19 => ("OneTwoOneTwoModel", "other", "[I", true)
  | 20 => ("OneTwoOneTwoModel", "together", "[I", true)
  | 21 => ("OneTwoOneTwoModel", "worth", "[I", true)
  | 22 => ("OneTwoOneTwoModel", "seed", "I", false)
  | 23 => ("OneTwoOneTwoModel", "kept", "LOneTwoOneTwoModel;", false)
  | 24 => ("OneTwoOneTwoModel", "tried", "LOneTwoOneTwoModel;", false)
  | 25 => ("OneTwoOneTwoModel", "here", "I", false)
  | 26 => ("OneTwoOneTwoModel", "token", "I", false)
  | 27 => ("OneTwoOneTwoModel", "from", "I", false)
  | 28 => ("OneTwoOneTwoModel", "figures", "I", false)
  | 29 => ("OneTwoOneTwoModel", "fault", "I", false)
  | 30 => ("OneTwoOneTwoModel", "told", "[I", true)
  | 31 => ("OneTwoOneTwoModel", "statements", "I", false)
  | 32 => ("OneTwoOneTwoModel", "mostValue", "I", false)
  | 33 => ("OneTwoOneTwoModel", "ring", "[I", true)
  | _ => ("OneTwoOneTwoModel", "outs", "[I", true)
def tyX5 : Nat → FieldType := fun k => match k with
  | 0 => .array .int
  | 1 => .array .int
  | 2 => .array .int
  | 3 => .array (.array .long)
  | 4 => .array .long
  | 5 => .array .int
  | 6 => .array .int
  | 7 => .int
  | 8 => .array .int
  | 9 => .int
  | 10 => .array .int
  | 11 => .array .int
  | 12 => .array .int
  | 13 => .int
  | 14 => .array .int
  | 15 => .array .int
  | 16 => .array .int
  | 17 => .int
  | 18 => .array .int
  | 19 => .array .int
  | 20 => .array .int
  | 21 => .array .int
  | 22 => .int
  | 23 => .object "OneTwoOneTwoModel"
  | 24 => .object "OneTwoOneTwoModel"
  | 25 => .int
  | 26 => .int
  | 27 => .int
  | 28 => .int
  | 29 => .int
  | 30 => .array .int
  | 31 => .int
  | 32 => .int
  | 33 => .array .int
  | _ => .array .int
abbrev wsX50 : List Cond := u_ws RX5 TX5 35
theorem nmX5 : ∀ a, a < 35 → ∀ b, b < 35 → a ≠ b → (TX5 a).2.1 ≠ (TX5 b).2.1 := by decide +kernel
theorem tyX5_ok : ∀ k, k < 35 → parseFieldDescriptor (TX5 k).2.2.1 = some (tyX5 k) := by decide +kernel
abbrev cX5_init : ByteArray := prog_7_method_1_code
def yX5_init : MethodName := ⟨RX5, "<init>", "()V"⟩
abbrev cX5_refuse : ByteArray := prog_7_method_2_code
def yX5_refuse : MethodName := ⟨RX5, "refuse", "(I)I"⟩
abbrev cX5_in : ByteArray := prog_7_method_3_code
def yX5_in : MethodName := ⟨RX5, "in", "(JJJ)Z"⟩
abbrev cX5_isChild : ByteArray := prog_7_method_4_code
def yX5_isChild : MethodName := ⟨RX5, "isChild", "(J)Z"⟩
abbrev cX5_areTwo : ByteArray := prog_7_method_5_code
def yX5_areTwo : MethodName := ⟨RX5, "areTwo", "(JJ)Z"⟩
abbrev cX5_isCount : ByteArray := prog_7_method_6_code
def yX5_isCount : MethodName := ⟨RX5, "isCount", "(I)Z"⟩
abbrev cX5_isTeam : ByteArray := prog_7_method_7_code
def yX5_isTeam : MethodName := ⟨RX5, "isTeam", "(II)Z"⟩
abbrev cX5_has : ByteArray := prog_7_method_8_code
def yX5_has : MethodName := ⟨RX5, "has", "(II)Z"⟩
abbrev cX5_row : ByteArray := prog_7_method_9_code
def yX5_row : MethodName := ⟨RX5, "row", "(III)I"⟩
abbrev cX5_fit : ByteArray := prog_7_method_10_code
def yX5_fit : MethodName := ⟨RX5, "fit", "(IJ)J"⟩
abbrev cX5_noRow : ByteArray := prog_7_method_11_code
def yX5_noRow : MethodName := ⟨RX5, "noRow", "(I)I"⟩
abbrev cX5_set : ByteArray := prog_7_method_12_code
def yX5_set : MethodName := ⟨RX5, "set", "(IIJ)I"⟩
abbrev cX5_copy : ByteArray := prog_7_method_13_code
def yX5_copy : MethodName := ⟨RX5, "copy", "(IIIII)I"⟩
abbrev cX5_element : ByteArray := prog_7_method_14_code
def yX5_element : MethodName := ⟨RX5, "element", "(II)J"⟩
abbrev cX5_holds : ByteArray := prog_7_method_15_code
def yX5_holds : MethodName := ⟨RX5, "holds", "(I)I"⟩
abbrev cX5_show : ByteArray := prog_7_method_16_code
def yX5_show : MethodName := ⟨RX5, "show", "(II)I"⟩
abbrev cX5_isUnder : ByteArray := prog_7_method_17_code
def yX5_isUnder : MethodName := ⟨RX5, "isUnder", "(II)Z"⟩
abbrev cX5_says : ByteArray := prog_7_method_18_code
def yX5_says : MethodName := ⟨RX5, "says", "(II)I"⟩
abbrev cX5_addChild : ByteArray := prog_7_method_19_code
def yX5_addChild : MethodName := ⟨RX5, "addChild", "(II)V"⟩
abbrev cX5_child : ByteArray := prog_7_method_20_code
def yX5_child : MethodName := ⟨RX5, "child", "(II)I"⟩
abbrev cX5_addCount : ByteArray := prog_7_method_21_code
def yX5_addCount : MethodName := ⟨RX5, "addCount", "(III)V"⟩
abbrev cX5_count : ByteArray := prog_7_method_22_code
def yX5_count : MethodName := ⟨RX5, "count", "(III)I"⟩
abbrev cX5_addWish : ByteArray := prog_7_method_23_code
def yX5_addWish : MethodName := ⟨RX5, "addWish", "(IIII)V"⟩
abbrev cX5_wish : ByteArray := prog_7_method_24_code
def yX5_wish : MethodName := ⟨RX5, "wish", "(IIZI)I"⟩
abbrev cX5_content : ByteArray := prog_7_method_25_code
def yX5_content : MethodName := ⟨RX5, "content", "()I"⟩
abbrev cX5_feed : ByteArray := prog_7_method_26_code
def yX5_feed : MethodName := ⟨RX5, "feed", "(I)I"⟩
abbrev cX5_wipe : ByteArray := prog_7_method_27_code
def yX5_wipe : MethodName := ⟨RX5, "wipe", "()I"⟩
abbrev cX5_isLetter : ByteArray := prog_7_method_28_code
def yX5_isLetter : MethodName := ⟨RX5, "isLetter", "(I)Z"⟩
abbrev cX5_isDigit : ByteArray := prog_7_method_29_code
def yX5_isDigit : MethodName := ⟨RX5, "isDigit", "(I)Z"⟩
abbrev cX5_look : ByteArray := prog_7_method_30_code
def yX5_look : MethodName := ⟨RX5, "look", "()V"⟩
abbrev cX5_wrong : ByteArray := prog_7_method_31_code
def yX5_wrong : MethodName := ⟨RX5, "wrong", "()Z"⟩
abbrev cX5_isWord : ByteArray := prog_7_method_32_code
def yX5_isWord : MethodName := ⟨RX5, "isWord", "(Ljava/lang/String;)Z"⟩
abbrev cX5_number : ByteArray := prog_7_method_33_code
def yX5_number : MethodName := ⟨RX5, "number", "(III)Z"⟩
abbrev cX5_tells : ByteArray := prog_7_method_34_code
def yX5_tells : MethodName := ⟨RX5, "tells", "(II)Z"⟩
abbrev cX5_twoTold : ByteArray := prog_7_method_35_code
def yX5_twoTold : MethodName := ⟨RX5, "twoTold", "()Z"⟩
abbrev cX5_wishTold : ByteArray := prog_7_method_36_code
def yX5_wishTold : MethodName := ⟨RX5, "wishTold", "(I)Z"⟩
abbrev cX5_statement : ByteArray := prog_7_method_37_code
def yX5_statement : MethodName := ⟨RX5, "statement", "()Z"⟩
abbrev cX5_readAll : ByteArray := prog_7_method_38_code
def yX5_readAll : MethodName := ⟨RX5, "readAll", "()Z"⟩
abbrev cX5_fresh : ByteArray := prog_7_method_39_code
def yX5_fresh : MethodName := ⟨RX5, "fresh", "()LOneTwoOneTwoModel;"⟩
abbrev cX5_yard : ByteArray := prog_7_method_40_code
def yX5_yard : MethodName := ⟨RX5, "yard", "()I"⟩
abbrev cX5_childOf : ByteArray := prog_7_method_41_code
def yX5_childOf : MethodName := ⟨RX5, "childOf", "(II)I"⟩
abbrev cX5_countOf : ByteArray := prog_7_method_42_code
def yX5_countOf : MethodName := ⟨RX5, "countOf", "(II)I"⟩
abbrev cX5_wishOf : ByteArray := prog_7_method_43_code
def yX5_wishOf : MethodName := ⟨RX5, "wishOf", "(II)I"⟩
abbrev cX5_standing : ByteArray := prog_7_method_44_code
def yX5_standing : MethodName := ⟨RX5, "standing", "(I)I"⟩
abbrev cX5_at : ByteArray := prog_7_method_45_code
def yX5_at : MethodName := ⟨RX5, "at", "(I)I"⟩
abbrev cX5_slipped : ByteArray := prog_7_method_46_code
def yX5_slipped : MethodName := ⟨RX5, "slipped", "(II)I"⟩
abbrev cX5_teamAt : ByteArray := prog_7_method_47_code
def yX5_teamAt : MethodName := ⟨RX5, "teamAt", "(II)I"⟩
abbrev cX5_teamOf : ByteArray := prog_7_method_48_code
def yX5_teamOf : MethodName := ⟨RX5, "teamOf", "(II)I"⟩
abbrev cX5_areIn : ByteArray := prog_7_method_49_code
def yX5_areIn : MethodName := ⟨RX5, "areIn", "(III)Z"⟩
abbrev cX5_isMet : ByteArray := prog_7_method_50_code
def yX5_isMet : MethodName := ⟨RX5, "isMet", "(II)Z"⟩
abbrev cX5_valueOf : ByteArray := prog_7_method_51_code
def yX5_valueOf : MethodName := ⟨RX5, "valueOf", "(I)I"⟩
abbrev cX5_swaps : ByteArray := prog_7_method_52_code
def yX5_swaps : MethodName := ⟨RX5, "swaps", "(II)V"⟩
abbrev cX5_moves : ByteArray := prog_7_method_53_code
def yX5_moves : MethodName := ⟨RX5, "moves", "(II)V"⟩
abbrev cX5_turns : ByteArray := prog_7_method_54_code
def yX5_turns : MethodName := ⟨RX5, "turns", "()V"⟩
abbrev cX5_team : ByteArray := prog_7_method_55_code
def yX5_team : MethodName := ⟨RX5, "team", "(II)I"⟩
abbrev cX5_members : ByteArray := prog_7_method_56_code
def yX5_members : MethodName := ⟨RX5, "members", "(II)I"⟩
abbrev cX5_strengthOf : ByteArray := prog_7_method_57_code
def yX5_strengthOf : MethodName := ⟨RX5, "strengthOf", "(II)I"⟩
abbrev cX5_strength : ByteArray := prog_7_method_58_code
def yX5_strength : MethodName := ⟨RX5, "strength", "(II)I"⟩
abbrev cX5_heaviest : ByteArray := prog_7_method_59_code
def yX5_heaviest : MethodName := ⟨RX5, "heaviest", "(I)I"⟩
abbrev cX5_turned : ByteArray := prog_7_method_60_code
def yX5_turned : MethodName := ⟨RX5, "turned", "(I)I"⟩
abbrev cX5_unlike : ByteArray := prog_7_method_61_code
def yX5_unlike : MethodName := ⟨RX5, "unlike", "(II)I"⟩
abbrev cX5_unmet : ByteArray := prog_7_method_62_code
def yX5_unmet : MethodName := ⟨RX5, "unmet", "(I)I"⟩
abbrev cX5_friends : ByteArray := prog_7_method_63_code
def yX5_friends : MethodName := ⟨RX5, "friends", "(I)I"⟩
abbrev cX5_friendsOf : ByteArray := prog_7_method_64_code
def yX5_friendsOf : MethodName := ⟨RX5, "friendsOf", "(I)I"⟩
abbrev cX5_groups : ByteArray := prog_7_method_65_code
def yX5_groups : MethodName := ⟨RX5, "groups", "()I"⟩
abbrev cX5_conflict : ByteArray := prog_7_method_66_code
def yX5_conflict : MethodName := ⟨RX5, "conflict", "()I"⟩
abbrev cX5_value : ByteArray := prog_7_method_67_code
def yX5_value : MethodName := ⟨RX5, "value", "(I)I"⟩
abbrev cX5_met : ByteArray := prog_7_method_68_code
def yX5_met : MethodName := ⟨RX5, "met", "(II)I"⟩
abbrev cX5_evenOf : ByteArray := prog_7_method_69_code
def yX5_evenOf : MethodName := ⟨RX5, "evenOf", "(I)I"⟩
abbrev cX5_even : ByteArray := prog_7_method_70_code
def yX5_even : MethodName := ⟨RX5, "even", "(I)I"⟩
abbrev cX5_best : ByteArray := prog_7_method_71_code
def yX5_best : MethodName := ⟨RX5, "best", "(I)I"⟩
abbrev cX5_mayChange : ByteArray := prog_7_method_72_code
def yX5_mayChange : MethodName := ⟨RX5, "mayChange", "(II)Z"⟩
abbrev cX5_change : ByteArray := prog_7_method_73_code
def yX5_change : MethodName := ⟨RX5, "change", "(I)I"⟩
abbrev cX5_canBeBy : ByteArray := prog_7_method_74_code
def yX5_canBeBy : MethodName := ⟨RX5, "canBeBy", "(III)Z"⟩
abbrev cX5_changes : ByteArray := prog_7_method_75_code
def yX5_changes : MethodName := ⟨RX5, "changes", "(II)I"⟩
abbrev cX5_place : ByteArray := prog_7_method_76_code
def yX5_place : MethodName := ⟨RX5, "place", "(I)I"⟩
abbrev cX5_far : ByteArray := prog_7_method_77_code
def yX5_far : MethodName := ⟨RX5, "far", "(III)I"⟩
abbrev cX5_seekMost : ByteArray := prog_7_method_78_code
def yX5_seekMost : MethodName := ⟨RX5, "seekMost", "(III)V"⟩
abbrev cX5_most : ByteArray := prog_7_method_79_code
def yX5_most : MethodName := ⟨RX5, "most", "(I)I"⟩
abbrev cX5_always : ByteArray := prog_7_method_80_code
def yX5_always : MethodName := ⟨RX5, "always", "(I)I"⟩
abbrev cX5_oftenOf : ByteArray := prog_7_method_81_code
def yX5_oftenOf : MethodName := ⟨RX5, "oftenOf", "(II)I"⟩
abbrev cX5_often : ByteArray := prog_7_method_82_code
def yX5_often : MethodName := ⟨RX5, "often", "(II)I"⟩
abbrev cX5_safe : ByteArray := prog_7_method_83_code
def yX5_safe : MethodName := ⟨RX5, "safe", "(II)I"⟩
abbrev cX5_findOut : ByteArray := prog_7_method_84_code
def yX5_findOut : MethodName := ⟨RX5, "findOut", "(I)V"⟩
abbrev cX5_out : ByteArray := prog_7_method_85_code
def yX5_out : MethodName := ⟨RX5, "out", "(II)I"⟩
abbrev cX5_outAt : ByteArray := prog_7_method_86_code
def yX5_outAt : MethodName := ⟨RX5, "outAt", "(II)I"⟩
abbrev cX5_stays : ByteArray := prog_7_method_87_code
def yX5_stays : MethodName := ⟨RX5, "stays", "(I)I"⟩
abbrev cX5_noMorning : ByteArray := prog_7_method_88_code
def yX5_noMorning : MethodName := ⟨RX5, "noMorning", "(I)I"⟩
abbrev cX5_wrongTeams : ByteArray := prog_7_method_89_code
def yX5_wrongTeams : MethodName := ⟨RX5, "wrongTeams", "(I[J)I"⟩
abbrev cX5_fits : ByteArray := prog_7_method_90_code
def yX5_fits : MethodName := ⟨RX5, "fits", "(I)I"⟩
abbrev cX5_moved : ByteArray := prog_7_method_91_code
def yX5_moved : MethodName := ⟨RX5, "moved", "(II)I"⟩
abbrev cX5_miscounted : ByteArray := prog_7_method_92_code
def yX5_miscounted : MethodName := ⟨RX5, "miscounted", "(I)I"⟩
abbrev cX5_noChanges : ByteArray := prog_7_method_93_code
def yX5_noChanges : MethodName := ⟨RX5, "noChanges", "(II)I"⟩
abbrev cX5_goesBy : ByteArray := prog_7_method_94_code
def yX5_goesBy : MethodName := ⟨RX5, "goesBy", "([JI)I"⟩
abbrev cX5_judge : ByteArray := prog_7_method_95_code
def yX5_judge : MethodName := ⟨RX5, "judge", "(II)I"⟩
abbrev cX5_behind : ByteArray := prog_7_method_96_code
def yX5_behind : MethodName := ⟨RX5, "behind", "(III)I"⟩
abbrev cX5_done : ByteArray := prog_7_method_97_code
def yX5_done : MethodName := ⟨RX5, "done", "(II)I"⟩
abbrev cX5_swap : ByteArray := prog_7_method_98_code
def yX5_swap : MethodName := ⟨RX5, "swap", "(II)I"⟩
abbrev cX5_move : ByteArray := prog_7_method_99_code
def yX5_move : MethodName := ⟨RX5, "move", "(II)I"⟩
abbrev cX5_turn : ByteArray := prog_7_method_100_code
def yX5_turn : MethodName := ⟨RX5, "turn", "()I"⟩
abbrev cX5_leaves : ByteArray := prog_7_method_101_code
def yX5_leaves : MethodName := ⟨RX5, "leaves", "()I"⟩
abbrev cX5_below : ByteArray := prog_7_method_102_code
def yX5_below : MethodName := ⟨RX5, "below", "(I)I"⟩
abbrev cX5_term : ByteArray := prog_7_method_103_code
def yX5_term : MethodName := ⟨RX5, "term", "(I)I"⟩
abbrev cX5_seed : ByteArray := prog_7_method_104_code
def yX5_seed : MethodName := ⟨RX5, "seed", "(I)I"⟩
abbrev cX5_copied : ByteArray := prog_7_method_105_code
def yX5_copied : MethodName := ⟨RX5, "copied", "([I[I)V"⟩
abbrev cX5_takeFrom : ByteArray := prog_7_method_106_code
def yX5_takeFrom : MethodName := ⟨RX5, "takeFrom", "(LOneTwoOneTwoModel;)V"⟩
abbrev cX5_image : ByteArray := prog_7_method_107_code
def yX5_image : MethodName := ⟨RX5, "image", "()I"⟩
abbrev cX5_back : ByteArray := prog_7_method_108_code
def yX5_back : MethodName := ⟨RX5, "back", "()I"⟩
abbrev cX5_status : ByteArray := prog_7_method_109_code
def yX5_status : MethodName := ⟨RX5, "status", "(I)I"⟩
def RJ9 : String := "java/lang/Math"
def TJ9 : u_T := fun k => match k with
  | _ => ("", "", "", false)
def tyJ9 : Nat → FieldType := fun k => match k with
  | _ => .int
abbrev wsJ90 : List Cond := u_ws RJ9 TJ9 0
theorem nmJ9 : ∀ a, a < 0 → ∀ b, b < 0 → a ≠ b → (TJ9 a).2.1 ≠ (TJ9 b).2.1 := by decide +kernel
theorem tyJ9_ok : ∀ k, k < 0 → parseFieldDescriptor (TJ9 k).2.2.1 = some (tyJ9 k) := by decide +kernel
abbrev cJ9_abs_0f7a4 : ByteArray := prog_8_method_59_code
def yJ9_abs_0f7a4 : MethodName := ⟨RJ9, "abs", "(I)I"⟩
abbrev cJ9_max_7cf53 : ByteArray := prog_8_method_65_code
def yJ9_max_7cf53 : MethodName := ⟨RJ9, "max", "(II)I"⟩
abbrev cJ9_min_7cf53 : ByteArray := prog_8_method_69_code
def yJ9_min_7cf53 : MethodName := ⟨RJ9, "min", "(II)I"⟩
def RJ0 : String := "java/lang/String"
def TJ0 : u_T := fun k => match k with
  | _ => ("", "", "", false)
def tyJ0 : Nat → FieldType := fun k => match k with
  | _ => .int
abbrev wsJ00 : List Cond := u_ws RJ0 TJ0 0
theorem nmJ0 : ∀ a, a < 0 → ∀ b, b < 0 → a ≠ b → (TJ0 a).2.1 ≠ (TJ0 b).2.1 := by decide +kernel
theorem tyJ0_ok : ∀ k, k < 0 → parseFieldDescriptor (TJ0 k).2.2.1 = some (tyJ0 k) := by decide +kernel
abbrev cJ0_length_8abf5 : ByteArray := prog_9_method_54_code
def yJ0_length_8abf5 : MethodName := ⟨RJ0, "length", "()I"⟩
abbrev cJ0_charAt_5068e : ByteArray := prog_9_method_56_code
def yJ0_charAt_5068e : MethodName := ⟨RJ0, "charAt", "(I)C"⟩
abbrev cJ0_coder_7d493 : ByteArray := prog_9_method_152_code
def yJ0_coder_7d493 : MethodName := ⟨RJ0, "coder", "()B"⟩
abbrev cJ0_isLatin1_aae02 : ByteArray := prog_9_method_154_code
def yJ0_isLatin1_aae02 : MethodName := ⟨RJ0, "isLatin1", "()Z"⟩
abbrev cJ0_checkIndex_df160 : ByteArray := prog_9_method_155_code
def yJ0_checkIndex_df160 : MethodName := ⟨RJ0, "checkIndex", "(II)V"⟩
def RJ1 : String := "java/lang/StringLatin1"
def TJ1 : u_T := fun k => match k with
  | _ => ("", "", "", false)
def tyJ1 : Nat → FieldType := fun k => match k with
  | _ => .int
abbrev wsJ10 : List Cond := u_ws RJ1 TJ1 0
theorem nmJ1 : ∀ a, a < 0 → ∀ b, b < 0 → a ≠ b → (TJ1 a).2.1 ≠ (TJ1 b).2.1 := by decide +kernel
theorem tyJ1_ok : ∀ k, k < 0 → parseFieldDescriptor (TJ1 k).2.2.1 = some (tyJ1 k) := by decide +kernel
abbrev cJ1_charAt_3b067 : ByteArray := prog_10_method_2_code
def yJ1_charAt_3b067 : MethodName := ⟨RJ1, "charAt", "([BI)C"⟩
def RJ2 : String := "java/lang/StringUTF16"
def TJ2 : u_T := fun k => match k with
  | _ => ("", "", "", false)
def tyJ2 : Nat → FieldType := fun k => match k with
  | _ => .int
abbrev wsJ20 : List Cond := u_ws RJ2 TJ2 0
theorem nmJ2 : ∀ a, a < 0 → ∀ b, b < 0 → a ≠ b → (TJ2 a).2.1 ≠ (TJ2 b).2.1 := by decide +kernel
theorem tyJ2_ok : ∀ k, k < 0 → parseFieldDescriptor (TJ2 k).2.2.1 = some (tyJ2 k) := by decide +kernel
abbrev cJ2_getChar_3b067 : ByteArray := prog_11_method_5_code
def yJ2_getChar_3b067 : MethodName := ⟨RJ2, "getChar", "([BI)C"⟩
abbrev cJ2_length_9d52b : ByteArray := prog_11_method_6_code
def yJ2_length_9d52b : MethodName := ⟨RJ2, "length", "([B)I"⟩
abbrev cJ2_charAt_3b067 : ByteArray := prog_11_method_83_code
def yJ2_charAt_3b067 : MethodName := ⟨RJ2, "charAt", "([BI)C"⟩
abbrev cJ2_checkIndex_2214a : ByteArray := prog_11_method_91_code
def yJ2_checkIndex_2214a : MethodName := ⟨RJ2, "checkIndex", "(I[B)V"⟩
def RJ10 : String := "java/lang/System"
def TJ10 : u_T := fun k => match k with
  | _ => ("", "", "", false)
def tyJ10 : Nat → FieldType := fun k => match k with
  | _ => .int
abbrev wsJ100 : List Cond := u_ws RJ10 TJ10 0
theorem nmJ10 : ∀ a, a < 0 → ∀ b, b < 0 → a ≠ b → (TJ10 a).2.1 ≠ (TJ10 b).2.1 := by decide +kernel
theorem tyJ10_ok : ∀ k, k < 0 → parseFieldDescriptor (TJ10 k).2.2.1 = some (tyJ10 k) := by decide +kernel
def RJ3 : String := "jdk/internal/util/Preconditions"
def TJ3 : u_T := fun k => match k with
  | _ => ("", "", "", false)
def tyJ3 : Nat → FieldType := fun k => match k with
  | _ => .int
abbrev wsJ30 : List Cond := u_ws RJ3 TJ3 0
theorem nmJ3 : ∀ a, a < 0 → ∀ b, b < 0 → a ≠ b → (TJ3 a).2.1 ≠ (TJ3 b).2.1 := by decide +kernel
theorem tyJ3_ok : ∀ k, k < 0 → parseFieldDescriptor (TJ3 k).2.2.1 = some (tyJ3 k) := by decide +kernel
abbrev cJ3_checkIndex_8e157 : ByteArray := prog_13_method_11_code
def yJ3_checkIndex_8e157 : MethodName := ⟨RJ3, "checkIndex", "(IILjava/util/function/BiFunction;)I"⟩
def RL : String := "OneTwoOneTwoLaw"
abbrev cL_law : ByteArray := code
def yL_law : MethodName := ⟨RL, "law", "([I)Z"⟩
abbrev vwCl : List vw_C := [(RX0, TX0, 6), (RX1, TX1, 3), (RX2, TX2, 5), (RX3, TX3, 15), (RX4, TX4, 8), (RX5, TX5, 35)]
end
section
/-! ===== an abstract heap: cells 1 .. n by their numbers (0: null), a graph (how many, their slots, kinds, references) beside what the int and long places hold ===== -/
def lw_tg : List Cond := lw_tbl.filter goodWord
theorem lw_tg_in {w : Cond} (h : w ∈ lw_tbl) (hg : goodWord w = true) : w ∈ lw_tg := List.mem_filter.mpr ⟨h, hg⟩
theorem lw_tg_good : ∀ w ∈ lw_tg, w ∈ lw_tbl ∧ ((w.onTables && w.keeps) = true ∨ ∃ ty, w = .arrayClass ty) := fun w h => ⟨(List.mem_filter.mp h).1, good_of_word (List.mem_filter.mp h).2⟩
abbrev jv_Gr : Type := Nat × Nat × (Nat → Nat × Nat) × (Nat → Nat → Nat)
def jv_n (G : jv_Gr) : Nat := G.1
def jv_s (G : jv_Gr) : Nat := G.2.1
def jv_k (G : jv_Gr) (a : Nat) : Nat × Nat := if a = 0 ∨ G.1 < a then (99, 0) else G.2.2.1 a
def jv_r (G : jv_Gr) (a k : Nat) : Nat := G.2.2.2 a k
abbrev jv_I : Type := Nat → Nat → Int32
abbrev jv_J : Type := Nat → Nat → Int64
def jv_up {α : Type} (f : Nat → Nat → α) (a k : Nat) (v : α) : Nat → Nat → α := fun b j => if b = a then (if j = k then v else f b j) else f b j
def jv_pa {α : Type} (f : Nat → Nat → α) (a : Nat) (g : Nat → α) : Nat → Nat → α := fun b => if b = a then g else f b
def jv_sr (G : jv_Gr) (a k r : Nat) : jv_Gr := (G.1, G.2.1, G.2.2.1, jv_up G.2.2.2 a k r)
/-- one cell more: its kind, its slots -/
def jv_nw (G : jv_Gr) (k : Nat × Nat) (sl : Nat) : jv_Gr := (G.1 + 1, G.2.1 + sl, fun a => if a = G.1 + 1 then k else G.2.2.1 a, fun a j => if a = G.1 + 1 then 0 else G.2.2.2 a j)
def jv_zI (I : jv_I) (a : Nat) : jv_I := fun b j => if b = a then 0 else I b j
def jv_zJ (J : jv_J) (a : Nat) : jv_J := fun b j => if b = a then 0 else J b j
def jv_o (ad : Nat → Nat) (r : Nat) : Option Nat := if r = 0 then none else some (ad r)
def jv_v (ad : Nat → Nat) : Value → Value
  | .ref r => va_rf (jv_o ad r)
  | v => v
theorem jv_v_int (ad : Nat → Nat) (x : Int32) : jv_v ad (.int x) = .int x := rfl
theorem jv_v_long (ad : Nat → Nat) (x : Int64) : jv_v ad (.long x) = .long x := rfl
theorem jv_v_ref (ad : Nat → Nat) {a : Nat} (h : a ≠ 0) : jv_v ad (.ref a) = .ref (ad a) := by
  show va_rf (jv_o ad a) = _
  rw [jv_o, if_neg h]; rfl
theorem jv_v_cat (ad : Nat → Nat) (v : Value) : (jv_v ad v).category = v.category := by
  cases v with
  | ref r =>
    show (va_rf (jv_o ad r)).category = 1
    unfold jv_o
    split <;> rfl
  | _ => rfl
/-- which fields hold references -/
def jv_isr (c k : Nat) : Bool := match c with
  | 0 => true
  | 1 => k == 2
  | 2 => k == 0
  | 3 => !(k == 0 || k == 5 || k == 9 || k == 14)
  | 4 => !(k == 7)
  | _ => !(k == 7 || k == 9 || k == 13 || k == 17 || k == 22 || k == 25 || k == 26 || k == 27 || k == 28 || k == 29 || k == 31 || k == 32)
def jv_nf (c : Nat) : Nat := match c with
  | 0 => 6
  | 1 => 3
  | 2 => 5
  | 3 => 15
  | 4 => 8
  | _ => 35
def jv_f (ad : Nat → Nat) (G : jv_Gr) (I : jv_I) (c a k : Nat) : Value := if jv_isr c k = true then va_rf (jv_o ad (jv_r G a k)) else .int (I a k)
def jv_fs (ad : Nat → Nat) (G : jv_Gr) (I : jv_I) (c a : Nat) : List Value := (List.range (jv_nf c)).map (jv_f ad G I c a)
/-- a cell, by its kind: 0 int[], 1 long[], 2 Shelf[], 3 long[][], 10 and the number of its class -/
def jv_E (cA : Nat → ClassId) (ad : Nat → Nat) (G : jv_Gr) (I : jv_I) (J : jv_J) (a : Nat) : va_E :=
  if (jv_k G a).1 = 0 then .inl (cA 0, (jv_k G a).2, .inl (I a))
  else if (jv_k G a).1 = 1 then .inl (cA 1, (jv_k G a).2, .inr (.inl (J a)))
  else if (jv_k G a).1 = 2 then .inl (cA 2, (jv_k G a).2, .inr (.inr (.inr (.inr (fun j => jv_o ad (jv_r G a j))))))
  else if (jv_k G a).1 = 3 then .inl (cA 3, (jv_k G a).2, .inr (.inr (.inr (.inr (fun j => jv_o ad (jv_r G a j))))))
  else .inr ((jv_k G a).1 - 10, jv_fs ad G I ((jv_k G a).1 - 10) a)
def jv_W (cA : Nat → ClassId) (ad : Nat → Nat) (G : jv_Gr) (I : jv_I) (J : jv_J) : va_W := (List.range (jv_n G)).map (fun k => (ad (k + 1), jv_E cA ad G I J (k + 1)))
theorem jv_k_in {G : jv_Gr} {a t n : Nat} (h : jv_k G a = (t, n)) (ht : t ≠ 99) : a ≠ 0 ∧ a ≤ jv_n G := by
  unfold jv_k at h
  split at h
  · cases h; exact absurd rfl ht
  · rename_i q
    exact ⟨fun z => q (Or.inl z), Nat.not_lt.mp fun z => q (Or.inr z)⟩
theorem jv_W_at {cA : Nat → ClassId} {ad : Nat → Nat} {G : jv_Gr} {I : jv_I} {J : jv_J} {a : Nat} (h : a ≠ 0 ∧ a ≤ jv_n G) : (jv_W cA ad G I J)[a - 1]? = some (ad a, jv_E cA ad G I J a) := by
  have h1 : a - 1 < jv_n G := by omega
  have h2 : a - 1 + 1 = a := by omega
  unfold jv_W
  rw [List.getElem?_map, List.getElem?_range h1]
  show some (ad (a - 1 + 1), jv_E cA ad G I J (a - 1 + 1)) = _
  rw [h2]
theorem jv_W_len (cA : Nat → ClassId) (ad : Nat → Nat) (G : jv_Gr) (I : jv_I) (J : jv_J) : (jv_W cA ad G I J).length = jv_n G := by simp [jv_W]
/-- one cell has changed -/
theorem jv_W_set {cA : Nat → ClassId} {ad : Nat → Nat} {G G2 : jv_Gr} {I I2 : jv_I} {J J2 : jv_J} {a : Nat} (h : a ≠ 0 ∧ a ≤ jv_n G) (hn : jv_n G2 = jv_n G) (hE : ∀ b, b ≠ a → jv_E cA ad G2 I2 J2 b = jv_E cA ad G I J b) : (jv_W cA ad G I J).set (a - 1) (ad a, jv_E cA ad G2 I2 J2 a) = jv_W cA ad G2 I2 J2 := by
  refine List.ext_getElem? fun k => ?_
  by_cases hk : k = a - 1
  · subst hk
    rw [List.getElem?_set_self (by rw [jv_W_len]; omega), jv_W_at (by rw [hn]; exact h)]
  · rw [List.getElem?_set_ne (Ne.symm hk)]
    by_cases hl : k < jv_n G
    · have e1 := jv_W_at (cA := cA) (ad := ad) (G := G) (I := I) (J := J) (a := k + 1) ⟨by omega, by omega⟩
      have e2 := jv_W_at (cA := cA) (ad := ad) (G := G2) (I := I2) (J := J2) (a := k + 1) ⟨by omega, by omega⟩
      rw [Nat.add_sub_cancel] at e1 e2
      rw [e1, e2, hE (k + 1) (by omega)]
    · rw [List.getElem?_eq_none (by rw [jv_W_len]; omega), List.getElem?_eq_none (by rw [jv_W_len]; omega)]
theorem jv_k_up (G : jv_Gr) (a k r b : Nat) : jv_k (jv_sr G a k r) b = jv_k G b := rfl
theorem jv_k_old {G : jv_Gr} {b sl : Nat} {k : Nat × Nat} (h : b ≤ jv_n G) : jv_k (jv_nw G k sl) b = jv_k G b := by
  have h' : b ≤ G.1 := h
  unfold jv_k jv_nw
  by_cases h0 : b = 0
  · simp [h0]
  · rw [if_neg (by omega), if_neg (by show ¬ (b = 0 ∨ G.1 < b); omega)]
    show (if b = G.1 + 1 then k else G.2.2.1 b) = _
    rw [if_neg (by omega)]
theorem jv_k_new {G : jv_Gr} {sl : Nat} {k : Nat × Nat} : jv_k (jv_nw G k sl) (jv_n G + 1) = k := by
  unfold jv_k jv_nw jv_n
  rw [if_neg (by show ¬ (G.1 + 1 = 0 ∨ G.1 + 1 < G.1 + 1); omega)]
  show (if G.1 + 1 = G.1 + 1 then k else _) = k
  rw [if_pos rfl]
theorem jv_r_old {G : jv_Gr} {b sl j : Nat} {k : Nat × Nat} (h : b ≤ jv_n G) : jv_r (jv_nw G k sl) b j = jv_r G b j := by
  have h' : b ≤ G.1 := h
  show (if b = G.1 + 1 then 0 else G.2.2.2 b j) = G.2.2.2 b j
  rw [if_neg (by omega)]
theorem jv_r_new {G : jv_Gr} {sl j : Nat} {k : Nat × Nat} : jv_r (jv_nw G k sl) (jv_n G + 1) j = 0 := by
  show (if G.1 + 1 = G.1 + 1 then 0 else G.2.2.2 _ j) = 0
  rw [if_pos rfl]
/-- the heap's references stay within what there is -/
def jv_gw (G : jv_Gr) : Prop := ∀ b j, b ≤ jv_n G → jv_r G b j ≤ jv_n G
theorem jv_o_eq {ad ad' : Nat → Nat} {r : Nat} (h : ad' r = ad r) : jv_o ad' r = jv_o ad r := by unfold jv_o; rw [h]
theorem jv_E_ad {cA : Nat → ClassId} {ad ad' : Nat → Nat} {G : jv_Gr} {I : jv_I} {J : jv_J} {b : Nat} (h : ∀ j, ad' (jv_r G b j) = ad (jv_r G b j)) : jv_E cA ad' G I J b = jv_E cA ad G I J b := by
  have ho : ∀ j, jv_o ad' (jv_r G b j) = jv_o ad (jv_r G b j) := fun j => jv_o_eq (h j)
  have hf : jv_fs ad' G I ((jv_k G b).1 - 10) b = jv_fs ad G I ((jv_k G b).1 - 10) b := by
    unfold jv_fs
    apply List.map_congr_left
    intro k _
    unfold jv_f
    rw [ho]
  unfold jv_E
  rw [hf]
  simp only [ho]
theorem jv_E_new {cA : Nat → ClassId} {ad : Nat → Nat} {G : jv_Gr} {I : jv_I} {J : jv_J} {b sl : Nat} {k : Nat × Nat} {I2 : jv_I} {J2 : jv_J} (h : b ≤ jv_n G) (hI : I2 b = I b) (hJ : J2 b = J b) : jv_E cA ad (jv_nw G k sl) I2 J2 b = jv_E cA ad G I J b := by
  have hr : ∀ j, jv_r (jv_nw G k sl) b j = jv_r G b j := fun j => jv_r_old h
  have hf : jv_fs ad (jv_nw G k sl) I2 ((jv_k G b).1 - 10) b = jv_fs ad G I ((jv_k G b).1 - 10) b := by
    unfold jv_fs
    apply List.map_congr_left
    intro k _
    unfold jv_f
    rw [hr, hI]
  unfold jv_E
  rw [jv_k_old h, hf, hI, hJ]
  simp only [hr]
/-- a cell is made -/
theorem jv_W_new {cA : Nat → ClassId} {ad ad2 : Nat → Nat} {G : jv_Gr} {I I2 : jv_I} {J J2 : jv_J} {sl : Nat} {k : Nat × Nat} (hg : jv_gw G) (had : ∀ b, b ≤ jv_n G → ad2 b = ad b) (hI : ∀ b, b ≤ jv_n G → I2 b = I b) (hJ : ∀ b, b ≤ jv_n G → J2 b = J b) : jv_W cA ad2 (jv_nw G k sl) I2 J2 = jv_W cA ad G I J ++ [(ad2 (jv_n G + 1), jv_E cA ad2 (jv_nw G k sl) I2 J2 (jv_n G + 1))] := by
  unfold jv_W
  have hn : jv_n (jv_nw G k sl) = jv_n G + 1 := rfl
  rw [hn, List.range_succ, List.map_append]
  congr 1
  apply List.map_congr_left
  intro b hb
  have hb' : b + 1 ≤ jv_n G := List.mem_range.mp hb
  rw [had _ hb', jv_E_new hb' (hI _ hb') (hJ _ hb'), jv_E_ad (fun j => had _ (hg _ j hb'))]
theorem jv_gw_new {G : jv_Gr} {sl : Nat} {k : Nat × Nat} (h : jv_gw G) : jv_gw (jv_nw G k sl) := by
  intro b j hb
  have hn : jv_n (jv_nw G k sl) = jv_n G + 1 := rfl
  rw [hn] at hb ⊢
  by_cases hb2 : b ≤ jv_n G
  · rw [jv_r_old hb2]
    exact Nat.le_succ_of_le (h b j hb2)
  · rw [show b = jv_n G + 1 by omega, jv_r_new]
    exact Nat.zero_le _
theorem jv_gw_sr {G : jv_Gr} {a k r : Nat} (h : jv_gw G) (hr : r ≤ jv_n G) : jv_gw (jv_sr G a k r) := by
  intro b j hb
  show jv_up G.2.2.2 a k r b j ≤ jv_n G
  unfold jv_up
  split
  · split
    · exact hr
    · exact h b j hb
  · exact h b j hb
/-! ===== what a method stands on, and the judgement: from this place the method returns r, the heap then being G' I' J' ===== -/
def jv_tys (cA : Nat → ClassId) : List (ClassId × FieldType) := [(cA 0, .int), (cA 1, .long), (cA 2, .object RX1), (cA 3, .array .long)]
def jv_under (j : Nat) : Int32 := match j with
  | 0 => -1
  | 1 => 0
  | 2 => 0
  | 3 => 0
  | 4 => 1
  | _ => 3
def jv_len : List Nat := [5, 5, 4, 7, 4, 4]
def jv_byt : List (List Int32) := [[99, 104, 105, 108, 100], [99, 111, 117, 110, 116], [119, 105, 116, 104], [119, 105, 116, 104, 111, 117, 116], [115, 119, 97, 112], [109, 111, 118, 101]]
/-- what was there before the law began, and stays: a static array, the texts, the nest's links -/
def jv_env (base : Nat) (adS : Nat → Nat) (U : State) : Prop :=
  va_Z RX4 "UNDER" "[I" (.ref (adS 100)) (fun q => base ≤ q) U U.heap ∧ va_T .int (adS 100) 6 (fun j => .int (jv_under j)) (fun q => base ≤ q) U U.heap ∧
  va_Z RJ0 "COMPACT_STRINGS" "Z" (.int 1) (fun q => base ≤ q) U U.heap ∧
  vk_S 6 jv_len jv_byt adS (fun i => adS (200 + i)) (fun q => base ≤ q) U U.heap ∧
  (∀ q ∈ ([(RX2, 53, "child", 0), (RX2, 67, "count", 1), (RX2, 75, "with", 2), (RX2, 84, "without", 3), (RX2, 86, "swap", 4), (RX2, 91, "move", 5), (RX5, 205, "child", 0), (RX5, 211, "count", 1), (RX5, 213, "with", 2), (RX5, 218, "without", 3), (RX5, 220, "swap", 4), (RX5, 225, "move", 5)] : List (String × Nat × String × Nat)), vk_R q.1 q.2.1 q.2.2.1 (adS q.2.2.2) U) ∧
  (∀ q ∈ ([(RX4, 9, yX3_init, RX4), (RX4, 33, yX2_init, RX4), (RX4, 52, yX1_init, RX4), (RX1, 22, yX4_within, RX4), (RX3, 64, yX4_within, RX4), (RX2, 49, yX4_within, RX4)] : List (String × Nat × MethodName × String)), va_Nw (.methodLinkNest q.1 q.2.1 q.2.2.1 q.2.2.2) U) ∧
  va_AO RX1 U ∧ (Cond.arrayOver (.array .long)).before #[] U = true
abbrev jv_M : Type := MethodName × ByteArray × Nat × Option FieldType
def jv_Cx (p : Program) (s : State) (m : MethodId) (args : Array Value) (meth : Method) (c : Code) (M : jv_M) (base : Nat) (D : va_G) (cA : Nat → ClassId) (adS : Nat → Nat) : Prop :=
  p.tables.exec = Jvm.exec ∧ c.code = M.2.1 ∧ c.maxLocals = M.2.2.1 ∧ meth.sig.returnType = M.2.2.2 ∧ meth.locks = false ∧ meth.name = M.1.name ∧ s.vm.findClass M.1.cls = some m.cls ∧ (∀ w ∈ lw_tg, w.before args s = true) ∧ base ≤ s.heap.size ∧ va_K D vwCl (jv_tys cA) s ∧ jv_env base adS s
def jv_Hp (s : State) (H : Heap) (locs : List Loc) (ad : Nat → Nat) (base : Nat) (D : va_G) (cA : Nat → ClassId) (adS : Nat → Nat) (G : jv_Gr) (I : jv_I) (J : jv_J) : Prop :=
  (∀ k, ad (1000000 + k) = adS k) ∧ jv_gw G ∧ va_P D vwCl (jv_W cA ad G I J) H ∧ va_D (fun q => base ≤ q) (jv_W cA ad G I J) ∧ va_S (fun q => base ≤ q) s.heap H locs
def jv_Rm (R : Room) (cells slots mc ms d : Nat) (G G' : jv_Gr) : Prop := d ≤ R.frames ∧ 40 * d ≤ R.locals ∧ mc ≤ R.cells ∧ ms ≤ R.slots ∧ cells + jv_n G' ≤ mc + jv_n G ∧ slots + jv_s G' ≤ ms + jv_s G
/-- the locals: .null: nothing that counts (a long's second place, one that isn't set) -/
def jv_L (ad : Nat → Nat) (ls : Array Slot) (nL : Nat) (L : List Value) : Prop := L.length = nL ∧ ls.size = nL ∧ lv_wf ls ∧ ∀ (i : Nat) (v : Value), L[i]? = some v → v ≠ .null → ls[i]? = some (.val (jv_v ad v))
def jv_Q (base : Nat) (D : va_G) (cA : Nat → ClassId) (ad : Nat → Nat) (n0 : Nat) (r : Option Value) (G' : jv_Gr) (I' : jv_I) (J' : jv_J) : Array Value → State → Outcome → State → Prop := fun _ st oc t =>
  (∃ ad' : Nat → Nat, (∀ k, (k ≤ n0 ∨ jv_n G' < k) → ad' k = ad k) ∧ jv_gw G' ∧ oc = .returned (r.map (jv_v ad')) ∧ va_P D vwCl (jv_W cA ad' G' I' J') t.heap ∧ va_D (fun q => base ≤ q) (jv_W cA ad' G' I' J')) ∧ va_F (fun q => base ≤ q) st t
def jv_V (d : Nat) (M : jv_M) (pc : Nat) (L S : List Value) (G : jv_Gr) (I : jv_I) (J : jv_J) (r : Option Value) (G' : jv_Gr) (I' : jv_I) (J' : jv_J) : Prop :=
  (jv_n G ≤ jv_n G' ∧ jv_s G ≤ jv_s G') ∧
  ∀ (p : Program) (l : Launch) (e : Env) (R : Room) (s : State) (m : MethodId) (args : Array Value) (below : List Frame) (meth : Method) (c : Code) (H : Heap) (locs : List Loc) (cells slots : Nat) (ls : Array Slot) (ad : Nat → Nat) (base : Nat) (D : va_G) (cA : Nat → ClassId) (adS : Nat → Nat) (mc ms : Nat),
    jv_Cx p s m args meth c M base D cA adS → jv_Hp s H locs ad base D cA adS G I J → jv_L ad ls M.2.2.1 L → jv_Rm R cells slots mc ms d G G' →
    W p l e R s m args below meth c H locs cells slots (MQ below (jv_Q base D cA ad (jv_n G) r G' I' J') args s mc ms (fun q => base ≤ q)) (F0 m pc ls (S.map (jv_v ad)))
theorem jv_L.at {ad : Nat → Nat} {ls : Array Slot} {nL : Nat} {L : List Value} (h : jv_L ad ls nL L) {i : Nat} {v : Value} (hi : L[i]? = some v) (hv : v ≠ .null) : ls[i]? = some (.val (jv_v ad v)) := h.2.2.2 i v hi hv
/-- the locals as the kit's rows want them -/
def jv_lv (ad : Nat → Nat) (L : List Value) : List (Nat × Value) := (List.range L.length).filterMap (fun i => if L.getD i .null = .null then none else some (i, jv_v ad (L.getD i .null)))
theorem jv_lv_in {ad : Nat → Nat} {L : List Value} {i : Nat} {v : Value} (hi : L[i]? = some v) (hv : v ≠ .null) : (i, jv_v ad v) ∈ jv_lv ad L := by
  have hd : L.getD i .null = v := by rw [List.getD_eq_getElem?_getD, hi]; rfl
  refine List.mem_filterMap.mpr ⟨i, List.mem_range.mpr (List.getElem?_eq_some_iff.mp hi).1, ?_⟩
  rw [hd, if_neg hv]
theorem jv_L.has {ad : Nat → Nat} {ls : Array Slot} {nL : Nat} {L : List Value} (h : jv_L ad ls nL L) : lv_has ls nL (jv_lv ad L) := by
  refine ⟨h.2.1, h.2.2.1, fun q hq => ?_⟩
  obtain ⟨i, hi, he⟩ := List.mem_filterMap.mp hq
  have hl := List.mem_range.mp hi
  have hg : L[i]? = some (L.getD i .null) := by rw [List.getD_eq_getElem?_getD, List.getElem?_eq_getElem hl]; rfl
  by_cases hn : L.getD i .null = .null
  · rw [if_pos hn] at he; cases he
  · rw [if_neg hn] at he
    cases he
    exact h.at hg hn
/-- the local ahead of place i holds one word -/
def jv_c1 (L : List Value) (i : Nat) : Prop := ∀ (j : Nat) (w : Value), j + 1 = i → L[j]? = some w → w.category = 1
theorem jv_L.put1 {ad : Nat → Nat} {ls ls' : Array Slot} {nL : Nat} {L : List Value} {i : Nat} {v : Value} (h : jv_L ad ls nL L) (hc : jv_c1 L i) (hv : v ≠ .null) (hi : i < nL)
    (h2 : lv_has ls' nL ((i, jv_v ad v) :: (jv_lv ad L).filter (fun q => !(q.1 == i) && !(q.1 + 1 == i && q.2.category == 2)))) : jv_L ad ls' nL (L.set i v) := by
  refine ⟨by rw [List.length_set]; exact h.1, h2.1, h2.2.1, fun j w hj hw => ?_⟩
  by_cases hji : j = i
  · subst hji
    rw [List.getElem?_set_self (by rw [h.1]; exact hi)] at hj
    cases hj
    exact h2.2.2 _ List.mem_cons_self
  · rw [List.getElem?_set_ne (Ne.symm hji)] at hj
    refine h2.2.2 (j, jv_v ad w) (List.mem_cons_of_mem _ (List.mem_filter.mpr ⟨jv_lv_in hj hw, ?_⟩))
    have h1 : (j == i) = false := by simpa using hji
    by_cases h3 : j + 1 = i
    · have h4 : (jv_v ad w).category = 1 := by rw [jv_v_cat]; exact hc j w h3 hj
      simp [h1, h4]
    · simp [h1, h3]
theorem jv_L.put2 {ad : Nat → Nat} {ls ls' : Array Slot} {nL : Nat} {L : List Value} {i : Nat} {v : Value} (h : jv_L ad ls nL L) (hc : jv_c1 L i) (hv : v ≠ .null) (hi : i + 1 < nL)
    (h2 : lv_has ls' nL ((i, jv_v ad v) :: (jv_lv ad L).filter (fun q => !(q.1 == i) && (!(q.1 == i + 1) && !(q.1 + 1 == i && q.2.category == 2))))) : jv_L ad ls' nL ((L.set i v).set (i + 1) .null) := by
  refine ⟨by rw [List.length_set, List.length_set]; exact h.1, h2.1, h2.2.1, fun j w hj hw => ?_⟩
  by_cases hj2 : j = i + 1
  · subst hj2
    rw [List.getElem?_set_self (by rw [List.length_set, h.1]; exact hi)] at hj
    cases hj
    exact absurd rfl hw
  · rw [List.getElem?_set_ne (Ne.symm hj2)] at hj
    by_cases hji : j = i
    · subst hji
      rw [List.getElem?_set_self (by rw [h.1]; omega)] at hj
      cases hj
      exact h2.2.2 _ List.mem_cons_self
    · rw [List.getElem?_set_ne (Ne.symm hji)] at hj
      refine h2.2.2 (j, jv_v ad w) (List.mem_cons_of_mem _ (List.mem_filter.mpr ⟨jv_lv_in hj hw, ?_⟩))
      have h1 : (j == i) = false := by simpa using hji
      have h5 : (j == i + 1) = false := by simpa using hj2
      by_cases h3 : j + 1 = i
      · have h4 : (jv_v ad w).category = 1 := by rw [jv_v_cat]; exact hc j w h3 hj
        simp [h1, h4, h5]
      · simp [h1, h3, h5]
theorem jv_c1_0 {L : List Value} : jv_c1 L 0 := fun j w hj _ => by omega
theorem jv_c1_s {L : List Value} {i : Nat} {v : Value} (h : L[i]? = some v) (hc : v.category = 1) : jv_c1 L (i + 1) := fun j w hj hw => by
  obtain rfl : j = i := by omega
  rw [h] at hw
  cases hw
  exact hc
theorem jv_iconst {d pc : Nat} {M : jv_M} {L S : List Value} {G G' : jv_Gr} {I I' : jv_I} {J J' : jv_J} {r : Option Value} {n : Int} {v : Int32} (hd : decode M.2.1 pc = .ok (.iconst n, 1)) (hv : Int32.ofInt n = v) (h : jv_V d M (pc + 1) L (.int v :: S) G I J r G' I' J') : jv_V d M pc L S G I J r G' I' J' := ⟨h.1, fun p l e R s m args below meth c H locs cells slots ls ad base D cA adS mc ms C T1 T2 T3 => lv_iconst C.1 C.2.1 hd hv (h.2 p l e R s m args below meth c H locs cells slots ls ad base D cA adS mc ms C T1 T2 T3)⟩
theorem jv_bipush {d pc : Nat} {M : jv_M} {L S : List Value} {G G' : jv_Gr} {I I' : jv_I} {J J' : jv_J} {r : Option Value} {n : Int} {v : Int32} (hd : decode M.2.1 pc = .ok (.bipush n, 2)) (hv : (Int8.ofInt n).toInt32 = v) (h : jv_V d M (pc + 2) L (.int v :: S) G I J r G' I' J') : jv_V d M pc L S G I J r G' I' J' := ⟨h.1, fun p l e R s m args below meth c H locs cells slots ls ad base D cA adS mc ms C T1 T2 T3 => lv_bipush C.1 C.2.1 hd hv (h.2 p l e R s m args below meth c H locs cells slots ls ad base D cA adS mc ms C T1 T2 T3)⟩
theorem jv_sipush {d pc : Nat} {M : jv_M} {L S : List Value} {G G' : jv_Gr} {I I' : jv_I} {J J' : jv_J} {r : Option Value} {n : Int} {v : Int32} (hd : decode M.2.1 pc = .ok (.sipush n, 3)) (hv : (Int16.ofInt n).toInt32 = v) (h : jv_V d M (pc + 3) L (.int v :: S) G I J r G' I' J') : jv_V d M pc L S G I J r G' I' J' := ⟨h.1, fun p l e R s m args below meth c H locs cells slots ls ad base D cA adS mc ms C T1 T2 T3 => lv_sipush C.1 C.2.1 hd hv (h.2 p l e R s m args below meth c H locs cells slots ls ad base D cA adS mc ms C T1 T2 T3)⟩
theorem jv_lconst {d pc : Nat} {M : jv_M} {L S : List Value} {G G' : jv_Gr} {I I' : jv_I} {J J' : jv_J} {r : Option Value} {n : Fin 2} {v : Int64} (hd : decode M.2.1 pc = .ok (.lconst n, 1)) (hv : Int64.ofNat (n : Nat) = v) (h : jv_V d M (pc + 1) L (.long v :: S) G I J r G' I' J') : jv_V d M pc L S G I J r G' I' J' := ⟨h.1, fun p l e R s m args below meth c H locs cells slots ls ad base D cA adS mc ms C T1 T2 T3 => lv_lconst C.1 C.2.1 hd hv (h.2 p l e R s m args below meth c H locs cells slots ls ad base D cA adS mc ms C T1 T2 T3)⟩
theorem jv_iadd {d pc : Nat} {M : jv_M} {L S : List Value} {G G' : jv_Gr} {I I' : jv_I} {J J' : jv_J} {r : Option Value} {x y : Int32} (hd : decode M.2.1 pc = .ok (.iadd, 1))  (h : jv_V d M (pc + 1) L (.int (x + y) :: S) G I J r G' I' J') : jv_V d M pc L (.int y :: .int x :: S) G I J r G' I' J' := ⟨h.1, fun p l e R s m args below meth c H locs cells slots ls ad base D cA adS mc ms C T1 T2 T3 => lv_iadd C.1 C.2.1 hd  (h.2 p l e R s m args below meth c H locs cells slots ls ad base D cA adS mc ms C T1 T2 T3)⟩
theorem jv_isub {d pc : Nat} {M : jv_M} {L S : List Value} {G G' : jv_Gr} {I I' : jv_I} {J J' : jv_J} {r : Option Value} {x y : Int32} (hd : decode M.2.1 pc = .ok (.isub, 1))  (h : jv_V d M (pc + 1) L (.int (x - y) :: S) G I J r G' I' J') : jv_V d M pc L (.int y :: .int x :: S) G I J r G' I' J' := ⟨h.1, fun p l e R s m args below meth c H locs cells slots ls ad base D cA adS mc ms C T1 T2 T3 => lv_isub C.1 C.2.1 hd  (h.2 p l e R s m args below meth c H locs cells slots ls ad base D cA adS mc ms C T1 T2 T3)⟩
theorem jv_imul {d pc : Nat} {M : jv_M} {L S : List Value} {G G' : jv_Gr} {I I' : jv_I} {J J' : jv_J} {r : Option Value} {x y : Int32} (hd : decode M.2.1 pc = .ok (.imul, 1))  (h : jv_V d M (pc + 1) L (.int (x * y) :: S) G I J r G' I' J') : jv_V d M pc L (.int y :: .int x :: S) G I J r G' I' J' := ⟨h.1, fun p l e R s m args below meth c H locs cells slots ls ad base D cA adS mc ms C T1 T2 T3 => lv_imul C.1 C.2.1 hd  (h.2 p l e R s m args below meth c H locs cells slots ls ad base D cA adS mc ms C T1 T2 T3)⟩
theorem jv_iand {d pc : Nat} {M : jv_M} {L S : List Value} {G G' : jv_Gr} {I I' : jv_I} {J J' : jv_J} {r : Option Value} {x y : Int32} (hd : decode M.2.1 pc = .ok (.iand, 1))  (h : jv_V d M (pc + 1) L (.int (x &&& y) :: S) G I J r G' I' J') : jv_V d M pc L (.int y :: .int x :: S) G I J r G' I' J' := ⟨h.1, fun p l e R s m args below meth c H locs cells slots ls ad base D cA adS mc ms C T1 T2 T3 => lv_iand C.1 C.2.1 hd  (h.2 p l e R s m args below meth c H locs cells slots ls ad base D cA adS mc ms C T1 T2 T3)⟩
theorem jv_ior {d pc : Nat} {M : jv_M} {L S : List Value} {G G' : jv_Gr} {I I' : jv_I} {J J' : jv_J} {r : Option Value} {x y : Int32} (hd : decode M.2.1 pc = .ok (.ior, 1))  (h : jv_V d M (pc + 1) L (.int (x ||| y) :: S) G I J r G' I' J') : jv_V d M pc L (.int y :: .int x :: S) G I J r G' I' J' := ⟨h.1, fun p l e R s m args below meth c H locs cells slots ls ad base D cA adS mc ms C T1 T2 T3 => lv_ior C.1 C.2.1 hd  (h.2 p l e R s m args below meth c H locs cells slots ls ad base D cA adS mc ms C T1 T2 T3)⟩
theorem jv_ishl {d pc : Nat} {M : jv_M} {L S : List Value} {G G' : jv_Gr} {I I' : jv_I} {J J' : jv_J} {r : Option Value} {x y : Int32} (hd : decode M.2.1 pc = .ok (.ishl, 1))  (h : jv_V d M (pc + 1) L (.int (x <<< (y &&& 31)) :: S) G I J r G' I' J') : jv_V d M pc L (.int y :: .int x :: S) G I J r G' I' J' := ⟨h.1, fun p l e R s m args below meth c H locs cells slots ls ad base D cA adS mc ms C T1 T2 T3 => lv_ishl C.1 C.2.1 hd  (h.2 p l e R s m args below meth c H locs cells slots ls ad base D cA adS mc ms C T1 T2 T3)⟩
theorem jv_ishr {d pc : Nat} {M : jv_M} {L S : List Value} {G G' : jv_Gr} {I I' : jv_I} {J J' : jv_J} {r : Option Value} {x y : Int32} (hd : decode M.2.1 pc = .ok (.ishr, 1))  (h : jv_V d M (pc + 1) L (.int (x >>> (y &&& 31)) :: S) G I J r G' I' J') : jv_V d M pc L (.int y :: .int x :: S) G I J r G' I' J' := ⟨h.1, fun p l e R s m args below meth c H locs cells slots ls ad base D cA adS mc ms C T1 T2 T3 => lv_ishr C.1 C.2.1 hd  (h.2 p l e R s m args below meth c H locs cells slots ls ad base D cA adS mc ms C T1 T2 T3)⟩
theorem jv_iushr {d pc : Nat} {M : jv_M} {L S : List Value} {G G' : jv_Gr} {I I' : jv_I} {J J' : jv_J} {r : Option Value} {x y v : Int32} (hd : decode M.2.1 pc = .ok (.iushr, 1)) (hv : (x.toUInt32 >>> (y.toUInt32 &&& Int32.toUInt32 31)).toInt32 = v) (h : jv_V d M (pc + 1) L (.int v :: S) G I J r G' I' J') : jv_V d M pc L (.int y :: .int x :: S) G I J r G' I' J' := ⟨h.1, fun p l e R s m args below meth c H locs cells slots ls ad base D cA adS mc ms C T1 T2 T3 => lv_iushr C.1 C.2.1 hd hv (h.2 p l e R s m args below meth c H locs cells slots ls ad base D cA adS mc ms C T1 T2 T3)⟩
theorem jv_idiv {d pc : Nat} {M : jv_M} {L S : List Value} {G G' : jv_Gr} {I I' : jv_I} {J J' : jv_J} {r : Option Value} {x y : Int32} (hd : decode M.2.1 pc = .ok (.idiv, 1)) (hne : ¬ y = 0) (h : jv_V d M (pc + 1) L (.int (x / y) :: S) G I J r G' I' J') : jv_V d M pc L (.int y :: .int x :: S) G I J r G' I' J' := ⟨h.1, fun p l e R s m args below meth c H locs cells slots ls ad base D cA adS mc ms C T1 T2 T3 => lv_idiv C.1 C.2.1 hd hne (h.2 p l e R s m args below meth c H locs cells slots ls ad base D cA adS mc ms C T1 T2 T3)⟩
theorem jv_irem {d pc : Nat} {M : jv_M} {L S : List Value} {G G' : jv_Gr} {I I' : jv_I} {J J' : jv_J} {r : Option Value} {x y : Int32} (hd : decode M.2.1 pc = .ok (.irem, 1)) (hne : ¬ y = 0) (h : jv_V d M (pc + 1) L (.int (x - x / y * y) :: S) G I J r G' I' J') : jv_V d M pc L (.int y :: .int x :: S) G I J r G' I' J' := ⟨h.1, fun p l e R s m args below meth c H locs cells slots ls ad base D cA adS mc ms C T1 T2 T3 => lv_irem C.1 C.2.1 hd hne (h.2 p l e R s m args below meth c H locs cells slots ls ad base D cA adS mc ms C T1 T2 T3)⟩
theorem jv_ineg {d pc : Nat} {M : jv_M} {L S : List Value} {G G' : jv_Gr} {I I' : jv_I} {J J' : jv_J} {r : Option Value} {x : Int32} (hd : decode M.2.1 pc = .ok (.ineg, 1))  (h : jv_V d M (pc + 1) L (.int (-x) :: S) G I J r G' I' J') : jv_V d M pc L (.int x :: S) G I J r G' I' J' := ⟨h.1, fun p l e R s m args below meth c H locs cells slots ls ad base D cA adS mc ms C T1 T2 T3 => lv_ineg C.1 C.2.1 hd  (h.2 p l e R s m args below meth c H locs cells slots ls ad base D cA adS mc ms C T1 T2 T3)⟩
theorem jv_land {d pc : Nat} {M : jv_M} {L S : List Value} {G G' : jv_Gr} {I I' : jv_I} {J J' : jv_J} {r : Option Value} {x y : Int64} (hd : decode M.2.1 pc = .ok (.land, 1))  (h : jv_V d M (pc + 1) L (.long (x &&& y) :: S) G I J r G' I' J') : jv_V d M pc L (.long y :: .long x :: S) G I J r G' I' J' := ⟨h.1, fun p l e R s m args below meth c H locs cells slots ls ad base D cA adS mc ms C T1 T2 T3 => lv_land C.1 C.2.1 hd  (h.2 p l e R s m args below meth c H locs cells slots ls ad base D cA adS mc ms C T1 T2 T3)⟩
theorem jv_lor {d pc : Nat} {M : jv_M} {L S : List Value} {G G' : jv_Gr} {I I' : jv_I} {J J' : jv_J} {r : Option Value} {x y : Int64} (hd : decode M.2.1 pc = .ok (.lor, 1))  (h : jv_V d M (pc + 1) L (.long (x ||| y) :: S) G I J r G' I' J') : jv_V d M pc L (.long y :: .long x :: S) G I J r G' I' J' := ⟨h.1, fun p l e R s m args below meth c H locs cells slots ls ad base D cA adS mc ms C T1 T2 T3 => lv_lor C.1 C.2.1 hd  (h.2 p l e R s m args below meth c H locs cells slots ls ad base D cA adS mc ms C T1 T2 T3)⟩
theorem jv_ldiv {d pc : Nat} {M : jv_M} {L S : List Value} {G G' : jv_Gr} {I I' : jv_I} {J J' : jv_J} {r : Option Value} {x y : Int64} (hd : decode M.2.1 pc = .ok (.ldiv, 1)) (hne : ¬ y = 0) (h : jv_V d M (pc + 1) L (.long (x / y) :: S) G I J r G' I' J') : jv_V d M pc L (.long y :: .long x :: S) G I J r G' I' J' := ⟨h.1, fun p l e R s m args below meth c H locs cells slots ls ad base D cA adS mc ms C T1 T2 T3 => lv_ldiv C.1 C.2.1 hd hne (h.2 p l e R s m args below meth c H locs cells slots ls ad base D cA adS mc ms C T1 T2 T3)⟩
theorem jv_lrem {d pc : Nat} {M : jv_M} {L S : List Value} {G G' : jv_Gr} {I I' : jv_I} {J J' : jv_J} {r : Option Value} {x y : Int64} (hd : decode M.2.1 pc = .ok (.lrem, 1)) (hne : ¬ y = 0) (h : jv_V d M (pc + 1) L (.long (x - x / y * y) :: S) G I J r G' I' J') : jv_V d M pc L (.long y :: .long x :: S) G I J r G' I' J' := ⟨h.1, fun p l e R s m args below meth c H locs cells slots ls ad base D cA adS mc ms C T1 T2 T3 => lv_lrem C.1 C.2.1 hd hne (h.2 p l e R s m args below meth c H locs cells slots ls ad base D cA adS mc ms C T1 T2 T3)⟩
theorem jv_lcmp {d pc : Nat} {M : jv_M} {L S : List Value} {G G' : jv_Gr} {I I' : jv_I} {J J' : jv_J} {r : Option Value} {x y : Int64} (hd : decode M.2.1 pc = .ok (.lcmp, 1))  (h : jv_V d M (pc + 1) L (.int (lg_cmp x y) :: S) G I J r G' I' J') : jv_V d M pc L (.long y :: .long x :: S) G I J r G' I' J' := ⟨h.1, fun p l e R s m args below meth c H locs cells slots ls ad base D cA adS mc ms C T1 T2 T3 => W.lcmp C.1 C.2.1 hd  (h.2 p l e R s m args below meth c H locs cells slots ls ad base D cA adS mc ms C T1 T2 T3)⟩
theorem jv_lshl {d pc : Nat} {M : jv_M} {L S : List Value} {G G' : jv_Gr} {I I' : jv_I} {J J' : jv_J} {r : Option Value} {x v : Int64} {y : Int32} (hd : decode M.2.1 pc = .ok (.lshl, 1)) (hv : x <<< (y.toInt64 &&& 63) = v) (h : jv_V d M (pc + 1) L (.long v :: S) G I J r G' I' J') : jv_V d M pc L (.int y :: .long x :: S) G I J r G' I' J' := ⟨h.1, fun p l e R s m args below meth c H locs cells slots ls ad base D cA adS mc ms C T1 T2 T3 => lv_lshl C.1 C.2.1 hd hv (h.2 p l e R s m args below meth c H locs cells slots ls ad base D cA adS mc ms C T1 T2 T3)⟩
theorem jv_i2l {d pc : Nat} {M : jv_M} {L S : List Value} {G G' : jv_Gr} {I I' : jv_I} {J J' : jv_J} {r : Option Value} {x : Int32} {v : Int64} (hd : decode M.2.1 pc = .ok (.i2l, 1)) (hv : x.toInt64 = v) (h : jv_V d M (pc + 1) L (.long v :: S) G I J r G' I' J') : jv_V d M pc L (.int x :: S) G I J r G' I' J' := ⟨h.1, fun p l e R s m args below meth c H locs cells slots ls ad base D cA adS mc ms C T1 T2 T3 => lv_i2l C.1 C.2.1 hd hv (h.2 p l e R s m args below meth c H locs cells slots ls ad base D cA adS mc ms C T1 T2 T3)⟩
theorem jv_l2i {d pc : Nat} {M : jv_M} {L S : List Value} {G G' : jv_Gr} {I I' : jv_I} {J J' : jv_J} {r : Option Value} {x : Int64} {v : Int32} (hd : decode M.2.1 pc = .ok (.l2i, 1)) (hv : x.toInt32 = v) (h : jv_V d M (pc + 1) L (.int v :: S) G I J r G' I' J') : jv_V d M pc L (.long x :: S) G I J r G' I' J' := ⟨h.1, fun p l e R s m args below meth c H locs cells slots ls ad base D cA adS mc ms C T1 T2 T3 => lv_l2i C.1 C.2.1 hd hv (h.2 p l e R s m args below meth c H locs cells slots ls ad base D cA adS mc ms C T1 T2 T3)⟩
theorem jv_i2b {d pc : Nat} {M : jv_M} {L S : List Value} {G G' : jv_Gr} {I I' : jv_I} {J J' : jv_J} {r : Option Value} {x v : Int32} (hd : decode M.2.1 pc = .ok (.i2b, 1)) (hv : x.toInt8.toInt32 = v) (h : jv_V d M (pc + 1) L (.int v :: S) G I J r G' I' J') : jv_V d M pc L (.int x :: S) G I J r G' I' J' := ⟨h.1, fun p l e R s m args below meth c H locs cells slots ls ad base D cA adS mc ms C T1 T2 T3 => lv_i2b C.1 C.2.1 hd hv (h.2 p l e R s m args below meth c H locs cells slots ls ad base D cA adS mc ms C T1 T2 T3)⟩
theorem jv_i2s {d pc : Nat} {M : jv_M} {L S : List Value} {G G' : jv_Gr} {I I' : jv_I} {J J' : jv_J} {r : Option Value} {x v : Int32} (hd : decode M.2.1 pc = .ok (.i2s, 1)) (hv : x.toInt16.toInt32 = v) (h : jv_V d M (pc + 1) L (.int v :: S) G I J r G' I' J') : jv_V d M pc L (.int x :: S) G I J r G' I' J' := ⟨h.1, fun p l e R s m args below meth c H locs cells slots ls ad base D cA adS mc ms C T1 T2 T3 => lv_i2s C.1 C.2.1 hd hv (h.2 p l e R s m args below meth c H locs cells slots ls ad base D cA adS mc ms C T1 T2 T3)⟩
theorem jv_dup {d pc : Nat} {M : jv_M} {L S : List Value} {G G' : jv_Gr} {I I' : jv_I} {J J' : jv_J} {r : Option Value} {va : Value} (hd : decode M.2.1 pc = .ok (.dup, 1)) (hva : va.category = 1) (h : jv_V d M (pc + 1) L (va :: va :: S) G I J r G' I' J') : jv_V d M pc L (va :: S) G I J r G' I' J' := ⟨h.1, fun p l e R s m args below meth c H locs cells slots ls ad base D cA adS mc ms C T1 T2 T3 => lv_dup C.1 C.2.1 hd (by rw [jv_v_cat]; exact hva) (h.2 p l e R s m args below meth c H locs cells slots ls ad base D cA adS mc ms C T1 T2 T3)⟩
theorem jv_pop {d pc : Nat} {M : jv_M} {L S : List Value} {G G' : jv_Gr} {I I' : jv_I} {J J' : jv_J} {r : Option Value} {va : Value} (hd : decode M.2.1 pc = .ok (.pop, 1)) (hva : va.category = 1) (h : jv_V d M (pc + 1) L S G I J r G' I' J') : jv_V d M pc L (va :: S) G I J r G' I' J' := ⟨h.1, fun p l e R s m args below meth c H locs cells slots ls ad base D cA adS mc ms C T1 T2 T3 => lv_pop C.1 C.2.1 hd (by rw [jv_v_cat]; exact hva) (h.2 p l e R s m args below meth c H locs cells slots ls ad base D cA adS mc ms C T1 T2 T3)⟩
theorem jv_dup_x1 {d pc : Nat} {M : jv_M} {L S : List Value} {G G' : jv_Gr} {I I' : jv_I} {J J' : jv_J} {r : Option Value} {va vb : Value} (hd : decode M.2.1 pc = .ok (.dup_x1, 1)) (hva : va.category = 1) (hvb : vb.category = 1) (h : jv_V d M (pc + 1) L (va :: vb :: va :: S) G I J r G' I' J') : jv_V d M pc L (va :: vb :: S) G I J r G' I' J' := ⟨h.1, fun p l e R s m args below meth c H locs cells slots ls ad base D cA adS mc ms C T1 T2 T3 => lv_dup_x1 C.1 C.2.1 hd (by rw [jv_v_cat]; exact hva) (by rw [jv_v_cat]; exact hvb) (h.2 p l e R s m args below meth c H locs cells slots ls ad base D cA adS mc ms C T1 T2 T3)⟩
theorem jv_dup2 {d pc : Nat} {M : jv_M} {L S : List Value} {G G' : jv_Gr} {I I' : jv_I} {J J' : jv_J} {r : Option Value} {va vb : Value} (hd : decode M.2.1 pc = .ok (.dup2, 1)) (hva : va.category = 1) (hvb : vb.category = 1) (h : jv_V d M (pc + 1) L (va :: vb :: va :: vb :: S) G I J r G' I' J') : jv_V d M pc L (va :: vb :: S) G I J r G' I' J' := ⟨h.1, fun p l e R s m args below meth c H locs cells slots ls ad base D cA adS mc ms C T1 T2 T3 => lv_dup2_11 C.1 C.2.1 hd (by rw [jv_v_cat]; exact hva) (by rw [jv_v_cat]; exact hvb) (h.2 p l e R s m args below meth c H locs cells slots ls ad base D cA adS mc ms C T1 T2 T3)⟩
theorem jv_if_eq {d pc : Nat} {M : jv_M} {L S : List Value} {G G' : jv_Gr} {I I' : jv_I} {J J' : jv_J} {r : Option Value} {x : Int32} {off : Int} {tgt : Nat} (hd : decode M.2.1 pc = .ok (.ifCond .eq off, 3)) (ht : (pc : Int) + off = (tgt : Int)) (kt : x = 0 → jv_V d M tgt L S G I J r G' I' J') (kf : ¬ x = 0 → jv_V d M (pc + 3) L S G I J r G' I' J') : jv_V d M pc L (.int x :: S) G I J r G' I' J' := ⟨by
  by_cases q : x = 0
  · exact (kt q).1
  · exact (kf (by first | exact q | simpa using q)).1, fun p l e R s m args below meth c H locs cells slots ls ad base D cA adS mc ms C T1 T2 T3 => lv_if_eq C.1 C.2.1 hd ht (fun q => (kt q).2 p l e R s m args below meth c H locs cells slots ls ad base D cA adS mc ms C T1 T2 T3) (fun q => (kf q).2 p l e R s m args below meth c H locs cells slots ls ad base D cA adS mc ms C T1 T2 T3)⟩
theorem jv_icmp_eq {d pc : Nat} {M : jv_M} {L S : List Value} {G G' : jv_Gr} {I I' : jv_I} {J J' : jv_J} {r : Option Value} {x y : Int32} {off : Int} {tgt : Nat} (hd : decode M.2.1 pc = .ok (.if_icmp .eq off, 3)) (ht : (pc : Int) + off = (tgt : Int)) (kt : x = y → jv_V d M tgt L S G I J r G' I' J') (kf : ¬ x = y → jv_V d M (pc + 3) L S G I J r G' I' J') : jv_V d M pc L (.int y :: .int x :: S) G I J r G' I' J' := ⟨by
  by_cases q : x = y
  · exact (kt q).1
  · exact (kf (by first | exact q | simpa using q)).1, fun p l e R s m args below meth c H locs cells slots ls ad base D cA adS mc ms C T1 T2 T3 => lv_icmp_eq C.1 C.2.1 hd ht (fun q => (kt q).2 p l e R s m args below meth c H locs cells slots ls ad base D cA adS mc ms C T1 T2 T3) (fun q => (kf q).2 p l e R s m args below meth c H locs cells slots ls ad base D cA adS mc ms C T1 T2 T3)⟩
theorem jv_if_ne {d pc : Nat} {M : jv_M} {L S : List Value} {G G' : jv_Gr} {I I' : jv_I} {J J' : jv_J} {r : Option Value} {x : Int32} {off : Int} {tgt : Nat} (hd : decode M.2.1 pc = .ok (.ifCond .ne off, 3)) (ht : (pc : Int) + off = (tgt : Int)) (kt : ¬ x = 0 → jv_V d M tgt L S G I J r G' I' J') (kf : x = 0 → jv_V d M (pc + 3) L S G I J r G' I' J') : jv_V d M pc L (.int x :: S) G I J r G' I' J' := ⟨by
  by_cases q : ¬ x = 0
  · exact (kt q).1
  · exact (kf (by first | exact q | simpa using q)).1, fun p l e R s m args below meth c H locs cells slots ls ad base D cA adS mc ms C T1 T2 T3 => lv_if_ne C.1 C.2.1 hd ht (fun q => (kt q).2 p l e R s m args below meth c H locs cells slots ls ad base D cA adS mc ms C T1 T2 T3) (fun q => (kf q).2 p l e R s m args below meth c H locs cells slots ls ad base D cA adS mc ms C T1 T2 T3)⟩
theorem jv_icmp_ne {d pc : Nat} {M : jv_M} {L S : List Value} {G G' : jv_Gr} {I I' : jv_I} {J J' : jv_J} {r : Option Value} {x y : Int32} {off : Int} {tgt : Nat} (hd : decode M.2.1 pc = .ok (.if_icmp .ne off, 3)) (ht : (pc : Int) + off = (tgt : Int)) (kt : ¬ x = y → jv_V d M tgt L S G I J r G' I' J') (kf : x = y → jv_V d M (pc + 3) L S G I J r G' I' J') : jv_V d M pc L (.int y :: .int x :: S) G I J r G' I' J' := ⟨by
  by_cases q : ¬ x = y
  · exact (kt q).1
  · exact (kf (by first | exact q | simpa using q)).1, fun p l e R s m args below meth c H locs cells slots ls ad base D cA adS mc ms C T1 T2 T3 => lv_icmp_ne C.1 C.2.1 hd ht (fun q => (kt q).2 p l e R s m args below meth c H locs cells slots ls ad base D cA adS mc ms C T1 T2 T3) (fun q => (kf q).2 p l e R s m args below meth c H locs cells slots ls ad base D cA adS mc ms C T1 T2 T3)⟩
theorem jv_if_lt {d pc : Nat} {M : jv_M} {L S : List Value} {G G' : jv_Gr} {I I' : jv_I} {J J' : jv_J} {r : Option Value} {x : Int32} {off : Int} {tgt : Nat} (hd : decode M.2.1 pc = .ok (.ifCond .lt off, 3)) (ht : (pc : Int) + off = (tgt : Int)) (kt : x < 0 → jv_V d M tgt L S G I J r G' I' J') (kf : ¬ x < 0 → jv_V d M (pc + 3) L S G I J r G' I' J') : jv_V d M pc L (.int x :: S) G I J r G' I' J' := ⟨by
  by_cases q : x < 0
  · exact (kt q).1
  · exact (kf (by first | exact q | simpa using q)).1, fun p l e R s m args below meth c H locs cells slots ls ad base D cA adS mc ms C T1 T2 T3 => lv_if_lt C.1 C.2.1 hd ht (fun q => (kt q).2 p l e R s m args below meth c H locs cells slots ls ad base D cA adS mc ms C T1 T2 T3) (fun q => (kf q).2 p l e R s m args below meth c H locs cells slots ls ad base D cA adS mc ms C T1 T2 T3)⟩
theorem jv_icmp_lt {d pc : Nat} {M : jv_M} {L S : List Value} {G G' : jv_Gr} {I I' : jv_I} {J J' : jv_J} {r : Option Value} {x y : Int32} {off : Int} {tgt : Nat} (hd : decode M.2.1 pc = .ok (.if_icmp .lt off, 3)) (ht : (pc : Int) + off = (tgt : Int)) (kt : x < y → jv_V d M tgt L S G I J r G' I' J') (kf : ¬ x < y → jv_V d M (pc + 3) L S G I J r G' I' J') : jv_V d M pc L (.int y :: .int x :: S) G I J r G' I' J' := ⟨by
  by_cases q : x < y
  · exact (kt q).1
  · exact (kf (by first | exact q | simpa using q)).1, fun p l e R s m args below meth c H locs cells slots ls ad base D cA adS mc ms C T1 T2 T3 => lv_icmp_lt C.1 C.2.1 hd ht (fun q => (kt q).2 p l e R s m args below meth c H locs cells slots ls ad base D cA adS mc ms C T1 T2 T3) (fun q => (kf q).2 p l e R s m args below meth c H locs cells slots ls ad base D cA adS mc ms C T1 T2 T3)⟩
theorem jv_if_ge {d pc : Nat} {M : jv_M} {L S : List Value} {G G' : jv_Gr} {I I' : jv_I} {J J' : jv_J} {r : Option Value} {x : Int32} {off : Int} {tgt : Nat} (hd : decode M.2.1 pc = .ok (.ifCond .ge off, 3)) (ht : (pc : Int) + off = (tgt : Int)) (kt : 0 ≤ x → jv_V d M tgt L S G I J r G' I' J') (kf : ¬ 0 ≤ x → jv_V d M (pc + 3) L S G I J r G' I' J') : jv_V d M pc L (.int x :: S) G I J r G' I' J' := ⟨by
  by_cases q : 0 ≤ x
  · exact (kt q).1
  · exact (kf (by first | exact q | simpa using q)).1, fun p l e R s m args below meth c H locs cells slots ls ad base D cA adS mc ms C T1 T2 T3 => lv_if_ge C.1 C.2.1 hd ht (fun q => (kt q).2 p l e R s m args below meth c H locs cells slots ls ad base D cA adS mc ms C T1 T2 T3) (fun q => (kf q).2 p l e R s m args below meth c H locs cells slots ls ad base D cA adS mc ms C T1 T2 T3)⟩
theorem jv_icmp_ge {d pc : Nat} {M : jv_M} {L S : List Value} {G G' : jv_Gr} {I I' : jv_I} {J J' : jv_J} {r : Option Value} {x y : Int32} {off : Int} {tgt : Nat} (hd : decode M.2.1 pc = .ok (.if_icmp .ge off, 3)) (ht : (pc : Int) + off = (tgt : Int)) (kt : y ≤ x → jv_V d M tgt L S G I J r G' I' J') (kf : ¬ y ≤ x → jv_V d M (pc + 3) L S G I J r G' I' J') : jv_V d M pc L (.int y :: .int x :: S) G I J r G' I' J' := ⟨by
  by_cases q : y ≤ x
  · exact (kt q).1
  · exact (kf (by first | exact q | simpa using q)).1, fun p l e R s m args below meth c H locs cells slots ls ad base D cA adS mc ms C T1 T2 T3 => lv_icmp_ge C.1 C.2.1 hd ht (fun q => (kt q).2 p l e R s m args below meth c H locs cells slots ls ad base D cA adS mc ms C T1 T2 T3) (fun q => (kf q).2 p l e R s m args below meth c H locs cells slots ls ad base D cA adS mc ms C T1 T2 T3)⟩
theorem jv_if_gt {d pc : Nat} {M : jv_M} {L S : List Value} {G G' : jv_Gr} {I I' : jv_I} {J J' : jv_J} {r : Option Value} {x : Int32} {off : Int} {tgt : Nat} (hd : decode M.2.1 pc = .ok (.ifCond .gt off, 3)) (ht : (pc : Int) + off = (tgt : Int)) (kt : 0 < x → jv_V d M tgt L S G I J r G' I' J') (kf : ¬ 0 < x → jv_V d M (pc + 3) L S G I J r G' I' J') : jv_V d M pc L (.int x :: S) G I J r G' I' J' := ⟨by
  by_cases q : 0 < x
  · exact (kt q).1
  · exact (kf (by first | exact q | simpa using q)).1, fun p l e R s m args below meth c H locs cells slots ls ad base D cA adS mc ms C T1 T2 T3 => lv_if_gt C.1 C.2.1 hd ht (fun q => (kt q).2 p l e R s m args below meth c H locs cells slots ls ad base D cA adS mc ms C T1 T2 T3) (fun q => (kf q).2 p l e R s m args below meth c H locs cells slots ls ad base D cA adS mc ms C T1 T2 T3)⟩
theorem jv_icmp_gt {d pc : Nat} {M : jv_M} {L S : List Value} {G G' : jv_Gr} {I I' : jv_I} {J J' : jv_J} {r : Option Value} {x y : Int32} {off : Int} {tgt : Nat} (hd : decode M.2.1 pc = .ok (.if_icmp .gt off, 3)) (ht : (pc : Int) + off = (tgt : Int)) (kt : y < x → jv_V d M tgt L S G I J r G' I' J') (kf : ¬ y < x → jv_V d M (pc + 3) L S G I J r G' I' J') : jv_V d M pc L (.int y :: .int x :: S) G I J r G' I' J' := ⟨by
  by_cases q : y < x
  · exact (kt q).1
  · exact (kf (by first | exact q | simpa using q)).1, fun p l e R s m args below meth c H locs cells slots ls ad base D cA adS mc ms C T1 T2 T3 => lv_icmp_gt C.1 C.2.1 hd ht (fun q => (kt q).2 p l e R s m args below meth c H locs cells slots ls ad base D cA adS mc ms C T1 T2 T3) (fun q => (kf q).2 p l e R s m args below meth c H locs cells slots ls ad base D cA adS mc ms C T1 T2 T3)⟩
theorem jv_if_le {d pc : Nat} {M : jv_M} {L S : List Value} {G G' : jv_Gr} {I I' : jv_I} {J J' : jv_J} {r : Option Value} {x : Int32} {off : Int} {tgt : Nat} (hd : decode M.2.1 pc = .ok (.ifCond .le off, 3)) (ht : (pc : Int) + off = (tgt : Int)) (kt : x ≤ 0 → jv_V d M tgt L S G I J r G' I' J') (kf : ¬ x ≤ 0 → jv_V d M (pc + 3) L S G I J r G' I' J') : jv_V d M pc L (.int x :: S) G I J r G' I' J' := ⟨by
  by_cases q : x ≤ 0
  · exact (kt q).1
  · exact (kf (by first | exact q | simpa using q)).1, fun p l e R s m args below meth c H locs cells slots ls ad base D cA adS mc ms C T1 T2 T3 => lv_if_le C.1 C.2.1 hd ht (fun q => (kt q).2 p l e R s m args below meth c H locs cells slots ls ad base D cA adS mc ms C T1 T2 T3) (fun q => (kf q).2 p l e R s m args below meth c H locs cells slots ls ad base D cA adS mc ms C T1 T2 T3)⟩
theorem jv_icmp_le {d pc : Nat} {M : jv_M} {L S : List Value} {G G' : jv_Gr} {I I' : jv_I} {J J' : jv_J} {r : Option Value} {x y : Int32} {off : Int} {tgt : Nat} (hd : decode M.2.1 pc = .ok (.if_icmp .le off, 3)) (ht : (pc : Int) + off = (tgt : Int)) (kt : x ≤ y → jv_V d M tgt L S G I J r G' I' J') (kf : ¬ x ≤ y → jv_V d M (pc + 3) L S G I J r G' I' J') : jv_V d M pc L (.int y :: .int x :: S) G I J r G' I' J' := ⟨by
  by_cases q : x ≤ y
  · exact (kt q).1
  · exact (kf (by first | exact q | simpa using q)).1, fun p l e R s m args below meth c H locs cells slots ls ad base D cA adS mc ms C T1 T2 T3 => lv_icmp_le C.1 C.2.1 hd ht (fun q => (kt q).2 p l e R s m args below meth c H locs cells slots ls ad base D cA adS mc ms C T1 T2 T3) (fun q => (kf q).2 p l e R s m args below meth c H locs cells slots ls ad base D cA adS mc ms C T1 T2 T3)⟩
theorem jv_goto {d pc : Nat} {M : jv_M} {L S : List Value} {G G' : jv_Gr} {I I' : jv_I} {J J' : jv_J} {r : Option Value} {off : Int} {tgt : Nat} (hd : decode M.2.1 pc = .ok (.goto off, 3)) (ht : (pc : Int) + off = (tgt : Int)) (h : jv_V d M tgt L S G I J r G' I' J') : jv_V d M pc L S G I J r G' I' J' := ⟨h.1, fun p l e R s m args below meth c H locs cells slots ls ad base D cA adS mc ms C T1 T2 T3 => lv_goto C.1 C.2.1 hd ht (h.2 p l e R s m args below meth c H locs cells slots ls ad base D cA adS mc ms C T1 T2 T3)⟩
theorem jv_tableIn {d pc : Nat} {M : jv_M} {L S : List Value} {G G' : jv_Gr} {I I' : jv_I} {J J' : jv_J} {r : Option Value} {dflt lo hi : Int} {offs : Array Int} {len : Nat} {x : Int32} {off : Int} {tgt : Nat} (hd : decode M.2.1 pc = .ok (.tableswitch dflt lo hi offs, len)) (h1 : ¬ x.toInt < lo) (h2 : ¬ hi < x.toInt) (ho : offs[(x.toInt - lo).toNat]? = some off) (ht : (pc : Int) + off = (tgt : Int)) (h : jv_V d M tgt L S G I J r G' I' J') : jv_V d M pc L (.int x :: S) G I J r G' I' J' := ⟨h.1, fun p l e R s m args below meth c H locs cells slots ls ad base D cA adS mc ms C T1 T2 T3 => lv_tableIn C.1 C.2.1 hd h1 h2 ho ht (h.2 p l e R s m args below meth c H locs cells slots ls ad base D cA adS mc ms C T1 T2 T3)⟩
theorem jv_tableOut {d pc : Nat} {M : jv_M} {L S : List Value} {G G' : jv_Gr} {I I' : jv_I} {J J' : jv_J} {r : Option Value} {dflt lo hi : Int} {offs : Array Int} {len : Nat} {x : Int32} {tgt : Nat} (hd : decode M.2.1 pc = .ok (.tableswitch dflt lo hi offs, len)) (h0 : x.toInt < lo ∨ hi < x.toInt) (ht : (pc : Int) + dflt = (tgt : Int)) (h : jv_V d M tgt L S G I J r G' I' J') : jv_V d M pc L (.int x :: S) G I J r G' I' J' := ⟨h.1, fun p l e R s m args below meth c H locs cells slots ls ad base D cA adS mc ms C T1 T2 T3 => lv_tableOut C.1 C.2.1 hd h0 ht (h.2 p l e R s m args below meth c H locs cells slots ls ad base D cA adS mc ms C T1 T2 T3)⟩
theorem jv_ldc {d pc : Nat} {M : jv_M} {L S : List Value} {G G' : jv_Gr} {I I' : jv_I} {J J' : jv_J} {r : Option Value} {idx : Nat} {v : Int32} (hd : decode M.2.1 pc = .ok (.ldc idx, 2)) (hw : Cond.constant M.1.cls idx v ∈ lw_tg) (h : jv_V d M (pc + 2) L (.int v :: S) G I J r G' I' J') : jv_V d M pc L S G I J r G' I' J' := ⟨h.1, fun p l e R s m args below meth c H locs cells slots ls ad base D cA adS mc ms C T1 T2 T3 => lv_ldc C.1 C.2.1 C.2.2.2.2.2.2.1 (C.2.2.2.2.2.2.2.1 _ hw) hd (h.2 p l e R s m args below meth c H locs cells slots ls ad base D cA adS mc ms C T1 T2 T3)⟩
theorem jv_ldcw {d pc : Nat} {M : jv_M} {L S : List Value} {G G' : jv_Gr} {I I' : jv_I} {J J' : jv_J} {r : Option Value} {idx : Nat} {v : Int32} (hd : decode M.2.1 pc = .ok (.ldc_w idx, 3)) (hw : Cond.constant M.1.cls idx v ∈ lw_tg) (h : jv_V d M (pc + 3) L (.int v :: S) G I J r G' I' J') : jv_V d M pc L S G I J r G' I' J' := ⟨h.1, fun p l e R s m args below meth c H locs cells slots ls ad base D cA adS mc ms C T1 T2 T3 => lv_ldcw C.1 C.2.1 C.2.2.2.2.2.2.1 (C.2.2.2.2.2.2.2.1 _ hw) hd (h.2 p l e R s m args below meth c H locs cells slots ls ad base D cA adS mc ms C T1 T2 T3)⟩
theorem jv_ldc2 {d pc : Nat} {M : jv_M} {L S : List Value} {G G' : jv_Gr} {I I' : jv_I} {J J' : jv_J} {r : Option Value} {idx : Nat} {v : Int64} (hd : decode M.2.1 pc = .ok (.ldc2_w idx, 3)) (hw : Cond.constantLong M.1.cls idx v ∈ lw_tg) (h : jv_V d M (pc + 3) L (.long v :: S) G I J r G' I' J') : jv_V d M pc L S G I J r G' I' J' := ⟨h.1, fun p l e R s m args below meth c H locs cells slots ls ad base D cA adS mc ms C T1 T2 T3 => lv_ldc2 C.1 C.2.1 C.2.2.2.2.2.2.1 (C.2.2.2.2.2.2.2.1 _ hw) hd (h.2 p l e R s m args below meth c H locs cells slots ls ad base D cA adS mc ms C T1 T2 T3)⟩
theorem jv_iload0 {d pc : Nat} {M : jv_M} {L S : List Value} {G G' : jv_Gr} {I I' : jv_I} {J J' : jv_J} {r : Option Value}  {x : Int32} (hd : decode M.2.1 pc = .ok (.iload_n 0, 1)) (h : jv_V d M (pc + 1) (.int x :: L) (.int x :: S) G I J r G' I' J') : jv_V d M pc (.int x :: L) S G I J r G' I' J' := ⟨h.1, fun p l e R s m args below meth c H locs cells slots ls ad base D cA adS mc ms C T1 T2 T3 => lv_iload_n C.1 C.2.1 hd rfl (T2.at (i := 0) (v := .int x) rfl (by intro q; cases q)) (h.2 p l e R s m args below meth c H locs cells slots ls ad base D cA adS mc ms C T1 T2 T3)⟩
theorem jv_lload0 {d pc : Nat} {M : jv_M} {L S : List Value} {G G' : jv_Gr} {I I' : jv_I} {J J' : jv_J} {r : Option Value}  {x : Int64} (hd : decode M.2.1 pc = .ok (.lload_n 0, 1)) (h : jv_V d M (pc + 1) (.long x :: L) (.long x :: S) G I J r G' I' J') : jv_V d M pc (.long x :: L) S G I J r G' I' J' := ⟨h.1, fun p l e R s m args below meth c H locs cells slots ls ad base D cA adS mc ms C T1 T2 T3 => lv_lload_n C.1 C.2.1 hd rfl (T2.at (i := 0) (v := .long x) rfl (by intro q; cases q)) (h.2 p l e R s m args below meth c H locs cells slots ls ad base D cA adS mc ms C T1 T2 T3)⟩
theorem jv_aload0 {d pc : Nat} {M : jv_M} {L S : List Value} {G G' : jv_Gr} {I I' : jv_I} {J J' : jv_J} {r : Option Value}  {x : Nat} (hd : decode M.2.1 pc = .ok (.aload_n 0, 1)) (h : jv_V d M (pc + 1) (.ref x :: L) (.ref x :: S) G I J r G' I' J') : jv_V d M pc (.ref x :: L) S G I J r G' I' J' := ⟨h.1, fun p l e R s m args below meth c H locs cells slots ls ad base D cA adS mc ms C T1 T2 T3 => by
  have hl := T2.at (i := 0) (v := .ref x) rfl (by intro q; cases q)
  have hk := h.2 p l e R s m args below meth c H locs cells slots ls ad base D cA adS mc ms C T1 T2 T3
  by_cases hx : x = 0
  · subst hx
    exact lv_aload_nN C.1 C.2.1 hd rfl hl hk
  · rw [jv_v_ref ad hx] at hl
    rw [List.map_cons, jv_v_ref ad hx] at hk
    exact lv_aload_n C.1 C.2.1 hd rfl hl hk⟩
theorem jv_istore0 {d pc : Nat} {M : jv_M} {L S : List Value} {G G' : jv_Gr} {I I' : jv_I} {J J' : jv_J} {r : Option Value} {z : Value} {x : Int32} (hd : decode M.2.1 pc = .ok (.istore_n 0, 1)) (h : jv_V d M (pc + 1) (.int x :: L) S G I J r G' I' J') : jv_V d M pc (z :: L) (.int x :: S) G I J r G' I' J' := ⟨h.1, fun p l e R s m args below meth c H locs cells slots ls ad base D cA adS mc ms C T1 T2 T3 => by
  have hi : 0 < M.2.2.1 := by rw [← T2.1]; simp
  exact lv_istore_n C.1 C.2.1 hd rfl T2.has hi rfl (fun ls' hl => h.2 p l e R s m args below meth c H locs cells slots ls' ad base D cA adS mc ms C T1 (T2.put1 (i := 0) (v := .int x) jv_c1_0 (by intro q; cases q) hi hl) T3)⟩
theorem jv_astore0 {d pc : Nat} {M : jv_M} {L S : List Value} {G G' : jv_Gr} {I I' : jv_I} {J J' : jv_J} {r : Option Value} {z : Value} {x : Nat} (hd : decode M.2.1 pc = .ok (.astore_n 0, 1)) (h : jv_V d M (pc + 1) (.ref x :: L) S G I J r G' I' J') : jv_V d M pc (z :: L) (.ref x :: S) G I J r G' I' J' := ⟨h.1, fun p l e R s m args below meth c H locs cells slots ls ad base D cA adS mc ms C T1 T2 T3 => by
  have hi : 0 < M.2.2.1 := by rw [← T2.1]; simp
  exact (by
  have hk : ∀ ls' : Array Slot, lv_has ls' M.2.2.1 ((0, jv_v ad (.ref x)) :: (jv_lv ad (z :: L)).filter (fun q => !(q.1 == 0) && !(q.1 + 1 == 0 && q.2.category == 2))) → W p l e R s m args below meth c H locs cells slots (MQ below (jv_Q base D cA ad (jv_n G) r G' I' J') args s mc ms (fun q => base ≤ q)) (F0 m (pc + 1) ls' (S.map (jv_v ad))) := fun ls' hl => h.2 p l e R s m args below meth c H locs cells slots ls' ad base D cA adS mc ms C T1 (T2.put1 (i := 0) (v := .ref x) jv_c1_0 (by intro q; cases q) hi hl) T3
  by_cases hx : x = 0
  · subst hx
    exact lv_astore_nN C.1 C.2.1 hd rfl T2.has hi rfl hk
  · rw [jv_v_ref ad hx] at hk
    rw [List.map_cons, jv_v_ref ad hx]
    exact lv_astore_n C.1 C.2.1 hd rfl T2.has hi rfl hk)⟩
theorem jv_iinc0 {d pc : Nat} {M : jv_M} {L S : List Value} {G G' : jv_Gr} {I I' : jv_I} {J J' : jv_J} {r : Option Value} {x v : Int32} {n : Int} (hd : decode M.2.1 pc = .ok (.iinc 0 n, 3)) (hv : x + Int32.ofInt n = v) (h : jv_V d M (pc + 3) (.int v :: L) S G I J r G' I' J') : jv_V d M pc (.int x :: L) S G I J r G' I' J' := ⟨h.1, fun p l e R s m args below meth c H locs cells slots ls ad base D cA adS mc ms C T1 T2 T3 => by
  have hi : 0 < M.2.2.1 := by rw [← T2.1]; simp
  obtain ⟨k, hk⟩ := List.getElem?_of_mem (jv_lv_in (ad := ad) (L := (.int x :: L)) (i := 0) (v := .int x) rfl (by intro q; cases q))
  exact lv_iinc C.1 C.2.1 hd T2.has hk hv hi rfl (fun ls' hl => h.2 p l e R s m args below meth c H locs cells slots ls' ad base D cA adS mc ms C T1 (T2.put1 (i := 0) (v := .int v) jv_c1_0 (by intro q; cases q) hi hl) T3)⟩
theorem jv_iload1 {d pc : Nat} {M : jv_M} {L S : List Value} {G G' : jv_Gr} {I I' : jv_I} {J J' : jv_J} {r : Option Value} {a0 : Value} {x : Int32} (hd : decode M.2.1 pc = .ok (.iload_n 1, 1)) (h : jv_V d M (pc + 1) (a0 :: .int x :: L) (.int x :: S) G I J r G' I' J') : jv_V d M pc (a0 :: .int x :: L) S G I J r G' I' J' := ⟨h.1, fun p l e R s m args below meth c H locs cells slots ls ad base D cA adS mc ms C T1 T2 T3 => lv_iload_n C.1 C.2.1 hd rfl (T2.at (i := 1) (v := .int x) rfl (by intro q; cases q)) (h.2 p l e R s m args below meth c H locs cells slots ls ad base D cA adS mc ms C T1 T2 T3)⟩
theorem jv_lload1 {d pc : Nat} {M : jv_M} {L S : List Value} {G G' : jv_Gr} {I I' : jv_I} {J J' : jv_J} {r : Option Value} {a0 : Value} {x : Int64} (hd : decode M.2.1 pc = .ok (.lload_n 1, 1)) (h : jv_V d M (pc + 1) (a0 :: .long x :: L) (.long x :: S) G I J r G' I' J') : jv_V d M pc (a0 :: .long x :: L) S G I J r G' I' J' := ⟨h.1, fun p l e R s m args below meth c H locs cells slots ls ad base D cA adS mc ms C T1 T2 T3 => lv_lload_n C.1 C.2.1 hd rfl (T2.at (i := 1) (v := .long x) rfl (by intro q; cases q)) (h.2 p l e R s m args below meth c H locs cells slots ls ad base D cA adS mc ms C T1 T2 T3)⟩
theorem jv_aload1 {d pc : Nat} {M : jv_M} {L S : List Value} {G G' : jv_Gr} {I I' : jv_I} {J J' : jv_J} {r : Option Value} {a0 : Value} {x : Nat} (hd : decode M.2.1 pc = .ok (.aload_n 1, 1)) (h : jv_V d M (pc + 1) (a0 :: .ref x :: L) (.ref x :: S) G I J r G' I' J') : jv_V d M pc (a0 :: .ref x :: L) S G I J r G' I' J' := ⟨h.1, fun p l e R s m args below meth c H locs cells slots ls ad base D cA adS mc ms C T1 T2 T3 => by
  have hl := T2.at (i := 1) (v := .ref x) rfl (by intro q; cases q)
  have hk := h.2 p l e R s m args below meth c H locs cells slots ls ad base D cA adS mc ms C T1 T2 T3
  by_cases hx : x = 0
  · subst hx
    exact lv_aload_nN C.1 C.2.1 hd rfl hl hk
  · rw [jv_v_ref ad hx] at hl
    rw [List.map_cons, jv_v_ref ad hx] at hk
    exact lv_aload_n C.1 C.2.1 hd rfl hl hk⟩
theorem jv_istore1 {d pc : Nat} {M : jv_M} {L S : List Value} {G G' : jv_Gr} {I I' : jv_I} {J J' : jv_J} {r : Option Value} {a0 z : Value} {x : Int32} (hd : decode M.2.1 pc = .ok (.istore_n 1, 1)) (hc : a0.category = 1) (h : jv_V d M (pc + 1) (a0 :: .int x :: L) S G I J r G' I' J') : jv_V d M pc (a0 :: z :: L) (.int x :: S) G I J r G' I' J' := ⟨h.1, fun p l e R s m args below meth c H locs cells slots ls ad base D cA adS mc ms C T1 T2 T3 => by
  have hi : 1 < M.2.2.1 := by rw [← T2.1]; simp
  exact lv_istore_n C.1 C.2.1 hd rfl T2.has hi rfl (fun ls' hl => h.2 p l e R s m args below meth c H locs cells slots ls' ad base D cA adS mc ms C T1 (T2.put1 (i := 1) (v := .int x) (jv_c1_s (i := 0) rfl hc) (by intro q; cases q) hi hl) T3)⟩
theorem jv_astore1 {d pc : Nat} {M : jv_M} {L S : List Value} {G G' : jv_Gr} {I I' : jv_I} {J J' : jv_J} {r : Option Value} {a0 z : Value} {x : Nat} (hd : decode M.2.1 pc = .ok (.astore_n 1, 1)) (hc : a0.category = 1) (h : jv_V d M (pc + 1) (a0 :: .ref x :: L) S G I J r G' I' J') : jv_V d M pc (a0 :: z :: L) (.ref x :: S) G I J r G' I' J' := ⟨h.1, fun p l e R s m args below meth c H locs cells slots ls ad base D cA adS mc ms C T1 T2 T3 => by
  have hi : 1 < M.2.2.1 := by rw [← T2.1]; simp
  exact (by
  have hk : ∀ ls' : Array Slot, lv_has ls' M.2.2.1 ((1, jv_v ad (.ref x)) :: (jv_lv ad (a0 :: z :: L)).filter (fun q => !(q.1 == 1) && !(q.1 + 1 == 1 && q.2.category == 2))) → W p l e R s m args below meth c H locs cells slots (MQ below (jv_Q base D cA ad (jv_n G) r G' I' J') args s mc ms (fun q => base ≤ q)) (F0 m (pc + 1) ls' (S.map (jv_v ad))) := fun ls' hl => h.2 p l e R s m args below meth c H locs cells slots ls' ad base D cA adS mc ms C T1 (T2.put1 (i := 1) (v := .ref x) (jv_c1_s (i := 0) rfl hc) (by intro q; cases q) hi hl) T3
  by_cases hx : x = 0
  · subst hx
    exact lv_astore_nN C.1 C.2.1 hd rfl T2.has hi rfl hk
  · rw [jv_v_ref ad hx] at hk
    rw [List.map_cons, jv_v_ref ad hx]
    exact lv_astore_n C.1 C.2.1 hd rfl T2.has hi rfl hk)⟩
theorem jv_iinc1 {d pc : Nat} {M : jv_M} {L S : List Value} {G G' : jv_Gr} {I I' : jv_I} {J J' : jv_J} {r : Option Value} {a0 : Value} {x v : Int32} {n : Int} (hd : decode M.2.1 pc = .ok (.iinc 1 n, 3)) (hv : x + Int32.ofInt n = v) (hc : a0.category = 1) (h : jv_V d M (pc + 3) (a0 :: .int v :: L) S G I J r G' I' J') : jv_V d M pc (a0 :: .int x :: L) S G I J r G' I' J' := ⟨h.1, fun p l e R s m args below meth c H locs cells slots ls ad base D cA adS mc ms C T1 T2 T3 => by
  have hi : 1 < M.2.2.1 := by rw [← T2.1]; simp
  obtain ⟨k, hk⟩ := List.getElem?_of_mem (jv_lv_in (ad := ad) (L := (a0 :: .int x :: L)) (i := 1) (v := .int x) rfl (by intro q; cases q))
  exact lv_iinc C.1 C.2.1 hd T2.has hk hv hi rfl (fun ls' hl => h.2 p l e R s m args below meth c H locs cells slots ls' ad base D cA adS mc ms C T1 (T2.put1 (i := 1) (v := .int v) (jv_c1_s (i := 0) rfl hc) (by intro q; cases q) hi hl) T3)⟩
theorem jv_iload2 {d pc : Nat} {M : jv_M} {L S : List Value} {G G' : jv_Gr} {I I' : jv_I} {J J' : jv_J} {r : Option Value} {a0 a1 : Value} {x : Int32} (hd : decode M.2.1 pc = .ok (.iload_n 2, 1)) (h : jv_V d M (pc + 1) (a0 :: a1 :: .int x :: L) (.int x :: S) G I J r G' I' J') : jv_V d M pc (a0 :: a1 :: .int x :: L) S G I J r G' I' J' := ⟨h.1, fun p l e R s m args below meth c H locs cells slots ls ad base D cA adS mc ms C T1 T2 T3 => lv_iload_n C.1 C.2.1 hd rfl (T2.at (i := 2) (v := .int x) rfl (by intro q; cases q)) (h.2 p l e R s m args below meth c H locs cells slots ls ad base D cA adS mc ms C T1 T2 T3)⟩
theorem jv_lload2 {d pc : Nat} {M : jv_M} {L S : List Value} {G G' : jv_Gr} {I I' : jv_I} {J J' : jv_J} {r : Option Value} {a0 a1 : Value} {x : Int64} (hd : decode M.2.1 pc = .ok (.lload_n 2, 1)) (h : jv_V d M (pc + 1) (a0 :: a1 :: .long x :: L) (.long x :: S) G I J r G' I' J') : jv_V d M pc (a0 :: a1 :: .long x :: L) S G I J r G' I' J' := ⟨h.1, fun p l e R s m args below meth c H locs cells slots ls ad base D cA adS mc ms C T1 T2 T3 => lv_lload_n C.1 C.2.1 hd rfl (T2.at (i := 2) (v := .long x) rfl (by intro q; cases q)) (h.2 p l e R s m args below meth c H locs cells slots ls ad base D cA adS mc ms C T1 T2 T3)⟩
theorem jv_aload2 {d pc : Nat} {M : jv_M} {L S : List Value} {G G' : jv_Gr} {I I' : jv_I} {J J' : jv_J} {r : Option Value} {a0 a1 : Value} {x : Nat} (hd : decode M.2.1 pc = .ok (.aload_n 2, 1)) (h : jv_V d M (pc + 1) (a0 :: a1 :: .ref x :: L) (.ref x :: S) G I J r G' I' J') : jv_V d M pc (a0 :: a1 :: .ref x :: L) S G I J r G' I' J' := ⟨h.1, fun p l e R s m args below meth c H locs cells slots ls ad base D cA adS mc ms C T1 T2 T3 => by
  have hl := T2.at (i := 2) (v := .ref x) rfl (by intro q; cases q)
  have hk := h.2 p l e R s m args below meth c H locs cells slots ls ad base D cA adS mc ms C T1 T2 T3
  by_cases hx : x = 0
  · subst hx
    exact lv_aload_nN C.1 C.2.1 hd rfl hl hk
  · rw [jv_v_ref ad hx] at hl
    rw [List.map_cons, jv_v_ref ad hx] at hk
    exact lv_aload_n C.1 C.2.1 hd rfl hl hk⟩
theorem jv_istore2 {d pc : Nat} {M : jv_M} {L S : List Value} {G G' : jv_Gr} {I I' : jv_I} {J J' : jv_J} {r : Option Value} {a0 a1 z : Value} {x : Int32} (hd : decode M.2.1 pc = .ok (.istore_n 2, 1)) (hc : a1.category = 1) (h : jv_V d M (pc + 1) (a0 :: a1 :: .int x :: L) S G I J r G' I' J') : jv_V d M pc (a0 :: a1 :: z :: L) (.int x :: S) G I J r G' I' J' := ⟨h.1, fun p l e R s m args below meth c H locs cells slots ls ad base D cA adS mc ms C T1 T2 T3 => by
  have hi : 2 < M.2.2.1 := by rw [← T2.1]; simp
  exact lv_istore_n C.1 C.2.1 hd rfl T2.has hi rfl (fun ls' hl => h.2 p l e R s m args below meth c H locs cells slots ls' ad base D cA adS mc ms C T1 (T2.put1 (i := 2) (v := .int x) (jv_c1_s (i := 1) rfl hc) (by intro q; cases q) hi hl) T3)⟩
theorem jv_astore2 {d pc : Nat} {M : jv_M} {L S : List Value} {G G' : jv_Gr} {I I' : jv_I} {J J' : jv_J} {r : Option Value} {a0 a1 z : Value} {x : Nat} (hd : decode M.2.1 pc = .ok (.astore_n 2, 1)) (hc : a1.category = 1) (h : jv_V d M (pc + 1) (a0 :: a1 :: .ref x :: L) S G I J r G' I' J') : jv_V d M pc (a0 :: a1 :: z :: L) (.ref x :: S) G I J r G' I' J' := ⟨h.1, fun p l e R s m args below meth c H locs cells slots ls ad base D cA adS mc ms C T1 T2 T3 => by
  have hi : 2 < M.2.2.1 := by rw [← T2.1]; simp
  exact (by
  have hk : ∀ ls' : Array Slot, lv_has ls' M.2.2.1 ((2, jv_v ad (.ref x)) :: (jv_lv ad (a0 :: a1 :: z :: L)).filter (fun q => !(q.1 == 2) && !(q.1 + 1 == 2 && q.2.category == 2))) → W p l e R s m args below meth c H locs cells slots (MQ below (jv_Q base D cA ad (jv_n G) r G' I' J') args s mc ms (fun q => base ≤ q)) (F0 m (pc + 1) ls' (S.map (jv_v ad))) := fun ls' hl => h.2 p l e R s m args below meth c H locs cells slots ls' ad base D cA adS mc ms C T1 (T2.put1 (i := 2) (v := .ref x) (jv_c1_s (i := 1) rfl hc) (by intro q; cases q) hi hl) T3
  by_cases hx : x = 0
  · subst hx
    exact lv_astore_nN C.1 C.2.1 hd rfl T2.has hi rfl hk
  · rw [jv_v_ref ad hx] at hk
    rw [List.map_cons, jv_v_ref ad hx]
    exact lv_astore_n C.1 C.2.1 hd rfl T2.has hi rfl hk)⟩
theorem jv_iinc2 {d pc : Nat} {M : jv_M} {L S : List Value} {G G' : jv_Gr} {I I' : jv_I} {J J' : jv_J} {r : Option Value} {a0 a1 : Value} {x v : Int32} {n : Int} (hd : decode M.2.1 pc = .ok (.iinc 2 n, 3)) (hv : x + Int32.ofInt n = v) (hc : a1.category = 1) (h : jv_V d M (pc + 3) (a0 :: a1 :: .int v :: L) S G I J r G' I' J') : jv_V d M pc (a0 :: a1 :: .int x :: L) S G I J r G' I' J' := ⟨h.1, fun p l e R s m args below meth c H locs cells slots ls ad base D cA adS mc ms C T1 T2 T3 => by
  have hi : 2 < M.2.2.1 := by rw [← T2.1]; simp
  obtain ⟨k, hk⟩ := List.getElem?_of_mem (jv_lv_in (ad := ad) (L := (a0 :: a1 :: .int x :: L)) (i := 2) (v := .int x) rfl (by intro q; cases q))
  exact lv_iinc C.1 C.2.1 hd T2.has hk hv hi rfl (fun ls' hl => h.2 p l e R s m args below meth c H locs cells slots ls' ad base D cA adS mc ms C T1 (T2.put1 (i := 2) (v := .int v) (jv_c1_s (i := 1) rfl hc) (by intro q; cases q) hi hl) T3)⟩
theorem jv_iload3 {d pc : Nat} {M : jv_M} {L S : List Value} {G G' : jv_Gr} {I I' : jv_I} {J J' : jv_J} {r : Option Value} {a0 a1 a2 : Value} {x : Int32} (hd : decode M.2.1 pc = .ok (.iload_n 3, 1)) (h : jv_V d M (pc + 1) (a0 :: a1 :: a2 :: .int x :: L) (.int x :: S) G I J r G' I' J') : jv_V d M pc (a0 :: a1 :: a2 :: .int x :: L) S G I J r G' I' J' := ⟨h.1, fun p l e R s m args below meth c H locs cells slots ls ad base D cA adS mc ms C T1 T2 T3 => lv_iload_n C.1 C.2.1 hd rfl (T2.at (i := 3) (v := .int x) rfl (by intro q; cases q)) (h.2 p l e R s m args below meth c H locs cells slots ls ad base D cA adS mc ms C T1 T2 T3)⟩
theorem jv_lload3 {d pc : Nat} {M : jv_M} {L S : List Value} {G G' : jv_Gr} {I I' : jv_I} {J J' : jv_J} {r : Option Value} {a0 a1 a2 : Value} {x : Int64} (hd : decode M.2.1 pc = .ok (.lload_n 3, 1)) (h : jv_V d M (pc + 1) (a0 :: a1 :: a2 :: .long x :: L) (.long x :: S) G I J r G' I' J') : jv_V d M pc (a0 :: a1 :: a2 :: .long x :: L) S G I J r G' I' J' := ⟨h.1, fun p l e R s m args below meth c H locs cells slots ls ad base D cA adS mc ms C T1 T2 T3 => lv_lload_n C.1 C.2.1 hd rfl (T2.at (i := 3) (v := .long x) rfl (by intro q; cases q)) (h.2 p l e R s m args below meth c H locs cells slots ls ad base D cA adS mc ms C T1 T2 T3)⟩
theorem jv_aload3 {d pc : Nat} {M : jv_M} {L S : List Value} {G G' : jv_Gr} {I I' : jv_I} {J J' : jv_J} {r : Option Value} {a0 a1 a2 : Value} {x : Nat} (hd : decode M.2.1 pc = .ok (.aload_n 3, 1)) (h : jv_V d M (pc + 1) (a0 :: a1 :: a2 :: .ref x :: L) (.ref x :: S) G I J r G' I' J') : jv_V d M pc (a0 :: a1 :: a2 :: .ref x :: L) S G I J r G' I' J' := ⟨h.1, fun p l e R s m args below meth c H locs cells slots ls ad base D cA adS mc ms C T1 T2 T3 => by
  have hl := T2.at (i := 3) (v := .ref x) rfl (by intro q; cases q)
  have hk := h.2 p l e R s m args below meth c H locs cells slots ls ad base D cA adS mc ms C T1 T2 T3
  by_cases hx : x = 0
  · subst hx
    exact lv_aload_nN C.1 C.2.1 hd rfl hl hk
  · rw [jv_v_ref ad hx] at hl
    rw [List.map_cons, jv_v_ref ad hx] at hk
    exact lv_aload_n C.1 C.2.1 hd rfl hl hk⟩
theorem jv_istore3 {d pc : Nat} {M : jv_M} {L S : List Value} {G G' : jv_Gr} {I I' : jv_I} {J J' : jv_J} {r : Option Value} {a0 a1 a2 z : Value} {x : Int32} (hd : decode M.2.1 pc = .ok (.istore_n 3, 1)) (hc : a2.category = 1) (h : jv_V d M (pc + 1) (a0 :: a1 :: a2 :: .int x :: L) S G I J r G' I' J') : jv_V d M pc (a0 :: a1 :: a2 :: z :: L) (.int x :: S) G I J r G' I' J' := ⟨h.1, fun p l e R s m args below meth c H locs cells slots ls ad base D cA adS mc ms C T1 T2 T3 => by
  have hi : 3 < M.2.2.1 := by rw [← T2.1]; simp
  exact lv_istore_n C.1 C.2.1 hd rfl T2.has hi rfl (fun ls' hl => h.2 p l e R s m args below meth c H locs cells slots ls' ad base D cA adS mc ms C T1 (T2.put1 (i := 3) (v := .int x) (jv_c1_s (i := 2) rfl hc) (by intro q; cases q) hi hl) T3)⟩
theorem jv_astore3 {d pc : Nat} {M : jv_M} {L S : List Value} {G G' : jv_Gr} {I I' : jv_I} {J J' : jv_J} {r : Option Value} {a0 a1 a2 z : Value} {x : Nat} (hd : decode M.2.1 pc = .ok (.astore_n 3, 1)) (hc : a2.category = 1) (h : jv_V d M (pc + 1) (a0 :: a1 :: a2 :: .ref x :: L) S G I J r G' I' J') : jv_V d M pc (a0 :: a1 :: a2 :: z :: L) (.ref x :: S) G I J r G' I' J' := ⟨h.1, fun p l e R s m args below meth c H locs cells slots ls ad base D cA adS mc ms C T1 T2 T3 => by
  have hi : 3 < M.2.2.1 := by rw [← T2.1]; simp
  exact (by
  have hk : ∀ ls' : Array Slot, lv_has ls' M.2.2.1 ((3, jv_v ad (.ref x)) :: (jv_lv ad (a0 :: a1 :: a2 :: z :: L)).filter (fun q => !(q.1 == 3) && !(q.1 + 1 == 3 && q.2.category == 2))) → W p l e R s m args below meth c H locs cells slots (MQ below (jv_Q base D cA ad (jv_n G) r G' I' J') args s mc ms (fun q => base ≤ q)) (F0 m (pc + 1) ls' (S.map (jv_v ad))) := fun ls' hl => h.2 p l e R s m args below meth c H locs cells slots ls' ad base D cA adS mc ms C T1 (T2.put1 (i := 3) (v := .ref x) (jv_c1_s (i := 2) rfl hc) (by intro q; cases q) hi hl) T3
  by_cases hx : x = 0
  · subst hx
    exact lv_astore_nN C.1 C.2.1 hd rfl T2.has hi rfl hk
  · rw [jv_v_ref ad hx] at hk
    rw [List.map_cons, jv_v_ref ad hx]
    exact lv_astore_n C.1 C.2.1 hd rfl T2.has hi rfl hk)⟩
theorem jv_iinc3 {d pc : Nat} {M : jv_M} {L S : List Value} {G G' : jv_Gr} {I I' : jv_I} {J J' : jv_J} {r : Option Value} {a0 a1 a2 : Value} {x v : Int32} {n : Int} (hd : decode M.2.1 pc = .ok (.iinc 3 n, 3)) (hv : x + Int32.ofInt n = v) (hc : a2.category = 1) (h : jv_V d M (pc + 3) (a0 :: a1 :: a2 :: .int v :: L) S G I J r G' I' J') : jv_V d M pc (a0 :: a1 :: a2 :: .int x :: L) S G I J r G' I' J' := ⟨h.1, fun p l e R s m args below meth c H locs cells slots ls ad base D cA adS mc ms C T1 T2 T3 => by
  have hi : 3 < M.2.2.1 := by rw [← T2.1]; simp
  obtain ⟨k, hk⟩ := List.getElem?_of_mem (jv_lv_in (ad := ad) (L := (a0 :: a1 :: a2 :: .int x :: L)) (i := 3) (v := .int x) rfl (by intro q; cases q))
  exact lv_iinc C.1 C.2.1 hd T2.has hk hv hi rfl (fun ls' hl => h.2 p l e R s m args below meth c H locs cells slots ls' ad base D cA adS mc ms C T1 (T2.put1 (i := 3) (v := .int v) (jv_c1_s (i := 2) rfl hc) (by intro q; cases q) hi hl) T3)⟩
theorem jv_iload4 {d pc : Nat} {M : jv_M} {L S : List Value} {G G' : jv_Gr} {I I' : jv_I} {J J' : jv_J} {r : Option Value} {a0 a1 a2 a3 : Value} {x : Int32} (hd : decode M.2.1 pc = .ok (.iload 4, 2)) (h : jv_V d M (pc + 2) (a0 :: a1 :: a2 :: a3 :: .int x :: L) (.int x :: S) G I J r G' I' J') : jv_V d M pc (a0 :: a1 :: a2 :: a3 :: .int x :: L) S G I J r G' I' J' := ⟨h.1, fun p l e R s m args below meth c H locs cells slots ls ad base D cA adS mc ms C T1 T2 T3 => lv_iload C.1 C.2.1 hd (T2.at (i := 4) (v := .int x) rfl (by intro q; cases q)) (h.2 p l e R s m args below meth c H locs cells slots ls ad base D cA adS mc ms C T1 T2 T3)⟩
theorem jv_lload4 {d pc : Nat} {M : jv_M} {L S : List Value} {G G' : jv_Gr} {I I' : jv_I} {J J' : jv_J} {r : Option Value} {a0 a1 a2 a3 : Value} {x : Int64} (hd : decode M.2.1 pc = .ok (.lload 4, 2)) (h : jv_V d M (pc + 2) (a0 :: a1 :: a2 :: a3 :: .long x :: L) (.long x :: S) G I J r G' I' J') : jv_V d M pc (a0 :: a1 :: a2 :: a3 :: .long x :: L) S G I J r G' I' J' := ⟨h.1, fun p l e R s m args below meth c H locs cells slots ls ad base D cA adS mc ms C T1 T2 T3 => lv_lload C.1 C.2.1 hd (T2.at (i := 4) (v := .long x) rfl (by intro q; cases q)) (h.2 p l e R s m args below meth c H locs cells slots ls ad base D cA adS mc ms C T1 T2 T3)⟩
theorem jv_aload4 {d pc : Nat} {M : jv_M} {L S : List Value} {G G' : jv_Gr} {I I' : jv_I} {J J' : jv_J} {r : Option Value} {a0 a1 a2 a3 : Value} {x : Nat} (hd : decode M.2.1 pc = .ok (.aload 4, 2)) (h : jv_V d M (pc + 2) (a0 :: a1 :: a2 :: a3 :: .ref x :: L) (.ref x :: S) G I J r G' I' J') : jv_V d M pc (a0 :: a1 :: a2 :: a3 :: .ref x :: L) S G I J r G' I' J' := ⟨h.1, fun p l e R s m args below meth c H locs cells slots ls ad base D cA adS mc ms C T1 T2 T3 => by
  have hl := T2.at (i := 4) (v := .ref x) rfl (by intro q; cases q)
  have hk := h.2 p l e R s m args below meth c H locs cells slots ls ad base D cA adS mc ms C T1 T2 T3
  by_cases hx : x = 0
  · subst hx
    exact lv_aloadN C.1 C.2.1 hd hl hk
  · rw [jv_v_ref ad hx] at hl
    rw [List.map_cons, jv_v_ref ad hx] at hk
    exact lv_aload C.1 C.2.1 hd hl hk⟩
theorem jv_istore4 {d pc : Nat} {M : jv_M} {L S : List Value} {G G' : jv_Gr} {I I' : jv_I} {J J' : jv_J} {r : Option Value} {a0 a1 a2 a3 z : Value} {x : Int32} (hd : decode M.2.1 pc = .ok (.istore 4, 2)) (hc : a3.category = 1) (h : jv_V d M (pc + 2) (a0 :: a1 :: a2 :: a3 :: .int x :: L) S G I J r G' I' J') : jv_V d M pc (a0 :: a1 :: a2 :: a3 :: z :: L) (.int x :: S) G I J r G' I' J' := ⟨h.1, fun p l e R s m args below meth c H locs cells slots ls ad base D cA adS mc ms C T1 T2 T3 => by
  have hi : 4 < M.2.2.1 := by rw [← T2.1]; simp
  exact lv_istore C.1 C.2.1 hd T2.has hi rfl (fun ls' hl => h.2 p l e R s m args below meth c H locs cells slots ls' ad base D cA adS mc ms C T1 (T2.put1 (i := 4) (v := .int x) (jv_c1_s (i := 3) rfl hc) (by intro q; cases q) hi hl) T3)⟩
theorem jv_astore4 {d pc : Nat} {M : jv_M} {L S : List Value} {G G' : jv_Gr} {I I' : jv_I} {J J' : jv_J} {r : Option Value} {a0 a1 a2 a3 z : Value} {x : Nat} (hd : decode M.2.1 pc = .ok (.astore 4, 2)) (hc : a3.category = 1) (h : jv_V d M (pc + 2) (a0 :: a1 :: a2 :: a3 :: .ref x :: L) S G I J r G' I' J') : jv_V d M pc (a0 :: a1 :: a2 :: a3 :: z :: L) (.ref x :: S) G I J r G' I' J' := ⟨h.1, fun p l e R s m args below meth c H locs cells slots ls ad base D cA adS mc ms C T1 T2 T3 => by
  have hi : 4 < M.2.2.1 := by rw [← T2.1]; simp
  exact (by
  have hk : ∀ ls' : Array Slot, lv_has ls' M.2.2.1 ((4, jv_v ad (.ref x)) :: (jv_lv ad (a0 :: a1 :: a2 :: a3 :: z :: L)).filter (fun q => !(q.1 == 4) && !(q.1 + 1 == 4 && q.2.category == 2))) → W p l e R s m args below meth c H locs cells slots (MQ below (jv_Q base D cA ad (jv_n G) r G' I' J') args s mc ms (fun q => base ≤ q)) (F0 m (pc + 2) ls' (S.map (jv_v ad))) := fun ls' hl => h.2 p l e R s m args below meth c H locs cells slots ls' ad base D cA adS mc ms C T1 (T2.put1 (i := 4) (v := .ref x) (jv_c1_s (i := 3) rfl hc) (by intro q; cases q) hi hl) T3
  by_cases hx : x = 0
  · subst hx
    exact lv_astoreN C.1 C.2.1 hd T2.has hi rfl hk
  · rw [jv_v_ref ad hx] at hk
    rw [List.map_cons, jv_v_ref ad hx]
    exact lv_astore C.1 C.2.1 hd T2.has hi rfl hk)⟩
theorem jv_iinc4 {d pc : Nat} {M : jv_M} {L S : List Value} {G G' : jv_Gr} {I I' : jv_I} {J J' : jv_J} {r : Option Value} {a0 a1 a2 a3 : Value} {x v : Int32} {n : Int} (hd : decode M.2.1 pc = .ok (.iinc 4 n, 3)) (hv : x + Int32.ofInt n = v) (hc : a3.category = 1) (h : jv_V d M (pc + 3) (a0 :: a1 :: a2 :: a3 :: .int v :: L) S G I J r G' I' J') : jv_V d M pc (a0 :: a1 :: a2 :: a3 :: .int x :: L) S G I J r G' I' J' := ⟨h.1, fun p l e R s m args below meth c H locs cells slots ls ad base D cA adS mc ms C T1 T2 T3 => by
  have hi : 4 < M.2.2.1 := by rw [← T2.1]; simp
  obtain ⟨k, hk⟩ := List.getElem?_of_mem (jv_lv_in (ad := ad) (L := (a0 :: a1 :: a2 :: a3 :: .int x :: L)) (i := 4) (v := .int x) rfl (by intro q; cases q))
  exact lv_iinc C.1 C.2.1 hd T2.has hk hv hi rfl (fun ls' hl => h.2 p l e R s m args below meth c H locs cells slots ls' ad base D cA adS mc ms C T1 (T2.put1 (i := 4) (v := .int v) (jv_c1_s (i := 3) rfl hc) (by intro q; cases q) hi hl) T3)⟩
theorem jv_iload5 {d pc : Nat} {M : jv_M} {L S : List Value} {G G' : jv_Gr} {I I' : jv_I} {J J' : jv_J} {r : Option Value} {a0 a1 a2 a3 a4 : Value} {x : Int32} (hd : decode M.2.1 pc = .ok (.iload 5, 2)) (h : jv_V d M (pc + 2) (a0 :: a1 :: a2 :: a3 :: a4 :: .int x :: L) (.int x :: S) G I J r G' I' J') : jv_V d M pc (a0 :: a1 :: a2 :: a3 :: a4 :: .int x :: L) S G I J r G' I' J' := ⟨h.1, fun p l e R s m args below meth c H locs cells slots ls ad base D cA adS mc ms C T1 T2 T3 => lv_iload C.1 C.2.1 hd (T2.at (i := 5) (v := .int x) rfl (by intro q; cases q)) (h.2 p l e R s m args below meth c H locs cells slots ls ad base D cA adS mc ms C T1 T2 T3)⟩
theorem jv_lload5 {d pc : Nat} {M : jv_M} {L S : List Value} {G G' : jv_Gr} {I I' : jv_I} {J J' : jv_J} {r : Option Value} {a0 a1 a2 a3 a4 : Value} {x : Int64} (hd : decode M.2.1 pc = .ok (.lload 5, 2)) (h : jv_V d M (pc + 2) (a0 :: a1 :: a2 :: a3 :: a4 :: .long x :: L) (.long x :: S) G I J r G' I' J') : jv_V d M pc (a0 :: a1 :: a2 :: a3 :: a4 :: .long x :: L) S G I J r G' I' J' := ⟨h.1, fun p l e R s m args below meth c H locs cells slots ls ad base D cA adS mc ms C T1 T2 T3 => lv_lload C.1 C.2.1 hd (T2.at (i := 5) (v := .long x) rfl (by intro q; cases q)) (h.2 p l e R s m args below meth c H locs cells slots ls ad base D cA adS mc ms C T1 T2 T3)⟩
theorem jv_aload5 {d pc : Nat} {M : jv_M} {L S : List Value} {G G' : jv_Gr} {I I' : jv_I} {J J' : jv_J} {r : Option Value} {a0 a1 a2 a3 a4 : Value} {x : Nat} (hd : decode M.2.1 pc = .ok (.aload 5, 2)) (h : jv_V d M (pc + 2) (a0 :: a1 :: a2 :: a3 :: a4 :: .ref x :: L) (.ref x :: S) G I J r G' I' J') : jv_V d M pc (a0 :: a1 :: a2 :: a3 :: a4 :: .ref x :: L) S G I J r G' I' J' := ⟨h.1, fun p l e R s m args below meth c H locs cells slots ls ad base D cA adS mc ms C T1 T2 T3 => by
  have hl := T2.at (i := 5) (v := .ref x) rfl (by intro q; cases q)
  have hk := h.2 p l e R s m args below meth c H locs cells slots ls ad base D cA adS mc ms C T1 T2 T3
  by_cases hx : x = 0
  · subst hx
    exact lv_aloadN C.1 C.2.1 hd hl hk
  · rw [jv_v_ref ad hx] at hl
    rw [List.map_cons, jv_v_ref ad hx] at hk
    exact lv_aload C.1 C.2.1 hd hl hk⟩
theorem jv_istore5 {d pc : Nat} {M : jv_M} {L S : List Value} {G G' : jv_Gr} {I I' : jv_I} {J J' : jv_J} {r : Option Value} {a0 a1 a2 a3 a4 z : Value} {x : Int32} (hd : decode M.2.1 pc = .ok (.istore 5, 2)) (hc : a4.category = 1) (h : jv_V d M (pc + 2) (a0 :: a1 :: a2 :: a3 :: a4 :: .int x :: L) S G I J r G' I' J') : jv_V d M pc (a0 :: a1 :: a2 :: a3 :: a4 :: z :: L) (.int x :: S) G I J r G' I' J' := ⟨h.1, fun p l e R s m args below meth c H locs cells slots ls ad base D cA adS mc ms C T1 T2 T3 => by
  have hi : 5 < M.2.2.1 := by rw [← T2.1]; simp
  exact lv_istore C.1 C.2.1 hd T2.has hi rfl (fun ls' hl => h.2 p l e R s m args below meth c H locs cells slots ls' ad base D cA adS mc ms C T1 (T2.put1 (i := 5) (v := .int x) (jv_c1_s (i := 4) rfl hc) (by intro q; cases q) hi hl) T3)⟩
theorem jv_astore5 {d pc : Nat} {M : jv_M} {L S : List Value} {G G' : jv_Gr} {I I' : jv_I} {J J' : jv_J} {r : Option Value} {a0 a1 a2 a3 a4 z : Value} {x : Nat} (hd : decode M.2.1 pc = .ok (.astore 5, 2)) (hc : a4.category = 1) (h : jv_V d M (pc + 2) (a0 :: a1 :: a2 :: a3 :: a4 :: .ref x :: L) S G I J r G' I' J') : jv_V d M pc (a0 :: a1 :: a2 :: a3 :: a4 :: z :: L) (.ref x :: S) G I J r G' I' J' := ⟨h.1, fun p l e R s m args below meth c H locs cells slots ls ad base D cA adS mc ms C T1 T2 T3 => by
  have hi : 5 < M.2.2.1 := by rw [← T2.1]; simp
  exact (by
  have hk : ∀ ls' : Array Slot, lv_has ls' M.2.2.1 ((5, jv_v ad (.ref x)) :: (jv_lv ad (a0 :: a1 :: a2 :: a3 :: a4 :: z :: L)).filter (fun q => !(q.1 == 5) && !(q.1 + 1 == 5 && q.2.category == 2))) → W p l e R s m args below meth c H locs cells slots (MQ below (jv_Q base D cA ad (jv_n G) r G' I' J') args s mc ms (fun q => base ≤ q)) (F0 m (pc + 2) ls' (S.map (jv_v ad))) := fun ls' hl => h.2 p l e R s m args below meth c H locs cells slots ls' ad base D cA adS mc ms C T1 (T2.put1 (i := 5) (v := .ref x) (jv_c1_s (i := 4) rfl hc) (by intro q; cases q) hi hl) T3
  by_cases hx : x = 0
  · subst hx
    exact lv_astoreN C.1 C.2.1 hd T2.has hi rfl hk
  · rw [jv_v_ref ad hx] at hk
    rw [List.map_cons, jv_v_ref ad hx]
    exact lv_astore C.1 C.2.1 hd T2.has hi rfl hk)⟩
theorem jv_iinc5 {d pc : Nat} {M : jv_M} {L S : List Value} {G G' : jv_Gr} {I I' : jv_I} {J J' : jv_J} {r : Option Value} {a0 a1 a2 a3 a4 : Value} {x v : Int32} {n : Int} (hd : decode M.2.1 pc = .ok (.iinc 5 n, 3)) (hv : x + Int32.ofInt n = v) (hc : a4.category = 1) (h : jv_V d M (pc + 3) (a0 :: a1 :: a2 :: a3 :: a4 :: .int v :: L) S G I J r G' I' J') : jv_V d M pc (a0 :: a1 :: a2 :: a3 :: a4 :: .int x :: L) S G I J r G' I' J' := ⟨h.1, fun p l e R s m args below meth c H locs cells slots ls ad base D cA adS mc ms C T1 T2 T3 => by
  have hi : 5 < M.2.2.1 := by rw [← T2.1]; simp
  obtain ⟨k, hk⟩ := List.getElem?_of_mem (jv_lv_in (ad := ad) (L := (a0 :: a1 :: a2 :: a3 :: a4 :: .int x :: L)) (i := 5) (v := .int x) rfl (by intro q; cases q))
  exact lv_iinc C.1 C.2.1 hd T2.has hk hv hi rfl (fun ls' hl => h.2 p l e R s m args below meth c H locs cells slots ls' ad base D cA adS mc ms C T1 (T2.put1 (i := 5) (v := .int v) (jv_c1_s (i := 4) rfl hc) (by intro q; cases q) hi hl) T3)⟩
theorem jv_iload6 {d pc : Nat} {M : jv_M} {L S : List Value} {G G' : jv_Gr} {I I' : jv_I} {J J' : jv_J} {r : Option Value} {a0 a1 a2 a3 a4 a5 : Value} {x : Int32} (hd : decode M.2.1 pc = .ok (.iload 6, 2)) (h : jv_V d M (pc + 2) (a0 :: a1 :: a2 :: a3 :: a4 :: a5 :: .int x :: L) (.int x :: S) G I J r G' I' J') : jv_V d M pc (a0 :: a1 :: a2 :: a3 :: a4 :: a5 :: .int x :: L) S G I J r G' I' J' := ⟨h.1, fun p l e R s m args below meth c H locs cells slots ls ad base D cA adS mc ms C T1 T2 T3 => lv_iload C.1 C.2.1 hd (T2.at (i := 6) (v := .int x) rfl (by intro q; cases q)) (h.2 p l e R s m args below meth c H locs cells slots ls ad base D cA adS mc ms C T1 T2 T3)⟩
theorem jv_lload6 {d pc : Nat} {M : jv_M} {L S : List Value} {G G' : jv_Gr} {I I' : jv_I} {J J' : jv_J} {r : Option Value} {a0 a1 a2 a3 a4 a5 : Value} {x : Int64} (hd : decode M.2.1 pc = .ok (.lload 6, 2)) (h : jv_V d M (pc + 2) (a0 :: a1 :: a2 :: a3 :: a4 :: a5 :: .long x :: L) (.long x :: S) G I J r G' I' J') : jv_V d M pc (a0 :: a1 :: a2 :: a3 :: a4 :: a5 :: .long x :: L) S G I J r G' I' J' := ⟨h.1, fun p l e R s m args below meth c H locs cells slots ls ad base D cA adS mc ms C T1 T2 T3 => lv_lload C.1 C.2.1 hd (T2.at (i := 6) (v := .long x) rfl (by intro q; cases q)) (h.2 p l e R s m args below meth c H locs cells slots ls ad base D cA adS mc ms C T1 T2 T3)⟩
theorem jv_aload6 {d pc : Nat} {M : jv_M} {L S : List Value} {G G' : jv_Gr} {I I' : jv_I} {J J' : jv_J} {r : Option Value} {a0 a1 a2 a3 a4 a5 : Value} {x : Nat} (hd : decode M.2.1 pc = .ok (.aload 6, 2)) (h : jv_V d M (pc + 2) (a0 :: a1 :: a2 :: a3 :: a4 :: a5 :: .ref x :: L) (.ref x :: S) G I J r G' I' J') : jv_V d M pc (a0 :: a1 :: a2 :: a3 :: a4 :: a5 :: .ref x :: L) S G I J r G' I' J' := ⟨h.1, fun p l e R s m args below meth c H locs cells slots ls ad base D cA adS mc ms C T1 T2 T3 => by
  have hl := T2.at (i := 6) (v := .ref x) rfl (by intro q; cases q)
  have hk := h.2 p l e R s m args below meth c H locs cells slots ls ad base D cA adS mc ms C T1 T2 T3
  by_cases hx : x = 0
  · subst hx
    exact lv_aloadN C.1 C.2.1 hd hl hk
  · rw [jv_v_ref ad hx] at hl
    rw [List.map_cons, jv_v_ref ad hx] at hk
    exact lv_aload C.1 C.2.1 hd hl hk⟩
theorem jv_istore6 {d pc : Nat} {M : jv_M} {L S : List Value} {G G' : jv_Gr} {I I' : jv_I} {J J' : jv_J} {r : Option Value} {a0 a1 a2 a3 a4 a5 z : Value} {x : Int32} (hd : decode M.2.1 pc = .ok (.istore 6, 2)) (hc : a5.category = 1) (h : jv_V d M (pc + 2) (a0 :: a1 :: a2 :: a3 :: a4 :: a5 :: .int x :: L) S G I J r G' I' J') : jv_V d M pc (a0 :: a1 :: a2 :: a3 :: a4 :: a5 :: z :: L) (.int x :: S) G I J r G' I' J' := ⟨h.1, fun p l e R s m args below meth c H locs cells slots ls ad base D cA adS mc ms C T1 T2 T3 => by
  have hi : 6 < M.2.2.1 := by rw [← T2.1]; simp
  exact lv_istore C.1 C.2.1 hd T2.has hi rfl (fun ls' hl => h.2 p l e R s m args below meth c H locs cells slots ls' ad base D cA adS mc ms C T1 (T2.put1 (i := 6) (v := .int x) (jv_c1_s (i := 5) rfl hc) (by intro q; cases q) hi hl) T3)⟩
theorem jv_astore6 {d pc : Nat} {M : jv_M} {L S : List Value} {G G' : jv_Gr} {I I' : jv_I} {J J' : jv_J} {r : Option Value} {a0 a1 a2 a3 a4 a5 z : Value} {x : Nat} (hd : decode M.2.1 pc = .ok (.astore 6, 2)) (hc : a5.category = 1) (h : jv_V d M (pc + 2) (a0 :: a1 :: a2 :: a3 :: a4 :: a5 :: .ref x :: L) S G I J r G' I' J') : jv_V d M pc (a0 :: a1 :: a2 :: a3 :: a4 :: a5 :: z :: L) (.ref x :: S) G I J r G' I' J' := ⟨h.1, fun p l e R s m args below meth c H locs cells slots ls ad base D cA adS mc ms C T1 T2 T3 => by
  have hi : 6 < M.2.2.1 := by rw [← T2.1]; simp
  exact (by
  have hk : ∀ ls' : Array Slot, lv_has ls' M.2.2.1 ((6, jv_v ad (.ref x)) :: (jv_lv ad (a0 :: a1 :: a2 :: a3 :: a4 :: a5 :: z :: L)).filter (fun q => !(q.1 == 6) && !(q.1 + 1 == 6 && q.2.category == 2))) → W p l e R s m args below meth c H locs cells slots (MQ below (jv_Q base D cA ad (jv_n G) r G' I' J') args s mc ms (fun q => base ≤ q)) (F0 m (pc + 2) ls' (S.map (jv_v ad))) := fun ls' hl => h.2 p l e R s m args below meth c H locs cells slots ls' ad base D cA adS mc ms C T1 (T2.put1 (i := 6) (v := .ref x) (jv_c1_s (i := 5) rfl hc) (by intro q; cases q) hi hl) T3
  by_cases hx : x = 0
  · subst hx
    exact lv_astoreN C.1 C.2.1 hd T2.has hi rfl hk
  · rw [jv_v_ref ad hx] at hk
    rw [List.map_cons, jv_v_ref ad hx]
    exact lv_astore C.1 C.2.1 hd T2.has hi rfl hk)⟩
theorem jv_iinc6 {d pc : Nat} {M : jv_M} {L S : List Value} {G G' : jv_Gr} {I I' : jv_I} {J J' : jv_J} {r : Option Value} {a0 a1 a2 a3 a4 a5 : Value} {x v : Int32} {n : Int} (hd : decode M.2.1 pc = .ok (.iinc 6 n, 3)) (hv : x + Int32.ofInt n = v) (hc : a5.category = 1) (h : jv_V d M (pc + 3) (a0 :: a1 :: a2 :: a3 :: a4 :: a5 :: .int v :: L) S G I J r G' I' J') : jv_V d M pc (a0 :: a1 :: a2 :: a3 :: a4 :: a5 :: .int x :: L) S G I J r G' I' J' := ⟨h.1, fun p l e R s m args below meth c H locs cells slots ls ad base D cA adS mc ms C T1 T2 T3 => by
  have hi : 6 < M.2.2.1 := by rw [← T2.1]; simp
  obtain ⟨k, hk⟩ := List.getElem?_of_mem (jv_lv_in (ad := ad) (L := (a0 :: a1 :: a2 :: a3 :: a4 :: a5 :: .int x :: L)) (i := 6) (v := .int x) rfl (by intro q; cases q))
  exact lv_iinc C.1 C.2.1 hd T2.has hk hv hi rfl (fun ls' hl => h.2 p l e R s m args below meth c H locs cells slots ls' ad base D cA adS mc ms C T1 (T2.put1 (i := 6) (v := .int v) (jv_c1_s (i := 5) rfl hc) (by intro q; cases q) hi hl) T3)⟩
theorem jv_iload7 {d pc : Nat} {M : jv_M} {L S : List Value} {G G' : jv_Gr} {I I' : jv_I} {J J' : jv_J} {r : Option Value} {a0 a1 a2 a3 a4 a5 a6 : Value} {x : Int32} (hd : decode M.2.1 pc = .ok (.iload 7, 2)) (h : jv_V d M (pc + 2) (a0 :: a1 :: a2 :: a3 :: a4 :: a5 :: a6 :: .int x :: L) (.int x :: S) G I J r G' I' J') : jv_V d M pc (a0 :: a1 :: a2 :: a3 :: a4 :: a5 :: a6 :: .int x :: L) S G I J r G' I' J' := ⟨h.1, fun p l e R s m args below meth c H locs cells slots ls ad base D cA adS mc ms C T1 T2 T3 => lv_iload C.1 C.2.1 hd (T2.at (i := 7) (v := .int x) rfl (by intro q; cases q)) (h.2 p l e R s m args below meth c H locs cells slots ls ad base D cA adS mc ms C T1 T2 T3)⟩
theorem jv_lload7 {d pc : Nat} {M : jv_M} {L S : List Value} {G G' : jv_Gr} {I I' : jv_I} {J J' : jv_J} {r : Option Value} {a0 a1 a2 a3 a4 a5 a6 : Value} {x : Int64} (hd : decode M.2.1 pc = .ok (.lload 7, 2)) (h : jv_V d M (pc + 2) (a0 :: a1 :: a2 :: a3 :: a4 :: a5 :: a6 :: .long x :: L) (.long x :: S) G I J r G' I' J') : jv_V d M pc (a0 :: a1 :: a2 :: a3 :: a4 :: a5 :: a6 :: .long x :: L) S G I J r G' I' J' := ⟨h.1, fun p l e R s m args below meth c H locs cells slots ls ad base D cA adS mc ms C T1 T2 T3 => lv_lload C.1 C.2.1 hd (T2.at (i := 7) (v := .long x) rfl (by intro q; cases q)) (h.2 p l e R s m args below meth c H locs cells slots ls ad base D cA adS mc ms C T1 T2 T3)⟩
theorem jv_aload7 {d pc : Nat} {M : jv_M} {L S : List Value} {G G' : jv_Gr} {I I' : jv_I} {J J' : jv_J} {r : Option Value} {a0 a1 a2 a3 a4 a5 a6 : Value} {x : Nat} (hd : decode M.2.1 pc = .ok (.aload 7, 2)) (h : jv_V d M (pc + 2) (a0 :: a1 :: a2 :: a3 :: a4 :: a5 :: a6 :: .ref x :: L) (.ref x :: S) G I J r G' I' J') : jv_V d M pc (a0 :: a1 :: a2 :: a3 :: a4 :: a5 :: a6 :: .ref x :: L) S G I J r G' I' J' := ⟨h.1, fun p l e R s m args below meth c H locs cells slots ls ad base D cA adS mc ms C T1 T2 T3 => by
  have hl := T2.at (i := 7) (v := .ref x) rfl (by intro q; cases q)
  have hk := h.2 p l e R s m args below meth c H locs cells slots ls ad base D cA adS mc ms C T1 T2 T3
  by_cases hx : x = 0
  · subst hx
    exact lv_aloadN C.1 C.2.1 hd hl hk
  · rw [jv_v_ref ad hx] at hl
    rw [List.map_cons, jv_v_ref ad hx] at hk
    exact lv_aload C.1 C.2.1 hd hl hk⟩
theorem jv_istore7 {d pc : Nat} {M : jv_M} {L S : List Value} {G G' : jv_Gr} {I I' : jv_I} {J J' : jv_J} {r : Option Value} {a0 a1 a2 a3 a4 a5 a6 z : Value} {x : Int32} (hd : decode M.2.1 pc = .ok (.istore 7, 2)) (hc : a6.category = 1) (h : jv_V d M (pc + 2) (a0 :: a1 :: a2 :: a3 :: a4 :: a5 :: a6 :: .int x :: L) S G I J r G' I' J') : jv_V d M pc (a0 :: a1 :: a2 :: a3 :: a4 :: a5 :: a6 :: z :: L) (.int x :: S) G I J r G' I' J' := ⟨h.1, fun p l e R s m args below meth c H locs cells slots ls ad base D cA adS mc ms C T1 T2 T3 => by
  have hi : 7 < M.2.2.1 := by rw [← T2.1]; simp
  exact lv_istore C.1 C.2.1 hd T2.has hi rfl (fun ls' hl => h.2 p l e R s m args below meth c H locs cells slots ls' ad base D cA adS mc ms C T1 (T2.put1 (i := 7) (v := .int x) (jv_c1_s (i := 6) rfl hc) (by intro q; cases q) hi hl) T3)⟩
theorem jv_astore7 {d pc : Nat} {M : jv_M} {L S : List Value} {G G' : jv_Gr} {I I' : jv_I} {J J' : jv_J} {r : Option Value} {a0 a1 a2 a3 a4 a5 a6 z : Value} {x : Nat} (hd : decode M.2.1 pc = .ok (.astore 7, 2)) (hc : a6.category = 1) (h : jv_V d M (pc + 2) (a0 :: a1 :: a2 :: a3 :: a4 :: a5 :: a6 :: .ref x :: L) S G I J r G' I' J') : jv_V d M pc (a0 :: a1 :: a2 :: a3 :: a4 :: a5 :: a6 :: z :: L) (.ref x :: S) G I J r G' I' J' := ⟨h.1, fun p l e R s m args below meth c H locs cells slots ls ad base D cA adS mc ms C T1 T2 T3 => by
  have hi : 7 < M.2.2.1 := by rw [← T2.1]; simp
  exact (by
  have hk : ∀ ls' : Array Slot, lv_has ls' M.2.2.1 ((7, jv_v ad (.ref x)) :: (jv_lv ad (a0 :: a1 :: a2 :: a3 :: a4 :: a5 :: a6 :: z :: L)).filter (fun q => !(q.1 == 7) && !(q.1 + 1 == 7 && q.2.category == 2))) → W p l e R s m args below meth c H locs cells slots (MQ below (jv_Q base D cA ad (jv_n G) r G' I' J') args s mc ms (fun q => base ≤ q)) (F0 m (pc + 2) ls' (S.map (jv_v ad))) := fun ls' hl => h.2 p l e R s m args below meth c H locs cells slots ls' ad base D cA adS mc ms C T1 (T2.put1 (i := 7) (v := .ref x) (jv_c1_s (i := 6) rfl hc) (by intro q; cases q) hi hl) T3
  by_cases hx : x = 0
  · subst hx
    exact lv_astoreN C.1 C.2.1 hd T2.has hi rfl hk
  · rw [jv_v_ref ad hx] at hk
    rw [List.map_cons, jv_v_ref ad hx]
    exact lv_astore C.1 C.2.1 hd T2.has hi rfl hk)⟩
theorem jv_iinc7 {d pc : Nat} {M : jv_M} {L S : List Value} {G G' : jv_Gr} {I I' : jv_I} {J J' : jv_J} {r : Option Value} {a0 a1 a2 a3 a4 a5 a6 : Value} {x v : Int32} {n : Int} (hd : decode M.2.1 pc = .ok (.iinc 7 n, 3)) (hv : x + Int32.ofInt n = v) (hc : a6.category = 1) (h : jv_V d M (pc + 3) (a0 :: a1 :: a2 :: a3 :: a4 :: a5 :: a6 :: .int v :: L) S G I J r G' I' J') : jv_V d M pc (a0 :: a1 :: a2 :: a3 :: a4 :: a5 :: a6 :: .int x :: L) S G I J r G' I' J' := ⟨h.1, fun p l e R s m args below meth c H locs cells slots ls ad base D cA adS mc ms C T1 T2 T3 => by
  have hi : 7 < M.2.2.1 := by rw [← T2.1]; simp
  obtain ⟨k, hk⟩ := List.getElem?_of_mem (jv_lv_in (ad := ad) (L := (a0 :: a1 :: a2 :: a3 :: a4 :: a5 :: a6 :: .int x :: L)) (i := 7) (v := .int x) rfl (by intro q; cases q))
  exact lv_iinc C.1 C.2.1 hd T2.has hk hv hi rfl (fun ls' hl => h.2 p l e R s m args below meth c H locs cells slots ls' ad base D cA adS mc ms C T1 (T2.put1 (i := 7) (v := .int v) (jv_c1_s (i := 6) rfl hc) (by intro q; cases q) hi hl) T3)⟩
theorem jv_iload8 {d pc : Nat} {M : jv_M} {L S : List Value} {G G' : jv_Gr} {I I' : jv_I} {J J' : jv_J} {r : Option Value} {a0 a1 a2 a3 a4 a5 a6 a7 : Value} {x : Int32} (hd : decode M.2.1 pc = .ok (.iload 8, 2)) (h : jv_V d M (pc + 2) (a0 :: a1 :: a2 :: a3 :: a4 :: a5 :: a6 :: a7 :: .int x :: L) (.int x :: S) G I J r G' I' J') : jv_V d M pc (a0 :: a1 :: a2 :: a3 :: a4 :: a5 :: a6 :: a7 :: .int x :: L) S G I J r G' I' J' := ⟨h.1, fun p l e R s m args below meth c H locs cells slots ls ad base D cA adS mc ms C T1 T2 T3 => lv_iload C.1 C.2.1 hd (T2.at (i := 8) (v := .int x) rfl (by intro q; cases q)) (h.2 p l e R s m args below meth c H locs cells slots ls ad base D cA adS mc ms C T1 T2 T3)⟩
theorem jv_lload8 {d pc : Nat} {M : jv_M} {L S : List Value} {G G' : jv_Gr} {I I' : jv_I} {J J' : jv_J} {r : Option Value} {a0 a1 a2 a3 a4 a5 a6 a7 : Value} {x : Int64} (hd : decode M.2.1 pc = .ok (.lload 8, 2)) (h : jv_V d M (pc + 2) (a0 :: a1 :: a2 :: a3 :: a4 :: a5 :: a6 :: a7 :: .long x :: L) (.long x :: S) G I J r G' I' J') : jv_V d M pc (a0 :: a1 :: a2 :: a3 :: a4 :: a5 :: a6 :: a7 :: .long x :: L) S G I J r G' I' J' := ⟨h.1, fun p l e R s m args below meth c H locs cells slots ls ad base D cA adS mc ms C T1 T2 T3 => lv_lload C.1 C.2.1 hd (T2.at (i := 8) (v := .long x) rfl (by intro q; cases q)) (h.2 p l e R s m args below meth c H locs cells slots ls ad base D cA adS mc ms C T1 T2 T3)⟩
theorem jv_aload8 {d pc : Nat} {M : jv_M} {L S : List Value} {G G' : jv_Gr} {I I' : jv_I} {J J' : jv_J} {r : Option Value} {a0 a1 a2 a3 a4 a5 a6 a7 : Value} {x : Nat} (hd : decode M.2.1 pc = .ok (.aload 8, 2)) (h : jv_V d M (pc + 2) (a0 :: a1 :: a2 :: a3 :: a4 :: a5 :: a6 :: a7 :: .ref x :: L) (.ref x :: S) G I J r G' I' J') : jv_V d M pc (a0 :: a1 :: a2 :: a3 :: a4 :: a5 :: a6 :: a7 :: .ref x :: L) S G I J r G' I' J' := ⟨h.1, fun p l e R s m args below meth c H locs cells slots ls ad base D cA adS mc ms C T1 T2 T3 => by
  have hl := T2.at (i := 8) (v := .ref x) rfl (by intro q; cases q)
  have hk := h.2 p l e R s m args below meth c H locs cells slots ls ad base D cA adS mc ms C T1 T2 T3
  by_cases hx : x = 0
  · subst hx
    exact lv_aloadN C.1 C.2.1 hd hl hk
  · rw [jv_v_ref ad hx] at hl
    rw [List.map_cons, jv_v_ref ad hx] at hk
    exact lv_aload C.1 C.2.1 hd hl hk⟩
theorem jv_istore8 {d pc : Nat} {M : jv_M} {L S : List Value} {G G' : jv_Gr} {I I' : jv_I} {J J' : jv_J} {r : Option Value} {a0 a1 a2 a3 a4 a5 a6 a7 z : Value} {x : Int32} (hd : decode M.2.1 pc = .ok (.istore 8, 2)) (hc : a7.category = 1) (h : jv_V d M (pc + 2) (a0 :: a1 :: a2 :: a3 :: a4 :: a5 :: a6 :: a7 :: .int x :: L) S G I J r G' I' J') : jv_V d M pc (a0 :: a1 :: a2 :: a3 :: a4 :: a5 :: a6 :: a7 :: z :: L) (.int x :: S) G I J r G' I' J' := ⟨h.1, fun p l e R s m args below meth c H locs cells slots ls ad base D cA adS mc ms C T1 T2 T3 => by
  have hi : 8 < M.2.2.1 := by rw [← T2.1]; simp
  exact lv_istore C.1 C.2.1 hd T2.has hi rfl (fun ls' hl => h.2 p l e R s m args below meth c H locs cells slots ls' ad base D cA adS mc ms C T1 (T2.put1 (i := 8) (v := .int x) (jv_c1_s (i := 7) rfl hc) (by intro q; cases q) hi hl) T3)⟩
theorem jv_astore8 {d pc : Nat} {M : jv_M} {L S : List Value} {G G' : jv_Gr} {I I' : jv_I} {J J' : jv_J} {r : Option Value} {a0 a1 a2 a3 a4 a5 a6 a7 z : Value} {x : Nat} (hd : decode M.2.1 pc = .ok (.astore 8, 2)) (hc : a7.category = 1) (h : jv_V d M (pc + 2) (a0 :: a1 :: a2 :: a3 :: a4 :: a5 :: a6 :: a7 :: .ref x :: L) S G I J r G' I' J') : jv_V d M pc (a0 :: a1 :: a2 :: a3 :: a4 :: a5 :: a6 :: a7 :: z :: L) (.ref x :: S) G I J r G' I' J' := ⟨h.1, fun p l e R s m args below meth c H locs cells slots ls ad base D cA adS mc ms C T1 T2 T3 => by
  have hi : 8 < M.2.2.1 := by rw [← T2.1]; simp
  exact (by
  have hk : ∀ ls' : Array Slot, lv_has ls' M.2.2.1 ((8, jv_v ad (.ref x)) :: (jv_lv ad (a0 :: a1 :: a2 :: a3 :: a4 :: a5 :: a6 :: a7 :: z :: L)).filter (fun q => !(q.1 == 8) && !(q.1 + 1 == 8 && q.2.category == 2))) → W p l e R s m args below meth c H locs cells slots (MQ below (jv_Q base D cA ad (jv_n G) r G' I' J') args s mc ms (fun q => base ≤ q)) (F0 m (pc + 2) ls' (S.map (jv_v ad))) := fun ls' hl => h.2 p l e R s m args below meth c H locs cells slots ls' ad base D cA adS mc ms C T1 (T2.put1 (i := 8) (v := .ref x) (jv_c1_s (i := 7) rfl hc) (by intro q; cases q) hi hl) T3
  by_cases hx : x = 0
  · subst hx
    exact lv_astoreN C.1 C.2.1 hd T2.has hi rfl hk
  · rw [jv_v_ref ad hx] at hk
    rw [List.map_cons, jv_v_ref ad hx]
    exact lv_astore C.1 C.2.1 hd T2.has hi rfl hk)⟩
theorem jv_iinc8 {d pc : Nat} {M : jv_M} {L S : List Value} {G G' : jv_Gr} {I I' : jv_I} {J J' : jv_J} {r : Option Value} {a0 a1 a2 a3 a4 a5 a6 a7 : Value} {x v : Int32} {n : Int} (hd : decode M.2.1 pc = .ok (.iinc 8 n, 3)) (hv : x + Int32.ofInt n = v) (hc : a7.category = 1) (h : jv_V d M (pc + 3) (a0 :: a1 :: a2 :: a3 :: a4 :: a5 :: a6 :: a7 :: .int v :: L) S G I J r G' I' J') : jv_V d M pc (a0 :: a1 :: a2 :: a3 :: a4 :: a5 :: a6 :: a7 :: .int x :: L) S G I J r G' I' J' := ⟨h.1, fun p l e R s m args below meth c H locs cells slots ls ad base D cA adS mc ms C T1 T2 T3 => by
  have hi : 8 < M.2.2.1 := by rw [← T2.1]; simp
  obtain ⟨k, hk⟩ := List.getElem?_of_mem (jv_lv_in (ad := ad) (L := (a0 :: a1 :: a2 :: a3 :: a4 :: a5 :: a6 :: a7 :: .int x :: L)) (i := 8) (v := .int x) rfl (by intro q; cases q))
  exact lv_iinc C.1 C.2.1 hd T2.has hk hv hi rfl (fun ls' hl => h.2 p l e R s m args below meth c H locs cells slots ls' ad base D cA adS mc ms C T1 (T2.put1 (i := 8) (v := .int v) (jv_c1_s (i := 7) rfl hc) (by intro q; cases q) hi hl) T3)⟩
theorem jv_iload9 {d pc : Nat} {M : jv_M} {L S : List Value} {G G' : jv_Gr} {I I' : jv_I} {J J' : jv_J} {r : Option Value} {a0 a1 a2 a3 a4 a5 a6 a7 a8 : Value} {x : Int32} (hd : decode M.2.1 pc = .ok (.iload 9, 2)) (h : jv_V d M (pc + 2) (a0 :: a1 :: a2 :: a3 :: a4 :: a5 :: a6 :: a7 :: a8 :: .int x :: L) (.int x :: S) G I J r G' I' J') : jv_V d M pc (a0 :: a1 :: a2 :: a3 :: a4 :: a5 :: a6 :: a7 :: a8 :: .int x :: L) S G I J r G' I' J' := ⟨h.1, fun p l e R s m args below meth c H locs cells slots ls ad base D cA adS mc ms C T1 T2 T3 => lv_iload C.1 C.2.1 hd (T2.at (i := 9) (v := .int x) rfl (by intro q; cases q)) (h.2 p l e R s m args below meth c H locs cells slots ls ad base D cA adS mc ms C T1 T2 T3)⟩
theorem jv_lload9 {d pc : Nat} {M : jv_M} {L S : List Value} {G G' : jv_Gr} {I I' : jv_I} {J J' : jv_J} {r : Option Value} {a0 a1 a2 a3 a4 a5 a6 a7 a8 : Value} {x : Int64} (hd : decode M.2.1 pc = .ok (.lload 9, 2)) (h : jv_V d M (pc + 2) (a0 :: a1 :: a2 :: a3 :: a4 :: a5 :: a6 :: a7 :: a8 :: .long x :: L) (.long x :: S) G I J r G' I' J') : jv_V d M pc (a0 :: a1 :: a2 :: a3 :: a4 :: a5 :: a6 :: a7 :: a8 :: .long x :: L) S G I J r G' I' J' := ⟨h.1, fun p l e R s m args below meth c H locs cells slots ls ad base D cA adS mc ms C T1 T2 T3 => lv_lload C.1 C.2.1 hd (T2.at (i := 9) (v := .long x) rfl (by intro q; cases q)) (h.2 p l e R s m args below meth c H locs cells slots ls ad base D cA adS mc ms C T1 T2 T3)⟩
theorem jv_aload9 {d pc : Nat} {M : jv_M} {L S : List Value} {G G' : jv_Gr} {I I' : jv_I} {J J' : jv_J} {r : Option Value} {a0 a1 a2 a3 a4 a5 a6 a7 a8 : Value} {x : Nat} (hd : decode M.2.1 pc = .ok (.aload 9, 2)) (h : jv_V d M (pc + 2) (a0 :: a1 :: a2 :: a3 :: a4 :: a5 :: a6 :: a7 :: a8 :: .ref x :: L) (.ref x :: S) G I J r G' I' J') : jv_V d M pc (a0 :: a1 :: a2 :: a3 :: a4 :: a5 :: a6 :: a7 :: a8 :: .ref x :: L) S G I J r G' I' J' := ⟨h.1, fun p l e R s m args below meth c H locs cells slots ls ad base D cA adS mc ms C T1 T2 T3 => by
  have hl := T2.at (i := 9) (v := .ref x) rfl (by intro q; cases q)
  have hk := h.2 p l e R s m args below meth c H locs cells slots ls ad base D cA adS mc ms C T1 T2 T3
  by_cases hx : x = 0
  · subst hx
    exact lv_aloadN C.1 C.2.1 hd hl hk
  · rw [jv_v_ref ad hx] at hl
    rw [List.map_cons, jv_v_ref ad hx] at hk
    exact lv_aload C.1 C.2.1 hd hl hk⟩
theorem jv_istore9 {d pc : Nat} {M : jv_M} {L S : List Value} {G G' : jv_Gr} {I I' : jv_I} {J J' : jv_J} {r : Option Value} {a0 a1 a2 a3 a4 a5 a6 a7 a8 z : Value} {x : Int32} (hd : decode M.2.1 pc = .ok (.istore 9, 2)) (hc : a8.category = 1) (h : jv_V d M (pc + 2) (a0 :: a1 :: a2 :: a3 :: a4 :: a5 :: a6 :: a7 :: a8 :: .int x :: L) S G I J r G' I' J') : jv_V d M pc (a0 :: a1 :: a2 :: a3 :: a4 :: a5 :: a6 :: a7 :: a8 :: z :: L) (.int x :: S) G I J r G' I' J' := ⟨h.1, fun p l e R s m args below meth c H locs cells slots ls ad base D cA adS mc ms C T1 T2 T3 => by
  have hi : 9 < M.2.2.1 := by rw [← T2.1]; simp
  exact lv_istore C.1 C.2.1 hd T2.has hi rfl (fun ls' hl => h.2 p l e R s m args below meth c H locs cells slots ls' ad base D cA adS mc ms C T1 (T2.put1 (i := 9) (v := .int x) (jv_c1_s (i := 8) rfl hc) (by intro q; cases q) hi hl) T3)⟩
theorem jv_astore9 {d pc : Nat} {M : jv_M} {L S : List Value} {G G' : jv_Gr} {I I' : jv_I} {J J' : jv_J} {r : Option Value} {a0 a1 a2 a3 a4 a5 a6 a7 a8 z : Value} {x : Nat} (hd : decode M.2.1 pc = .ok (.astore 9, 2)) (hc : a8.category = 1) (h : jv_V d M (pc + 2) (a0 :: a1 :: a2 :: a3 :: a4 :: a5 :: a6 :: a7 :: a8 :: .ref x :: L) S G I J r G' I' J') : jv_V d M pc (a0 :: a1 :: a2 :: a3 :: a4 :: a5 :: a6 :: a7 :: a8 :: z :: L) (.ref x :: S) G I J r G' I' J' := ⟨h.1, fun p l e R s m args below meth c H locs cells slots ls ad base D cA adS mc ms C T1 T2 T3 => by
  have hi : 9 < M.2.2.1 := by rw [← T2.1]; simp
  exact (by
  have hk : ∀ ls' : Array Slot, lv_has ls' M.2.2.1 ((9, jv_v ad (.ref x)) :: (jv_lv ad (a0 :: a1 :: a2 :: a3 :: a4 :: a5 :: a6 :: a7 :: a8 :: z :: L)).filter (fun q => !(q.1 == 9) && !(q.1 + 1 == 9 && q.2.category == 2))) → W p l e R s m args below meth c H locs cells slots (MQ below (jv_Q base D cA ad (jv_n G) r G' I' J') args s mc ms (fun q => base ≤ q)) (F0 m (pc + 2) ls' (S.map (jv_v ad))) := fun ls' hl => h.2 p l e R s m args below meth c H locs cells slots ls' ad base D cA adS mc ms C T1 (T2.put1 (i := 9) (v := .ref x) (jv_c1_s (i := 8) rfl hc) (by intro q; cases q) hi hl) T3
  by_cases hx : x = 0
  · subst hx
    exact lv_astoreN C.1 C.2.1 hd T2.has hi rfl hk
  · rw [jv_v_ref ad hx] at hk
    rw [List.map_cons, jv_v_ref ad hx]
    exact lv_astore C.1 C.2.1 hd T2.has hi rfl hk)⟩
theorem jv_iinc9 {d pc : Nat} {M : jv_M} {L S : List Value} {G G' : jv_Gr} {I I' : jv_I} {J J' : jv_J} {r : Option Value} {a0 a1 a2 a3 a4 a5 a6 a7 a8 : Value} {x v : Int32} {n : Int} (hd : decode M.2.1 pc = .ok (.iinc 9 n, 3)) (hv : x + Int32.ofInt n = v) (hc : a8.category = 1) (h : jv_V d M (pc + 3) (a0 :: a1 :: a2 :: a3 :: a4 :: a5 :: a6 :: a7 :: a8 :: .int v :: L) S G I J r G' I' J') : jv_V d M pc (a0 :: a1 :: a2 :: a3 :: a4 :: a5 :: a6 :: a7 :: a8 :: .int x :: L) S G I J r G' I' J' := ⟨h.1, fun p l e R s m args below meth c H locs cells slots ls ad base D cA adS mc ms C T1 T2 T3 => by
  have hi : 9 < M.2.2.1 := by rw [← T2.1]; simp
  obtain ⟨k, hk⟩ := List.getElem?_of_mem (jv_lv_in (ad := ad) (L := (a0 :: a1 :: a2 :: a3 :: a4 :: a5 :: a6 :: a7 :: a8 :: .int x :: L)) (i := 9) (v := .int x) rfl (by intro q; cases q))
  exact lv_iinc C.1 C.2.1 hd T2.has hk hv hi rfl (fun ls' hl => h.2 p l e R s m args below meth c H locs cells slots ls' ad base D cA adS mc ms C T1 (T2.put1 (i := 9) (v := .int v) (jv_c1_s (i := 8) rfl hc) (by intro q; cases q) hi hl) T3)⟩
end
section
/-! ===== rows over the abstract heap ===== -/
/-- a class: its number, name, fields, their types -/
def jv_cl (ci : Nat) (C : String) (T : u_T) (N : Nat) (ty : Nat → FieldType) : Prop :=
  vwCl[ci]? = some (C, T, N) ∧ jv_nf ci = N ∧ (∀ w ∈ u_ws C T N, w ∈ lw_tg) ∧ (∀ k, k < N → parseFieldDescriptor (T k).2.2.1 = some (ty k)) ∧ (∀ a, a < N → ∀ b, b < N → a ≠ b → (T a).2.1 ≠ (T b).2.1) ∧ (∀ k, k < N → (T k).1 = C) ∧ Cond.instantiable C N ∈ lw_tg ∧ Cond.initialized C ∈ lw_tg ∧ (∀ k, k < N → defaultValue (ty k) = if jv_isr ci k = true then .null else .int 0)
/-- field k of class ci, as the pool of 'own' has it at idx -/
def jv_fl (own : String) (idx ci k : Nat) (ty : FieldType) (fin : Bool) : Prop := ∃ (C : String) (T : u_T) (N : Nat) (ty0 : Nat → FieldType), jv_cl ci C T N ty0 ∧ k < N ∧ Cond.fieldLink own idx C (T k).2.1 (T k).2.2.1 ∈ lw_tg ∧ ty0 k = ty ∧ (T k).2.2.2 = fin
theorem jv_E_obj {cA : Nat → ClassId} {ad : Nat → Nat} {G : jv_Gr} {I : jv_I} {J : jv_J} {a ci n : Nat} (h : jv_k G a = (ci + 10, n)) : jv_E cA ad G I J a = .inr (ci, jv_fs ad G I ci a) := by
  have h1 : (jv_k G a).1 = ci + 10 := by rw [h]
  unfold jv_E
  rw [h1, if_neg (by omega), if_neg (by omega), if_neg (by omega), if_neg (by omega), Nat.add_sub_cancel]
theorem jv_E_0 {cA : Nat → ClassId} {ad : Nat → Nat} {G : jv_Gr} {I : jv_I} {J : jv_J} {a n : Nat} (h : jv_k G a = (0, n)) : jv_E cA ad G I J a = .inl (cA 0, n, .inl (I a)) := by
  unfold jv_E; rw [h, if_pos rfl]
theorem jv_E_1 {cA : Nat → ClassId} {ad : Nat → Nat} {G : jv_Gr} {I : jv_I} {J : jv_J} {a n : Nat} (h : jv_k G a = (1, n)) : jv_E cA ad G I J a = .inl (cA 1, n, .inr (.inl (J a))) := by
  unfold jv_E; rw [h, if_neg (show ¬ (1 : Nat) = 0 by decide), if_pos rfl]
theorem jv_E_2 {cA : Nat → ClassId} {ad : Nat → Nat} {G : jv_Gr} {I : jv_I} {J : jv_J} {a n : Nat} (h : jv_k G a = (2, n)) : jv_E cA ad G I J a = .inl (cA 2, n, .inr (.inr (.inr (.inr (fun j => jv_o ad (jv_r G a j)))))) := by
  unfold jv_E; rw [h, if_neg (show ¬ (2 : Nat) = 0 by decide), if_neg (show ¬ (2 : Nat) = 1 by decide), if_pos rfl]
theorem jv_E_3 {cA : Nat → ClassId} {ad : Nat → Nat} {G : jv_Gr} {I : jv_I} {J : jv_J} {a n : Nat} (h : jv_k G a = (3, n)) : jv_E cA ad G I J a = .inl (cA 3, n, .inr (.inr (.inr (.inr (fun j => jv_o ad (jv_r G a j)))))) := by
  unfold jv_E; rw [h, if_neg (show ¬ (3 : Nat) = 0 by decide), if_neg (show ¬ (3 : Nat) = 1 by decide), if_neg (show ¬ (3 : Nat) = 2 by decide), if_pos rfl]
theorem jv_fs_at {ad : Nat → Nat} {G : jv_Gr} {I : jv_I} {c a k : Nat} (h : k < jv_nf c) : (jv_fs ad G I c a)[k]? = some (jv_f ad G I c a k) := by
  unfold jv_fs
  rw [List.getElem?_map, List.getElem?_range h]
  rfl
theorem jv_fs_len (ad : Nat → Nat) (G : jv_Gr) (I : jv_I) (c a : Nat) : (jv_fs ad G I c a).length = jv_nf c := by simp [jv_fs]
theorem jv_fs_set {ad : Nat → Nat} {G G2 : jv_Gr} {I I2 : jv_I} {c a k : Nat} {v : Value} (hk : k < jv_nf c) (hv : jv_f ad G2 I2 c a k = v) (ho : ∀ j, j ≠ k → jv_f ad G2 I2 c a j = jv_f ad G I c a j) : (jv_fs ad G I c a).set k v = jv_fs ad G2 I2 c a := by
  refine List.ext_getElem? fun j => ?_
  by_cases hj : j = k
  · subst hj
    rw [List.getElem?_set_self (by rw [jv_fs_len]; exact hk), jv_fs_at hk, hv]
  · rw [List.getElem?_set_ne (Ne.symm hj)]
    by_cases hl : j < jv_nf c
    · rw [jv_fs_at hl, jv_fs_at hl, ho j hj]
    · rw [List.getElem?_eq_none (by rw [jv_fs_len]; omega), List.getElem?_eq_none (by rw [jv_fs_len]; omega)]
theorem jv_mr {ad : Nat → Nat} {a : Nat} {S : List Value} (h : a ≠ 0) : (Value.ref a :: S).map (jv_v ad) = .ref (ad a) :: S.map (jv_v ad) := by rw [List.map_cons, jv_v_ref ad h]
theorem jv_cats (ad : Nat → Nat) (S : List Value) : ((S.map (jv_v ad)).map fun v => v.category).sum = (S.map fun v => v.category).sum := by
  rw [List.map_map]
  congr 1
  apply List.map_congr_left
  intro v _
  exact jv_v_cat ad v
theorem jv_up_self {α : Type} (f : Nat → Nat → α) (a k : Nat) (v : α) : jv_up f a k v a = fun j => if j = k then v else f a j := by funext j; simp [jv_up]
theorem jv_up_ne {α : Type} (f : Nat → Nat → α) {a b : Nat} (k : Nat) (v : α) (h : b ≠ a) : jv_up f a k v b = f b := by funext j; simp [jv_up, h]
theorem jv_up_at {α : Type} (f : Nat → Nat → α) (a k : Nat) (v : α) : jv_up f a k v a k = v := by simp [jv_up]
theorem jv_up_at_ne {α : Type} (f : Nat → Nat → α) (a : Nat) {k j : Nat} (v : α) (h : j ≠ k) : jv_up f a k v a j = f a j := by simp [jv_up, h]
/-- cells other than a don't see a write of an int, of a long, of a reference there -/
theorem jv_E_I {cA : Nat → ClassId} {ad : Nat → Nat} {G : jv_Gr} {I I2 : jv_I} {J J2 : jv_J} {b : Nat} (hI : I2 b = I b) (hJ : J2 b = J b) : jv_E cA ad G I2 J2 b = jv_E cA ad G I J b := by
  have hf : jv_fs ad G I2 ((jv_k G b).1 - 10) b = jv_fs ad G I ((jv_k G b).1 - 10) b := by
    unfold jv_fs
    apply List.map_congr_left
    intro k _
    unfold jv_f
    rw [hI]
  unfold jv_E
  rw [hf, hI, hJ]
theorem jv_E_r {cA : Nat → ClassId} {ad : Nat → Nat} {G : jv_Gr} {I : jv_I} {J : jv_J} {a k r b : Nat} (h : b ≠ a) : jv_E cA ad (jv_sr G a k r) I J b = jv_E cA ad G I J b := by
  have hr : ∀ j, jv_r (jv_sr G a k r) b j = jv_r G b j := fun j => by
    show jv_up G.2.2.2 a k r b j = G.2.2.2 b j
    rw [jv_up_ne _ _ _ h]
  have hf : jv_fs ad (jv_sr G a k r) I ((jv_k G b).1 - 10) b = jv_fs ad G I ((jv_k G b).1 - 10) b := by
    unfold jv_fs
    apply List.map_congr_left
    intro k _
    unfold jv_f
    rw [hr]
  unfold jv_E
  rw [jv_k_up, hf]
  simp only [hr]
theorem jv_hpI {s : State} {H H1 : Heap} {locs locs1 : List Loc} {ad : Nat → Nat} {base : Nat} {D : va_G} {cA : Nat → ClassId} {adS : Nat → Nat} {G : jv_Gr} {I I2 : jv_I} {J J2 : jv_J} (T : jv_Hp s H locs ad base D cA adS G I J) {a : Nat} {e : va_E} (ha : a ≠ 0 ∧ a ≤ jv_n G) (he : jv_E cA ad G I2 J2 a = e) (hI : ∀ b, b ≠ a → I2 b = I b) (hJ : ∀ b, b ≠ a → J2 b = J b)
    (h1 : va_P D vwCl ((jv_W cA ad G I J).set (a - 1) (ad a, e)) H1) (h2 : va_D (fun q => base ≤ q) ((jv_W cA ad G I J).set (a - 1) (ad a, e))) (h3 : va_S (fun q => base ≤ q) s.heap H1 locs1) : jv_Hp s H1 locs1 ad base D cA adS G I2 J2 := by
  rw [← he, jv_W_set (G2 := G) (I2 := I2) (J2 := J2) ha rfl (fun b hb => jv_E_I (hI b hb) (hJ b hb))] at h1 h2
  exact ⟨T.1, T.2.1, h1, h2, h3⟩
section JVH
variable {d pc : Nat} {M : jv_M} {L S : List Value} {G G' : jv_Gr} {I I' : jv_I} {J J' : jv_J} {r : Option Value}
theorem jv_getI {idx ci k a n : Nat} {ty : FieldType} {fin : Bool} (hd : decode M.2.1 pc = .ok (.getfield idx, 3)) (hf : jv_fl M.1.cls idx ci k ty fin) (hr : jv_isr ci k = false) (ha : jv_k G a = (ci + 10, n)) {v : Int32} (hv : I a k = v) (h : jv_V d M (pc + 3) L (.int v :: S) G I J r G' I' J') : jv_V d M pc L (.ref a :: S) G I J r G' I' J' := by
  subst hv
  refine ⟨h.1, fun p l e R s m args below meth c H locs cells slots ls ad base D cA adS mc ms C T1 T2 T3 => ?_⟩
  have hk := h.2 p l e R s m args below meth c H locs cells slots ls ad base D cA adS mc ms C T1 T2 T3
  obtain ⟨Cn, T, N, ty0, ⟨c1, c2, c3, c4, c5, c6, -⟩, hkN, hlk, -, -⟩ := hf
  obtain ⟨hx, hb, -, -, -, -, hown, hts, -, hK, -⟩ := C
  have hci : ci < 6 := (List.getElem?_eq_some_iff.mp c1).1
  obtain ⟨hn0, hle⟩ := jv_k_in ha (by omega)
  rw [jv_mr hn0]
  have he := jv_W_at (cA := cA) (ad := ad) (I := I) (J := J) ⟨hn0, hle⟩
  rw [jv_E_obj ha] at he
  refine va_get (own := M.1.cls) (ref := Cn) (C := Cn) (T := T) (N := N) (ci := ci) hx hb hts c3 hown hK T1.2.2.1 (a - 1) he c1 k hkN (hts _ hlk) (fun x h => by rw [c6 k hkN] at h; exact h) (v := .int (I a k)) ?_ hd hk
  rw [jv_fs_at (by rw [c2]; exact hkN)]
  unfold jv_f
  rw [hr]; rfl
theorem jv_getR {idx ci k a n : Nat} {ty : FieldType} {fin : Bool} (hd : decode M.2.1 pc = .ok (.getfield idx, 3)) (hf : jv_fl M.1.cls idx ci k ty fin) (hr : jv_isr ci k = true) (ha : jv_k G a = (ci + 10, n)) {b : Nat} (hv : jv_r G a k = b) (h : jv_V d M (pc + 3) L (.ref b :: S) G I J r G' I' J') : jv_V d M pc L (.ref a :: S) G I J r G' I' J' := by
  subst hv
  refine ⟨h.1, fun p l e R s m args below meth c H locs cells slots ls ad base D cA adS mc ms C T1 T2 T3 => ?_⟩
  have hk := h.2 p l e R s m args below meth c H locs cells slots ls ad base D cA adS mc ms C T1 T2 T3
  obtain ⟨Cn, T, N, ty0, ⟨c1, c2, c3, c4, c5, c6, -⟩, hkN, hlk, -, -⟩ := hf
  obtain ⟨hx, hb, -, -, -, -, hown, hts, -, hK, -⟩ := C
  have hci : ci < 6 := (List.getElem?_eq_some_iff.mp c1).1
  obtain ⟨hn0, hle⟩ := jv_k_in ha (by omega)
  rw [jv_mr hn0]
  have he := jv_W_at (cA := cA) (ad := ad) (I := I) (J := J) ⟨hn0, hle⟩
  rw [jv_E_obj ha] at he
  refine va_get (own := M.1.cls) (ref := Cn) (C := Cn) (T := T) (N := N) (ci := ci) hx hb hts c3 hown hK T1.2.2.1 (a - 1) he c1 k hkN (hts _ hlk) (fun x h => by rw [c6 k hkN] at h; exact h) (v := jv_v ad (.ref (jv_r G a k))) ?_ hd hk
  rw [jv_fs_at (by rw [c2]; exact hkN)]
  unfold jv_f
  rw [hr]; rfl
theorem jv_putI {idx ci k a n : Nat} {ty : FieldType} {x : Int32} (hd : decode M.2.1 pc = .ok (.putfield idx, 3)) (hf : jv_fl M.1.cls idx ci k ty false) (hr : jv_isr ci k = false) (ha : jv_k G a = (ci + 10, n)) (hn : narrow ty (.int x) = .int x) (hfit : fits ty (.int x) = true) (h : jv_V d M (pc + 3) L S G (jv_up I a k x) J r G' I' J') : jv_V d M pc L (.int x :: .ref a :: S) G I J r G' I' J' := by
  refine ⟨h.1, fun p l e R s m args below meth c H locs cells slots ls ad base D cA adS mc ms C T1 T2 T3 => ?_⟩
  have hk := fun H locs T => h.2 p l e R s m args below meth c H locs cells slots ls ad base D cA adS mc ms C T T2 T3
  obtain ⟨Cn, T, N, ty0, ⟨c1, c2, c3, c4, c5, c6, -⟩, hkN, hlk, hty, hfn⟩ := hf
  obtain ⟨hx, hb, -, -, -, -, hown, hts, -, hK, -⟩ := C
  have hci : ci < 6 := (List.getElem?_eq_some_iff.mp c1).1
  obtain ⟨hn0, hle⟩ := jv_k_in ha (by omega)
  rw [List.map_cons, jv_mr hn0]
  have he := jv_W_at (cA := cA) (ad := ad) (I := I) (J := J) ⟨hn0, hle⟩
  rw [jv_E_obj ha] at he
  refine va_put (own := M.1.cls) (ref := Cn) (C := Cn) (T := T) (N := N) (ci := ci) (ty := ty) (v := .int x) hx hb hts c3 ty0 c4 c5 hown hK T1.2.2.1 T1.2.2.2.1 T1.2.2.2.2 (a - 1) he c1 k hkN (hts _ hlk) (fun x h => by rw [c6 k hkN] at h; exact h) hfn (by rw [c4 k hkN, hty]) hn hfit (by rw [jv_fs_len, c2]; exact hkN) hd (fun H1 locs1 h1 h2 h3 => hk H1 locs1 (jv_hpI T1 ⟨hn0, hle⟩ ?_ (fun b hb => jv_up_ne _ _ _ hb) (fun _ _ => rfl) h1 h2 h3))
  rw [jv_E_obj ha, jv_fs_set (by rw [c2]; exact hkN) (G2 := G) (I2 := jv_up I a k x) ?_ ?_]
  · unfold jv_f
    rw [hr, jv_up_at]; rfl
  · intro j hj
    unfold jv_f
    rw [jv_up_at_ne _ _ _ hj]
theorem jv_hpR {s : State} {H H1 : Heap} {locs locs1 : List Loc} {ad : Nat → Nat} {base : Nat} {D : va_G} {cA : Nat → ClassId} {adS : Nat → Nat} {a k b : Nat} {e : va_E} (T : jv_Hp s H locs ad base D cA adS G I J) (ha : a ≠ 0 ∧ a ≤ jv_n G) (hb : b ≤ jv_n G) (he : jv_E cA ad (jv_sr G a k b) I J a = e)
    (h1 : va_P D vwCl ((jv_W cA ad G I J).set (a - 1) (ad a, e)) H1) (h2 : va_D (fun q => base ≤ q) ((jv_W cA ad G I J).set (a - 1) (ad a, e))) (h3 : va_S (fun q => base ≤ q) s.heap H1 locs1) : jv_Hp s H1 locs1 ad base D cA adS (jv_sr G a k b) I J := by
  rw [← he, jv_W_set (G2 := jv_sr G a k b) (I2 := I) (J2 := J) ha rfl (fun b hb => jv_E_r hb)] at h1 h2
  exact ⟨T.1, jv_gw_sr T.2.1 hb, h1, h2, h3⟩
theorem jv_putR0 {idx ci k a b n : Nat} {ty : FieldType} {fin : Bool} (hfin : fin = true → M.1.name = "<init>" ∧ ∀ C T N ty0, jv_cl ci C T N ty0 → M.1.cls = C) (hd : decode M.2.1 pc = .ok (.putfield idx, 3)) (hf : jv_fl M.1.cls idx ci k ty fin) (hr : jv_isr ci k = true) (ha : jv_k G a = (ci + 10, n)) (hb0 : b ≤ jv_n G) (hn : ∀ v, (v = .null ∨ ∃ q, v = .ref q) → narrow ty v = v ∧ fits ty v = true) (h : jv_V d M (pc + 3) L S (jv_sr G a k b) I J r G' I' J') : jv_V d M pc L (.ref b :: .ref a :: S) G I J r G' I' J' := by
  refine ⟨h.1, fun p l e R s m args below meth c H locs cells slots ls ad base D cA adS mc ms C T1 T2 T3 => ?_⟩
  have hk := fun H locs T => h.2 p l e R s m args below meth c H locs cells slots ls ad base D cA adS mc ms C T T2 T3
  obtain ⟨Cn, T, N, ty0, ⟨c1, c2, c3, c4, c5, c6, c7⟩, hkN, hlk, hty, hfn⟩ := hf
  obtain ⟨hx, hb, -, -, -, hnm, hown, hts, -, hK, -⟩ := C
  have hci : ci < 6 := (List.getElem?_eq_some_iff.mp c1).1
  obtain ⟨hn0, hle⟩ := jv_k_in ha (by omega)
  have hvv : jv_v ad (.ref b) = .null ∨ ∃ q, jv_v ad (.ref b) = .ref q := by
    by_cases hz : b = 0
    · subst hz; exact Or.inl rfl
    · exact Or.inr ⟨_, jv_v_ref ad hz⟩
  obtain ⟨hn1, hn2⟩ := hn _ hvv
  rw [List.map_cons, jv_mr hn0]
  have he := jv_W_at (cA := cA) (ad := ad) (I := I) (J := J) ⟨hn0, hle⟩
  rw [jv_E_obj ha] at he
  have hEE : jv_E cA ad (jv_sr G a k b) I J a = .inr (ci, (jv_fs ad G I ci a).set k (jv_v ad (.ref b))) := by
    rw [jv_E_obj (G := jv_sr G a k b) ha, jv_fs_set (by rw [c2]; exact hkN) (G2 := jv_sr G a k b) (I2 := I) ?_ ?_]
    · unfold jv_f
      rw [hr]
      show va_rf (jv_o ad (jv_up G.2.2.2 a k b a k)) = _
      rw [jv_up_at]; rfl
    · intro j hj
      unfold jv_f
      show (if jv_isr ci j = true then va_rf (jv_o ad (jv_up G.2.2.2 a k b a j)) else Value.int (I a j)) = _
      rw [jv_up_at_ne _ _ _ hj]; rfl
  cases fin with
  | false => exact va_put (own := M.1.cls) (ref := Cn) (C := Cn) (T := T) (N := N) (ci := ci) (ty := ty) (v := jv_v ad (.ref b)) hx hb hts c3 ty0 c4 c5 hown hK T1.2.2.1 T1.2.2.2.1 T1.2.2.2.2 (a - 1) he c1 k hkN (hts _ hlk) (fun x h => by rw [c6 k hkN] at h; exact h) hfn (by rw [c4 k hkN, hty]) hn1 hn2 (by rw [jv_fs_len, c2]; exact hkN) hd (fun H1 locs1 h1 h2 h3 => hk H1 locs1 (jv_hpR T1 ⟨hn0, hle⟩ hb0 hEE h1 h2 h3))
  | true => exact va_putF (own := M.1.cls) (ref := Cn) (C := Cn) (T := T) (N := N) (ci := ci) (ty := ty) (v := jv_v ad (.ref b)) hx hb hts c3 ty0 c4 c5 hown hK T1.2.2.1 T1.2.2.2.1 T1.2.2.2.2 (a - 1) he c1 k hkN (hts _ hlk) (fun x h => by rw [c6 k hkN] at h; exact h) hfn (by rw [hnm]; exact (hfin rfl).1) (by rw [c6 k hkN]; exact ((hfin rfl).2 Cn T N ty0 ⟨c1, c2, c3, c4, c5, c6, c7⟩).symm) (by rw [c4 k hkN, hty]) hn1 hn2 (by rw [jv_fs_len, c2]; exact hkN) hd (fun H1 locs1 h1 h2 h3 => hk H1 locs1 (jv_hpR T1 ⟨hn0, hle⟩ hb0 hEE h1 h2 h3))
end JVH
end
section
/-! ===== arrays ===== -/
theorem jv_W.mono {p : Program} {l : Launch} {e : Env} {R : Room} {s : State} {m : MethodId} {args : Array Value} {below : List Frame} {meth : Method} {c : Code} {H : Heap} {locs : List Loc} {cells slots : Nat} {Q Q2 : State → Prop} {g : JFrame} (h : ∀ t, Q t → Q2 t) (k : W p l e R s m args below meth c H locs cells slots Q g) : W p l e R s m args below meth c H locs cells slots Q2 g := fun T hT X => by
  obtain ⟨t, a, b⟩ := k T hT X
  exact ⟨t, a, h t b⟩
theorem jv_MQ.mono {below : List Frame} {Q Q2 : Array Value → State → Outcome → State → Prop} {a : Array Value} {s : State} {mc ms : Nat} {free : Addr → Prop} (h : ∀ a s o t, Q a s o t → Q2 a s o t) (t : State) (k : MQ below Q a s mc ms free t) : MQ below Q2 a s mc ms free t := by
  obtain ⟨o, h1, h2, h3, h4⟩ := k
  exact ⟨o, h1, h2, h _ _ _ _ h3, h4⟩
/-- references that the names of cells yet to be made can't meet -/
def jv_ow (n : Nat) (vs : List Value) : Prop := ∀ v ∈ vs, ∀ r : Nat, v = .ref r → r ≤ n ∨ 1000000 ≤ r
theorem jv_ow_nil {n : Nat} : jv_ow n [] := fun _ h => by cases h
theorem jv_ow_ref {n r : Nat} {vs : List Value} (h : r ≤ n ∨ 1000000 ≤ r) (hs : jv_ow n vs) : jv_ow n (.ref r :: vs) := fun v hv q e => by
  rcases List.mem_cons.mp hv with h1 | h1
  · rw [h1] at e; cases e; exact h
  · exact hs v h1 q e
theorem jv_ow_int {n : Nat} {x : Int32} {vs : List Value} (hs : jv_ow n vs) : jv_ow n (.int x :: vs) := fun v hv q e => by
  rcases List.mem_cons.mp hv with h1 | h1
  · rw [h1] at e; cases e
  · exact hs v h1 q e
theorem jv_ow_long {n : Nat} {x : Int64} {vs : List Value} (hs : jv_ow n vs) : jv_ow n (.long x :: vs) := fun v hv q e => by
  rcases List.mem_cons.mp hv with h1 | h1
  · rw [h1] at e; cases e
  · exact hs v h1 q e
theorem jv_ow_null {n : Nat} {vs : List Value} (hs : jv_ow n vs) : jv_ow n (.null :: vs) := fun v hv q e => by
  rcases List.mem_cons.mp hv with h1 | h1
  · rw [h1] at e; cases e
  · exact hs v h1 q e
theorem jv_v_ad {ad ad2 : Nat → Nat} {v : Value} (h : ∀ r : Nat, v = .ref r → ad2 r = ad r) : jv_v ad2 v = jv_v ad v := by
  cases v with
  | ref r => exact congrArg va_rf (jv_o_eq (h r rfl))
  | _ => rfl
theorem jv_L.ad {ad ad2 : Nat → Nat} {ls : Array Slot} {nL : Nat} {L : List Value} (h : jv_L ad ls nL L) (hw : ∀ v ∈ L, ∀ r : Nat, v = .ref r → ad2 r = ad r) : jv_L ad2 ls nL L := ⟨h.1, h.2.1, h.2.2.1, fun i v hi hv => by rw [jv_v_ad (hw v (List.mem_of_getElem? hi))]; exact h.2.2.2 i v hi hv⟩
theorem jv_S_ad {ad ad2 : Nat → Nat} {S : List Value} (hw : ∀ v ∈ S, ∀ r : Nat, v = .ref r → ad2 r = ad r) : S.map (jv_v ad2) = S.map (jv_v ad) := List.map_congr_left fun v hv => jv_v_ad (hw v hv)
def jv_ad (ad : Nat → Nat) (n q : Nat) : Nat → Nat := fun k => if k = n then q else ad k
theorem jv_ad_ow {ad : Nat → Nat} {n q : Nat} {vs : List Value} (h : jv_ow n vs) (hn : n + 1 < 1000000) : ∀ v ∈ vs, ∀ r : Nat, v = .ref r → jv_ad ad (n + 1) q r = ad r := fun v hv r e => by
  have h0 := h v hv r e
  show (if r = n + 1 then q else ad r) = ad r
  exact if_neg (by omega)
section JVA
variable {d pc : Nat} {M : jv_M} {L S : List Value} {G G' : jv_Gr} {I I' : jv_I} {J J' : jv_J} {r : Option Value}
theorem jv_iald {a n : Nat} {i v : Int32} (hd : decode M.2.1 pc = .ok (.iaload, 1)) (ha : jv_k G a = (0, n)) (hin : vp_in i n) (hv : I a i.toNatClampNeg = v) (h : jv_V d M (pc + 1) L (.int v :: S) G I J r G' I' J') : jv_V d M pc L (.int i :: .ref a :: S) G I J r G' I' J' := by
  subst hv
  refine ⟨h.1, fun p l e R s m args below meth c H locs cells slots ls ad base D cA adS mc ms C T1 T2 T3 => ?_⟩
  have hk := h.2 p l e R s m args below meth c H locs cells slots ls ad base D cA adS mc ms C T1 T2 T3
  have hn0 := jv_k_in ha (by decide)
  rw [List.map_cons, jv_mr hn0.1]
  have he := jv_W_at (cA := cA) (ad := ad) (I := I) (J := J) hn0
  rw [jv_E_0 ha] at he
  exact va_iald C.1 C.2.1 C.2.2.2.2.2.2.2.2.2.1 T1.2.2.1 (a - 1) 0 he rfl hin hd hk
theorem jv_lald {a n : Nat} {i : Int32} {v : Int64} (hd : decode M.2.1 pc = .ok (.laload, 1)) (ha : jv_k G a = (1, n)) (hin : vp_in i n) (hv : J a i.toNatClampNeg = v) (h : jv_V d M (pc + 1) L (.long v :: S) G I J r G' I' J') : jv_V d M pc L (.int i :: .ref a :: S) G I J r G' I' J' := by
  subst hv
  refine ⟨h.1, fun p l e R s m args below meth c H locs cells slots ls ad base D cA adS mc ms C T1 T2 T3 => ?_⟩
  have hk := h.2 p l e R s m args below meth c H locs cells slots ls ad base D cA adS mc ms C T1 T2 T3
  have hn0 := jv_k_in ha (by decide)
  rw [List.map_cons, jv_mr hn0.1]
  have he := jv_W_at (cA := cA) (ad := ad) (I := I) (J := J) hn0
  rw [jv_E_1 ha] at he
  exact va_lald C.1 C.2.1 C.2.2.2.2.2.2.2.2.2.1 T1.2.2.1 (a - 1) 1 he rfl hin hd hk
theorem jv_aald2 {a n b : Nat} {i : Int32} (hd : decode M.2.1 pc = .ok (.aaload, 1)) (ha : jv_k G a = (2, n)) (hin : vp_in i n) (hv : jv_r G a i.toNatClampNeg = b) (h : jv_V d M (pc + 1) L (.ref b :: S) G I J r G' I' J') : jv_V d M pc L (.int i :: .ref a :: S) G I J r G' I' J' := by
  subst hv
  refine ⟨h.1, fun p l e R s m args below meth c H locs cells slots ls ad base D cA adS mc ms C T1 T2 T3 => ?_⟩
  have hk := h.2 p l e R s m args below meth c H locs cells slots ls ad base D cA adS mc ms C T1 T2 T3
  have hn0 := jv_k_in ha (by decide)
  rw [List.map_cons, jv_mr hn0.1]
  have he := jv_W_at (cA := cA) (ad := ad) (I := I) (J := J) hn0
  rw [jv_E_2 ha] at he
  exact va_aldq C.1 C.2.1 C.2.2.2.2.2.2.2.2.2.1 T1.2.2.1 (a - 1) 2 he rfl hin hd hk
theorem jv_aald3 {a n b : Nat} {i : Int32} (hd : decode M.2.1 pc = .ok (.aaload, 1)) (ha : jv_k G a = (3, n)) (hin : vp_in i n) (hv : jv_r G a i.toNatClampNeg = b) (h : jv_V d M (pc + 1) L (.ref b :: S) G I J r G' I' J') : jv_V d M pc L (.int i :: .ref a :: S) G I J r G' I' J' := by
  subst hv
  refine ⟨h.1, fun p l e R s m args below meth c H locs cells slots ls ad base D cA adS mc ms C T1 T2 T3 => ?_⟩
  have hk := h.2 p l e R s m args below meth c H locs cells slots ls ad base D cA adS mc ms C T1 T2 T3
  have hn0 := jv_k_in ha (by decide)
  rw [List.map_cons, jv_mr hn0.1]
  have he := jv_W_at (cA := cA) (ad := ad) (I := I) (J := J) hn0
  rw [jv_E_3 ha] at he
  have hlt : i.toNatClampNeg < n := Nat.not_le.mp fun q => hin (Or.inr q)
  have hK := C.2.2.2.2.2.2.2.2.2.1
  exact W.aald (v := va_rf (jv_o ad (jv_r G a i.toNatClampNeg))) (ty := .array .long) C.1 C.2.1 (T1.2.2.1 (a - 1) _ he) ((hK.2 3 (cA 3, .array .long) rfl).1 n (fun j => va_rf (jv_o ad (jv_r G a j)))) rfl (fun q => by cases q) (by show ¬ (i < 0 ∨ (arrV _ _ _).slots.size ≤ _); rw [arrV_size]; exact hin) (by show (arrV _ _ _).slots[_]? = _; rw [arrV_read _ _ hlt]) rfl rfl hd hk
theorem jv_iast {a n : Nat} {i x : Int32} (hd : decode M.2.1 pc = .ok (.iastore, 1)) (ha : jv_k G a = (0, n)) (hin : vp_in i n) {k : Nat} (hk0 : i.toNatClampNeg = k) (h : jv_V d M (pc + 1) L S G (jv_up I a k x) J r G' I' J') : jv_V d M pc L (.int x :: .int i :: .ref a :: S) G I J r G' I' J' := by
  subst hk0
  refine ⟨h.1, fun p l e R s m args below meth c H locs cells slots ls ad base D cA adS mc ms C T1 T2 T3 => ?_⟩
  have hk := fun H locs T => h.2 p l e R s m args below meth c H locs cells slots ls ad base D cA adS mc ms C T T2 T3
  have hn0 := jv_k_in ha (by decide)
  rw [List.map_cons, List.map_cons, jv_mr hn0.1]
  have he := jv_W_at (cA := cA) (ad := ad) (I := I) (J := J) hn0
  rw [jv_E_0 ha] at he
  exact va_iast C.1 C.2.1 C.2.2.2.2.2.2.2.2.2.1 T1.2.2.1 T1.2.2.2.1 T1.2.2.2.2 (a - 1) 0 he rfl hin hd (fun H1 locs1 h1 h2 h3 => hk H1 locs1 (jv_hpI T1 hn0 (by rw [jv_E_0 ha, jv_up_self]; rfl) (fun b hb => jv_up_ne _ _ _ hb) (fun _ _ => rfl) h1 h2 h3))
theorem jv_last {a n : Nat} {i : Int32} {x : Int64} (hd : decode M.2.1 pc = .ok (.lastore, 1)) (ha : jv_k G a = (1, n)) (hin : vp_in i n) {k : Nat} (hk0 : i.toNatClampNeg = k) (h : jv_V d M (pc + 1) L S G I (jv_up J a k x) r G' I' J') : jv_V d M pc L (.long x :: .int i :: .ref a :: S) G I J r G' I' J' := by
  subst hk0
  refine ⟨h.1, fun p l e R s m args below meth c H locs cells slots ls ad base D cA adS mc ms C T1 T2 T3 => ?_⟩
  have hk := fun H locs T => h.2 p l e R s m args below meth c H locs cells slots ls ad base D cA adS mc ms C T T2 T3
  have hn0 := jv_k_in ha (by decide)
  rw [List.map_cons, List.map_cons, jv_mr hn0.1]
  have he := jv_W_at (cA := cA) (ad := ad) (I := I) (J := J) hn0
  rw [jv_E_1 ha] at he
  exact va_last C.1 C.2.1 C.2.2.2.2.2.2.2.2.2.1 T1.2.2.1 T1.2.2.2.1 T1.2.2.2.2 (a - 1) 1 he rfl hin hd (fun H1 locs1 h1 h2 h3 => hk H1 locs1 (jv_hpI T1 hn0 (by rw [jv_E_1 ha, jv_up_self]; rfl) (fun _ _ => rfl) (fun b hb => jv_up_ne _ _ _ hb) h1 h2 h3))
theorem jv_aast {a n b nb : Nat} {i : Int32} (hd : decode M.2.1 pc = .ok (.aastore, 1)) (ha : jv_k G a = (2, n)) (hb : jv_k G b = (11, nb)) (hin : vp_in i n) {k : Nat} (hk0 : i.toNatClampNeg = k) (h : jv_V d M (pc + 1) L S (jv_sr G a k b) I J r G' I' J') : jv_V d M pc L (.ref b :: .int i :: .ref a :: S) G I J r G' I' J' := by
  subst hk0
  refine ⟨h.1, fun p l e R s m args below meth c H locs cells slots ls ad base D cA adS mc ms C T1 T2 T3 => ?_⟩
  have hk := fun H locs T => h.2 p l e R s m args below meth c H locs cells slots ls ad base D cA adS mc ms C T T2 T3
  have hn0 := jv_k_in ha (by decide)
  have hn1 := jv_k_in hb (by decide)
  rw [jv_mr hn1.1, List.map_cons, jv_mr hn0.1]
  have he := jv_W_at (cA := cA) (ad := ad) (I := I) (J := J) hn0
  rw [jv_E_2 ha] at he
  have he1 := jv_W_at (cA := cA) (ad := ad) (I := I) (J := J) hn1
  rw [jv_E_obj (ci := 1) hb] at he1
  refine va_astq C.1 C.2.1 C.2.2.2.2.2.2.2.2.2.1 T1.2.2.1 T1.2.2.2.1 T1.2.2.2.2 (a - 1) 2 (b - 1) 1 (r := (RX1, TX1, 3)) he rfl he1 rfl hin hd (fun H1 locs1 h1 h2 h3 => hk H1 locs1 (jv_hpR T1 hn0 hn1.2 ?_ h1 h2 h3))
  rw [jv_E_2 (G := jv_sr G a i.toNatClampNeg b) ha]
  congr 7
  funext j
  show jv_o ad (jv_up G.2.2.2 a i.toNatClampNeg b a j) = va_up _ _ _ j
  unfold va_up jv_up
  by_cases hj : j = i.toNatClampNeg
  · rw [if_pos rfl, if_pos hj, if_pos hj]
    unfold jv_o
    rw [if_neg hn1.1]
  · rw [if_pos rfl, if_neg hj, if_neg hj]; rfl
theorem jv_alen {a n : Nat} (hd : decode M.2.1 pc = .ok (.arraylength, 1)) (ha : jv_k G a = (0, n)) (h : jv_V d M (pc + 1) L (.int (nI n) :: S) G I J r G' I' J') : jv_V d M pc L (.ref a :: S) G I J r G' I' J' := by
  refine ⟨h.1, fun p l e R s m args below meth c H locs cells slots ls ad base D cA adS mc ms C T1 T2 T3 => ?_⟩
  have hk := h.2 p l e R s m args below meth c H locs cells slots ls ad base D cA adS mc ms C T1 T2 T3
  have hn0 := jv_k_in ha (by decide)
  rw [jv_mr hn0.1]
  have he := jv_W_at (cA := cA) (ad := ad) (I := I) (J := J) hn0
  rw [jv_E_0 ha] at he
  exact va_alen C.1 C.2.1 C.2.2.2.2.2.2.2.2.2.1 T1.2.2.1 (a - 1) 0 he rfl rfl hd hk
theorem jv_ifnonnull {b : Nat} {off : Int} {tgt : Nat} (hd : decode M.2.1 pc = .ok (.ifnonnull off, 3)) (ht : (pc : Int) + off = (tgt : Int)) (kt : b ≠ 0 → jv_V d M tgt L S G I J r G' I' J') (kf : b = 0 → jv_V d M (pc + 3) L S G I J r G' I' J') : jv_V d M pc L (.ref b :: S) G I J r G' I' J' := by
  by_cases hb : b = 0
  · have h := kf hb
    refine ⟨h.1, fun p l e R s m args below meth c H locs cells slots ls ad base D cA adS mc ms C T1 T2 T3 => ?_⟩
    subst hb
    exact lv_ifnonnullN C.1 C.2.1 hd (h.2 p l e R s m args below meth c H locs cells slots ls ad base D cA adS mc ms C T1 T2 T3)
  · have h := kt hb
    refine ⟨h.1, fun p l e R s m args below meth c H locs cells slots ls ad base D cA adS mc ms C T1 T2 T3 => ?_⟩
    rw [jv_mr hb]
    exact lv_ifnonnull C.1 C.2.1 hd ht (h.2 p l e R s m args below meth c H locs cells slots ls ad base D cA adS mc ms C T1 T2 T3)
/-- System.arraycopy over ints -/
theorem jv_copyI {idx a0 a n0 n1 : Nat} {sp dp n : Int32} {sp' dp' n' : Nat} (hd : decode M.2.1 pc = .ok (.invokestatic idx, 3)) (hl : Cond.methodLink M.1.cls idx arraycopyName ∈ lw_tg) (hnat : Cond.native arraycopyName ∈ lw_tg) (hstat : Cond.static arraycopyName ∈ lw_tg) (hini : Cond.initialized "java/lang/System" ∈ lw_tg) (ha0 : jv_k G a0 = (0, n0)) (ha : jv_k G a = (0, n1)) (e1 : sp = nI sp') (e2 : dp = nI dp') (e3 : n = nI n') (h4 : sp' + n' ≤ n0) (h5 : dp' + n' ≤ n1) (hb0 : n0 < 2 ^ 31) (hb1 : n1 < 2 ^ 31) (hS8 : (S.map fun v => v.category).sum ≤ 8) (hd1 : 1 ≤ d) (h : jv_V d M (pc + 3) L S G (jv_pa I a (va_cpy (I a0) (I a) sp' dp' n')) J r G' I' J') : jv_V d M pc L (.int n :: .int dp :: .ref a :: .int sp :: .ref a0 :: S) G I J r G' I' J' := by
  subst e1; subst e2; subst e3
  refine ⟨h.1, fun p l e R s m args below meth c H locs cells slots ls ad base D cA adS mc ms C T1 T2 T3 => ?_⟩
  have hk := fun H locs T => h.2 p l e R s m args below meth c H locs cells slots ls ad base D cA adS mc ms C T T2 T3
  have g0 := jv_k_in ha0 (by decide)
  have g1 := jv_k_in ha (by decide)
  rw [List.map_cons, List.map_cons, jv_mr g1.1, List.map_cons, jv_mr g0.1]
  have he0 := jv_W_at (cA := cA) (ad := ad) (I := I) (J := J) g0
  rw [jv_E_0 ha0] at he0
  have he1 := jv_W_at (cA := cA) (ad := ad) (I := I) (J := J) g1
  rw [jv_E_0 ha] at he1
  have hts := C.2.2.2.2.2.2.2.1
  have c1 : (nI sp').toNatClampNeg = sp' := nI_clamp (by omega)
  have c2 : (nI dp').toNatClampNeg = dp' := nI_clamp (by omega)
  have c3 : (nI n').toNatClampNeg = n' := nI_clamp (by omega)
  refine va_copyi C.1 C.2.1 (by rw [C.2.2.1]; exact T2.2.1.symm) (own := M.1.cls) C.2.2.2.2.2.2.1 (hts _ hl) (hts _ hnat) (hts _ hstat) (hts _ hini) C.2.2.2.2.2.2.2.2.2.1 T1.2.2.1 T1.2.2.2.1 T1.2.2.2.2 (a0 - 1) (a - 1) 0 0 he0 he1 rfl rfl rfl (nI_pos (by omega)) (nI_pos (by omega)) (nI_pos (by omega)) (by rw [c1, c3]; exact h4) (by rw [c2, c3]; exact h5) (fun _ _ => rfl) (by have := T3.1; omega) ?_ hd (fun H1 locs1 h1 h2 h3 => hk H1 locs1 (jv_hpI T1 g1 ?_ (fun b hb => by simp [jv_pa, hb]) (fun _ _ => rfl) h1 h2 h3))
  · rw [jv_cats]
    have h40 := T3.2.1
    have : nativeFrameWords "java/lang/System" "arraycopy" 5 ≤ 12 := by decide
    omega
  · rw [jv_E_0 ha, c1, c2, c3]
    simp [jv_pa]
theorem jv_copyJ {idx a0 a n0 n1 : Nat} {sp dp n : Int32} {sp' dp' n' : Nat} (hd : decode M.2.1 pc = .ok (.invokestatic idx, 3)) (hl : Cond.methodLink M.1.cls idx arraycopyName ∈ lw_tg) (hnat : Cond.native arraycopyName ∈ lw_tg) (hstat : Cond.static arraycopyName ∈ lw_tg) (hini : Cond.initialized "java/lang/System" ∈ lw_tg) (ha0 : jv_k G a0 = (1, n0)) (ha : jv_k G a = (1, n1)) (e1 : sp = nI sp') (e2 : dp = nI dp') (e3 : n = nI n') (h4 : sp' + n' ≤ n0) (h5 : dp' + n' ≤ n1) (hb0 : n0 < 2 ^ 31) (hb1 : n1 < 2 ^ 31) (hS8 : (S.map fun v => v.category).sum ≤ 8) (hd1 : 1 ≤ d) (h : jv_V d M (pc + 3) L S G I (jv_pa J a (va_cpy (J a0) (J a) sp' dp' n')) r G' I' J') : jv_V d M pc L (.int n :: .int dp :: .ref a :: .int sp :: .ref a0 :: S) G I J r G' I' J' := by
  subst e1; subst e2; subst e3
  refine ⟨h.1, fun p l e R s m args below meth c H locs cells slots ls ad base D cA adS mc ms C T1 T2 T3 => ?_⟩
  have hk := fun H locs T => h.2 p l e R s m args below meth c H locs cells slots ls ad base D cA adS mc ms C T T2 T3
  have g0 := jv_k_in ha0 (by decide)
  have g1 := jv_k_in ha (by decide)
  rw [List.map_cons, List.map_cons, jv_mr g1.1, List.map_cons, jv_mr g0.1]
  have he0 := jv_W_at (cA := cA) (ad := ad) (I := I) (J := J) g0
  rw [jv_E_1 ha0] at he0
  have he1 := jv_W_at (cA := cA) (ad := ad) (I := I) (J := J) g1
  rw [jv_E_1 ha] at he1
  have hts := C.2.2.2.2.2.2.2.1
  have c1 : (nI sp').toNatClampNeg = sp' := nI_clamp (by omega)
  have c2 : (nI dp').toNatClampNeg = dp' := nI_clamp (by omega)
  have c3 : (nI n').toNatClampNeg = n' := nI_clamp (by omega)
  refine va_copyl C.1 C.2.1 (by rw [C.2.2.1]; exact T2.2.1.symm) (own := M.1.cls) C.2.2.2.2.2.2.1 (hts _ hl) (hts _ hnat) (hts _ hstat) (hts _ hini) C.2.2.2.2.2.2.2.2.2.1 T1.2.2.1 T1.2.2.2.1 T1.2.2.2.2 (a0 - 1) (a - 1) 1 1 he0 he1 rfl rfl rfl (nI_pos (by omega)) (nI_pos (by omega)) (nI_pos (by omega)) (by rw [c1, c3]; exact h4) (by rw [c2, c3]; exact h5) (fun _ _ => rfl) (by have := T3.1; omega) ?_ hd (fun H1 locs1 h1 h2 h3 => hk H1 locs1 (jv_hpI T1 g1 ?_ (fun _ _ => rfl) (fun b hb => by simp [jv_pa, hb]) h1 h2 h3))
  · rw [jv_cats]
    have h40 := T3.2.1
    have : nativeFrameWords "java/lang/System" "arraycopy" 5 ≤ 12 := by decide
    omega
  · rw [jv_E_1 ha, c1, c2, c3]
    simp [jv_pa]
theorem jv_mmax {idx : Nat} {x y : Int32} (hd : decode M.2.1 pc = .ok (.invokestatic idx, 3)) (hl : Cond.methodLink M.1.cls idx Lib.Math.max.name ∈ lw_tg) (hstat : Cond.static Lib.Math.max.name ∈ lw_tg) (hini : Cond.initialized "java/lang/Math" ∈ lw_tg) (hco : Cond.code Lib.Math.max.name Lib.Math.max.code 2 (some .int) ∈ lw_tg) (hS8 : (S.map fun v => v.category).sum ≤ 8) (hd1 : 1 ≤ d) (h : jv_V d M (pc + 3) L (.int (if x < y then y else x) :: S) G I J r G' I' J') : jv_V d M pc L (.int y :: .int x :: S) G I J r G' I' J' := by
  refine ⟨h.1, fun p l e R s m args below meth c H locs cells slots ls ad base D cA adS mc ms C T1 T2 T3 => ?_⟩
  have hk := h.2 p l e R s m args below meth c H locs cells slots ls ad base D cA adS mc ms C T1 T2 T3
  have hts := C.2.2.2.2.2.2.2.1
  obtain ⟨r1, r2, r3, r4, r5, r6⟩ := T3
  have g := h.1
  exact va_mmax C.1 C.2.1 (by rw [C.2.2.1]; exact T2.2.1.symm) (own := M.1.cls) C.2.2.2.2.2.2.1 (hts _ hl) (hts _ hstat) (hts _ hini) (hts _ hco) (by omega) (by rw [jv_cats]; omega) (by omega) (by omega) hd hk
theorem jv_mmin {idx : Nat} {x y : Int32} (hd : decode M.2.1 pc = .ok (.invokestatic idx, 3)) (hl : Cond.methodLink M.1.cls idx Lib.Math.min.name ∈ lw_tg) (hstat : Cond.static Lib.Math.min.name ∈ lw_tg) (hini : Cond.initialized "java/lang/Math" ∈ lw_tg) (hco : Cond.code Lib.Math.min.name Lib.Math.min.code 2 (some .int) ∈ lw_tg) (hS8 : (S.map fun v => v.category).sum ≤ 8) (hd1 : 1 ≤ d) (h : jv_V d M (pc + 3) L (.int (if y < x then y else x) :: S) G I J r G' I' J') : jv_V d M pc L (.int y :: .int x :: S) G I J r G' I' J' := by
  refine ⟨h.1, fun p l e R s m args below meth c H locs cells slots ls ad base D cA adS mc ms C T1 T2 T3 => ?_⟩
  have hk := h.2 p l e R s m args below meth c H locs cells slots ls ad base D cA adS mc ms C T1 T2 T3
  have hts := C.2.2.2.2.2.2.2.1
  obtain ⟨r1, r2, r3, r4, r5, r6⟩ := T3
  have g := h.1
  exact va_mmin C.1 C.2.1 (by rw [C.2.2.1]; exact T2.2.1.symm) (own := M.1.cls) C.2.2.2.2.2.2.1 (hts _ hl) (hts _ hstat) (hts _ hini) (hts _ hco) (by omega) (by rw [jv_cats]; omega) (by omega) (by omega) hd hk
theorem jv_mabs {idx : Nat} {x : Int32} (hd : decode M.2.1 pc = .ok (.invokestatic idx, 3)) (hl : Cond.methodLink M.1.cls idx Lib.Math.abs.name ∈ lw_tg) (hstat : Cond.static Lib.Math.abs.name ∈ lw_tg) (hini : Cond.initialized "java/lang/Math" ∈ lw_tg) (hco : Cond.code Lib.Math.abs.name Lib.Math.abs.code 1 (some .int) ∈ lw_tg) (hS8 : (S.map fun v => v.category).sum ≤ 8) (hd1 : 1 ≤ d) (h : jv_V d M (pc + 3) L (.int (if 0 ≤ x then x else 0 - x) :: S) G I J r G' I' J') : jv_V d M pc L (.int x :: S) G I J r G' I' J' := by
  refine ⟨h.1, fun p l e R s m args below meth c H locs cells slots ls ad base D cA adS mc ms C T1 T2 T3 => ?_⟩
  have hk := h.2 p l e R s m args below meth c H locs cells slots ls ad base D cA adS mc ms C T1 T2 T3
  have hts := C.2.2.2.2.2.2.2.1
  obtain ⟨r1, r2, r3, r4, r5, r6⟩ := T3
  have g := h.1
  exact va_mabs C.1 C.2.1 (by rw [C.2.2.1]; exact T2.2.1.symm) (own := M.1.cls) C.2.2.2.2.2.2.1 (hts _ hl) (hts _ hstat) (hts _ hini) (hts _ hco) (by omega) (by rw [jv_cats]; omega) (by omega) (by omega) hd hk
end JVA
end
section
/-! ===== contracts and calls ===== -/
theorem jv_AOA {u U : State} {ty : FieldType} (hvm : u.vm.Alike U.vm) (h : (Cond.arrayOver ty).before #[] u = true) : (Cond.arrayOver ty).before #[] U = true := by
  have h2 : (Cond.arrayOver ty).before #[] (u.setVm U.vm) = true := by rw [Cond.arrayOver_setVmC hvm]; exact h
  exact h2
theorem jv_env.to {base : Nat} {adS : Nat → Nat} {s U : State} {H : Heap} {locs : List Loc} (h : jv_env base adS s) (hS : va_S (fun q => base ≤ q) s.heap H locs) (hU : U.heap = H) (hW : s.WarmedH U.vm) : jv_env base adS U := by
  obtain ⟨h1, h2, h3, h4, h5, h6, h7, h8⟩ := h
  subst hU
  have hq := hS.2.1
  exact ⟨(h1.kept hq).moved hW.alike, (h2.kept hq).moved hW.alike, (h3.kept hq).moved hW.alike, (h4.kept hq).moved hW.alike, fun q hq => (h5 q hq).warm hW, fun q hq => (h6 q hq).warmM hW, h7.moved hW.alike, jv_AOA hW.alike h8⟩
theorem jv_env.calling {base : Nat} {adS : Nat → Nat} {U : State} {g : JFrame} {mk : MethodId} {a : Array Value} (h : jv_env base adS U) : jv_env base adS (U.calling g mk a) := by
  obtain ⟨h1, h2, h3, h4, h5, h6, h7, h8⟩ := h
  exact ⟨h1.moved (U := U.calling g mk a) (Vm.Alike.refl U.vm), h2.moved (U := U.calling g mk a) (Vm.Alike.refl U.vm), h3.moved (U := U.calling g mk a) (Vm.Alike.refl U.vm), h4.moved (U := U.calling g mk a) (Vm.Alike.refl U.vm), fun q hq => (h5 q hq).same rfl, fun q hq => (h6 q hq).same rfl rfl, h7.moved (U := U.calling g mk a) (Vm.Alike.refl U.vm), jv_AOA (U := U.calling g mk a) (Vm.Alike.refl U.vm) h8⟩
def jv_Pc (base : Nat) (D : va_G) (cA : Nat → ClassId) (adS ad : Nat → Nat) (As : List Value) (G : jv_Gr) (I : jv_I) (J : jv_J) : Array Value → State → Prop := fun v U =>
  v = (As.map (jv_v ad)).toArray ∧ base ≤ U.heap.size ∧ va_K D vwCl (jv_tys cA) U ∧ jv_env base adS U ∧ jv_gw G ∧ va_P D vwCl (jv_W cA ad G I J) U.heap ∧ va_D (fun q => base ≤ q) (jv_W cA ad G I J)
theorem jv_Pc.blind (base : Nat) (D : va_G) (cA : Nat → ClassId) (adS ad : Nat → Nat) (As : List Value) (G : jv_Gr) (I : jv_I) (J : jv_J) : FrameBlind (jv_Pc base D cA adS ad As G I J) := fun a U g mk h => by
  obtain ⟨h1, h2, h3, h4, h5, h6, h7⟩ := h
  exact ⟨h1, h2, va_K.moved (u := U) (U := U.calling g mk a) (Vm.Alike.refl U.vm) h3, h4.calling, h5, h6, h7⟩
abbrev jv_wM (M : jv_M) : List Cond := Cond.code M.1 M.2.1 M.2.2.1 M.2.2.2 :: lw_tg
/-- the contract: called with As in the heap G I J, depth d, the method returns r, the heap then being G' I' J' -/
def jv_C (d : Nat) (M : jv_M) (As : List Value) (G : jv_Gr) (I : jv_I) (J : jv_J) (r : Option Value) (G' : jv_Gr) (I' : jv_I) (J' : jv_J) : Prop :=
  (jv_n G ≤ jv_n G' ∧ jv_s G ≤ jv_s G') ∧ ∀ (l : Launch) (rm : Room) (base : Nat) (D : va_G) (cA : Nat → ClassId) (adS ad : Nat → Nat), d ≤ rm.frames → 40 * d ≤ rm.locals → rm.cells = jv_n G' - jv_n G → rm.slots = jv_s G' - jv_s G → (∀ k, ad (1000000 + k) = adS k) →
    Met l M.1 (jv_wM M) rm (jv_Pc base D cA adS ad As G I J) (jv_Q base D cA ad (jv_n G) r G' I' J') (jv_n G' - jv_n G) (jv_s G' - jv_s G) (fun q => base ≤ q)
theorem jv_C.mono {d d2 : Nat} {M : jv_M} {As : List Value} {G : jv_Gr} {I : jv_I} {J : jv_J} {r : Option Value} {G' : jv_Gr} {I' : jv_I} {J' : jv_J} (h : jv_C d M As G I J r G' I' J') (hd : d ≤ d2) : jv_C d2 M As G I J r G' I' J' :=
  ⟨h.1, fun l rm base D cA adS ad h1 h2 h3 h4 h5 => h.2 l rm base D cA adS ad (by omega) (by omega) h3 h4 h5⟩
theorem jv_C.eq {d : Nat} {M : jv_M} {As : List Value} {G : jv_Gr} {I : jv_I} {J : jv_J} {r r2 : Option Value} {G' : jv_Gr} {I' I2 : jv_I} {J' J2 : jv_J} (h : jv_C d M As G I J r G' I' J') (hr : r = r2) (hI : I' = I2) (hJ : J' = J2) : jv_C d M As G I J r2 G' I2 J2 := by
  subst hr; subst hI; subst hJ; exact h
def jv_la : List Value → List Value
  | [] => []
  | v :: vs => if v.category = 2 then v :: .null :: jv_la vs else v :: jv_la vs
theorem jv_la_in (ad : Nat → Nat) : ∀ (As : List Value) (i0 i : Nat) (v : Value), (jv_la As)[i]? = some v → v ≠ .null → (i0 + i, jv_v ad v) ∈ lv_args i0 (As.map (jv_v ad))
  | [], i0, i, v, h, _ => by simp [jv_la] at h
  | w :: As, i0, i, v, h, hv => by
    rw [List.map_cons, lv_args, jv_v_cat]
    unfold jv_la at h
    split at h
    · rename_i hc
      rw [if_pos hc]
      match i, h with
      | 0, h => cases h; exact List.mem_cons_self
      | 1, h => cases h; exact absurd rfl hv
      | i + 2, h =>
        have h2 := jv_la_in ad As (i0 + 2) i v h hv
        rw [show i0 + 2 + i = i0 + (i + 2) by omega] at h2
        exact List.mem_cons_of_mem _ h2
    · rename_i hc
      rw [if_neg hc]
      match i, h with
      | 0, h => cases h; exact List.mem_cons_self
      | i + 1, h =>
        have h2 := jv_la_in ad As (i0 + 1) i v h hv
        rw [show i0 + 1 + i = i0 + (i + 1) by omega] at h2
        exact List.mem_cons_of_mem _ h2
theorem jv_la_len (ad : Nat → Nat) : ∀ As : List Value, (lg_sl (As.map (jv_v ad))).length = (jv_la As).length
  | [] => rfl
  | w :: As => by
    have ih := jv_la_len ad As
    unfold lg_sl at ih ⊢
    rw [List.map_cons, List.flatMap_cons, List.length_append, ih]
    show _ = (if w.category = 2 then w :: .null :: jv_la As else w :: jv_la As).length
    rw [jv_v_cat]
    split <;> simp <;> omega
/-- what the tables say of a method: n parameters -/
def jv_ok (M : jv_M) (n : Nat) : Prop := Cond.code M.1 M.2.1 M.2.2.1 M.2.2.2 ∈ lw_tg ∧ Cond.initialized M.1.cls ∈ lw_tg ∧ (M.1.cls ≠ "java/lang/invoke/MethodHandle" ∧ M.1.cls ≠ "java/lang/invoke/VarHandle" ∧ (parseMethodDescriptor M.1.desc).map (fun d => d.parameters.length) = some n) ∧ plainName M.1.cls = true ∧ M.2.2.1 ≤ 20
theorem jv_enter {d n : Nat} {M : jv_M} {As L : List Value} {G : jv_Gr} {I : jv_I} {J : jv_J} {r : Option Value} {G' : jv_Gr} {I' : jv_I} {J' : jv_J} (hok : jv_ok M n) (hL : jv_la As ++ List.replicate (M.2.2.1 - (jv_la As).length) .null = L) (hle : (jv_la As).length ≤ M.2.2.1) (h : jv_V d M 0 L [] G I J r G' I' J') : jv_C d M As G I J r G' I' J' := by
  refine ⟨h.1, fun l rm base D cA adS ad hfr hlo hrc hrs had => ?_⟩
  refine Met.ofW (cc := M.2.1) (maxL := M.2.2.1) (ret := M.2.2.2) hok.2.2.2.1 rfl ?_
  intro p e s m args below meth c s₁ B hml hv
  obtain ⟨rfl, hbs, hK, hE, hgw, hP, hD⟩ := hv
  have hts := atoms_spec (ws := jv_wM M) B.pre
  have hl := lv_entry (As.map (jv_v ad)) (n := M.2.2.1) (by rw [jv_la_len]; exact hle)
  rw [lg_entry_eq]
  generalize (lg_sl (As.map (jv_v ad)) ++ List.replicate (M.2.2.1 - (lg_sl (As.map (jv_v ad))).length) Slot.unset).toArray = ls at hl ⊢
  refine h.2 p l e _ s m _ below meth c s.heap [] 0 0 ls ad base D cA adS _ _ ⟨B.exec, B.bytes, hml, B.returns, B.notSynchronized, (name_of_methodNamed B.named B.method).1, findClass_of_methodNamed B.named, fun w hw => hts w (List.mem_cons_of_mem _ hw), hbs, hK, hE⟩ ⟨had, hgw, hP, hD, va_S.rf⟩ ⟨?_, hl.1, hl.2.1, fun i v hi hv => ?_⟩ ⟨hfr, hlo, ?_, ?_, ?_, ?_⟩
  · rw [← hL, List.length_append, List.length_replicate]; omega
  · rw [← hL] at hi
    by_cases hi2 : i < (jv_la As).length
    · rw [List.getElem?_append_left hi2] at hi
      have h3 := jv_la_in ad As 0 i v hi hv
      rw [Nat.zero_add] at h3
      exact hl.2.2 _ h3
    · rw [List.getElem?_append_right (by omega)] at hi
      have h4 := List.mem_of_getElem? hi
      exact absurd (List.mem_replicate.mp h4).2 hv
  · exact Nat.le_of_eq hrc.symm
  · exact Nat.le_of_eq hrs.symm
  · have := h.1; omega
  · have := h.1; omega
theorem jv_Q_up {base : Nat} {D : va_G} {cA : Nat → ClassId} {ad ad1 : Nat → Nat} {n n1 : Nat} {r : Option Value} {G' : jv_Gr} {I' : jv_I} {J' : jv_J} (h : ∀ k, (k ≤ n ∨ jv_n G' < k) → ad1 k = ad k) (hn : n ≤ n1) (a : Array Value) (s : State) (o : Outcome) (t : State) (k : jv_Q base D cA ad1 n1 r G' I' J' a s o t) : jv_Q base D cA ad n r G' I' J' a s o t := by
  obtain ⟨⟨ad', h1, h2⟩, h3⟩ := k
  exact ⟨⟨ad', fun k hk => (h1 k (by omega)).trans (h k hk), h2⟩, h3⟩
/-- behind a call -/
theorem jv_back {d pc : Nat} {M : jv_M} {L rest : List Value} {G G1 G' : jv_Gr} {I I1 I' : jv_I} {J J1 J' : jv_J} {r rv : Option Value} (h : jv_V d M (pc + 3) L (rv.toList ++ rest) G1 I1 J1 r G' I' J') (hn : jv_n G ≤ jv_n G1 ∧ jv_s G ≤ jv_s G1) (hw : jv_n G1 = jv_n G ∨ (jv_ow (jv_n G) L ∧ jv_ow (jv_n G) rest ∧ jv_n G1 < 1000000))
    {p : Program} {l : Launch} {e : Env} {R : Room} {s : State} {m : MethodId} {args : Array Value} {below : List Frame} {meth : Method} {c : Code} {H : Heap} {locs : List Loc} {cells slots : Nat} {ls : Array Slot} {ad : Nat → Nat} {base : Nat} {D : va_G} {cA : Nat → ClassId} {adS : Nat → Nat} {mc ms : Nat} {st0 : List Value} {a : Array Value}
    (C : jv_Cx p s m args meth c M base D cA adS) (T1 : jv_Hp s H locs ad base D cA adS G I J) (T2 : jv_L ad ls M.2.2.1 L) (T3 : jv_Rm R cells slots mc ms d G G')
    (hr : va_Run p l e R s m args below meth c H locs cells slots (jv_n G1 - jv_n G) (jv_s G1 - jv_s G) (F0 m pc ls st0) (rest.map (jv_v ad)) (jv_Q base D cA ad (jv_n G) rv G1 I1 J1 a) (fun q => base ≤ q)) :
    W p l e R s m args below meth c H locs cells slots (MQ below (jv_Q base D cA ad (jv_n G) r G' I' J') args s mc ms (fun q => base ≤ q)) (F0 m pc ls st0) := by
  intro T hT X
  obtain ⟨v, st₀, t, T', Lc, h0, X', hL, e1, e2, ⟨⟨ad', hag, hgw, hv, hP, hD⟩, hF⟩, st⟩ := hr T hT X
  cases hv
  have hadr : ∀ q : Nat, (q ≤ jv_n G ∨ 1000000 ≤ q) → jv_n G1 = jv_n G ∨ jv_n G1 < 1000000 → ad' q = ad q := fun q hq hz => hag q (by omega)
  have hzz : jv_n G1 = jv_n G ∨ jv_n G1 < 1000000 := by
    rcases hw with h1 | ⟨-, -, h1⟩
    · exact Or.inl h1
    · exact Or.inr h1
  have hsame : ∀ vs : List Value, jv_n G1 = jv_n G ∨ jv_ow (jv_n G) vs → ∀ v ∈ vs, ∀ q : Nat, v = .ref q → ad' q = ad q := by
    intro vs hvs v hv q e
    rcases hvs with h1 | h1
    · exact hag q (by omega)
    · exact hadr q (h1 v hv q e) hzz
  have hL2 : jv_L ad' ls M.2.2.1 L := T2.ad (hsame L (hw.imp id (fun z => z.1)))
  have hS2 : rest.map (jv_v ad') = rest.map (jv_v ad) := jv_S_ad (hsame rest (hw.imp id (fun z => z.2.1)))
  obtain ⟨t1, t2, t3, t4, t5⟩ := T1
  obtain ⟨r1, r2, r3, r4, r5, r6⟩ := T3
  have hz := hF.1
  have hkp := hF.2
  rw [h0] at hz hkp
  have hkk := h.2 p l e R s m args below meth c T'.heap (locs ++ Lc) (cells + (jv_n G1 - jv_n G)) (slots + (jv_s G1 - jv_s G)) ls ad' base D cA adS mc ms C
    ⟨fun k => (hadr _ (Or.inr (by omega)) hzz).trans (t1 k), hgw, by rw [e1]; exact hP, hD, ⟨Nat.le_trans t5.1 (by rw [e1]; exact hz), fun q h1 h2 => by rw [e1, hkp q (Nat.lt_of_lt_of_le h1 t5.1) h2]; exact t5.2.1 q h1 h2, fun q hq => by
      rcases List.mem_append.mp hq with h | h
      · exact t5.2.2 q h
      · exact hL q h⟩⟩ hL2 ⟨r1, r2, r3, r4, by omega, by omega⟩
  have hkk2 := jv_W.mono (jv_MQ.mono (jv_Q_up (ad := ad) (n := jv_n G) (fun k hk => hag k (by have := h.1; omega)) hn.1)) hkk
  obtain ⟨t2, a1, b1⟩ := hkk2 T' rfl X'
  refine ⟨t2, st t2 ?_, b1⟩
  have hst : (rv.toList ++ rest).map (jv_v ad') = (rv.map (jv_v ad')).toList ++ rest.map (jv_v ad) := by
    rw [List.map_append, hS2]
    cases rv <;> rfl
  rw [hst] at a1
  exact a1
theorem jv_good {M : jv_M} {n : Nat} (h : jv_ok M n) : GoodIn lw_tg (jv_wM M) := fun w hw => by
  rcases List.mem_cons.mp hw with h1 | h1
  · rw [h1]; exact ⟨h.1, (lw_tg_good _ h.1).2⟩
  · exact ⟨h1, (lw_tg_good w h1).2⟩
section JVC
variable {d d2 pc idx n : Nat} {M M2 : jv_M} {L S As rest : List Value} {G G1 G' : jv_Gr} {I I1 I' : jv_I} {J J1 J' : jv_J} {r rv : Option Value}
theorem jv_pre {p : Program} {s : State} {m : MethodId} {args : Array Value} {meth : Method} {c : Code} {H : Heap} {locs : List Loc} {ad : Nat → Nat} {base : Nat} {D : va_G} {cA : Nat → ClassId} {adS : Nat → Nat} (C : jv_Cx p s m args meth c M base D cA adS) (T1 : jv_Hp s H locs ad base D cA adS G I J) : PreS s H (jv_Pc base D cA adS ad As G I J) (As.map (jv_v ad)) :=
  ⟨jv_Pc.blind _ _ _ _ _ _ _ _ _, fun U hU hW => ⟨rfl, by rw [hU]; exact Nat.le_trans C.2.2.2.2.2.2.2.2.1 T1.2.2.2.2.1, va_K.moved hW.alike C.2.2.2.2.2.2.2.2.2.1, C.2.2.2.2.2.2.2.2.2.2.to T1.2.2.2.2 hU hW, T1.2.1, by rw [hU]; exact T1.2.2.1, T1.2.2.2.1⟩⟩
/-- invokevirtual of a method of the receiver's own class -/
theorem jv_callV {a ci nn N : Nat} {T : u_T} (hd : decode M.2.1 pc = .ok (.invokevirtual idx, 3)) (hok : jv_ok M2 n) (hin : Cond.instanceMethod M2.1 ∈ lw_tg) (hse : Cond.selects M2.1.cls M2.1 M2.1 ∈ lw_tg) (hl : Cond.methodLink M.1.cls idx M2.1 ∈ lw_tg) (hcl : vwCl[ci]? = some (M2.1.cls, T, N)) (ha : jv_k G a = (ci + 10, nn)) (hC : jv_C d2 M2 (.ref a :: As) G I J rv G1 I1 J1) (hdd : d2 + 1 ≤ d) (hn : As.length = n) (hs : As.reverse ++ .ref a :: rest = S) (h8 : (rest.map fun v => v.category).sum ≤ 8) (hw : jv_n G1 = jv_n G ∨ (jv_ow (jv_n G) L ∧ jv_ow (jv_n G) rest ∧ jv_n G1 < 1000000))
    (h : jv_V d M (pc + 3) L (rv.toList ++ rest) G1 I1 J1 r G' I' J') : jv_V d M pc L S G I J r G' I' J' := by
  refine ⟨by have := h.1; have := hC.1; omega, fun p l e R s m args below meth c H locs cells slots ls ad base D cA adS mc ms C T1 T2 T3 => ?_⟩
  have hci : ci < 6 := (List.getElem?_eq_some_iff.mp hcl).1
  have hn0 := jv_k_in ha (by omega)
  have hts := C.2.2.2.2.2.2.2.1
  have hM := hC.2 l ({ frames := d2, cells := jv_n G1 - jv_n G, slots := jv_s G1 - jv_s G, locals := 40 * d2 }) base D cA adS ad (Nat.le_refl _) (Nat.le_refl _) rfl rfl T1.1
  have hmL := hok.2.2.2.2
  have cb := callB_of (own := M.1.cls) (index := idx) (rm := { frames := d2, cells := jv_n G1 - jv_n G, slots := jv_s G1 - jv_s G, locals := 40 * d2 }) (R := R) n hts (jv_good hok) rfl rfl rfl (hts _ hok.2.1) (hts _ hl) hok.2.2.1 ⟨by have := T3.1; show d2 + 1 ≤ R.frames; omega, by have := T3.2.1; show 8 + (M2.2.2.1 + 11) + 40 * d2 ≤ R.locals; omega⟩
  have he := jv_W_at (cA := cA) (ad := ad) (I := I) (J := J) hn0
  rw [jv_E_obj ha] at he
  have hpre := jv_pre (As := .ref a :: As) C T1
  rw [jv_mr hn0.1] at hpre
  refine jv_back h hC.1 hw C T1 T2 T3 (va_runV (As := As.map (jv_v ad)) (b := ad a) (Ts := lw_tg) ⟨C.1, C.2.1, C.2.2.1, C.2.2.2.2.2.2.1, hts⟩ hM ⟨cb, hts _ hin, hts _ hse⟩ ⟨hpre.1, va_recv C.2.2.2.2.2.2.2.2.2.1 T1.2.2.1 hcl he, hpre.2⟩ rfl (by rw [List.length_map]; exact hn) T2.2.1 ?_ ?_ hd ?_)
  · show S.map (jv_v ad) = _
    rw [← hs, List.map_append, jv_mr hn0.1, List.map_reverse]
  · exact lv_room (by rw [jv_cats]; exact h8)
  · obtain ⟨r1, r2, r3, r4, r5, r6⟩ := T3
    have := h.1
    have := hC.1
    omega
theorem jv_callS (hd : decode M.2.1 pc = .ok (.invokestatic idx, 3)) (hok : jv_ok M2 n) (hst : Cond.static M2.1 ∈ lw_tg) (hl : Cond.methodLink M.1.cls idx M2.1 ∈ lw_tg) (hC : jv_C d2 M2 As G I J rv G1 I1 J1) (hdd : d2 + 1 ≤ d) (hn : As.length = n) (hs : As.reverse ++ rest = S) (h8 : (rest.map fun v => v.category).sum ≤ 8) (hw : jv_n G1 = jv_n G ∨ (jv_ow (jv_n G) L ∧ jv_ow (jv_n G) rest ∧ jv_n G1 < 1000000))
    (h : jv_V d M (pc + 3) L (rv.toList ++ rest) G1 I1 J1 r G' I' J') : jv_V d M pc L S G I J r G' I' J' := by
  refine ⟨by have := h.1; have := hC.1; omega, fun p l e R s m args below meth c H locs cells slots ls ad base D cA adS mc ms C T1 T2 T3 => ?_⟩
  have hts := C.2.2.2.2.2.2.2.1
  have hM := hC.2 l ({ frames := d2, cells := jv_n G1 - jv_n G, slots := jv_s G1 - jv_s G, locals := 40 * d2 }) base D cA adS ad (Nat.le_refl _) (Nat.le_refl _) rfl rfl T1.1
  have hmL := hok.2.2.2.2
  have cb := callB_of (own := M.1.cls) (index := idx) (rm := { frames := d2, cells := jv_n G1 - jv_n G, slots := jv_s G1 - jv_s G, locals := 40 * d2 }) (R := R) n hts (jv_good hok) rfl rfl rfl (hts _ hok.2.1) (hts _ hl) hok.2.2.1 ⟨by have := T3.1; show d2 + 1 ≤ R.frames; omega, by have := T3.2.1; show 8 + (M2.2.2.1 + 11) + 40 * d2 ≤ R.locals; omega⟩
  have hpre := jv_pre (As := As) C T1
  refine jv_back h hC.1 hw C T1 T2 T3 (va_runS (As := As.map (jv_v ad)) (Ts := lw_tg) ⟨C.1, C.2.1, C.2.2.1, C.2.2.2.2.2.2.1, hts⟩ hM ⟨cb, hts _ hst⟩ hpre rfl (by rw [List.length_map]; exact hn) T2.2.1 ?_ ?_ hd ?_)
  · show S.map (jv_v ad) = _
    rw [← hs, List.map_append, List.map_reverse]
  · exact lv_room (by rw [jv_cats]; exact h8)
  · obtain ⟨r1, r2, r3, r4, r5, r6⟩ := T3
    have := h.1
    have := hC.1
    omega
/-- a static method of the nest's host -/
theorem jv_callSN {host : String} (hd : decode M.2.1 pc = .ok (.invokestatic idx, 3)) (hok : jv_ok M2 n) (hst : Cond.static M2.1 ∈ lw_tg) (hl : ∀ (base : Nat) (adS : Nat → Nat) (U : State), jv_env base adS U → va_Nw (.methodLinkNest M.1.cls idx M2.1 host) U) (hC : jv_C d2 M2 As G I J rv G1 I1 J1) (hdd : d2 + 1 ≤ d) (hn : As.length = n) (hs : As.reverse ++ rest = S) (h8 : (rest.map fun v => v.category).sum ≤ 8) (hw : jv_n G1 = jv_n G ∨ (jv_ow (jv_n G) L ∧ jv_ow (jv_n G) rest ∧ jv_n G1 < 1000000))
    (h : jv_V d M (pc + 3) L (rv.toList ++ rest) G1 I1 J1 r G' I' J') : jv_V d M pc L S G I J r G' I' J' := by
  refine ⟨by have := h.1; have := hC.1; omega, fun p l e R s m args below meth c H locs cells slots ls ad base D cA adS mc ms C T1 T2 T3 => ?_⟩
  have hts := C.2.2.2.2.2.2.2.1
  have hM := hC.2 l ({ frames := d2, cells := jv_n G1 - jv_n G, slots := jv_s G1 - jv_s G, locals := 40 * d2 }) base D cA adS ad (Nat.le_refl _) (Nat.le_refl _) rfl rfl T1.1
  have hmL := hok.2.2.2.2
  have cb := va_cnB (own := M.1.cls) (index := idx) (host := host) (rm := { frames := d2, cells := jv_n G1 - jv_n G, slots := jv_s G1 - jv_s G, locals := 40 * d2 }) (R := R) n hts (jv_good hok) rfl rfl rfl (hl _ _ _ C.2.2.2.2.2.2.2.2.2.2) (hts _ hok.2.1) hok.2.2.1 ⟨by have := T3.1; show d2 + 1 ≤ R.frames; omega, by have := T3.2.1; show 8 + (M2.2.2.1 + 11) + 40 * d2 ≤ R.locals; omega⟩
  have hpre := jv_pre (As := As) C T1
  refine jv_back h hC.1 hw C T1 T2 T3 (va_runSN (As := As.map (jv_v ad)) (Ts := lw_tg) ⟨C.1, C.2.1, C.2.2.1, C.2.2.2.2.2.2.1, hts⟩ hM ⟨cb, hts _ hst, trivial⟩ hpre rfl (by rw [List.length_map]; exact hn) T2.2.1 ?_ ?_ hd ?_)
  · show S.map (jv_v ad) = _
    rw [← hs, List.map_append, List.map_reverse]
  · exact lv_room (by rw [jv_cats]; exact h8)
  · obtain ⟨r1, r2, r3, r4, r5, r6⟩ := T3
    have := h.1
    have := hC.1
    omega
/-- a constructor -/
theorem jv_callI {a : Nat} (hd : decode M.2.1 pc = .ok (.invokespecial idx, 3)) (hok : jv_ok M2 n) (hret : M2.2.2.2 = none) (hnm : M2.1.name = "<init>") (hin : Cond.instanceMethod M2.1 ∈ lw_tg) (hl : Cond.methodLink M.1.cls idx M2.1 ∈ lw_tg) (ha : a ≠ 0) (hC : jv_C d2 M2 (.ref a :: As) G I J none G1 I1 J1) (hdd : d2 + 1 ≤ d) (hn : As.length = n) (hs : As.reverse ++ .ref a :: rest = S) (h8 : (rest.map fun v => v.category).sum ≤ 8) (hw : jv_n G1 = jv_n G ∨ (jv_ow (jv_n G) L ∧ jv_ow (jv_n G) rest ∧ jv_n G1 < 1000000))
    (h : jv_V d M (pc + 3) L rest G1 I1 J1 r G' I' J') : jv_V d M pc L S G I J r G' I' J' := by
  refine ⟨by have := h.1; have := hC.1; omega, fun p l e R s m args below meth c H locs cells slots ls ad base D cA adS mc ms C T1 T2 T3 => ?_⟩
  have hts := C.2.2.2.2.2.2.2.1
  have hM := hC.2 l ({ frames := d2, cells := jv_n G1 - jv_n G, slots := jv_s G1 - jv_s G, locals := 40 * d2 }) base D cA adS ad (Nat.le_refl _) (Nat.le_refl _) rfl rfl T1.1
  have hmL := hok.2.2.2.2
  have cb := callB_of (own := M.1.cls) (index := idx) (ret := none) (ws' := lw_tg) (rm := { frames := d2, cells := jv_n G1 - jv_n G, slots := jv_s G1 - jv_s G, locals := 40 * d2 }) (R := R) n hts (jv_good hok) (by rw [← hret]) rfl rfl (hts _ hok.2.1) (hts _ hl) hok.2.2.1 ⟨by have := T3.1; show d2 + 1 ≤ R.frames; omega, by have := T3.2.1; show 8 + (M2.2.2.1 + 11) + 40 * d2 ≤ R.locals; omega⟩
  have hpre := jv_pre (As := .ref a :: As) C T1
  rw [jv_mr ha] at hpre
  refine jv_back (rv := none) h hC.1 hw C T1 T2 T3 (va_runI (As := As.map (jv_v ad)) (b := ad a) (Ts := lw_tg) ⟨C.1, C.2.1, C.2.2.1, C.2.2.2.2.2.2.1, hts⟩ hM ⟨cb, hnm, hts _ hin⟩ hpre rfl (by rw [List.length_map]; exact hn) T2.2.1 ?_ ?_ hd ?_)
  · show S.map (jv_v ad) = _
    rw [← hs, List.map_append, jv_mr ha, List.map_reverse]
  · exact lv_room (by rw [jv_cats]; exact h8)
  · obtain ⟨r1, r2, r3, r4, r5, r6⟩ := T3
    have := h.1
    have := hC.1
    omega
/-- a nest mate's private constructor -/
theorem jv_callIN {a : Nat} {host : String} (hd : decode M.2.1 pc = .ok (.invokespecial idx, 3)) (hok : jv_ok M2 n) (hret : M2.2.2.2 = none) (hnm : M2.1.name = "<init>") (hin : Cond.instanceMethod M2.1 ∈ lw_tg) (hl : ∀ (base : Nat) (adS : Nat → Nat) (U : State), jv_env base adS U → va_Nw (.methodLinkNest M.1.cls idx M2.1 host) U) (ha : a ≠ 0) (hC : jv_C d2 M2 (.ref a :: As) G I J none G1 I1 J1) (hdd : d2 + 1 ≤ d) (hn : As.length = n) (hs : As.reverse ++ .ref a :: rest = S) (h8 : (rest.map fun v => v.category).sum ≤ 8) (hw : jv_n G1 = jv_n G ∨ (jv_ow (jv_n G) L ∧ jv_ow (jv_n G) rest ∧ jv_n G1 < 1000000))
    (h : jv_V d M (pc + 3) L rest G1 I1 J1 r G' I' J') : jv_V d M pc L S G I J r G' I' J' := by
  refine ⟨by have := h.1; have := hC.1; omega, fun p l e R s m args below meth c H locs cells slots ls ad base D cA adS mc ms C T1 T2 T3 => ?_⟩
  have hts := C.2.2.2.2.2.2.2.1
  have hM := hC.2 l ({ frames := d2, cells := jv_n G1 - jv_n G, slots := jv_s G1 - jv_s G, locals := 40 * d2 }) base D cA adS ad (Nat.le_refl _) (Nat.le_refl _) rfl rfl T1.1
  have hmL := hok.2.2.2.2
  have cb := va_cnB (own := M.1.cls) (index := idx) (host := host) (ret := none) (ws' := lw_tg) (rm := { frames := d2, cells := jv_n G1 - jv_n G, slots := jv_s G1 - jv_s G, locals := 40 * d2 }) (R := R) n hts (jv_good hok) (by rw [← hret]) rfl rfl (hl _ _ _ C.2.2.2.2.2.2.2.2.2.2) (hts _ hok.2.1) hok.2.2.1 ⟨by have := T3.1; show d2 + 1 ≤ R.frames; omega, by have := T3.2.1; show 8 + (M2.2.2.1 + 11) + 40 * d2 ≤ R.locals; omega⟩
  have hpre := jv_pre (As := .ref a :: As) C T1
  rw [jv_mr ha] at hpre
  refine jv_back (rv := none) h hC.1 hw C T1 T2 T3 (va_runIN (As := As.map (jv_v ad)) (b := ad a) (Ts := lw_tg) ⟨C.1, C.2.1, C.2.2.1, C.2.2.2.2.2.2.1, hts⟩ hM ⟨cb, hnm, hts _ hin⟩ hpre rfl (by rw [List.length_map]; exact hn) T2.2.1 ?_ ?_ hd ?_)
  · show S.map (jv_v ad) = _
    rw [← hs, List.map_append, jv_mr ha, List.map_reverse]
  · exact lv_room (by rw [jv_cats]; exact h8)
  · obtain ⟨r1, r2, r3, r4, r5, r6⟩ := T3
    have := h.1
    have := hC.1
    omega
theorem jv_ret {p : Program} {l : Launch} {e : Env} {R : Room} {s : State} {m : MethodId} {args : Array Value} {below : List Frame} {meth : Method} {c : Code} {H : Heap} {locs : List Loc} {cells slots : Nat} {ad : Nat → Nat} {base : Nat} {D : va_G} {cA : Nat → ClassId} {adS : Nat → Nat} {mc ms : Nat} {g : JFrame} (T1 : jv_Hp s H locs ad base D cA adS G I J) (T3 : jv_Rm R cells slots mc ms d G G)
    (hk : ∀ Qc : Array Value → State → Outcome → State → Prop, (∀ t : State, t.heap = H → Qc args s (.returned (rv.map (jv_v ad))) t) → (∀ q ∈ locs, base ≤ q.base) → W p l e R s m args below meth c H locs mc ms (MQ below Qc args s mc ms (fun q => base ≤ q)) g) :
    W p l e R s m args below meth c H locs cells slots (MQ below (jv_Q base D cA ad (jv_n G) rv G I J) args s mc ms (fun q => base ≤ q)) g := by
  obtain ⟨r1, r2, r3, r4, r5, r6⟩ := T3
  refine W.widen (k := mc) (n := ms) (by omega) (by omega) (hk _ (fun t ht => ⟨⟨ad, fun _ _ => rfl, T1.2.1, rfl, by rw [ht]; exact T1.2.2.1, T1.2.2.2.1⟩, T1.2.2.2.2.F ht⟩) T1.2.2.2.2.2.2)
theorem jv_iret {x : Int32} {ty : FieldType} {z : Int32} (hd : decode M.2.1 pc = .ok (.ireturn, 1)) (hr : M.2.2.2 = some ty) (hn : narrow ty (.int x) = .int x) (hx : x = z) (hI : I' = I) (hJ : J' = J) : jv_V d M pc L [.int x] G I J (some (.int z)) G I' J' := by
  subst hx; subst hI; subst hJ
  refine ⟨⟨Nat.le_refl _, Nat.le_refl _⟩, fun p l e R s m args below meth c H locs cells slots ls ad base D cA adS mc ms C T1 T2 T3 => ?_⟩
  exact jv_ret T1 T3 (fun Qc hq hf => W.zret C.1 C.2.1 (by rw [C.2.2.2.1]; exact hr) hn (fun t ht _ => hq t ht) hf hd C.2.2.2.2.1)
theorem jv_lret {x z : Int64} (hd : decode M.2.1 pc = .ok (.lreturn, 1)) (hr : M.2.2.2 = some .long) (hx : x = z) (hI : I' = I) (hJ : J' = J) : jv_V d M pc L [.long x] G I J (some (.long z)) G I' J' := by
  subst hx; subst hI; subst hJ
  refine ⟨⟨Nat.le_refl _, Nat.le_refl _⟩, fun p l e R s m args below meth c H locs cells slots ls ad base D cA adS mc ms C T1 T2 T3 => ?_⟩
  exact jv_ret T1 T3 (fun Qc hq hf => W.lret C.1 C.2.1 (by rw [C.2.2.2.1]; exact hr) (fun t ht _ => hq t ht) hf hd C.2.2.2.2.1)
theorem jv_vret (hd : decode M.2.1 pc = .ok (.return_, 1)) (hr : M.2.2.2 = none) (hG : G' = G) (hI : I' = I) (hJ : J' = J) : jv_V d M pc L [] G I J none G' I' J' := by
  subst hG; subst hI; subst hJ
  refine ⟨⟨Nat.le_refl _, Nat.le_refl _⟩, fun p l e R s m args below meth c H locs cells slots ls ad base D cA adS mc ms C T1 T2 T3 => ?_⟩
  exact jv_ret T1 T3 (fun Qc hq hf => W.vret C.1 C.2.1 (by rw [C.2.2.2.1]; exact hr) (fun t ht _ => hq t ht) hf hd C.2.2.2.2.1)
theorem jv_aret {x : Nat} {cn : String} (hd : decode M.2.1 pc = .ok (.areturn, 1)) (hr : M.2.2.2 = some (.object cn)) (hG : G' = G) (hI : I' = I) (hJ : J' = J) : jv_V d M pc L [.ref x] G I J (some (.ref x)) G' I' J' := by
  subst hG; subst hI; subst hJ
  refine ⟨⟨Nat.le_refl _, Nat.le_refl _⟩, fun p l e R s m args below meth c H locs cells slots ls ad base D cA adS mc ms C T1 T2 T3 => ?_⟩
  have hv : jv_v ad (.ref x) = .null ∨ ∃ a, jv_v ad (.ref x) = .ref a := by
    by_cases hz : x = 0
    · subst hz; exact Or.inl rfl
    · exact Or.inr ⟨_, jv_v_ref ad hz⟩
  exact jv_ret T1 T3 (fun Qc hq hf => W.aret C.1 C.2.1 (by rw [C.2.2.2.1]; exact hr) (Or.inl ⟨_, rfl⟩) hv (fun t ht _ => hq t ht) hf hd C.2.2.2.2.1)
end JVC
end
section
/-! ===== what is made ===== -/
section JVN
variable {d pc idx : Nat} {M : jv_M} {L S : List Value} {G G' : jv_Gr} {I I' : jv_I} {J J' : jv_J} {r : Option Value}
theorem jv_born {k : Nat × Nat} {sl pc2 q : Nat} {I2 : jv_I} {J2 : jv_J} {e0 : va_E} {H1 : Heap} (h : jv_V d M pc2 L (.ref (jv_n G + 1) :: S) (jv_nw G k sl) I2 J2 r G' I' J') (hlt : jv_n G + 1 < 1000000) (hoL : jv_ow (jv_n G) L) (hoS : jv_ow (jv_n G) S) (hI : ∀ b, b ≤ jv_n G → I2 b = I b) (hJ : ∀ b, b ≤ jv_n G → J2 b = J b)
    {p : Program} {l : Launch} {e : Env} {R : Room} {s : State} {m : MethodId} {args : Array Value} {below : List Frame} {meth : Method} {c : Code} {H : Heap} {locs : List Loc} {cells slots : Nat} {ls : Array Slot} {ad : Nat → Nat} {base : Nat} {D : va_G} {cA : Nat → ClassId} {adS : Nat → Nat} {mc ms : Nat}
    (C : jv_Cx p s m args meth c M base D cA adS) (T1 : jv_Hp s H locs ad base D cA adS G I J) (T2 : jv_L ad ls M.2.2.1 L) (T3 : jv_Rm R cells slots mc ms d G G')
    (he : jv_E cA (jv_ad ad (jv_n G + 1) q) (jv_nw G k sl) I2 J2 (jv_n G + 1) = e0) (h1 : va_P D vwCl (jv_W cA ad G I J ++ [(q, e0)]) H1) (h2 : va_D (fun q => base ≤ q) (jv_W cA ad G I J ++ [(q, e0)])) (h3 : va_S (fun q => base ≤ q) s.heap H1 locs) :
    W p l e R s m args below meth c H1 locs (cells + 1) (slots + sl) (MQ below (jv_Q base D cA ad (jv_n G) r G' I' J') args s mc ms (fun q => base ≤ q)) (F0 m pc2 ls (.ref q :: S.map (jv_v ad))) := by
  have hq : jv_ad ad (jv_n G + 1) q (jv_n G + 1) = q := if_pos rfl
  have hold : ∀ b, b ≤ jv_n G → jv_ad ad (jv_n G + 1) q b = ad b := fun b hb => by
    show (if b = jv_n G + 1 then q else ad b) = ad b
    exact if_neg (by omega)
  have hWn := jv_W_new (cA := cA) (ad := ad) (ad2 := jv_ad ad (jv_n G + 1) q) (k := k) (sl := sl) (I := I) (J := J) (I2 := I2) (J2 := J2) T1.2.1 hold hI hJ
  rw [hq, he] at hWn
  rw [← hWn] at h1 h2
  obtain ⟨r1, r2, r3, r4, r5, r6⟩ := T3
  have hm := h.1
  have hn1 : jv_n (jv_nw G k sl) = jv_n G + 1 := rfl
  have hs1 : jv_s (jv_nw G k sl) = jv_s G + sl := rfl
  have hk := h.2 p l e R s m args below meth c H1 locs (cells + 1) (slots + sl) ls (jv_ad ad (jv_n G + 1) q) base D cA adS mc ms C ⟨fun j => by
    rw [← T1.1 j]
    show (if 1000000 + j = jv_n G + 1 then q else ad (1000000 + j)) = ad (1000000 + j)
    exact if_neg (by omega), jv_gw_new T1.2.1, h1, h2, h3⟩ (T2.ad (jv_ad_ow hoL hlt)) ⟨r1, r2, r3, r4, by rw [hn1]; omega, by rw [hs1]; omega⟩
  rw [jv_mr (by omega), hq, jv_S_ad (jv_ad_ow hoS hlt)] at hk
  exact jv_W.mono (jv_MQ.mono (jv_Q_up (ad := ad) (n := jv_n G) (fun b hb => by
    show (if b = jv_n G + 1 then q else ad b) = ad b
    exact if_neg (by omega)) (by omega))) hk
theorem jv_new {ci N : Nat} {Cn : String} {T : u_T} {ty : Nat → FieldType} (hd : decode M.2.1 pc = .ok (.new idx, 3)) (hc : jv_cl ci Cn T N ty) (hl : Cond.classLink M.1.cls idx Cn ∈ lw_tg) (hlt : jv_n G + 1 < 1000000) (hoL : jv_ow (jv_n G) L) (hoS : jv_ow (jv_n G) S) (h : jv_V d M (pc + 3) L (.ref (jv_n G + 1) :: S) (jv_nw G (ci + 10, 0) N) (jv_zI I (jv_n G + 1)) J r G' I' J') : jv_V d M pc L S G I J r G' I' J' := by
  have hm := h.1
  have hn1 : jv_n (jv_nw G (ci + 10, 0) N) = jv_n G + 1 := rfl
  have hs1 : jv_s (jv_nw G (ci + 10, 0) N) = jv_s G + N := rfl
  refine ⟨by omega, fun p l e R s m args below meth c H locs cells slots ls ad base D cA adS mc ms C T1 T2 T3 => ?_⟩
  obtain ⟨c1, c2, c3, c4, c5, c6, c7, c8, c9⟩ := hc
  have hts := C.2.2.2.2.2.2.2.1
  have T3' := T3
  obtain ⟨r1, r2, r3, r4, r5, r6⟩ := T3'
  refine va_new (own := M.1.cls) (C := Cn) (T := T) (N := N) (ci := ci) (fs := (List.range N).map (fun k => if jv_isr ci k = true then Value.null else .int 0)) C.1 C.2.1 hts c3 ty c4 C.2.2.2.2.2.2.1 (hts _ hl) (hts _ c7) (hts _ c8) C.2.2.2.2.2.2.2.2.2.1 T1.2.2.1 T1.2.2.2.1 T1.2.2.2.2 (fun q hq => Nat.le_trans C.2.2.2.2.2.2.2.2.1 hq) c1 ?_ (by omega) (by omega) hd (fun q H1 h1 h2 h3 => jv_born h hlt hoL hoS (fun b hb => ?_) (fun _ _ => rfl) C T1 T2 T3 ?_ h1 h2 h3)
  · intro j hj
    rw [c9 j hj]
    unfold vp_V
    rw [List.getD_eq_getElem?_getD, List.getElem?_map, List.getElem?_range hj]
    rfl
  · funext j
    show (if b = jv_n G + 1 then 0 else I b j) = I b j
    exact if_neg (by omega)
  · rw [jv_E_obj (G := jv_nw G (ci + 10, 0) N) jv_k_new]
    unfold jv_fs
    rw [c2]
    congr 2
    apply List.map_congr_left
    intro k _
    unfold jv_f
    rw [jv_r_new]
    have hz : jv_zI I (jv_n G + 1) (jv_n G + 1) k = 0 := if_pos rfl
    rw [hz]
    rfl
theorem jv_newI {N : Nat} {x : Int32} (hd : decode M.2.1 pc = .ok (.newarray .int, 2)) (hx : x = nI N) (hN : N < 1000000) (har : Cond.arrayClass .int ∈ lw_tg) (hlt : jv_n G + 1 < 1000000) (hoL : jv_ow (jv_n G) L) (hoS : jv_ow (jv_n G) S) (h : jv_V d M (pc + 2) L (.ref (jv_n G + 1) :: S) (jv_nw G (0, N) N) (jv_zI I (jv_n G + 1)) J r G' I' J') : jv_V d M pc L (.int x :: S) G I J r G' I' J' := by
  subst hx
  have hm := h.1
  have hn1 : jv_n (jv_nw G (0, N) N) = jv_n G + 1 := rfl
  have hs1 : jv_s (jv_nw G (0, N) N) = jv_s G + N := rfl
  refine ⟨by omega, fun p l e R s m args below meth c H locs cells slots ls ad base D cA adS mc ms C T1 T2 T3 => ?_⟩
  have hts := C.2.2.2.2.2.2.2.1
  have hK := C.2.2.2.2.2.2.2.2.2.1
  have T3' := T3
  obtain ⟨r1, r2, r3, r4, r5, r6⟩ := T3'
  refine va_newa (atype := .int) (ty := .int) (a0 := (N, .inl (fun _ => 0))) C.1 C.2.1 (hts _ har) rfl hK T1.2.2.1 T1.2.2.2.1 T1.2.2.2.2 (fun q hq => Nat.le_trans C.2.2.2.2.2.2.2.2.1 hq) (fun _ => rfl) (nI_pos (by omega)) (nI_clamp (by omega)) (by show N * 4 ≤ _; omega) (by omega) (by omega) hd (fun q cA' H1 hK1 h1 h2 h3 => ?_)
  have e1 : va_RA s (cA 0) .int := (hK.2 0 (cA 0, .int) rfl).2
  have e2 : va_RA s cA' .int := (hK1.2 4 (cA', .int) rfl).2
  have e3 : cA' = cA 0 := Option.some.inj (Eq.trans (Eq.symm e2) e1)
  subst e3
  refine jv_born h hlt hoL hoS (fun b hb => ?_) (fun _ _ => rfl) C T1 T2 T3 ?_ h1 h2 h3
  · funext j
    show (if b = jv_n G + 1 then 0 else I b j) = I b j
    exact if_neg (by omega)
  · rw [jv_E_0 (G := jv_nw G (0, N) N) jv_k_new]
    congr 4
    funext j
    exact if_pos rfl
theorem jv_newJ {N : Nat} {x : Int32} (hd : decode M.2.1 pc = .ok (.newarray .long, 2)) (hx : x = nI N) (hN : N < 1000000) (har : Cond.arrayClass .long ∈ lw_tg) (hlt : jv_n G + 1 < 1000000) (hoL : jv_ow (jv_n G) L) (hoS : jv_ow (jv_n G) S) (h : jv_V d M (pc + 2) L (.ref (jv_n G + 1) :: S) (jv_nw G (1, N) N) I (jv_zJ J (jv_n G + 1)) r G' I' J') : jv_V d M pc L (.int x :: S) G I J r G' I' J' := by
  subst hx
  have hm := h.1
  have hn1 : jv_n (jv_nw G (1, N) N) = jv_n G + 1 := rfl
  have hs1 : jv_s (jv_nw G (1, N) N) = jv_s G + N := rfl
  refine ⟨by omega, fun p l e R s m args below meth c H locs cells slots ls ad base D cA adS mc ms C T1 T2 T3 => ?_⟩
  have hts := C.2.2.2.2.2.2.2.1
  have hK := C.2.2.2.2.2.2.2.2.2.1
  have T3' := T3
  obtain ⟨r1, r2, r3, r4, r5, r6⟩ := T3'
  refine va_newa (atype := .long) (ty := .long) (a0 := (N, .inr (.inl (fun _ => 0)))) C.1 C.2.1 (hts _ har) rfl hK T1.2.2.1 T1.2.2.2.1 T1.2.2.2.2 (fun q hq => Nat.le_trans C.2.2.2.2.2.2.2.2.1 hq) (fun _ => rfl) (nI_pos (by omega)) (nI_clamp (by omega)) (by show N * 8 ≤ _; omega) (by omega) (by omega) hd (fun q cA' H1 hK1 h1 h2 h3 => ?_)
  have e1 : va_RA s (cA 1) .long := (hK.2 1 (cA 1, .long) rfl).2
  have e2 : va_RA s cA' .long := (hK1.2 4 (cA', .long) rfl).2
  have e3 : cA' = cA 1 := Option.some.inj (Eq.trans (Eq.symm e2) e1)
  subst e3
  refine jv_born h hlt hoL hoS (fun _ _ => rfl) (fun b hb => ?_) C T1 T2 T3 ?_ h1 h2 h3
  · funext j
    show (if b = jv_n G + 1 then 0 else J b j) = J b j
    exact if_neg (by omega)
  · rw [jv_E_1 (G := jv_nw G (1, N) N) jv_k_new]
    congr 5
    funext j
    exact if_pos rfl
theorem jv_newA {N : Nat} {x : Int32} (hd : decode M.2.1 pc = .ok (.anewarray idx, 3)) (hx : x = nI N) (hN : N < 1000000) (hl : Cond.classLink M.1.cls idx RX1 ∈ lw_tg) (hlt : jv_n G + 1 < 1000000) (hoL : jv_ow (jv_n G) L) (hoS : jv_ow (jv_n G) S) (h : jv_V d M (pc + 3) L (.ref (jv_n G + 1) :: S) (jv_nw G (2, N) N) I J r G' I' J') : jv_V d M pc L (.int x :: S) G I J r G' I' J' := by
  subst hx
  have hm := h.1
  have hn1 : jv_n (jv_nw G (2, N) N) = jv_n G + 1 := rfl
  have hs1 : jv_s (jv_nw G (2, N) N) = jv_s G + N := rfl
  refine ⟨by omega, fun p l e R s m args below meth c H locs cells slots ls ad base D cA adS mc ms C T1 T2 T3 => ?_⟩
  have hts := C.2.2.2.2.2.2.2.1
  have hK := C.2.2.2.2.2.2.2.2.2.1
  have hE := C.2.2.2.2.2.2.2.2.2.2
  have T3' := T3
  obtain ⟨r1, r2, r3, r4, r5, r6⟩ := T3'
  refine va_newq (own := M.1.cls) (C := RX1) C.1 C.2.1 C.2.2.2.2.2.2.1 (hts _ hl) hE.2.2.2.2.2.2.1 hK T1.2.2.1 T1.2.2.2.1 T1.2.2.2.2 (fun q hq => Nat.le_trans C.2.2.2.2.2.2.2.2.1 hq) (nI_pos (by omega)) (nI_clamp (by omega)) (by omega) (by omega) (by omega) hd (fun q cA' H1 hK1 h1 h2 h3 => ?_)
  obtain ⟨-, -, -, -, -, e1⟩ := (hK.2 2 (cA 2, .object RX1) rfl).2
  obtain ⟨-, -, -, -, -, e2⟩ := (hK1.2 4 (cA', .object RX1) rfl).2
  have e3 : cA' = cA 2 := Option.some.inj (Eq.trans (Eq.symm e2) e1)
  subst e3
  refine jv_born h hlt hoL hoS (fun _ _ => rfl) (fun _ _ => rfl) C T1 T2 T3 ?_ h1 h2 h3
  rw [jv_E_2 (G := jv_nw G (2, N) N) jv_k_new]
  congr 7
  funext j
  rw [jv_r_new]
  exact if_pos rfl
theorem jv_objInit {a : Nat} (hd : decode M.2.1 pc = .ok (.invokespecial idx, 3)) (hl : Cond.methodLink M.1.cls idx Lib.objectInit ∈ lw_tg) (hin : Cond.instanceMethod Lib.objectInit ∈ lw_tg) (hco : Cond.code Lib.objectInit ⟨#[0xb1]⟩ 1 none ∈ lw_tg) (ha : a ≠ 0) (h8 : (S.map fun v => v.category).sum ≤ 8) (hd1 : 1 ≤ d) (h : jv_V d M (pc + 3) L S G I J r G' I' J') : jv_V d M pc L (.ref a :: S) G I J r G' I' J' := by
  refine ⟨h.1, fun p l e R s m args below meth c H locs cells slots ls ad base D cA adS mc ms C T1 T2 T3 => ?_⟩
  have hk := h.2 p l e R s m args below meth c H locs cells slots ls ad base D cA adS mc ms C T1 T2 T3
  have hts := C.2.2.2.2.2.2.2.1
  obtain ⟨r1, r2, r3, r4, r5, r6⟩ := T3
  rw [jv_mr ha]
  have h9 : 2 * (F0 m pc ls (.ref (ad a) :: S.map (jv_v ad))).monitorRoom + ((S.map (jv_v ad)).map fun v => v.category).sum ≤ 8 := lv_room (by rw [jv_cats]; exact h8)
  exact W.objInit C.1 C.2.1 (own := M.1.cls) C.2.2.2.2.2.2.1 (hts _ hl) (hts _ hin) (hts _ hco) (g := F0 m pc ls (.ref (ad a) :: S.map (jv_v ad))) rfl (by rw [C.2.2.1]; exact T2.2.1) rfl hd (by omega) (by omega) hk
/-- the static array, and what it holds -/
theorem jv_under_get (hd : decode M.2.1 pc = .ok (.getstatic idx, 3)) (hl : Cond.fieldLink M.1.cls idx RX4 "UNDER" "[I" ∈ lw_tg) (h : jv_V d M (pc + 3) L (.ref 1000100 :: S) G I J r G' I' J') : jv_V d M pc L S G I J r G' I' J' := by
  refine ⟨h.1, fun p l e R s m args below meth c H locs cells slots ls ad base D cA adS mc ms C T1 T2 T3 => ?_⟩
  have hk := h.2 p l e R s m args below meth c H locs cells slots ls ad base D cA adS mc ms C T1 T2 T3
  have hts := C.2.2.2.2.2.2.2.1
  have hE := C.2.2.2.2.2.2.2.2.2.2
  rw [jv_mr (by decide), T1.1 100] at hk
  exact va_gets C.1 C.2.1 (own := M.1.cls) (ref := RX4) hE.1 T1.2.2.2.2 C.2.2.2.2.2.2.1 (hts _ hl) (fun _ q => q) hd hk
theorem jv_under_at {i : Nat} (hd : decode M.2.1 pc = .ok (.iaload, 1)) (hi : i < 6) (h : jv_V d M (pc + 1) L (.int (jv_under i) :: S) G I J r G' I' J') : jv_V d M pc L (.int (nI i) :: .ref 1000100 :: S) G I J r G' I' J' := by
  refine ⟨h.1, fun p l e R s m args below meth c H locs cells slots ls ad base D cA adS mc ms C T1 T2 T3 => ?_⟩
  have hk := h.2 p l e R s m args below meth c H locs cells slots ls ad base D cA adS mc ms C T1 T2 T3
  have hE := C.2.2.2.2.2.2.2.2.2.2
  rw [List.map_cons, jv_mr (by decide), T1.1 100]
  exact va_ti C.1 C.2.1 hE.2.1 T1.2.2.2.2 (vp_in_nI hi (by omega)) (v := .int (jv_under i)) (by rw [nI_clamp (by omega)]) hd hk
end JVN
end
section
/-! ===== new long[8][40] ===== -/
def jv_g8 (G : jv_Gr) : jv_Gr := (G.1 + 9, G.2.1 + 328, fun a => if a = G.1 + 1 then (3, 8) else if G.1 + 1 < a then (1, 40) else G.2.2.1 a, fun a j => if a = G.1 + 1 then (if j < 8 then G.1 + 2 + j else 0) else if G.1 + 1 < a then 0 else G.2.2.2 a j)
def jv_zA (J : jv_J) (n : Nat) : jv_J := fun b j => if n < b then 0 else J b j
theorem jv_g8_k_old {G : jv_Gr} {b : Nat} (h : b ≤ jv_n G) : jv_k (jv_g8 G) b = jv_k G b := by
  have h' : b ≤ G.1 := h
  unfold jv_k jv_g8
  by_cases h0 : b = 0
  · simp [h0]
  · rw [if_neg (by show ¬ (b = 0 ∨ G.1 + 9 < b); omega), if_neg (by omega)]
    show (if b = G.1 + 1 then (3, 8) else if G.1 + 1 < b then (1, 40) else G.2.2.1 b) = _
    rw [if_neg (by omega), if_neg (by omega)]
theorem jv_g8_k_out {G : jv_Gr} : jv_k (jv_g8 G) (jv_n G + 1) = (3, 8) := by
  unfold jv_k jv_g8 jv_n
  rw [if_neg (by show ¬ (G.1 + 1 = 0 ∨ G.1 + 9 < G.1 + 1); omega)]
  exact if_pos rfl
theorem jv_g8_k_in {G : jv_Gr} {j : Nat} (hj : j < 8) : jv_k (jv_g8 G) (jv_n G + 2 + j) = (1, 40) := by
  unfold jv_k jv_g8 jv_n
  rw [if_neg (by show ¬ (G.1 + 2 + j = 0 ∨ G.1 + 9 < G.1 + 2 + j); omega)]
  show (if G.1 + 2 + j = G.1 + 1 then (3, 8) else if G.1 + 1 < G.1 + 2 + j then (1, 40) else G.2.2.1 _) = _
  rw [if_neg (by omega), if_pos (by omega)]
theorem jv_g8_r_old {G : jv_Gr} {b j : Nat} (h : b ≤ jv_n G) : jv_r (jv_g8 G) b j = jv_r G b j := by
  have h' : b ≤ G.1 := h
  show (if b = G.1 + 1 then (if j < 8 then G.1 + 2 + j else 0) else if G.1 + 1 < b then 0 else G.2.2.2 b j) = G.2.2.2 b j
  rw [if_neg (by omega), if_neg (by omega)]
theorem jv_g8_r_out {G : jv_Gr} {j : Nat} (hj : j < 8) : jv_r (jv_g8 G) (jv_n G + 1) j = jv_n G + 2 + j := by
  show (if G.1 + 1 = G.1 + 1 then (if j < 8 then G.1 + 2 + j else 0) else _) = G.1 + 2 + j
  rw [if_pos rfl, if_pos hj]
theorem jv_g8_r_out2 {G : jv_Gr} {j : Nat} (hj : ¬ j < 8) : jv_r (jv_g8 G) (jv_n G + 1) j = 0 := by
  show (if G.1 + 1 = G.1 + 1 then (if j < 8 then G.1 + 2 + j else 0) else _) = 0
  rw [if_pos rfl, if_neg hj]
theorem jv_g8_gw {G : jv_Gr} (h : jv_gw G) : jv_gw (jv_g8 G) := by
  intro b j hb
  have hn : jv_n (jv_g8 G) = jv_n G + 9 := rfl
  rw [hn] at hb ⊢
  by_cases h1 : b ≤ jv_n G
  · rw [jv_g8_r_old h1]
    have := h b j h1
    omega
  · by_cases h2 : b = jv_n G + 1
    · rw [h2]
      by_cases hj : j < 8
      · rw [jv_g8_r_out hj]; omega
      · rw [jv_g8_r_out2 hj]; omega
    · show (if b = G.1 + 1 then (if j < 8 then G.1 + 2 + j else 0) else if G.1 + 1 < b then 0 else G.2.2.2 b j) ≤ _
      have h1' : ¬ b ≤ G.1 := h1
      have h2' : ¬ b = G.1 + 1 := h2
      rw [if_neg h2', if_pos (by omega)]
      omega
theorem jv_g8_E {cA : Nat → ClassId} {ad ad2 : Nat → Nat} {G : jv_Gr} {I : jv_I} {J : jv_J} {b : Nat} (hg : jv_gw G) (had : ∀ b, b ≤ jv_n G → ad2 b = ad b) (h : b ≤ jv_n G) : jv_E cA ad2 (jv_g8 G) I (jv_zA J (jv_n G)) b = jv_E cA ad G I J b := by
  have hr : ∀ j, jv_r (jv_g8 G) b j = jv_r G b j := fun j => jv_g8_r_old h
  have ho : ∀ j, jv_o ad2 (jv_r G b j) = jv_o ad (jv_r G b j) := fun j => jv_o_eq (had _ (hg b j h))
  have hJ : jv_zA J (jv_n G) b = J b := by
    funext j
    show (if jv_n G < b then 0 else J b j) = J b j
    exact if_neg (by omega)
  have hf : jv_fs ad2 (jv_g8 G) I ((jv_k G b).1 - 10) b = jv_fs ad G I ((jv_k G b).1 - 10) b := by
    unfold jv_fs
    apply List.map_congr_left
    intro k _
    unfold jv_f
    rw [hr, ho]
  unfold jv_E
  rw [jv_g8_k_old h, hf, hJ]
  simp only [hr, ho]
theorem jv_outer (c : ClassId) (N h0 : Nat) : ∀ i : Nat, Jvm.Free.Multi.outerC c N h0 i = arrV c N (fun j => va_rf (if j < i then some (h0 + 1 + j) else none))
  | 0 => by
    show ({ cls := c, slots := Array.replicate N .null, vm := .none } : Cell) = _
    rw [arrV_new]
    refine congrArg (arrV c N) (funext fun j => ?_)
    simp [va_rf]
  | i + 1 => by
    show (Jvm.Free.Multi.outerC c N h0 i).setSlot i (.ref (h0 + 1 + i)) = _
    rw [jv_outer c N h0 i, arrV_store]
    refine congrArg (arrV c N) (funext fun j => ?_)
    by_cases e : j = i
    · subst e
      simp [updV, va_rf]
    · by_cases h : j < i
      · simp [updV, e, h, Nat.lt_succ_of_lt h]
      · simp [updV, e, h, show ¬ j < i + 1 by omega]
section JVG
variable {d pc idx : Nat} {M : jv_M} {L S : List Value} {G G' : jv_Gr} {I I' : jv_I} {J J' : jv_J} {r : Option Value}
theorem jv_grid (hd : decode M.2.1 pc = .ok (.multianewarray idx 2, 4)) (hl : Cond.classLink M.1.cls idx "[[J" ∈ lw_tg) (har : Cond.arrayClass .long ∈ lw_tg) (hlt : jv_n G + 9 < 1000000) (hoL : jv_ow (jv_n G) L) (hoS : jv_ow (jv_n G) S) (h : jv_V d M (pc + 4) L (.ref (jv_n G + 1) :: S) (jv_g8 G) I (jv_zA J (jv_n G)) r G' I' J') : jv_V d M pc L (.int (nI 40) :: .int (nI 8) :: S) G I J r G' I' J' := by
  have hm := h.1
  have hn1 : jv_n (jv_g8 G) = jv_n G + 9 := rfl
  have hs1 : jv_s (jv_g8 G) = jv_s G + 328 := rfl
  refine ⟨by omega, fun p l e R s m args below meth c H locs cells slots ls ad base D cA adS mc ms C T1 T2 T3 => ?_⟩
  have hts := C.2.2.2.2.2.2.2.1
  have hK := C.2.2.2.2.2.2.2.2.2.1
  have hE := C.2.2.2.2.2.2.2.2.2.2
  obtain ⟨r1, r2, r3, r4, r5, r6⟩ := T3
  obtain ⟨t1, t2, t3, t4, t5⟩ := T1
  intro T hT X
  have hover : (Cond.arrayOver (.array .long)).before args s = true := hE.2.2.2.2.2.2.2
  have c8 : (nI 8).toNatClampNeg = 8 := nI_clamp (by omega)
  have c40 : (nI 40).toNatClampNeg = 40 := nI_clamp (by omega)
  obtain ⟨vm₁, cA', comp, -, fA, fC, hO, hIn, X', step⟩ := X.multianewarray2F C.1 (own := M.1.cls) (index := idx) (ty := .long) C.2.2.2.2.2.2.1 (hts _ hl) hover (hts _ har) (g := F0 m pc ls (.int (nI 40) :: .int (nI 8) :: S.map (jv_v ad))) rfl (by rw [C.2.1]; exact hd) rfl (nI_pos (by omega)) (nI_pos (by omega)) (by rw [c8]; omega) (by rw [c40]; show 40 * 8 ≤ _; omega) (by rw [c40]; omega) rfl rfl (by rw [c8]; omega) (by rw [c8, c40]; omega)
  rw [c8, c40] at X' step
  have e1 : cA' = cA 3 := Option.some.inj (Eq.trans (Eq.symm fA) (hK.2 3 (cA 3, .array .long) rfl).2)
  have e2 : comp = cA 1 := Option.some.inj (Eq.trans (Eq.symm fC) (hK.2 1 (cA 1, .long) rfl).2)
  subst e1
  subst e2
  obtain ⟨f1, f2, -, -⟩ := Jvm.Free.Multi.fill_facts (T.setVm vm₁) (cA 3) (cA 1) 8 40 (defaultValue .long) 8
  have hold := fun x hx => Jvm.Free.Multi.fill_old (T.setVm vm₁) (cA 3) (cA 1) 8 40 (defaultValue .long) (a := x) hx 8
  have hrow := fun j hj => Jvm.Free.Multi.fill_inner (T.setVm vm₁) (cA 3) (cA 1) 8 40 (defaultValue .long) 8 j hj
  generalize hF : Jvm.Free.Multi.fill (T.setVm vm₁) (cA 3) (cA 1) 8 40 (defaultValue .long) 8 = F at X' step f1 f2 hold hrow
  have hTh : (T.setVm vm₁).heap = H := hT
  rw [hTh] at f1 f2 hold hrow
  rw [jv_outer] at f2
  obtain ⟨ad2, had2⟩ : ∃ f : Nat → Nat, f = fun k => if jv_n G < k ∧ k ≤ jv_n G + 9 then H.size + (k - (jv_n G + 1)) else ad k := ⟨_, rfl⟩
  have ad2_old : ∀ k, (k ≤ jv_n G ∨ jv_n G + 9 < k) → ad2 k = ad k := fun k hk => by rw [had2]; exact if_neg (by omega)
  have ad2_new : ∀ j, j < 9 → ad2 (jv_n G + 1 + j) = H.size + j := fun j hj => by
    rw [had2]
    show (if jv_n G < jv_n G + 1 + j ∧ jv_n G + 1 + j ≤ jv_n G + 9 then H.size + (jv_n G + 1 + j - (jv_n G + 1)) else ad (jv_n G + 1 + j)) = _
    rw [if_pos ⟨by omega, by omega⟩]
    omega
  have hsplit : ∀ (k : Nat) (q : Nat × va_E), (jv_W cA ad2 (jv_g8 G) I (jv_zA J (jv_n G)))[k]? = some q → (k < jv_n G ∧ (jv_W cA ad G I J)[k]? = some q) ∨ (∃ j, j < 9 ∧ k = jv_n G + j ∧ q = (H.size + j, jv_E cA ad2 (jv_g8 G) I (jv_zA J (jv_n G)) (jv_n G + 1 + j))) := by
    intro k q hk
    have hkl : k < jv_n G + 9 := by
      have := (List.getElem?_eq_some_iff.mp hk).1
      rw [jv_W_len, hn1] at this
      exact this
    have e := jv_W_at (cA := cA) (ad := ad2) (G := jv_g8 G) (I := I) (J := jv_zA J (jv_n G)) (a := k + 1) ⟨by omega, by rw [hn1]; omega⟩
    rw [Nat.add_sub_cancel, hk] at e
    by_cases hkn : k < jv_n G
    · refine Or.inl ⟨hkn, ?_⟩
      have e' := jv_W_at (cA := cA) (ad := ad) (G := G) (I := I) (J := J) (a := k + 1) ⟨by omega, by omega⟩
      rw [Nat.add_sub_cancel] at e'
      rw [e', e, ad2_old _ (Or.inl (by omega)), jv_g8_E t2 (fun b hb => ad2_old b (Or.inl hb)) (by omega)]
    · refine Or.inr ⟨k - jv_n G, by omega, by omega, ?_⟩
      have e3 : k + 1 = jv_n G + 1 + (k - jv_n G) := by omega
      rw [e3, ad2_new _ (by omega)] at e
      exact Option.some.inj e
  have hlt0 : ∀ (k : Nat) (q : Nat × va_E), (jv_W cA ad G I J)[k]? = some q → q.1 < H.size := fun k q hk => (t3 k q hk).lt
  have hP2 : va_P D vwCl (jv_W cA ad2 (jv_g8 G) I (jv_zA J (jv_n G))) F.heap := by
    intro k q hk
    rcases hsplit k q hk with ⟨-, h1⟩ | ⟨j, hj, -, rfl⟩
    · exact (t3 k q h1).kept (hold q.1 (hlt0 k q h1))
    · by_cases hj0 : j = 0
      · subst hj0
        rw [Nat.add_zero, Nat.add_zero, jv_E_3 (G := jv_g8 G) jv_g8_k_out]
        show F.heap[H.size]? = some (vp_cell _ _)
        rw [f2, vp_cell_q]
        congr 2
        funext i
        by_cases hi : i < 8
        · rw [if_pos hi, jv_g8_r_out hi]
          unfold jv_o
          rw [if_neg (by omega), show jv_n G + 2 + i = jv_n G + 1 + (1 + i) by omega, ad2_new _ (by omega)]
          congr 2
          omega
        · rw [if_neg hi, jv_g8_r_out2 hi]; rfl
      · rw [show jv_n G + 1 + j = jv_n G + 2 + (j - 1) by omega, jv_E_1 (G := jv_g8 G) (jv_g8_k_in (by omega))]
        show F.heap[H.size + j]? = some (vp_cell _ _)
        have := hrow (j - 1) (by omega)
        rw [show H.size + 1 + (j - 1) = H.size + j by omega] at this
        rw [this, vp_cell_l]
        show some ({ cls := cA 1, slots := Array.replicate 40 (defaultValue .long), vm := .none } : Cell) = _
        rw [arrV_new]
        congr 2
        funext i
        show Value.long 0 = .long (if jv_n G < jv_n G + 2 + (j - 1) then 0 else J _ i)
        rw [if_pos (by omega)]
  have hD2 : va_D (fun q => base ≤ q) (jv_W cA ad2 (jv_g8 G) I (jv_zA J (jv_n G))) := by
    refine ⟨fun i j x y hi hj hxy => ?_, fun k q hk => ?_⟩
    · rcases hsplit i x hi with ⟨a1, a2⟩ | ⟨u, hu, rfl, rfl⟩ <;> rcases hsplit j y hj with ⟨b1, b2⟩ | ⟨w, hw, rfl, rfl⟩
      · exact t4.1 i j x y a2 b2 hxy
      · have := hlt0 i x a2
        have hxy' : x.1 = H.size + w := hxy
        omega
      · have := hlt0 j y b2
        have hxy' : H.size + u = y.1 := hxy
        omega
      · have hxy' : H.size + u = H.size + w := hxy
        omega
    · rcases hsplit k q hk with ⟨-, a2⟩ | ⟨u, hu, rfl, rfl⟩
      · exact t4.2 k q a2
      · show base ≤ H.size + u
        have := C.2.2.2.2.2.2.2.2.1
        have := t5.1
        omega
  have hS2 : va_S (fun q => base ≤ q) s.heap F.heap locs := ⟨by rw [f1]; have := t5.1; omega, fun q h1 h2 => (hold q (Nat.lt_of_lt_of_le h1 t5.1)).trans (t5.2.1 q h1 h2), t5.2.2⟩
  have hag : ∀ (vs : List Value), jv_ow (jv_n G) vs → ∀ v ∈ vs, ∀ q : Nat, v = .ref q → ad2 q = ad q := fun vs hvs v hv q e => ad2_old q (by have := hvs v hv q e; omega)
  have hk := h.2 p l e R s m args below meth c F.heap locs (cells + 1 + 8) (slots + 8 + 8 * 40) ls ad2 base D cA adS mc ms C ⟨fun j => (ad2_old _ (Or.inr (by omega))).trans (t1 j), jv_g8_gw t2, hP2, hD2, hS2⟩ (T2.ad (hag L hoL)) ⟨r1, r2, r3, r4, by rw [hn1]; omega, by rw [hs1]; omega⟩
  have hq1 : ad2 (jv_n G + 1) = H.size := ad2_new 0 (by omega)
  rw [jv_mr (by omega), hq1, jv_S_ad (hag S hoS)] at hk
  have hk2 := jv_W.mono (jv_MQ.mono (jv_Q_up (ad := ad) (n := jv_n G) (fun b hb => ad2_old b (by omega)) (by rw [hn1]; omega))) hk
  obtain ⟨t, a1, b1⟩ := hk2 F rfl X'
  refine ⟨t, step t ?_, b1⟩
  have e9 : T.heap.size = H.size := by rw [hT]
  rw [e9]
  exact a1
end JVG
end
section
theorem tb_0 {w : Cond} (h : w ∈ tables_1) : w ∈ lw_tbl := List.mem_append_right _ h
theorem tb_1 {w : Cond} (h : w ∈ tables_1_1) : w ∈ lw_tbl := tb_0 (List.mem_append_left _ h)
theorem tb_2 {w : Cond} (h : w ∈ tables_1_2) : w ∈ lw_tbl := tb_0 (List.mem_append_right _ (List.mem_append_left _ h))
theorem tb_3 {w : Cond} (h : w ∈ tables_1_3) : w ∈ lw_tbl := tb_0 (List.mem_append_right _ (List.mem_append_right _ (List.mem_append_left _ h)))
theorem tb_4 {w : Cond} (h : w ∈ tables_1_4) : w ∈ lw_tbl := tb_0 (List.mem_append_right _ (List.mem_append_right _ (List.mem_append_right _ (List.mem_append_left _ h))))
theorem tb_5 {w : Cond} (h : w ∈ tables_1_5) : w ∈ lw_tbl := tb_0 (List.mem_append_right _ (List.mem_append_right _ (List.mem_append_right _ (List.mem_append_right _ (List.mem_append_left _ h)))))
theorem tb_6 {w : Cond} (h : w ∈ tables_1_6) : w ∈ lw_tbl := tb_0 (List.mem_append_right _ (List.mem_append_right _ (List.mem_append_right _ (List.mem_append_right _ (List.mem_append_right _ (h))))))
abbrev mX4_init : jv_M := (yX4_init, cX4_init, 2, none)
theorem okX4_init : jv_ok mX4_init 0 := ⟨lw_tg_in (tb_1 (List.mem_of_getElem? (i := 17) rfl)) rfl, lw_tg_in (tb_1 (List.mem_of_getElem? (i := 1) rfl)) rfl, ⟨by decide +kernel, by decide +kernel, by decide +kernel⟩, by decide +kernel, by decide⟩
theorem inX4_init : Cond.instanceMethod yX4_init ∈ lw_tg := lw_tg_in (tb_1 (List.mem_of_getElem? (i := 16) rfl)) rfl
abbrev mX3_init : jv_M := (yX3_init, cX3_init, 1, none)
theorem okX3_init : jv_ok mX3_init 0 := ⟨lw_tg_in (tb_1 (List.mem_of_getElem? (i := 25) rfl)) rfl, lw_tg_in (tb_1 (List.mem_of_getElem? (i := 2) rfl)) rfl, ⟨by decide +kernel, by decide +kernel, by decide +kernel⟩, by decide +kernel, by decide⟩
theorem inX3_init : Cond.instanceMethod yX3_init ∈ lw_tg := lw_tg_in (tb_1 (List.mem_of_getElem? (i := 24) rfl)) rfl
abbrev mX0_init : jv_M := (yX0_init, cX0_init, 2, none)
theorem okX0_init : jv_ok mX0_init 1 := ⟨lw_tg_in (tb_1 (List.mem_of_getElem? (i := 104) rfl)) rfl, lw_tg_in (tb_1 (List.mem_of_getElem? (i := 3) rfl)) rfl, ⟨by decide +kernel, by decide +kernel, by decide +kernel⟩, by decide +kernel, by decide⟩
theorem inX0_init : Cond.instanceMethod yX0_init ∈ lw_tg := lw_tg_in (tb_1 (List.mem_of_getElem? (i := 103) rfl)) rfl
abbrev mX2_init : jv_M := (yX2_init, cX2_init, 1, none)
theorem okX2_init : jv_ok mX2_init 0 := ⟨lw_tg_in (tb_1 (List.mem_of_getElem? (i := 130) rfl)) rfl, lw_tg_in (tb_1 (List.mem_of_getElem? (i := 4) rfl)) rfl, ⟨by decide +kernel, by decide +kernel, by decide +kernel⟩, by decide +kernel, by decide⟩
theorem inX2_init : Cond.instanceMethod yX2_init ∈ lw_tg := lw_tg_in (tb_1 (List.mem_of_getElem? (i := 129) rfl)) rfl
abbrev mX1_init : jv_M := (yX1_init, cX1_init, 1, none)
theorem okX1_init : jv_ok mX1_init 0 := ⟨lw_tg_in (tb_1 (List.mem_of_getElem? (i := 154) rfl)) rfl, lw_tg_in (tb_1 (List.mem_of_getElem? (i := 5) rfl)) rfl, ⟨by decide +kernel, by decide +kernel, by decide +kernel⟩, by decide +kernel, by decide⟩
theorem inX1_init : Cond.instanceMethod yX1_init ∈ lw_tg := lw_tg_in (tb_1 (List.mem_of_getElem? (i := 153) rfl)) rfl
abbrev mX4_row : jv_M := (yX4_row, cX4_row, 4, some .int)
theorem okX4_row : jv_ok mX4_row 3 := ⟨lw_tg_in (tb_1 (List.mem_of_getElem? (i := 198) rfl)) rfl, lw_tg_in (tb_1 (List.mem_of_getElem? (i := 1) rfl)) rfl, ⟨by decide +kernel, by decide +kernel, by decide +kernel⟩, by decide +kernel, by decide⟩
theorem inX4_row : Cond.instanceMethod yX4_row ∈ lw_tg := lw_tg_in (tb_1 (List.mem_of_getElem? (i := 196) rfl)) rfl
theorem seX4_row : Cond.selects RX4 yX4_row yX4_row ∈ lw_tg := lw_tg_in (tb_1 (List.mem_of_getElem? (i := 197) rfl)) rfl
abbrev mX4_isShelf : jv_M := (yX4_isShelf, cX4_isShelf, 1, some .boolean)
theorem okX4_isShelf : jv_ok mX4_isShelf 1 := ⟨lw_tg_in (tb_1 (List.mem_of_getElem? (i := 201) rfl)) rfl, lw_tg_in (tb_1 (List.mem_of_getElem? (i := 1) rfl)) rfl, ⟨by decide +kernel, by decide +kernel, by decide +kernel⟩, by decide +kernel, by decide⟩
theorem stX4_isShelf : Cond.static yX4_isShelf ∈ lw_tg := lw_tg_in (tb_1 (List.mem_of_getElem? (i := 200) rfl)) rfl
abbrev mX4_within : jv_M := (yX4_within, cX4_within, 3, some .boolean)
theorem okX4_within : jv_ok mX4_within 3 := ⟨lw_tg_in (tb_1 (List.mem_of_getElem? (i := 204) rfl)) rfl, lw_tg_in (tb_1 (List.mem_of_getElem? (i := 1) rfl)) rfl, ⟨by decide +kernel, by decide +kernel, by decide +kernel⟩, by decide +kernel, by decide⟩
theorem stX4_within : Cond.static yX4_within ∈ lw_tg := lw_tg_in (tb_1 (List.mem_of_getElem? (i := 203) rfl)) rfl
abbrev mX4_refuse : jv_M := (yX4_refuse, cX4_refuse, 3, some .int)
theorem okX4_refuse : jv_ok mX4_refuse 1 := ⟨lw_tg_in (tb_1 (List.mem_of_getElem? (i := 208) rfl)) rfl, lw_tg_in (tb_1 (List.mem_of_getElem? (i := 1) rfl)) rfl, ⟨by decide +kernel, by decide +kernel, by decide +kernel⟩, by decide +kernel, by decide⟩
theorem inX4_refuse : Cond.instanceMethod yX4_refuse ∈ lw_tg := lw_tg_in (tb_1 (List.mem_of_getElem? (i := 207) rfl)) rfl
theorem seX4_refuse : Cond.selects RX4 yX4_refuse yX4_refuse ∈ lw_tg := lw_tg_in (List.mem_of_getElem? (i := 0) (by decide +kernel)) rfl
abbrev mX1_takeRow : jv_M := (yX1_takeRow, cX1_takeRow, 4, none)
theorem okX1_takeRow : jv_ok mX1_takeRow 2 := ⟨lw_tg_in (tb_1 (List.mem_of_getElem? (i := 212) rfl)) rfl, lw_tg_in (tb_1 (List.mem_of_getElem? (i := 5) rfl)) rfl, ⟨by decide +kernel, by decide +kernel, by decide +kernel⟩, by decide +kernel, by decide⟩
theorem inX1_takeRow : Cond.instanceMethod yX1_takeRow ∈ lw_tg := lw_tg_in (tb_1 (List.mem_of_getElem? (i := 210) rfl)) rfl
theorem seX1_takeRow : Cond.selects RX1 yX1_takeRow yX1_takeRow ∈ lw_tg := lw_tg_in (tb_1 (List.mem_of_getElem? (i := 211) rfl)) rfl
abbrev mX4_set : jv_M := (yX4_set, cX4_set, 6, some .int)
theorem okX4_set : jv_ok mX4_set 3 := ⟨lw_tg_in (tb_1 (List.mem_of_getElem? (i := 216) rfl)) rfl, lw_tg_in (tb_1 (List.mem_of_getElem? (i := 1) rfl)) rfl, ⟨by decide +kernel, by decide +kernel, by decide +kernel⟩, by decide +kernel, by decide⟩
theorem inX4_set : Cond.instanceMethod yX4_set ∈ lw_tg := lw_tg_in (tb_1 (List.mem_of_getElem? (i := 214) rfl)) rfl
theorem seX4_set : Cond.selects RX4 yX4_set yX4_set ∈ lw_tg := lw_tg_in (tb_1 (List.mem_of_getElem? (i := 215) rfl)) rfl
abbrev mX4_rowTrouble : jv_M := (yX4_rowTrouble, cX4_rowTrouble, 2, some .int)
theorem okX4_rowTrouble : jv_ok mX4_rowTrouble 1 := ⟨lw_tg_in (tb_1 (List.mem_of_getElem? (i := 220) rfl)) rfl, lw_tg_in (tb_1 (List.mem_of_getElem? (i := 1) rfl)) rfl, ⟨by decide +kernel, by decide +kernel, by decide +kernel⟩, by decide +kernel, by decide⟩
theorem inX4_rowTrouble : Cond.instanceMethod yX4_rowTrouble ∈ lw_tg := lw_tg_in (tb_1 (List.mem_of_getElem? (i := 219) rfl)) rfl
theorem seX4_rowTrouble : Cond.selects RX4 yX4_rowTrouble yX4_rowTrouble ∈ lw_tg := lw_tg_in (List.mem_of_getElem? (i := 1) (by decide +kernel)) rfl
abbrev mX1_isCount : jv_M := (yX1_isCount, cX1_isCount, 1, some .boolean)
theorem okX1_isCount : jv_ok mX1_isCount 0 := ⟨lw_tg_in (tb_1 (List.mem_of_getElem? (i := 224) rfl)) rfl, lw_tg_in (tb_1 (List.mem_of_getElem? (i := 5) rfl)) rfl, ⟨by decide +kernel, by decide +kernel, by decide +kernel⟩, by decide +kernel, by decide⟩
theorem inX1_isCount : Cond.instanceMethod yX1_isCount ∈ lw_tg := lw_tg_in (tb_1 (List.mem_of_getElem? (i := 222) rfl)) rfl
theorem seX1_isCount : Cond.selects RX1 yX1_isCount yX1_isCount ∈ lw_tg := lw_tg_in (tb_1 (List.mem_of_getElem? (i := 223) rfl)) rfl
abbrev mX1_isRow : jv_M := (yX1_isRow, cX1_isRow, 1, some .boolean)
theorem okX1_isRow : jv_ok mX1_isRow 0 := ⟨lw_tg_in (tb_1 (List.mem_of_getElem? (i := 228) rfl)) rfl, lw_tg_in (tb_1 (List.mem_of_getElem? (i := 5) rfl)) rfl, ⟨by decide +kernel, by decide +kernel, by decide +kernel⟩, by decide +kernel, by decide⟩
theorem inX1_isRow : Cond.instanceMethod yX1_isRow ∈ lw_tg := lw_tg_in (tb_1 (List.mem_of_getElem? (i := 226) rfl)) rfl
theorem seX1_isRow : Cond.selects RX1 yX1_isRow yX1_isRow ∈ lw_tg := lw_tg_in (tb_1 (List.mem_of_getElem? (i := 227) rfl)) rfl
abbrev mX1_hasElement : jv_M := (yX1_hasElement, cX1_hasElement, 2, some .boolean)
theorem okX1_hasElement : jv_ok mX1_hasElement 1 := ⟨lw_tg_in (tb_1 (List.mem_of_getElem? (i := 233) rfl)) rfl, lw_tg_in (tb_1 (List.mem_of_getElem? (i := 5) rfl)) rfl, ⟨by decide +kernel, by decide +kernel, by decide +kernel⟩, by decide +kernel, by decide⟩
theorem inX1_hasElement : Cond.instanceMethod yX1_hasElement ∈ lw_tg := lw_tg_in (tb_1 (List.mem_of_getElem? (i := 231) rfl)) rfl
theorem seX1_hasElement : Cond.selects RX1 yX1_hasElement yX1_hasElement ∈ lw_tg := lw_tg_in (tb_1 (List.mem_of_getElem? (i := 232) rfl)) rfl
abbrev mX1_put : jv_M := (yX1_put, cX1_put, 4, none)
theorem okX1_put : jv_ok mX1_put 2 := ⟨lw_tg_in (tb_1 (List.mem_of_getElem? (i := 237) rfl)) rfl, lw_tg_in (tb_1 (List.mem_of_getElem? (i := 5) rfl)) rfl, ⟨by decide +kernel, by decide +kernel, by decide +kernel⟩, by decide +kernel, by decide⟩
theorem inX1_put : Cond.instanceMethod yX1_put ∈ lw_tg := lw_tg_in (tb_1 (List.mem_of_getElem? (i := 235) rfl)) rfl
theorem seX1_put : Cond.selects RX1 yX1_put yX1_put ∈ lw_tg := lw_tg_in (tb_1 (List.mem_of_getElem? (i := 236) rfl)) rfl
abbrev mX4_copy : jv_M := (yX4_copy, cX4_copy, 7, some .int)
theorem okX4_copy : jv_ok mX4_copy 5 := ⟨lw_tg_in (tb_2 (List.mem_of_getElem? (i := 1) rfl)) rfl, lw_tg_in (tb_1 (List.mem_of_getElem? (i := 1) rfl)) rfl, ⟨by decide +kernel, by decide +kernel, by decide +kernel⟩, by decide +kernel, by decide⟩
theorem inX4_copy : Cond.instanceMethod yX4_copy ∈ lw_tg := lw_tg_in (tb_1 (List.mem_of_getElem? (i := 239) rfl)) rfl
theorem seX4_copy : Cond.selects RX4 yX4_copy yX4_copy ∈ lw_tg := lw_tg_in (tb_2 (List.mem_of_getElem? (i := 0) rfl)) rfl
abbrev mX4_copyTrouble : jv_M := (yX4_copyTrouble, cX4_copyTrouble, 3, some .int)
theorem okX4_copyTrouble : jv_ok mX4_copyTrouble 2 := ⟨lw_tg_in (tb_2 (List.mem_of_getElem? (i := 5) rfl)) rfl, lw_tg_in (tb_1 (List.mem_of_getElem? (i := 1) rfl)) rfl, ⟨by decide +kernel, by decide +kernel, by decide +kernel⟩, by decide +kernel, by decide⟩
theorem inX4_copyTrouble : Cond.instanceMethod yX4_copyTrouble ∈ lw_tg := lw_tg_in (tb_2 (List.mem_of_getElem? (i := 4) rfl)) rfl
theorem seX4_copyTrouble : Cond.selects RX4 yX4_copyTrouble yX4_copyTrouble ∈ lw_tg := lw_tg_in (List.mem_of_getElem? (i := 2) (by decide +kernel)) rfl
abbrev mX1_hasStretch : jv_M := (yX1_hasStretch, cX1_hasStretch, 3, some .boolean)
theorem okX1_hasStretch : jv_ok mX1_hasStretch 2 := ⟨lw_tg_in (tb_2 (List.mem_of_getElem? (i := 9) rfl)) rfl, lw_tg_in (tb_1 (List.mem_of_getElem? (i := 5) rfl)) rfl, ⟨by decide +kernel, by decide +kernel, by decide +kernel⟩, by decide +kernel, by decide⟩
theorem inX1_hasStretch : Cond.instanceMethod yX1_hasStretch ∈ lw_tg := lw_tg_in (tb_2 (List.mem_of_getElem? (i := 7) rfl)) rfl
theorem seX1_hasStretch : Cond.selects RX1 yX1_hasStretch yX1_hasStretch ∈ lw_tg := lw_tg_in (tb_2 (List.mem_of_getElem? (i := 8) rfl)) rfl
abbrev mX4_element : jv_M := (yX4_element, cX4_element, 3, some .long)
theorem okX4_element : jv_ok mX4_element 2 := ⟨lw_tg_in (tb_2 (List.mem_of_getElem? (i := 16) rfl)) rfl, lw_tg_in (tb_1 (List.mem_of_getElem? (i := 1) rfl)) rfl, ⟨by decide +kernel, by decide +kernel, by decide +kernel⟩, by decide +kernel, by decide⟩
theorem inX4_element : Cond.instanceMethod yX4_element ∈ lw_tg := lw_tg_in (tb_2 (List.mem_of_getElem? (i := 14) rfl)) rfl
theorem seX4_element : Cond.selects RX4 yX4_element yX4_element ∈ lw_tg := lw_tg_in (tb_2 (List.mem_of_getElem? (i := 15) rfl)) rfl
abbrev mX4_holds : jv_M := (yX4_holds, cX4_holds, 2, some .int)
theorem okX4_holds : jv_ok mX4_holds 1 := ⟨lw_tg_in (tb_2 (List.mem_of_getElem? (i := 20) rfl)) rfl, lw_tg_in (tb_1 (List.mem_of_getElem? (i := 1) rfl)) rfl, ⟨by decide +kernel, by decide +kernel, by decide +kernel⟩, by decide +kernel, by decide⟩
theorem inX4_holds : Cond.instanceMethod yX4_holds ∈ lw_tg := lw_tg_in (tb_2 (List.mem_of_getElem? (i := 18) rfl)) rfl
theorem seX4_holds : Cond.selects RX4 yX4_holds yX4_holds ∈ lw_tg := lw_tg_in (tb_2 (List.mem_of_getElem? (i := 19) rfl)) rfl
abbrev mX4_show : jv_M := (yX4_show, cX4_show, 3, some .int)
theorem okX4_show : jv_ok mX4_show 2 := ⟨lw_tg_in (tb_2 (List.mem_of_getElem? (i := 24) rfl)) rfl, lw_tg_in (tb_1 (List.mem_of_getElem? (i := 1) rfl)) rfl, ⟨by decide +kernel, by decide +kernel, by decide +kernel⟩, by decide +kernel, by decide⟩
theorem inX4_show : Cond.instanceMethod yX4_show ∈ lw_tg := lw_tg_in (tb_2 (List.mem_of_getElem? (i := 22) rfl)) rfl
theorem seX4_show : Cond.selects RX4 yX4_show yX4_show ∈ lw_tg := lw_tg_in (tb_2 (List.mem_of_getElem? (i := 23) rfl)) rfl
abbrev mX3_hasCount : jv_M := (yX3_hasCount, cX3_hasCount, 2, some .boolean)
theorem okX3_hasCount : jv_ok mX3_hasCount 1 := ⟨lw_tg_in (tb_2 (List.mem_of_getElem? (i := 28) rfl)) rfl, lw_tg_in (tb_1 (List.mem_of_getElem? (i := 2) rfl)) rfl, ⟨by decide +kernel, by decide +kernel, by decide +kernel⟩, by decide +kernel, by decide⟩
theorem inX3_hasCount : Cond.instanceMethod yX3_hasCount ∈ lw_tg := lw_tg_in (tb_2 (List.mem_of_getElem? (i := 26) rfl)) rfl
theorem seX3_hasCount : Cond.selects RX3 yX3_hasCount yX3_hasCount ∈ lw_tg := lw_tg_in (tb_2 (List.mem_of_getElem? (i := 27) rfl)) rfl
abbrev mX1_takeNothing : jv_M := (yX1_takeNothing, cX1_takeNothing, 1, none)
theorem okX1_takeNothing : jv_ok mX1_takeNothing 0 := ⟨lw_tg_in (tb_2 (List.mem_of_getElem? (i := 33) rfl)) rfl, lw_tg_in (tb_1 (List.mem_of_getElem? (i := 5) rfl)) rfl, ⟨by decide +kernel, by decide +kernel, by decide +kernel⟩, by decide +kernel, by decide⟩
theorem inX1_takeNothing : Cond.instanceMethod yX1_takeNothing ∈ lw_tg := lw_tg_in (tb_2 (List.mem_of_getElem? (i := 31) rfl)) rfl
theorem seX1_takeNothing : Cond.selects RX1 yX1_takeNothing yX1_takeNothing ∈ lw_tg := lw_tg_in (tb_2 (List.mem_of_getElem? (i := 32) rfl)) rfl
abbrev mX1_takeCount : jv_M := (yX1_takeCount, cX1_takeCount, 2, none)
theorem okX1_takeCount : jv_ok mX1_takeCount 1 := ⟨lw_tg_in (tb_2 (List.mem_of_getElem? (i := 37) rfl)) rfl, lw_tg_in (tb_1 (List.mem_of_getElem? (i := 5) rfl)) rfl, ⟨by decide +kernel, by decide +kernel, by decide +kernel⟩, by decide +kernel, by decide⟩
theorem inX1_takeCount : Cond.instanceMethod yX1_takeCount ∈ lw_tg := lw_tg_in (tb_2 (List.mem_of_getElem? (i := 35) rfl)) rfl
theorem seX1_takeCount : Cond.selects RX1 yX1_takeCount yX1_takeCount ∈ lw_tg := lw_tg_in (tb_2 (List.mem_of_getElem? (i := 36) rfl)) rfl
abbrev mX4_says : jv_M := (yX4_says, cX4_says, 4, some .int)
theorem okX4_says : jv_ok mX4_says 2 := ⟨lw_tg_in (tb_2 (List.mem_of_getElem? (i := 41) rfl)) rfl, lw_tg_in (tb_1 (List.mem_of_getElem? (i := 1) rfl)) rfl, ⟨by decide +kernel, by decide +kernel, by decide +kernel⟩, by decide +kernel, by decide⟩
theorem inX4_says : Cond.instanceMethod yX4_says ∈ lw_tg := lw_tg_in (tb_2 (List.mem_of_getElem? (i := 39) rfl)) rfl
theorem seX4_says : Cond.selects RX4 yX4_says yX4_says ∈ lw_tg := lw_tg_in (tb_2 (List.mem_of_getElem? (i := 40) rfl)) rfl
abbrev mX1_countNumber : jv_M := (yX1_countNumber, cX1_countNumber, 1, some .int)
theorem okX1_countNumber : jv_ok mX1_countNumber 0 := ⟨lw_tg_in (tb_2 (List.mem_of_getElem? (i := 45) rfl)) rfl, lw_tg_in (tb_1 (List.mem_of_getElem? (i := 5) rfl)) rfl, ⟨by decide +kernel, by decide +kernel, by decide +kernel⟩, by decide +kernel, by decide⟩
theorem inX1_countNumber : Cond.instanceMethod yX1_countNumber ∈ lw_tg := lw_tg_in (tb_2 (List.mem_of_getElem? (i := 43) rfl)) rfl
theorem seX1_countNumber : Cond.selects RX1 yX1_countNumber yX1_countNumber ∈ lw_tg := lw_tg_in (tb_2 (List.mem_of_getElem? (i := 44) rfl)) rfl
abbrev mX4_isOfKind : jv_M := (yX4_isOfKind, cX4_isOfKind, 2, some .boolean)
theorem okX4_isOfKind : jv_ok mX4_isOfKind 2 := ⟨lw_tg_in (tb_2 (List.mem_of_getElem? (i := 49) rfl)) rfl, lw_tg_in (tb_1 (List.mem_of_getElem? (i := 1) rfl)) rfl, ⟨by decide +kernel, by decide +kernel, by decide +kernel⟩, by decide +kernel, by decide⟩
theorem stX4_isOfKind : Cond.static yX4_isOfKind ∈ lw_tg := lw_tg_in (tb_2 (List.mem_of_getElem? (i := 48) rfl)) rfl
abbrev mX4_saying : jv_M := (yX4_saying, cX4_saying, 4, some .int)
theorem okX4_saying : jv_ok mX4_saying 2 := ⟨lw_tg_in (tb_2 (List.mem_of_getElem? (i := 55) rfl)) rfl, lw_tg_in (tb_1 (List.mem_of_getElem? (i := 1) rfl)) rfl, ⟨by decide +kernel, by decide +kernel, by decide +kernel⟩, by decide +kernel, by decide⟩
theorem inX4_saying : Cond.instanceMethod yX4_saying ∈ lw_tg := lw_tg_in (tb_2 (List.mem_of_getElem? (i := 54) rfl)) rfl
theorem seX4_saying : Cond.selects RX4 yX4_saying yX4_saying ∈ lw_tg := lw_tg_in (List.mem_of_getElem? (i := 3) (by decide +kernel)) rfl
abbrev mX3_sideAt : jv_M := (yX3_sideAt, cX3_sideAt, 5, some .int)
theorem okX3_sideAt : jv_ok mX3_sideAt 2 := ⟨lw_tg_in (tb_2 (List.mem_of_getElem? (i := 59) rfl)) rfl, lw_tg_in (tb_1 (List.mem_of_getElem? (i := 2) rfl)) rfl, ⟨by decide +kernel, by decide +kernel, by decide +kernel⟩, by decide +kernel, by decide⟩
theorem inX3_sideAt : Cond.instanceMethod yX3_sideAt ∈ lw_tg := lw_tg_in (tb_2 (List.mem_of_getElem? (i := 57) rfl)) rfl
theorem seX3_sideAt : Cond.selects RX3 yX3_sideAt yX3_sideAt ∈ lw_tg := lw_tg_in (tb_2 (List.mem_of_getElem? (i := 58) rfl)) rfl
abbrev mX3_evenPlaces : jv_M := (yX3_evenPlaces, cX3_evenPlaces, 1, some .int)
theorem okX3_evenPlaces : jv_ok mX3_evenPlaces 0 := ⟨lw_tg_in (tb_2 (List.mem_of_getElem? (i := 63) rfl)) rfl, lw_tg_in (tb_1 (List.mem_of_getElem? (i := 2) rfl)) rfl, ⟨by decide +kernel, by decide +kernel, by decide +kernel⟩, by decide +kernel, by decide⟩
theorem inX3_evenPlaces : Cond.instanceMethod yX3_evenPlaces ∈ lw_tg := lw_tg_in (tb_2 (List.mem_of_getElem? (i := 61) rfl)) rfl
theorem seX3_evenPlaces : Cond.selects RX3 yX3_evenPlaces yX3_evenPlaces ∈ lw_tg := lw_tg_in (tb_2 (List.mem_of_getElem? (i := 62) rfl)) rfl
abbrev mX4_child : jv_M := (yX4_child, cX4_child, 3, some .int)
theorem okX4_child : jv_ok mX4_child 2 := ⟨lw_tg_in (tb_2 (List.mem_of_getElem? (i := 68) rfl)) rfl, lw_tg_in (tb_1 (List.mem_of_getElem? (i := 1) rfl)) rfl, ⟨by decide +kernel, by decide +kernel, by decide +kernel⟩, by decide +kernel, by decide⟩
theorem inX4_child : Cond.instanceMethod yX4_child ∈ lw_tg := lw_tg_in (tb_2 (List.mem_of_getElem? (i := 66) rfl)) rfl
theorem seX4_child : Cond.selects RX4 yX4_child yX4_child ∈ lw_tg := lw_tg_in (tb_2 (List.mem_of_getElem? (i := 67) rfl)) rfl
abbrev mX3_addChild : jv_M := (yX3_addChild, cX3_addChild, 4, some .int)
theorem okX3_addChild : jv_ok mX3_addChild 2 := ⟨lw_tg_in (tb_2 (List.mem_of_getElem? (i := 72) rfl)) rfl, lw_tg_in (tb_1 (List.mem_of_getElem? (i := 2) rfl)) rfl, ⟨by decide +kernel, by decide +kernel, by decide +kernel⟩, by decide +kernel, by decide⟩
theorem inX3_addChild : Cond.instanceMethod yX3_addChild ∈ lw_tg := lw_tg_in (tb_2 (List.mem_of_getElem? (i := 70) rfl)) rfl
theorem seX3_addChild : Cond.selects RX3 yX3_addChild yX3_addChild ∈ lw_tg := lw_tg_in (tb_2 (List.mem_of_getElem? (i := 71) rfl)) rfl
abbrev mX4_count : jv_M := (yX4_count, cX4_count, 4, some .int)
theorem okX4_count : jv_ok mX4_count 3 := ⟨lw_tg_in (tb_2 (List.mem_of_getElem? (i := 76) rfl)) rfl, lw_tg_in (tb_1 (List.mem_of_getElem? (i := 1) rfl)) rfl, ⟨by decide +kernel, by decide +kernel, by decide +kernel⟩, by decide +kernel, by decide⟩
theorem inX4_count : Cond.instanceMethod yX4_count ∈ lw_tg := lw_tg_in (tb_2 (List.mem_of_getElem? (i := 74) rfl)) rfl
theorem seX4_count : Cond.selects RX4 yX4_count yX4_count ∈ lw_tg := lw_tg_in (tb_2 (List.mem_of_getElem? (i := 75) rfl)) rfl
abbrev mX3_addCount : jv_M := (yX3_addCount, cX3_addCount, 5, some .int)
theorem okX3_addCount : jv_ok mX3_addCount 3 := ⟨lw_tg_in (tb_2 (List.mem_of_getElem? (i := 80) rfl)) rfl, lw_tg_in (tb_1 (List.mem_of_getElem? (i := 2) rfl)) rfl, ⟨by decide +kernel, by decide +kernel, by decide +kernel⟩, by decide +kernel, by decide⟩
theorem inX3_addCount : Cond.instanceMethod yX3_addCount ∈ lw_tg := lw_tg_in (tb_2 (List.mem_of_getElem? (i := 78) rfl)) rfl
theorem seX3_addCount : Cond.selects RX3 yX3_addCount yX3_addCount ∈ lw_tg := lw_tg_in (tb_2 (List.mem_of_getElem? (i := 79) rfl)) rfl
abbrev mX4_wish : jv_M := (yX4_wish, cX4_wish, 5, some .int)
theorem okX4_wish : jv_ok mX4_wish 4 := ⟨lw_tg_in (tb_2 (List.mem_of_getElem? (i := 84) rfl)) rfl, lw_tg_in (tb_1 (List.mem_of_getElem? (i := 1) rfl)) rfl, ⟨by decide +kernel, by decide +kernel, by decide +kernel⟩, by decide +kernel, by decide⟩
theorem inX4_wish : Cond.instanceMethod yX4_wish ∈ lw_tg := lw_tg_in (tb_2 (List.mem_of_getElem? (i := 82) rfl)) rfl
theorem seX4_wish : Cond.selects RX4 yX4_wish yX4_wish ∈ lw_tg := lw_tg_in (tb_2 (List.mem_of_getElem? (i := 83) rfl)) rfl
abbrev mX4_areTwo : jv_M := (yX4_areTwo, cX4_areTwo, 3, some .boolean)
theorem okX4_areTwo : jv_ok mX4_areTwo 2 := ⟨lw_tg_in (tb_2 (List.mem_of_getElem? (i := 88) rfl)) rfl, lw_tg_in (tb_1 (List.mem_of_getElem? (i := 1) rfl)) rfl, ⟨by decide +kernel, by decide +kernel, by decide +kernel⟩, by decide +kernel, by decide⟩
theorem inX4_areTwo : Cond.instanceMethod yX4_areTwo ∈ lw_tg := lw_tg_in (tb_2 (List.mem_of_getElem? (i := 87) rfl)) rfl
theorem seX4_areTwo : Cond.selects RX4 yX4_areTwo yX4_areTwo ∈ lw_tg := lw_tg_in (List.mem_of_getElem? (i := 4) (by decide +kernel)) rfl
abbrev mX3_hasChild : jv_M := (yX3_hasChild, cX3_hasChild, 2, some .boolean)
theorem okX3_hasChild : jv_ok mX3_hasChild 1 := ⟨lw_tg_in (tb_2 (List.mem_of_getElem? (i := 92) rfl)) rfl, lw_tg_in (tb_1 (List.mem_of_getElem? (i := 2) rfl)) rfl, ⟨by decide +kernel, by decide +kernel, by decide +kernel⟩, by decide +kernel, by decide⟩
theorem inX3_hasChild : Cond.instanceMethod yX3_hasChild ∈ lw_tg := lw_tg_in (tb_2 (List.mem_of_getElem? (i := 90) rfl)) rfl
theorem seX3_hasChild : Cond.selects RX3 yX3_hasChild yX3_hasChild ∈ lw_tg := lw_tg_in (tb_2 (List.mem_of_getElem? (i := 91) rfl)) rfl
abbrev mX3_addWish : jv_M := (yX3_addWish, cX3_addWish, 5, some .int)
theorem okX3_addWish : jv_ok mX3_addWish 4 := ⟨lw_tg_in (tb_2 (List.mem_of_getElem? (i := 96) rfl)) rfl, lw_tg_in (tb_1 (List.mem_of_getElem? (i := 2) rfl)) rfl, ⟨by decide +kernel, by decide +kernel, by decide +kernel⟩, by decide +kernel, by decide⟩
theorem inX3_addWish : Cond.instanceMethod yX3_addWish ∈ lw_tg := lw_tg_in (tb_2 (List.mem_of_getElem? (i := 94) rfl)) rfl
theorem seX3_addWish : Cond.selects RX3 yX3_addWish yX3_addWish ∈ lw_tg := lw_tg_in (tb_2 (List.mem_of_getElem? (i := 95) rfl)) rfl
abbrev mX4_content : jv_M := (yX4_content, cX4_content, 2, some .int)
theorem okX4_content : jv_ok mX4_content 0 := ⟨lw_tg_in (tb_2 (List.mem_of_getElem? (i := 100) rfl)) rfl, lw_tg_in (tb_1 (List.mem_of_getElem? (i := 1) rfl)) rfl, ⟨by decide +kernel, by decide +kernel, by decide +kernel⟩, by decide +kernel, by decide⟩
theorem inX4_content : Cond.instanceMethod yX4_content ∈ lw_tg := lw_tg_in (tb_2 (List.mem_of_getElem? (i := 98) rfl)) rfl
theorem seX4_content : Cond.selects RX4 yX4_content yX4_content ∈ lw_tg := lw_tg_in (tb_2 (List.mem_of_getElem? (i := 99) rfl)) rfl
abbrev mX4_feed : jv_M := (yX4_feed, cX4_feed, 2, some .int)
theorem okX4_feed : jv_ok mX4_feed 1 := ⟨lw_tg_in (tb_2 (List.mem_of_getElem? (i := 104) rfl)) rfl, lw_tg_in (tb_1 (List.mem_of_getElem? (i := 1) rfl)) rfl, ⟨by decide +kernel, by decide +kernel, by decide +kernel⟩, by decide +kernel, by decide⟩
theorem inX4_feed : Cond.instanceMethod yX4_feed ∈ lw_tg := lw_tg_in (tb_2 (List.mem_of_getElem? (i := 102) rfl)) rfl
theorem seX4_feed : Cond.selects RX4 yX4_feed yX4_feed ∈ lw_tg := lw_tg_in (tb_2 (List.mem_of_getElem? (i := 103) rfl)) rfl
abbrev mX2_put : jv_M := (yX2_put, cX2_put, 2, some .int)
theorem okX2_put : jv_ok mX2_put 1 := ⟨lw_tg_in (tb_2 (List.mem_of_getElem? (i := 108) rfl)) rfl, lw_tg_in (tb_1 (List.mem_of_getElem? (i := 4) rfl)) rfl, ⟨by decide +kernel, by decide +kernel, by decide +kernel⟩, by decide +kernel, by decide⟩
theorem inX2_put : Cond.instanceMethod yX2_put ∈ lw_tg := lw_tg_in (tb_2 (List.mem_of_getElem? (i := 106) rfl)) rfl
theorem seX2_put : Cond.selects RX2 yX2_put yX2_put ∈ lw_tg := lw_tg_in (tb_2 (List.mem_of_getElem? (i := 107) rfl)) rfl
abbrev mX4_wipe : jv_M := (yX4_wipe, cX4_wipe, 1, some .int)
theorem okX4_wipe : jv_ok mX4_wipe 0 := ⟨lw_tg_in (tb_2 (List.mem_of_getElem? (i := 112) rfl)) rfl, lw_tg_in (tb_1 (List.mem_of_getElem? (i := 1) rfl)) rfl, ⟨by decide +kernel, by decide +kernel, by decide +kernel⟩, by decide +kernel, by decide⟩
theorem inX4_wipe : Cond.instanceMethod yX4_wipe ∈ lw_tg := lw_tg_in (tb_2 (List.mem_of_getElem? (i := 110) rfl)) rfl
theorem seX4_wipe : Cond.selects RX4 yX4_wipe yX4_wipe ∈ lw_tg := lw_tg_in (tb_2 (List.mem_of_getElem? (i := 111) rfl)) rfl
abbrev mX2_clear : jv_M := (yX2_clear, cX2_clear, 2, some .int)
theorem okX2_clear : jv_ok mX2_clear 0 := ⟨lw_tg_in (tb_2 (List.mem_of_getElem? (i := 116) rfl)) rfl, lw_tg_in (tb_1 (List.mem_of_getElem? (i := 4) rfl)) rfl, ⟨by decide +kernel, by decide +kernel, by decide +kernel⟩, by decide +kernel, by decide⟩
theorem inX2_clear : Cond.instanceMethod yX2_clear ∈ lw_tg := lw_tg_in (tb_2 (List.mem_of_getElem? (i := 114) rfl)) rfl
theorem seX2_clear : Cond.selects RX2 yX2_clear yX2_clear ∈ lw_tg := lw_tg_in (tb_2 (List.mem_of_getElem? (i := 115) rfl)) rfl
abbrev mX4_yard : jv_M := (yX4_yard, cX4_yard, 2, some .int)
theorem okX4_yard : jv_ok mX4_yard 0 := ⟨lw_tg_in (tb_2 (List.mem_of_getElem? (i := 120) rfl)) rfl, lw_tg_in (tb_1 (List.mem_of_getElem? (i := 1) rfl)) rfl, ⟨by decide +kernel, by decide +kernel, by decide +kernel⟩, by decide +kernel, by decide⟩
theorem inX4_yard : Cond.instanceMethod yX4_yard ∈ lw_tg := lw_tg_in (tb_2 (List.mem_of_getElem? (i := 118) rfl)) rfl
theorem seX4_yard : Cond.selects RX4 yX4_yard yX4_yard ∈ lw_tg := lw_tg_in (tb_2 (List.mem_of_getElem? (i := 119) rfl)) rfl
abbrev mX3_takeOver : jv_M := (yX3_takeOver, cX3_takeOver, 2, none)
theorem okX3_takeOver : jv_ok mX3_takeOver 1 := ⟨lw_tg_in (tb_2 (List.mem_of_getElem? (i := 124) rfl)) rfl, lw_tg_in (tb_1 (List.mem_of_getElem? (i := 2) rfl)) rfl, ⟨by decide +kernel, by decide +kernel, by decide +kernel⟩, by decide +kernel, by decide⟩
theorem inX3_takeOver : Cond.instanceMethod yX3_takeOver ∈ lw_tg := lw_tg_in (tb_2 (List.mem_of_getElem? (i := 122) rfl)) rfl
theorem seX3_takeOver : Cond.selects RX3 yX3_takeOver yX3_takeOver ∈ lw_tg := lw_tg_in (tb_2 (List.mem_of_getElem? (i := 123) rfl)) rfl
abbrev mX2_readOnto : jv_M := (yX2_readOnto, cX2_readOnto, 3, some .int)
theorem okX2_readOnto : jv_ok mX2_readOnto 1 := ⟨lw_tg_in (tb_2 (List.mem_of_getElem? (i := 129) rfl)) rfl, lw_tg_in (tb_1 (List.mem_of_getElem? (i := 4) rfl)) rfl, ⟨by decide +kernel, by decide +kernel, by decide +kernel⟩, by decide +kernel, by decide⟩
theorem inX2_readOnto : Cond.instanceMethod yX2_readOnto ∈ lw_tg := lw_tg_in (tb_2 (List.mem_of_getElem? (i := 127) rfl)) rfl
theorem seX2_readOnto : Cond.selects RX2 yX2_readOnto yX2_readOnto ∈ lw_tg := lw_tg_in (tb_2 (List.mem_of_getElem? (i := 128) rfl)) rfl
abbrev mX2_readStatement : jv_M := (yX2_readStatement, cX2_readStatement, 2, some .boolean)
theorem okX2_readStatement : jv_ok mX2_readStatement 1 := ⟨lw_tg_in (tb_2 (List.mem_of_getElem? (i := 133) rfl)) rfl, lw_tg_in (tb_1 (List.mem_of_getElem? (i := 4) rfl)) rfl, ⟨by decide +kernel, by decide +kernel, by decide +kernel⟩, by decide +kernel, by decide⟩
theorem inX2_readStatement : Cond.instanceMethod yX2_readStatement ∈ lw_tg := lw_tg_in (tb_2 (List.mem_of_getElem? (i := 132) rfl)) rfl
theorem seX2_readStatement : Cond.selects RX2 yX2_readStatement yX2_readStatement ∈ lw_tg := lw_tg_in (List.mem_of_getElem? (i := 5) (by decide +kernel)) rfl
abbrev mX2_nextToken : jv_M := (yX2_nextToken, cX2_nextToken, 1, none)
theorem okX2_nextToken : jv_ok mX2_nextToken 0 := ⟨lw_tg_in (tb_2 (List.mem_of_getElem? (i := 137) rfl)) rfl, lw_tg_in (tb_1 (List.mem_of_getElem? (i := 4) rfl)) rfl, ⟨by decide +kernel, by decide +kernel, by decide +kernel⟩, by decide +kernel, by decide⟩
theorem inX2_nextToken : Cond.instanceMethod yX2_nextToken ∈ lw_tg := lw_tg_in (tb_2 (List.mem_of_getElem? (i := 136) rfl)) rfl
theorem seX2_nextToken : Cond.selects RX2 yX2_nextToken yX2_nextToken ∈ lw_tg := lw_tg_in (List.mem_of_getElem? (i := 6) (by decide +kernel)) rfl
abbrev mX2_tokenOf : jv_M := (yX2_tokenOf, cX2_tokenOf, 1, some .int)
theorem okX2_tokenOf : jv_ok mX2_tokenOf 1 := ⟨lw_tg_in (tb_2 (List.mem_of_getElem? (i := 140) rfl)) rfl, lw_tg_in (tb_1 (List.mem_of_getElem? (i := 4) rfl)) rfl, ⟨by decide +kernel, by decide +kernel, by decide +kernel⟩, by decide +kernel, by decide⟩
theorem stX2_tokenOf : Cond.static yX2_tokenOf ∈ lw_tg := lw_tg_in (tb_2 (List.mem_of_getElem? (i := 139) rfl)) rfl
abbrev mX2_isWord : jv_M := (yX2_isWord, cX2_isWord, 3, some .boolean)
theorem okX2_isWord : jv_ok mX2_isWord 1 := ⟨lw_tg_in (tb_2 (List.mem_of_getElem? (i := 145) rfl)) rfl, lw_tg_in (tb_1 (List.mem_of_getElem? (i := 4) rfl)) rfl, ⟨by decide +kernel, by decide +kernel, by decide +kernel⟩, by decide +kernel, by decide⟩
theorem inX2_isWord : Cond.instanceMethod yX2_isWord ∈ lw_tg := lw_tg_in (tb_2 (List.mem_of_getElem? (i := 144) rfl)) rfl
theorem seX2_isWord : Cond.selects RX2 yX2_isWord yX2_isWord ∈ lw_tg := lw_tg_in (List.mem_of_getElem? (i := 7) (by decide +kernel)) rfl
abbrev mJ0_length_8abf5 : jv_M := (yJ0_length_8abf5, cJ0_length_8abf5, 1, some .int)
theorem okJ0_length_8abf5 : jv_ok mJ0_length_8abf5 0 := ⟨lw_tg_in (tb_2 (List.mem_of_getElem? (i := 149) rfl)) rfl, lw_tg_in (tb_1 (List.mem_of_getElem? (i := 8) rfl)) rfl, ⟨by decide +kernel, by decide +kernel, by decide +kernel⟩, by decide +kernel, by decide⟩
theorem inJ0_length_8abf5 : Cond.instanceMethod yJ0_length_8abf5 ∈ lw_tg := lw_tg_in (tb_2 (List.mem_of_getElem? (i := 147) rfl)) rfl
theorem seJ0_length_8abf5 : Cond.selects RJ0 yJ0_length_8abf5 yJ0_length_8abf5 ∈ lw_tg := lw_tg_in (tb_2 (List.mem_of_getElem? (i := 148) rfl)) rfl
abbrev mJ0_coder_7d493 : jv_M := (yJ0_coder_7d493, cJ0_coder_7d493, 1, some .byte)
theorem okJ0_coder_7d493 : jv_ok mJ0_coder_7d493 0 := ⟨lw_tg_in (tb_2 (List.mem_of_getElem? (i := 153) rfl)) rfl, lw_tg_in (tb_1 (List.mem_of_getElem? (i := 8) rfl)) rfl, ⟨by decide +kernel, by decide +kernel, by decide +kernel⟩, by decide +kernel, by decide⟩
theorem inJ0_coder_7d493 : Cond.instanceMethod yJ0_coder_7d493 ∈ lw_tg := lw_tg_in (tb_2 (List.mem_of_getElem? (i := 151) rfl)) rfl
theorem seJ0_coder_7d493 : Cond.selects RJ0 yJ0_coder_7d493 yJ0_coder_7d493 ∈ lw_tg := lw_tg_in (tb_2 (List.mem_of_getElem? (i := 152) rfl)) rfl
abbrev mJ0_charAt_5068e : jv_M := (yJ0_charAt_5068e, cJ0_charAt_5068e, 2, some .char)
theorem okJ0_charAt_5068e : jv_ok mJ0_charAt_5068e 1 := ⟨lw_tg_in (tb_2 (List.mem_of_getElem? (i := 159) rfl)) rfl, lw_tg_in (tb_1 (List.mem_of_getElem? (i := 8) rfl)) rfl, ⟨by decide +kernel, by decide +kernel, by decide +kernel⟩, by decide +kernel, by decide⟩
theorem inJ0_charAt_5068e : Cond.instanceMethod yJ0_charAt_5068e ∈ lw_tg := lw_tg_in (tb_2 (List.mem_of_getElem? (i := 157) rfl)) rfl
theorem seJ0_charAt_5068e : Cond.selects RJ0 yJ0_charAt_5068e yJ0_charAt_5068e ∈ lw_tg := lw_tg_in (tb_2 (List.mem_of_getElem? (i := 158) rfl)) rfl
abbrev mJ0_isLatin1_aae02 : jv_M := (yJ0_isLatin1_aae02, cJ0_isLatin1_aae02, 1, some .boolean)
theorem okJ0_isLatin1_aae02 : jv_ok mJ0_isLatin1_aae02 0 := ⟨lw_tg_in (tb_2 (List.mem_of_getElem? (i := 163) rfl)) rfl, lw_tg_in (tb_1 (List.mem_of_getElem? (i := 8) rfl)) rfl, ⟨by decide +kernel, by decide +kernel, by decide +kernel⟩, by decide +kernel, by decide⟩
theorem inJ0_isLatin1_aae02 : Cond.instanceMethod yJ0_isLatin1_aae02 ∈ lw_tg := lw_tg_in (tb_2 (List.mem_of_getElem? (i := 161) rfl)) rfl
theorem seJ0_isLatin1_aae02 : Cond.selects RJ0 yJ0_isLatin1_aae02 yJ0_isLatin1_aae02 ∈ lw_tg := lw_tg_in (tb_2 (List.mem_of_getElem? (i := 162) rfl)) rfl
abbrev mJ1_charAt_3b067 : jv_M := (yJ1_charAt_3b067, cJ1_charAt_3b067, 2, some .char)
theorem okJ1_charAt_3b067 : jv_ok mJ1_charAt_3b067 2 := ⟨lw_tg_in (tb_2 (List.mem_of_getElem? (i := 166) rfl)) rfl, lw_tg_in (tb_1 (List.mem_of_getElem? (i := 9) rfl)) rfl, ⟨by decide +kernel, by decide +kernel, by decide +kernel⟩, by decide +kernel, by decide⟩
theorem stJ1_charAt_3b067 : Cond.static yJ1_charAt_3b067 ∈ lw_tg := lw_tg_in (tb_2 (List.mem_of_getElem? (i := 165) rfl)) rfl
abbrev mJ0_checkIndex_df160 : jv_M := (yJ0_checkIndex_df160, cJ0_checkIndex_df160, 2, none)
theorem okJ0_checkIndex_df160 : jv_ok mJ0_checkIndex_df160 2 := ⟨lw_tg_in (tb_2 (List.mem_of_getElem? (i := 169) rfl)) rfl, lw_tg_in (tb_1 (List.mem_of_getElem? (i := 8) rfl)) rfl, ⟨by decide +kernel, by decide +kernel, by decide +kernel⟩, by decide +kernel, by decide⟩
theorem stJ0_checkIndex_df160 : Cond.static yJ0_checkIndex_df160 ∈ lw_tg := lw_tg_in (tb_2 (List.mem_of_getElem? (i := 168) rfl)) rfl
abbrev mJ3_checkIndex_8e157 : jv_M := (yJ3_checkIndex_8e157, cJ3_checkIndex_8e157, 3, some .int)
theorem okJ3_checkIndex_8e157 : jv_ok mJ3_checkIndex_8e157 3 := ⟨lw_tg_in (tb_2 (List.mem_of_getElem? (i := 174) rfl)) rfl, lw_tg_in (tb_1 (List.mem_of_getElem? (i := 10) rfl)) rfl, ⟨by decide +kernel, by decide +kernel, by decide +kernel⟩, by decide +kernel, by decide⟩
theorem stJ3_checkIndex_8e157 : Cond.static yJ3_checkIndex_8e157 ∈ lw_tg := lw_tg_in (tb_2 (List.mem_of_getElem? (i := 173) rfl)) rfl
abbrev mJ2_charAt_3b067 : jv_M := (yJ2_charAt_3b067, cJ2_charAt_3b067, 2, some .char)
theorem okJ2_charAt_3b067 : jv_ok mJ2_charAt_3b067 2 := ⟨lw_tg_in (tb_2 (List.mem_of_getElem? (i := 177) rfl)) rfl, lw_tg_in (tb_1 (List.mem_of_getElem? (i := 11) rfl)) rfl, ⟨by decide +kernel, by decide +kernel, by decide +kernel⟩, by decide +kernel, by decide⟩
theorem stJ2_charAt_3b067 : Cond.static yJ2_charAt_3b067 ∈ lw_tg := lw_tg_in (tb_2 (List.mem_of_getElem? (i := 176) rfl)) rfl
abbrev mJ2_checkIndex_2214a : jv_M := (yJ2_checkIndex_2214a, cJ2_checkIndex_2214a, 2, none)
theorem okJ2_checkIndex_2214a : jv_ok mJ2_checkIndex_2214a 2 := ⟨lw_tg_in (tb_2 (List.mem_of_getElem? (i := 180) rfl)) rfl, lw_tg_in (tb_1 (List.mem_of_getElem? (i := 11) rfl)) rfl, ⟨by decide +kernel, by decide +kernel, by decide +kernel⟩, by decide +kernel, by decide⟩
theorem stJ2_checkIndex_2214a : Cond.static yJ2_checkIndex_2214a ∈ lw_tg := lw_tg_in (tb_2 (List.mem_of_getElem? (i := 179) rfl)) rfl
abbrev mJ2_length_9d52b : jv_M := (yJ2_length_9d52b, cJ2_length_9d52b, 1, some .int)
theorem okJ2_length_9d52b : jv_ok mJ2_length_9d52b 1 := ⟨lw_tg_in (tb_2 (List.mem_of_getElem? (i := 183) rfl)) rfl, lw_tg_in (tb_1 (List.mem_of_getElem? (i := 11) rfl)) rfl, ⟨by decide +kernel, by decide +kernel, by decide +kernel⟩, by decide +kernel, by decide⟩
theorem stJ2_length_9d52b : Cond.static yJ2_length_9d52b ∈ lw_tg := lw_tg_in (tb_2 (List.mem_of_getElem? (i := 182) rfl)) rfl
abbrev mJ2_getChar_3b067 : jv_M := (yJ2_getChar_3b067, cJ2_getChar_3b067, 2, some .char)
theorem okJ2_getChar_3b067 : jv_ok mJ2_getChar_3b067 2 := ⟨lw_tg_in (tb_2 (List.mem_of_getElem? (i := 187) rfl)) rfl, lw_tg_in (tb_1 (List.mem_of_getElem? (i := 11) rfl)) rfl, ⟨by decide +kernel, by decide +kernel, by decide +kernel⟩, by decide +kernel, by decide⟩
theorem stJ2_getChar_3b067 : Cond.static yJ2_getChar_3b067 ∈ lw_tg := lw_tg_in (tb_2 (List.mem_of_getElem? (i := 186) rfl)) rfl
abbrev mX2_readChild : jv_M := (yX2_readChild, cX2_readChild, 4, some .boolean)
theorem okX2_readChild : jv_ok mX2_readChild 1 := ⟨lw_tg_in (tb_2 (List.mem_of_getElem? (i := 197) rfl)) rfl, lw_tg_in (tb_1 (List.mem_of_getElem? (i := 4) rfl)) rfl, ⟨by decide +kernel, by decide +kernel, by decide +kernel⟩, by decide +kernel, by decide⟩
theorem inX2_readChild : Cond.instanceMethod yX2_readChild ∈ lw_tg := lw_tg_in (tb_2 (List.mem_of_getElem? (i := 196) rfl)) rfl
theorem seX2_readChild : Cond.selects RX2 yX2_readChild yX2_readChild ∈ lw_tg := lw_tg_in (List.mem_of_getElem? (i := 8) (by decide +kernel)) rfl
abbrev mX2_nextNumber : jv_M := (yX2_nextNumber, cX2_nextNumber, 5, some .int)
theorem okX2_nextNumber : jv_ok mX2_nextNumber 2 := ⟨lw_tg_in (tb_2 (List.mem_of_getElem? (i := 201) rfl)) rfl, lw_tg_in (tb_1 (List.mem_of_getElem? (i := 4) rfl)) rfl, ⟨by decide +kernel, by decide +kernel, by decide +kernel⟩, by decide +kernel, by decide⟩
theorem inX2_nextNumber : Cond.instanceMethod yX2_nextNumber ∈ lw_tg := lw_tg_in (tb_2 (List.mem_of_getElem? (i := 200) rfl)) rfl
theorem seX2_nextNumber : Cond.selects RX2 yX2_nextNumber yX2_nextNumber ∈ lw_tg := lw_tg_in (List.mem_of_getElem? (i := 9) (by decide +kernel)) rfl
abbrev mX2_readCount : jv_M := (yX2_readCount, cX2_readCount, 5, some .boolean)
theorem okX2_readCount : jv_ok mX2_readCount 1 := ⟨lw_tg_in (tb_2 (List.mem_of_getElem? (i := 208) rfl)) rfl, lw_tg_in (tb_1 (List.mem_of_getElem? (i := 4) rfl)) rfl, ⟨by decide +kernel, by decide +kernel, by decide +kernel⟩, by decide +kernel, by decide⟩
theorem inX2_readCount : Cond.instanceMethod yX2_readCount ∈ lw_tg := lw_tg_in (tb_2 (List.mem_of_getElem? (i := 207) rfl)) rfl
theorem seX2_readCount : Cond.selects RX2 yX2_readCount yX2_readCount ∈ lw_tg := lw_tg_in (List.mem_of_getElem? (i := 10) (by decide +kernel)) rfl
abbrev mX2_readWish : jv_M := (yX2_readWish, cX2_readWish, 6, some .boolean)
theorem okX2_readWish : jv_ok mX2_readWish 2 := ⟨lw_tg_in (tb_2 (List.mem_of_getElem? (i := 214) rfl)) rfl, lw_tg_in (tb_1 (List.mem_of_getElem? (i := 4) rfl)) rfl, ⟨by decide +kernel, by decide +kernel, by decide +kernel⟩, by decide +kernel, by decide⟩
theorem inX2_readWish : Cond.instanceMethod yX2_readWish ∈ lw_tg := lw_tg_in (tb_2 (List.mem_of_getElem? (i := 213) rfl)) rfl
theorem seX2_readWish : Cond.selects RX2 yX2_readWish yX2_readWish ∈ lw_tg := lw_tg_in (List.mem_of_getElem? (i := 11) (by decide +kernel)) rfl
abbrev mX2_readSwap : jv_M := (yX2_readSwap, cX2_readSwap, 4, some .boolean)
theorem okX2_readSwap : jv_ok mX2_readSwap 1 := ⟨lw_tg_in (tb_2 (List.mem_of_getElem? (i := 221) rfl)) rfl, lw_tg_in (tb_1 (List.mem_of_getElem? (i := 4) rfl)) rfl, ⟨by decide +kernel, by decide +kernel, by decide +kernel⟩, by decide +kernel, by decide⟩
theorem inX2_readSwap : Cond.instanceMethod yX2_readSwap ∈ lw_tg := lw_tg_in (tb_2 (List.mem_of_getElem? (i := 220) rfl)) rfl
theorem seX2_readSwap : Cond.selects RX2 yX2_readSwap yX2_readSwap ∈ lw_tg := lw_tg_in (List.mem_of_getElem? (i := 12) (by decide +kernel)) rfl
abbrev mX3_exchange : jv_M := (yX3_exchange, cX3_exchange, 4, none)
theorem okX3_exchange : jv_ok mX3_exchange 2 := ⟨lw_tg_in (tb_2 (List.mem_of_getElem? (i := 225) rfl)) rfl, lw_tg_in (tb_1 (List.mem_of_getElem? (i := 2) rfl)) rfl, ⟨by decide +kernel, by decide +kernel, by decide +kernel⟩, by decide +kernel, by decide⟩
theorem inX3_exchange : Cond.instanceMethod yX3_exchange ∈ lw_tg := lw_tg_in (tb_2 (List.mem_of_getElem? (i := 223) rfl)) rfl
theorem seX3_exchange : Cond.selects RX3 yX3_exchange yX3_exchange ∈ lw_tg := lw_tg_in (tb_2 (List.mem_of_getElem? (i := 224) rfl)) rfl
abbrev mX3_stand : jv_M := (yX3_stand, cX3_stand, 3, none)
theorem okX3_stand : jv_ok mX3_stand 2 := ⟨lw_tg_in (tb_2 (List.mem_of_getElem? (i := 229) rfl)) rfl, lw_tg_in (tb_1 (List.mem_of_getElem? (i := 2) rfl)) rfl, ⟨by decide +kernel, by decide +kernel, by decide +kernel⟩, by decide +kernel, by decide⟩
theorem inX3_stand : Cond.instanceMethod yX3_stand ∈ lw_tg := lw_tg_in (tb_2 (List.mem_of_getElem? (i := 228) rfl)) rfl
theorem seX3_stand : Cond.selects RX3 yX3_stand yX3_stand ∈ lw_tg := lw_tg_in (List.mem_of_getElem? (i := 13) (by decide +kernel)) rfl
abbrev mX2_readMove : jv_M := (yX2_readMove, cX2_readMove, 4, some .boolean)
theorem okX2_readMove : jv_ok mX2_readMove 1 := ⟨lw_tg_in (tb_2 (List.mem_of_getElem? (i := 234) rfl)) rfl, lw_tg_in (tb_1 (List.mem_of_getElem? (i := 4) rfl)) rfl, ⟨by decide +kernel, by decide +kernel, by decide +kernel⟩, by decide +kernel, by decide⟩
theorem inX2_readMove : Cond.instanceMethod yX2_readMove ∈ lw_tg := lw_tg_in (tb_2 (List.mem_of_getElem? (i := 233) rfl)) rfl
theorem seX2_readMove : Cond.selects RX2 yX2_readMove yX2_readMove ∈ lw_tg := lw_tg_in (List.mem_of_getElem? (i := 14) (by decide +kernel)) rfl
abbrev mX3_shift : jv_M := (yX3_shift, cX3_shift, 5, none)
theorem okX3_shift : jv_ok mX3_shift 2 := ⟨lw_tg_in (tb_2 (List.mem_of_getElem? (i := 238) rfl)) rfl, lw_tg_in (tb_1 (List.mem_of_getElem? (i := 2) rfl)) rfl, ⟨by decide +kernel, by decide +kernel, by decide +kernel⟩, by decide +kernel, by decide⟩
theorem inX3_shift : Cond.instanceMethod yX3_shift ∈ lw_tg := lw_tg_in (tb_2 (List.mem_of_getElem? (i := 236) rfl)) rfl
theorem seX3_shift : Cond.selects RX3 yX3_shift yX3_shift ∈ lw_tg := lw_tg_in (tb_2 (List.mem_of_getElem? (i := 237) rfl)) rfl
abbrev mX4_childOf : jv_M := (yX4_childOf, cX4_childOf, 3, some .int)
theorem okX4_childOf : jv_ok mX4_childOf 2 := ⟨lw_tg_in (tb_3 (List.mem_of_getElem? (i := 3) rfl)) rfl, lw_tg_in (tb_1 (List.mem_of_getElem? (i := 1) rfl)) rfl, ⟨by decide +kernel, by decide +kernel, by decide +kernel⟩, by decide +kernel, by decide⟩
theorem inX4_childOf : Cond.instanceMethod yX4_childOf ∈ lw_tg := lw_tg_in (tb_3 (List.mem_of_getElem? (i := 1) rfl)) rfl
theorem seX4_childOf : Cond.selects RX4 yX4_childOf yX4_childOf ∈ lw_tg := lw_tg_in (tb_3 (List.mem_of_getElem? (i := 2) rfl)) rfl
abbrev mX3_wishesOf : jv_M := (yX3_wishesOf, cX3_wishesOf, 4, some .int)
theorem okX3_wishesOf : jv_ok mX3_wishesOf 1 := ⟨lw_tg_in (tb_3 (List.mem_of_getElem? (i := 7) rfl)) rfl, lw_tg_in (tb_1 (List.mem_of_getElem? (i := 2) rfl)) rfl, ⟨by decide +kernel, by decide +kernel, by decide +kernel⟩, by decide +kernel, by decide⟩
theorem inX3_wishesOf : Cond.instanceMethod yX3_wishesOf ∈ lw_tg := lw_tg_in (tb_3 (List.mem_of_getElem? (i := 5) rfl)) rfl
theorem seX3_wishesOf : Cond.selects RX3 yX3_wishesOf yX3_wishesOf ∈ lw_tg := lw_tg_in (tb_3 (List.mem_of_getElem? (i := 6) rfl)) rfl
abbrev mX4_countOf : jv_M := (yX4_countOf, cX4_countOf, 3, some .int)
theorem okX4_countOf : jv_ok mX4_countOf 2 := ⟨lw_tg_in (tb_3 (List.mem_of_getElem? (i := 11) rfl)) rfl, lw_tg_in (tb_1 (List.mem_of_getElem? (i := 1) rfl)) rfl, ⟨by decide +kernel, by decide +kernel, by decide +kernel⟩, by decide +kernel, by decide⟩
theorem inX4_countOf : Cond.instanceMethod yX4_countOf ∈ lw_tg := lw_tg_in (tb_3 (List.mem_of_getElem? (i := 9) rfl)) rfl
theorem seX4_countOf : Cond.selects RX4 yX4_countOf yX4_countOf ∈ lw_tg := lw_tg_in (tb_3 (List.mem_of_getElem? (i := 10) rfl)) rfl
abbrev mX4_wishOf : jv_M := (yX4_wishOf, cX4_wishOf, 3, some .int)
theorem okX4_wishOf : jv_ok mX4_wishOf 2 := ⟨lw_tg_in (tb_3 (List.mem_of_getElem? (i := 15) rfl)) rfl, lw_tg_in (tb_1 (List.mem_of_getElem? (i := 1) rfl)) rfl, ⟨by decide +kernel, by decide +kernel, by decide +kernel⟩, by decide +kernel, by decide⟩
theorem inX4_wishOf : Cond.instanceMethod yX4_wishOf ∈ lw_tg := lw_tg_in (tb_3 (List.mem_of_getElem? (i := 13) rfl)) rfl
theorem seX4_wishOf : Cond.selects RX4 yX4_wishOf yX4_wishOf ∈ lw_tg := lw_tg_in (tb_3 (List.mem_of_getElem? (i := 14) rfl)) rfl
abbrev mX3_hasWish : jv_M := (yX3_hasWish, cX3_hasWish, 2, some .boolean)
theorem okX3_hasWish : jv_ok mX3_hasWish 1 := ⟨lw_tg_in (tb_3 (List.mem_of_getElem? (i := 19) rfl)) rfl, lw_tg_in (tb_1 (List.mem_of_getElem? (i := 2) rfl)) rfl, ⟨by decide +kernel, by decide +kernel, by decide +kernel⟩, by decide +kernel, by decide⟩
theorem inX3_hasWish : Cond.instanceMethod yX3_hasWish ∈ lw_tg := lw_tg_in (tb_3 (List.mem_of_getElem? (i := 17) rfl)) rfl
theorem seX3_hasWish : Cond.selects RX3 yX3_hasWish yX3_hasWish ∈ lw_tg := lw_tg_in (tb_3 (List.mem_of_getElem? (i := 18) rfl)) rfl
abbrev mX4_at : jv_M := (yX4_at, cX4_at, 2, some .int)
theorem okX4_at : jv_ok mX4_at 1 := ⟨lw_tg_in (tb_3 (List.mem_of_getElem? (i := 23) rfl)) rfl, lw_tg_in (tb_1 (List.mem_of_getElem? (i := 1) rfl)) rfl, ⟨by decide +kernel, by decide +kernel, by decide +kernel⟩, by decide +kernel, by decide⟩
theorem inX4_at : Cond.instanceMethod yX4_at ∈ lw_tg := lw_tg_in (tb_3 (List.mem_of_getElem? (i := 21) rfl)) rfl
theorem seX4_at : Cond.selects RX4 yX4_at yX4_at ∈ lw_tg := lw_tg_in (tb_3 (List.mem_of_getElem? (i := 22) rfl)) rfl
abbrev mX3_hasPlace : jv_M := (yX3_hasPlace, cX3_hasPlace, 2, some .boolean)
theorem okX3_hasPlace : jv_ok mX3_hasPlace 1 := ⟨lw_tg_in (tb_3 (List.mem_of_getElem? (i := 27) rfl)) rfl, lw_tg_in (tb_1 (List.mem_of_getElem? (i := 2) rfl)) rfl, ⟨by decide +kernel, by decide +kernel, by decide +kernel⟩, by decide +kernel, by decide⟩
theorem inX3_hasPlace : Cond.instanceMethod yX3_hasPlace ∈ lw_tg := lw_tg_in (tb_3 (List.mem_of_getElem? (i := 25) rfl)) rfl
theorem seX3_hasPlace : Cond.selects RX3 yX3_hasPlace yX3_hasPlace ∈ lw_tg := lw_tg_in (tb_3 (List.mem_of_getElem? (i := 26) rfl)) rfl
abbrev mX4_team : jv_M := (yX4_team, cX4_team, 3, some .int)
theorem okX4_team : jv_ok mX4_team 2 := ⟨lw_tg_in (tb_3 (List.mem_of_getElem? (i := 31) rfl)) rfl, lw_tg_in (tb_1 (List.mem_of_getElem? (i := 1) rfl)) rfl, ⟨by decide +kernel, by decide +kernel, by decide +kernel⟩, by decide +kernel, by decide⟩
theorem inX4_team : Cond.instanceMethod yX4_team ∈ lw_tg := lw_tg_in (tb_3 (List.mem_of_getElem? (i := 29) rfl)) rfl
theorem seX4_team : Cond.selects RX4 yX4_team yX4_team ∈ lw_tg := lw_tg_in (tb_3 (List.mem_of_getElem? (i := 30) rfl)) rfl
abbrev mX3_sideOf : jv_M := (yX3_sideOf, cX3_sideOf, 3, some .int)
theorem okX3_sideOf : jv_ok mX3_sideOf 2 := ⟨lw_tg_in (tb_3 (List.mem_of_getElem? (i := 35) rfl)) rfl, lw_tg_in (tb_1 (List.mem_of_getElem? (i := 2) rfl)) rfl, ⟨by decide +kernel, by decide +kernel, by decide +kernel⟩, by decide +kernel, by decide⟩
theorem inX3_sideOf : Cond.instanceMethod yX3_sideOf ∈ lw_tg := lw_tg_in (tb_3 (List.mem_of_getElem? (i := 33) rfl)) rfl
theorem seX3_sideOf : Cond.selects RX3 yX3_sideOf yX3_sideOf ∈ lw_tg := lw_tg_in (tb_3 (List.mem_of_getElem? (i := 34) rfl)) rfl
abbrev mX4_members : jv_M := (yX4_members, cX4_members, 3, some .int)
theorem okX4_members : jv_ok mX4_members 2 := ⟨lw_tg_in (tb_3 (List.mem_of_getElem? (i := 40) rfl)) rfl, lw_tg_in (tb_1 (List.mem_of_getElem? (i := 1) rfl)) rfl, ⟨by decide +kernel, by decide +kernel, by decide +kernel⟩, by decide +kernel, by decide⟩
theorem inX4_members : Cond.instanceMethod yX4_members ∈ lw_tg := lw_tg_in (tb_3 (List.mem_of_getElem? (i := 38) rfl)) rfl
theorem seX4_members : Cond.selects RX4 yX4_members yX4_members ∈ lw_tg := lw_tg_in (tb_3 (List.mem_of_getElem? (i := 39) rfl)) rfl
abbrev mX3_hasTeam : jv_M := (yX3_hasTeam, cX3_hasTeam, 3, some .boolean)
theorem okX3_hasTeam : jv_ok mX3_hasTeam 2 := ⟨lw_tg_in (tb_3 (List.mem_of_getElem? (i := 44) rfl)) rfl, lw_tg_in (tb_1 (List.mem_of_getElem? (i := 2) rfl)) rfl, ⟨by decide +kernel, by decide +kernel, by decide +kernel⟩, by decide +kernel, by decide⟩
theorem inX3_hasTeam : Cond.instanceMethod yX3_hasTeam ∈ lw_tg := lw_tg_in (tb_3 (List.mem_of_getElem? (i := 42) rfl)) rfl
theorem seX3_hasTeam : Cond.selects RX3 yX3_hasTeam yX3_hasTeam ∈ lw_tg := lw_tg_in (tb_3 (List.mem_of_getElem? (i := 43) rfl)) rfl
abbrev mX3_bitsOfSide : jv_M := (yX3_bitsOfSide, cX3_bitsOfSide, 5, some .int)
theorem okX3_bitsOfSide : jv_ok mX3_bitsOfSide 2 := ⟨lw_tg_in (tb_3 (List.mem_of_getElem? (i := 49) rfl)) rfl, lw_tg_in (tb_1 (List.mem_of_getElem? (i := 2) rfl)) rfl, ⟨by decide +kernel, by decide +kernel, by decide +kernel⟩, by decide +kernel, by decide⟩
theorem inX3_bitsOfSide : Cond.instanceMethod yX3_bitsOfSide ∈ lw_tg := lw_tg_in (tb_3 (List.mem_of_getElem? (i := 47) rfl)) rfl
theorem seX3_bitsOfSide : Cond.selects RX3 yX3_bitsOfSide yX3_bitsOfSide ∈ lw_tg := lw_tg_in (tb_3 (List.mem_of_getElem? (i := 48) rfl)) rfl
abbrev mX4_strength : jv_M := (yX4_strength, cX4_strength, 3, some .int)
theorem okX4_strength : jv_ok mX4_strength 2 := ⟨lw_tg_in (tb_3 (List.mem_of_getElem? (i := 54) rfl)) rfl, lw_tg_in (tb_1 (List.mem_of_getElem? (i := 1) rfl)) rfl, ⟨by decide +kernel, by decide +kernel, by decide +kernel⟩, by decide +kernel, by decide⟩
theorem inX4_strength : Cond.instanceMethod yX4_strength ∈ lw_tg := lw_tg_in (tb_3 (List.mem_of_getElem? (i := 52) rfl)) rfl
theorem seX4_strength : Cond.selects RX4 yX4_strength yX4_strength ∈ lw_tg := lw_tg_in (tb_3 (List.mem_of_getElem? (i := 53) rfl)) rfl
abbrev mX3_strongOfSide : jv_M := (yX3_strongOfSide, cX3_strongOfSide, 5, some .int)
theorem okX3_strongOfSide : jv_ok mX3_strongOfSide 2 := ⟨lw_tg_in (tb_3 (List.mem_of_getElem? (i := 58) rfl)) rfl, lw_tg_in (tb_1 (List.mem_of_getElem? (i := 2) rfl)) rfl, ⟨by decide +kernel, by decide +kernel, by decide +kernel⟩, by decide +kernel, by decide⟩
theorem inX3_strongOfSide : Cond.instanceMethod yX3_strongOfSide ∈ lw_tg := lw_tg_in (tb_3 (List.mem_of_getElem? (i := 56) rfl)) rfl
theorem seX3_strongOfSide : Cond.selects RX3 yX3_strongOfSide yX3_strongOfSide ∈ lw_tg := lw_tg_in (tb_3 (List.mem_of_getElem? (i := 57) rfl)) rfl
abbrev mX4_heaviest : jv_M := (yX4_heaviest, cX4_heaviest, 4, some .int)
theorem okX4_heaviest : jv_ok mX4_heaviest 1 := ⟨lw_tg_in (tb_3 (List.mem_of_getElem? (i := 62) rfl)) rfl, lw_tg_in (tb_1 (List.mem_of_getElem? (i := 1) rfl)) rfl, ⟨by decide +kernel, by decide +kernel, by decide +kernel⟩, by decide +kernel, by decide⟩
theorem inX4_heaviest : Cond.instanceMethod yX4_heaviest ∈ lw_tg := lw_tg_in (tb_3 (List.mem_of_getElem? (i := 60) rfl)) rfl
theorem seX4_heaviest : Cond.selects RX4 yX4_heaviest yX4_heaviest ∈ lw_tg := lw_tg_in (tb_3 (List.mem_of_getElem? (i := 61) rfl)) rfl
abbrev mX4_turned : jv_M := (yX4_turned, cX4_turned, 2, some .int)
theorem okX4_turned : jv_ok mX4_turned 1 := ⟨lw_tg_in (tb_3 (List.mem_of_getElem? (i := 66) rfl)) rfl, lw_tg_in (tb_1 (List.mem_of_getElem? (i := 1) rfl)) rfl, ⟨by decide +kernel, by decide +kernel, by decide +kernel⟩, by decide +kernel, by decide⟩
theorem inX4_turned : Cond.instanceMethod yX4_turned ∈ lw_tg := lw_tg_in (tb_3 (List.mem_of_getElem? (i := 64) rfl)) rfl
theorem seX4_turned : Cond.selects RX4 yX4_turned yX4_turned ∈ lw_tg := lw_tg_in (tb_3 (List.mem_of_getElem? (i := 65) rfl)) rfl
abbrev mX3_turnAbout : jv_M := (yX3_turnAbout, cX3_turnAbout, 2, none)
theorem okX3_turnAbout : jv_ok mX3_turnAbout 0 := ⟨lw_tg_in (tb_3 (List.mem_of_getElem? (i := 70) rfl)) rfl, lw_tg_in (tb_1 (List.mem_of_getElem? (i := 2) rfl)) rfl, ⟨by decide +kernel, by decide +kernel, by decide +kernel⟩, by decide +kernel, by decide⟩
theorem inX3_turnAbout : Cond.instanceMethod yX3_turnAbout ∈ lw_tg := lw_tg_in (tb_3 (List.mem_of_getElem? (i := 68) rfl)) rfl
theorem seX3_turnAbout : Cond.selects RX3 yX3_turnAbout yX3_turnAbout ∈ lw_tg := lw_tg_in (tb_3 (List.mem_of_getElem? (i := 69) rfl)) rfl
abbrev mX3_valueBy : jv_M := (yX3_valueBy, cX3_valueBy, 4, some .int)
theorem okX3_valueBy : jv_ok mX3_valueBy 1 := ⟨lw_tg_in (tb_3 (List.mem_of_getElem? (i := 75) rfl)) rfl, lw_tg_in (tb_1 (List.mem_of_getElem? (i := 2) rfl)) rfl, ⟨by decide +kernel, by decide +kernel, by decide +kernel⟩, by decide +kernel, by decide⟩
theorem inX3_valueBy : Cond.instanceMethod yX3_valueBy ∈ lw_tg := lw_tg_in (tb_3 (List.mem_of_getElem? (i := 73) rfl)) rfl
theorem seX3_valueBy : Cond.selects RX3 yX3_valueBy yX3_valueBy ∈ lw_tg := lw_tg_in (tb_3 (List.mem_of_getElem? (i := 74) rfl)) rfl
abbrev mX3_isMet : jv_M := (yX3_isMet, cX3_isMet, 5, some .boolean)
theorem okX3_isMet : jv_ok mX3_isMet 2 := ⟨lw_tg_in (tb_3 (List.mem_of_getElem? (i := 79) rfl)) rfl, lw_tg_in (tb_1 (List.mem_of_getElem? (i := 2) rfl)) rfl, ⟨by decide +kernel, by decide +kernel, by decide +kernel⟩, by decide +kernel, by decide⟩
theorem inX3_isMet : Cond.instanceMethod yX3_isMet ∈ lw_tg := lw_tg_in (tb_3 (List.mem_of_getElem? (i := 77) rfl)) rfl
theorem seX3_isMet : Cond.selects RX3 yX3_isMet yX3_isMet ∈ lw_tg := lw_tg_in (tb_3 (List.mem_of_getElem? (i := 78) rfl)) rfl
abbrev mX4_unlike : jv_M := (yX4_unlike, cX4_unlike, 5, some .int)
theorem okX4_unlike : jv_ok mX4_unlike 2 := ⟨lw_tg_in (tb_3 (List.mem_of_getElem? (i := 83) rfl)) rfl, lw_tg_in (tb_1 (List.mem_of_getElem? (i := 1) rfl)) rfl, ⟨by decide +kernel, by decide +kernel, by decide +kernel⟩, by decide +kernel, by decide⟩
theorem inX4_unlike : Cond.instanceMethod yX4_unlike ∈ lw_tg := lw_tg_in (tb_3 (List.mem_of_getElem? (i := 81) rfl)) rfl
theorem seX4_unlike : Cond.selects RX4 yX4_unlike yX4_unlike ∈ lw_tg := lw_tg_in (tb_3 (List.mem_of_getElem? (i := 82) rfl)) rfl
abbrev mX4_unmet : jv_M := (yX4_unmet, cX4_unmet, 5, some .int)
theorem okX4_unmet : jv_ok mX4_unmet 1 := ⟨lw_tg_in (tb_3 (List.mem_of_getElem? (i := 87) rfl)) rfl, lw_tg_in (tb_1 (List.mem_of_getElem? (i := 1) rfl)) rfl, ⟨by decide +kernel, by decide +kernel, by decide +kernel⟩, by decide +kernel, by decide⟩
theorem inX4_unmet : Cond.instanceMethod yX4_unmet ∈ lw_tg := lw_tg_in (tb_3 (List.mem_of_getElem? (i := 85) rfl)) rfl
theorem seX4_unmet : Cond.selects RX4 yX4_unmet yX4_unmet ∈ lw_tg := lw_tg_in (tb_3 (List.mem_of_getElem? (i := 86) rfl)) rfl
abbrev mX4_friendsOf : jv_M := (yX4_friendsOf, cX4_friendsOf, 2, some .int)
theorem okX4_friendsOf : jv_ok mX4_friendsOf 1 := ⟨lw_tg_in (tb_3 (List.mem_of_getElem? (i := 92) rfl)) rfl, lw_tg_in (tb_1 (List.mem_of_getElem? (i := 1) rfl)) rfl, ⟨by decide +kernel, by decide +kernel, by decide +kernel⟩, by decide +kernel, by decide⟩
theorem inX4_friendsOf : Cond.instanceMethod yX4_friendsOf ∈ lw_tg := lw_tg_in (tb_3 (List.mem_of_getElem? (i := 90) rfl)) rfl
theorem seX4_friendsOf : Cond.selects RX4 yX4_friendsOf yX4_friendsOf ∈ lw_tg := lw_tg_in (tb_3 (List.mem_of_getElem? (i := 91) rfl)) rfl
abbrev mX3_hangingWith : jv_M := (yX3_hangingWith, cX3_hangingWith, 7, some .int)
theorem okX3_hangingWith : jv_ok mX3_hangingWith 1 := ⟨lw_tg_in (tb_3 (List.mem_of_getElem? (i := 96) rfl)) rfl, lw_tg_in (tb_1 (List.mem_of_getElem? (i := 2) rfl)) rfl, ⟨by decide +kernel, by decide +kernel, by decide +kernel⟩, by decide +kernel, by decide⟩
theorem inX3_hangingWith : Cond.instanceMethod yX3_hangingWith ∈ lw_tg := lw_tg_in (tb_3 (List.mem_of_getElem? (i := 94) rfl)) rfl
theorem seX3_hangingWith : Cond.selects RX3 yX3_hangingWith yX3_hangingWith ∈ lw_tg := lw_tg_in (tb_3 (List.mem_of_getElem? (i := 95) rfl)) rfl
abbrev mX4_groups : jv_M := (yX4_groups, cX4_groups, 4, some .int)
theorem okX4_groups : jv_ok mX4_groups 0 := ⟨lw_tg_in (tb_3 (List.mem_of_getElem? (i := 100) rfl)) rfl, lw_tg_in (tb_1 (List.mem_of_getElem? (i := 1) rfl)) rfl, ⟨by decide +kernel, by decide +kernel, by decide +kernel⟩, by decide +kernel, by decide⟩
theorem inX4_groups : Cond.instanceMethod yX4_groups ∈ lw_tg := lw_tg_in (tb_3 (List.mem_of_getElem? (i := 98) rfl)) rfl
theorem seX4_groups : Cond.selects RX4 yX4_groups yX4_groups ∈ lw_tg := lw_tg_in (tb_3 (List.mem_of_getElem? (i := 99) rfl)) rfl
abbrev mX4_conflict : jv_M := (yX4_conflict, cX4_conflict, 2, some .int)
theorem okX4_conflict : jv_ok mX4_conflict 0 := ⟨lw_tg_in (tb_3 (List.mem_of_getElem? (i := 104) rfl)) rfl, lw_tg_in (tb_1 (List.mem_of_getElem? (i := 1) rfl)) rfl, ⟨by decide +kernel, by decide +kernel, by decide +kernel⟩, by decide +kernel, by decide⟩
theorem inX4_conflict : Cond.instanceMethod yX4_conflict ∈ lw_tg := lw_tg_in (tb_3 (List.mem_of_getElem? (i := 102) rfl)) rfl
theorem seX4_conflict : Cond.selects RX4 yX4_conflict yX4_conflict ∈ lw_tg := lw_tg_in (tb_3 (List.mem_of_getElem? (i := 103) rfl)) rfl
abbrev mX4_changes : jv_M := (yX4_changes, cX4_changes, 3, some .int)
theorem okX4_changes : jv_ok mX4_changes 2 := ⟨lw_tg_in (tb_3 (List.mem_of_getElem? (i := 108) rfl)) rfl, lw_tg_in (tb_1 (List.mem_of_getElem? (i := 1) rfl)) rfl, ⟨by decide +kernel, by decide +kernel, by decide +kernel⟩, by decide +kernel, by decide⟩
theorem inX4_changes : Cond.instanceMethod yX4_changes ∈ lw_tg := lw_tg_in (tb_3 (List.mem_of_getElem? (i := 106) rfl)) rfl
theorem seX4_changes : Cond.selects RX4 yX4_changes yX4_changes ∈ lw_tg := lw_tg_in (tb_3 (List.mem_of_getElem? (i := 107) rfl)) rfl
abbrev mX0_fewestChanges : jv_M := (yX0_fewestChanges, cX0_fewestChanges, 3, some .int)
theorem okX0_fewestChanges : jv_ok mX0_fewestChanges 2 := ⟨lw_tg_in (tb_3 (List.mem_of_getElem? (i := 112) rfl)) rfl, lw_tg_in (tb_1 (List.mem_of_getElem? (i := 3) rfl)) rfl, ⟨by decide +kernel, by decide +kernel, by decide +kernel⟩, by decide +kernel, by decide⟩
theorem inX0_fewestChanges : Cond.instanceMethod yX0_fewestChanges ∈ lw_tg := lw_tg_in (tb_3 (List.mem_of_getElem? (i := 110) rfl)) rfl
theorem seX0_fewestChanges : Cond.selects RX0 yX0_fewestChanges yX0_fewestChanges ∈ lw_tg := lw_tg_in (tb_3 (List.mem_of_getElem? (i := 111) rfl)) rfl
abbrev mX0_takeSides : jv_M := (yX0_takeSides, cX0_takeSides, 3, none)
theorem okX0_takeSides : jv_ok mX0_takeSides 1 := ⟨lw_tg_in (tb_3 (List.mem_of_getElem? (i := 116) rfl)) rfl, lw_tg_in (tb_1 (List.mem_of_getElem? (i := 3) rfl)) rfl, ⟨by decide +kernel, by decide +kernel, by decide +kernel⟩, by decide +kernel, by decide⟩
theorem inX0_takeSides : Cond.instanceMethod yX0_takeSides ∈ lw_tg := lw_tg_in (tb_3 (List.mem_of_getElem? (i := 115) rfl)) rfl
theorem seX0_takeSides : Cond.selects RX0 yX0_takeSides yX0_takeSides ∈ lw_tg := lw_tg_in (List.mem_of_getElem? (i := 15) (by decide +kernel)) rfl
abbrev mX0_valueOfSides : jv_M := (yX0_valueOfSides, cX0_valueOfSides, 4, some .int)
theorem okX0_valueOfSides : jv_ok mX0_valueOfSides 0 := ⟨lw_tg_in (tb_3 (List.mem_of_getElem? (i := 121) rfl)) rfl, lw_tg_in (tb_1 (List.mem_of_getElem? (i := 3) rfl)) rfl, ⟨by decide +kernel, by decide +kernel, by decide +kernel⟩, by decide +kernel, by decide⟩
theorem inX0_valueOfSides : Cond.instanceMethod yX0_valueOfSides ∈ lw_tg := lw_tg_in (tb_3 (List.mem_of_getElem? (i := 120) rfl)) rfl
theorem seX0_valueOfSides : Cond.selects RX0 yX0_valueOfSides yX0_valueOfSides ∈ lw_tg := lw_tg_in (List.mem_of_getElem? (i := 16) (by decide +kernel)) rfl
abbrev mX3_allWorths : jv_M := (yX3_allWorths, cX3_allWorths, 3, some .int)
theorem okX3_allWorths : jv_ok mX3_allWorths 0 := ⟨lw_tg_in (tb_3 (List.mem_of_getElem? (i := 125) rfl)) rfl, lw_tg_in (tb_1 (List.mem_of_getElem? (i := 2) rfl)) rfl, ⟨by decide +kernel, by decide +kernel, by decide +kernel⟩, by decide +kernel, by decide⟩
theorem inX3_allWorths : Cond.instanceMethod yX3_allWorths ∈ lw_tg := lw_tg_in (tb_3 (List.mem_of_getElem? (i := 123) rfl)) rfl
theorem seX3_allWorths : Cond.selects RX3 yX3_allWorths yX3_allWorths ∈ lw_tg := lw_tg_in (tb_3 (List.mem_of_getElem? (i := 124) rfl)) rfl
abbrev mX0_oneChangeReaches : jv_M := (yX0_oneChangeReaches, cX0_oneChangeReaches, 6, some .boolean)
theorem okX0_oneChangeReaches : jv_ok mX0_oneChangeReaches 3 := ⟨lw_tg_in (tb_3 (List.mem_of_getElem? (i := 129) rfl)) rfl, lw_tg_in (tb_1 (List.mem_of_getElem? (i := 3) rfl)) rfl, ⟨by decide +kernel, by decide +kernel, by decide +kernel⟩, by decide +kernel, by decide⟩
theorem inX0_oneChangeReaches : Cond.instanceMethod yX0_oneChangeReaches ∈ lw_tg := lw_tg_in (tb_3 (List.mem_of_getElem? (i := 128) rfl)) rfl
theorem seX0_oneChangeReaches : Cond.selects RX0 yX0_oneChangeReaches yX0_oneChangeReaches ∈ lw_tg := lw_tg_in (List.mem_of_getElem? (i := 17) (by decide +kernel)) rfl
abbrev mX0_valueWithChange : jv_M := (yX0_valueWithChange, cX0_valueWithChange, 4, some .int)
theorem okX0_valueWithChange : jv_ok mX0_valueWithChange 2 := ⟨lw_tg_in (tb_3 (List.mem_of_getElem? (i := 133) rfl)) rfl, lw_tg_in (tb_1 (List.mem_of_getElem? (i := 3) rfl)) rfl, ⟨by decide +kernel, by decide +kernel, by decide +kernel⟩, by decide +kernel, by decide⟩
theorem inX0_valueWithChange : Cond.instanceMethod yX0_valueWithChange ∈ lw_tg := lw_tg_in (tb_3 (List.mem_of_getElem? (i := 132) rfl)) rfl
theorem seX0_valueWithChange : Cond.selects RX0 yX0_valueWithChange yX0_valueWithChange ∈ lw_tg := lw_tg_in (List.mem_of_getElem? (i := 18) (by decide +kernel)) rfl
abbrev mX0_exchangeSides : jv_M := (yX0_exchangeSides, cX0_exchangeSides, 4, none)
theorem okX0_exchangeSides : jv_ok mX0_exchangeSides 2 := ⟨lw_tg_in (tb_3 (List.mem_of_getElem? (i := 137) rfl)) rfl, lw_tg_in (tb_1 (List.mem_of_getElem? (i := 3) rfl)) rfl, ⟨by decide +kernel, by decide +kernel, by decide +kernel⟩, by decide +kernel, by decide⟩
theorem inX0_exchangeSides : Cond.instanceMethod yX0_exchangeSides ∈ lw_tg := lw_tg_in (tb_3 (List.mem_of_getElem? (i := 136) rfl)) rfl
theorem seX0_exchangeSides : Cond.selects RX0 yX0_exchangeSides yX0_exchangeSides ∈ lw_tg := lw_tg_in (List.mem_of_getElem? (i := 19) (by decide +kernel)) rfl
abbrev mX0_twoChangesReach : jv_M := (yX0_twoChangesReach, cX0_twoChangesReach, 5, some .boolean)
theorem okX0_twoChangesReach : jv_ok mX0_twoChangesReach 1 := ⟨lw_tg_in (tb_3 (List.mem_of_getElem? (i := 141) rfl)) rfl, lw_tg_in (tb_1 (List.mem_of_getElem? (i := 3) rfl)) rfl, ⟨by decide +kernel, by decide +kernel, by decide +kernel⟩, by decide +kernel, by decide⟩
theorem inX0_twoChangesReach : Cond.instanceMethod yX0_twoChangesReach ∈ lw_tg := lw_tg_in (tb_3 (List.mem_of_getElem? (i := 140) rfl)) rfl
theorem seX0_twoChangesReach : Cond.selects RX0 yX0_twoChangesReach yX0_twoChangesReach ∈ lw_tg := lw_tg_in (List.mem_of_getElem? (i := 20) (by decide +kernel)) rfl
abbrev mX4_place : jv_M := (yX4_place, cX4_place, 2, some .int)
theorem okX4_place : jv_ok mX4_place 1 := ⟨lw_tg_in (tb_3 (List.mem_of_getElem? (i := 145) rfl)) rfl, lw_tg_in (tb_1 (List.mem_of_getElem? (i := 1) rfl)) rfl, ⟨by decide +kernel, by decide +kernel, by decide +kernel⟩, by decide +kernel, by decide⟩
theorem inX4_place : Cond.instanceMethod yX4_place ∈ lw_tg := lw_tg_in (tb_3 (List.mem_of_getElem? (i := 143) rfl)) rfl
theorem seX4_place : Cond.selects RX4 yX4_place yX4_place ∈ lw_tg := lw_tg_in (tb_3 (List.mem_of_getElem? (i := 144) rfl)) rfl
abbrev mX0_bestPlace : jv_M := (yX0_bestPlace, cX0_bestPlace, 7, some .int)
theorem okX0_bestPlace : jv_ok mX0_bestPlace 1 := ⟨lw_tg_in (tb_3 (List.mem_of_getElem? (i := 149) rfl)) rfl, lw_tg_in (tb_1 (List.mem_of_getElem? (i := 3) rfl)) rfl, ⟨by decide +kernel, by decide +kernel, by decide +kernel⟩, by decide +kernel, by decide⟩
theorem inX0_bestPlace : Cond.instanceMethod yX0_bestPlace ∈ lw_tg := lw_tg_in (tb_3 (List.mem_of_getElem? (i := 147) rfl)) rfl
theorem seX0_bestPlace : Cond.selects RX0 yX0_bestPlace yX0_bestPlace ∈ lw_tg := lw_tg_in (tb_3 (List.mem_of_getElem? (i := 148) rfl)) rfl
abbrev mX3_valueByAll : jv_M := (yX3_valueByAll, cX3_valueByAll, 3, some .int)
theorem okX3_valueByAll : jv_ok mX3_valueByAll 0 := ⟨lw_tg_in (tb_3 (List.mem_of_getElem? (i := 154) rfl)) rfl, lw_tg_in (tb_1 (List.mem_of_getElem? (i := 2) rfl)) rfl, ⟨by decide +kernel, by decide +kernel, by decide +kernel⟩, by decide +kernel, by decide⟩
theorem inX3_valueByAll : Cond.instanceMethod yX3_valueByAll ∈ lw_tg := lw_tg_in (tb_3 (List.mem_of_getElem? (i := 152) rfl)) rfl
theorem seX3_valueByAll : Cond.selects RX3 yX3_valueByAll yX3_valueByAll ∈ lw_tg := lw_tg_in (tb_3 (List.mem_of_getElem? (i := 153) rfl)) rfl
abbrev mX4_value : jv_M := (yX4_value, cX4_value, 2, some .int)
theorem okX4_value : jv_ok mX4_value 1 := ⟨lw_tg_in (tb_3 (List.mem_of_getElem? (i := 159) rfl)) rfl, lw_tg_in (tb_1 (List.mem_of_getElem? (i := 1) rfl)) rfl, ⟨by decide +kernel, by decide +kernel, by decide +kernel⟩, by decide +kernel, by decide⟩
theorem inX4_value : Cond.instanceMethod yX4_value ∈ lw_tg := lw_tg_in (tb_3 (List.mem_of_getElem? (i := 157) rfl)) rfl
theorem seX4_value : Cond.selects RX4 yX4_value yX4_value ∈ lw_tg := lw_tg_in (tb_3 (List.mem_of_getElem? (i := 158) rfl)) rfl
abbrev mX4_met : jv_M := (yX4_met, cX4_met, 3, some .int)
theorem okX4_met : jv_ok mX4_met 2 := ⟨lw_tg_in (tb_3 (List.mem_of_getElem? (i := 163) rfl)) rfl, lw_tg_in (tb_1 (List.mem_of_getElem? (i := 1) rfl)) rfl, ⟨by decide +kernel, by decide +kernel, by decide +kernel⟩, by decide +kernel, by decide⟩
theorem inX4_met : Cond.instanceMethod yX4_met ∈ lw_tg := lw_tg_in (tb_3 (List.mem_of_getElem? (i := 161) rfl)) rfl
theorem seX4_met : Cond.selects RX4 yX4_met yX4_met ∈ lw_tg := lw_tg_in (tb_3 (List.mem_of_getElem? (i := 162) rfl)) rfl
abbrev mX4_best : jv_M := (yX4_best, cX4_best, 4, some .int)
theorem okX4_best : jv_ok mX4_best 1 := ⟨lw_tg_in (tb_3 (List.mem_of_getElem? (i := 167) rfl)) rfl, lw_tg_in (tb_1 (List.mem_of_getElem? (i := 1) rfl)) rfl, ⟨by decide +kernel, by decide +kernel, by decide +kernel⟩, by decide +kernel, by decide⟩
theorem inX4_best : Cond.instanceMethod yX4_best ∈ lw_tg := lw_tg_in (tb_3 (List.mem_of_getElem? (i := 165) rfl)) rfl
theorem seX4_best : Cond.selects RX4 yX4_best yX4_best ∈ lw_tg := lw_tg_in (tb_3 (List.mem_of_getElem? (i := 166) rfl)) rfl
abbrev mX4_merit : jv_M := (yX4_merit, cX4_merit, 4, some .int)
theorem okX4_merit : jv_ok mX4_merit 2 := ⟨lw_tg_in (tb_3 (List.mem_of_getElem? (i := 171) rfl)) rfl, lw_tg_in (tb_1 (List.mem_of_getElem? (i := 1) rfl)) rfl, ⟨by decide +kernel, by decide +kernel, by decide +kernel⟩, by decide +kernel, by decide⟩
theorem inX4_merit : Cond.instanceMethod yX4_merit ∈ lw_tg := lw_tg_in (tb_3 (List.mem_of_getElem? (i := 170) rfl)) rfl
theorem seX4_merit : Cond.selects RX4 yX4_merit yX4_merit ∈ lw_tg := lw_tg_in (List.mem_of_getElem? (i := 21) (by decide +kernel)) rfl
abbrev mX3_unevenness : jv_M := (yX3_unevenness, cX3_unevenness, 6, some .int)
theorem okX3_unevenness : jv_ok mX3_unevenness 1 := ⟨lw_tg_in (tb_3 (List.mem_of_getElem? (i := 175) rfl)) rfl, lw_tg_in (tb_1 (List.mem_of_getElem? (i := 2) rfl)) rfl, ⟨by decide +kernel, by decide +kernel, by decide +kernel⟩, by decide +kernel, by decide⟩
theorem inX3_unevenness : Cond.instanceMethod yX3_unevenness ∈ lw_tg := lw_tg_in (tb_3 (List.mem_of_getElem? (i := 173) rfl)) rfl
theorem seX3_unevenness : Cond.selects RX3 yX3_unevenness yX3_unevenness ∈ lw_tg := lw_tg_in (tb_3 (List.mem_of_getElem? (i := 174) rfl)) rfl
abbrev mJ9_max_7cf53 : jv_M := (yJ9_max_7cf53, cJ9_max_7cf53, 2, some .int)
theorem stJ9_max_7cf53 : Cond.static yJ9_max_7cf53 ∈ lw_tg := lw_tg_in (tb_3 (List.mem_of_getElem? (i := 178) rfl)) rfl
abbrev mJ9_min_7cf53 : jv_M := (yJ9_min_7cf53, cJ9_min_7cf53, 2, some .int)
theorem stJ9_min_7cf53 : Cond.static yJ9_min_7cf53 ∈ lw_tg := lw_tg_in (tb_3 (List.mem_of_getElem? (i := 181) rfl)) rfl
abbrev mX4_even : jv_M := (yX4_even, cX4_even, 2, some .int)
theorem okX4_even : jv_ok mX4_even 1 := ⟨lw_tg_in (tb_3 (List.mem_of_getElem? (i := 186) rfl)) rfl, lw_tg_in (tb_1 (List.mem_of_getElem? (i := 1) rfl)) rfl, ⟨by decide +kernel, by decide +kernel, by decide +kernel⟩, by decide +kernel, by decide⟩
theorem inX4_even : Cond.instanceMethod yX4_even ∈ lw_tg := lw_tg_in (tb_3 (List.mem_of_getElem? (i := 184) rfl)) rfl
theorem seX4_even : Cond.selects RX4 yX4_even yX4_even ∈ lw_tg := lw_tg_in (tb_3 (List.mem_of_getElem? (i := 185) rfl)) rfl
abbrev mX4_change : jv_M := (yX4_change, cX4_change, 2, some .int)
theorem okX4_change : jv_ok mX4_change 1 := ⟨lw_tg_in (tb_3 (List.mem_of_getElem? (i := 190) rfl)) rfl, lw_tg_in (tb_1 (List.mem_of_getElem? (i := 1) rfl)) rfl, ⟨by decide +kernel, by decide +kernel, by decide +kernel⟩, by decide +kernel, by decide⟩
theorem inX4_change : Cond.instanceMethod yX4_change ∈ lw_tg := lw_tg_in (tb_3 (List.mem_of_getElem? (i := 188) rfl)) rfl
theorem seX4_change : Cond.selects RX4 yX4_change yX4_change ∈ lw_tg := lw_tg_in (tb_3 (List.mem_of_getElem? (i := 189) rfl)) rfl
abbrev mX0_bestChange : jv_M := (yX0_bestChange, cX0_bestChange, 7, some .int)
theorem okX0_bestChange : jv_ok mX0_bestChange 1 := ⟨lw_tg_in (tb_3 (List.mem_of_getElem? (i := 194) rfl)) rfl, lw_tg_in (tb_1 (List.mem_of_getElem? (i := 3) rfl)) rfl, ⟨by decide +kernel, by decide +kernel, by decide +kernel⟩, by decide +kernel, by decide⟩
theorem inX0_bestChange : Cond.instanceMethod yX0_bestChange ∈ lw_tg := lw_tg_in (tb_3 (List.mem_of_getElem? (i := 192) rfl)) rfl
theorem seX0_bestChange : Cond.selects RX0 yX0_bestChange yX0_bestChange ∈ lw_tg := lw_tg_in (tb_3 (List.mem_of_getElem? (i := 193) rfl)) rfl
abbrev mX3_inReach : jv_M := (yX3_inReach, cX3_inReach, 4, some .boolean)
theorem okX3_inReach : jv_ok mX3_inReach 2 := ⟨lw_tg_in (tb_3 (List.mem_of_getElem? (i := 198) rfl)) rfl, lw_tg_in (tb_1 (List.mem_of_getElem? (i := 2) rfl)) rfl, ⟨by decide +kernel, by decide +kernel, by decide +kernel⟩, by decide +kernel, by decide⟩
theorem inX3_inReach : Cond.instanceMethod yX3_inReach ∈ lw_tg := lw_tg_in (tb_3 (List.mem_of_getElem? (i := 196) rfl)) rfl
theorem seX3_inReach : Cond.selects RX3 yX3_inReach yX3_inReach ∈ lw_tg := lw_tg_in (tb_3 (List.mem_of_getElem? (i := 197) rfl)) rfl
abbrev mJ9_abs_0f7a4 : jv_M := (yJ9_abs_0f7a4, cJ9_abs_0f7a4, 1, some .int)
theorem stJ9_abs_0f7a4 : Cond.static yJ9_abs_0f7a4 ∈ lw_tg := lw_tg_in (tb_3 (List.mem_of_getElem? (i := 200) rfl)) rfl
abbrev mX4_far : jv_M := (yX4_far, cX4_far, 4, some .int)
theorem okX4_far : jv_ok mX4_far 3 := ⟨lw_tg_in (tb_3 (List.mem_of_getElem? (i := 205) rfl)) rfl, lw_tg_in (tb_1 (List.mem_of_getElem? (i := 1) rfl)) rfl, ⟨by decide +kernel, by decide +kernel, by decide +kernel⟩, by decide +kernel, by decide⟩
theorem inX4_far : Cond.instanceMethod yX4_far ∈ lw_tg := lw_tg_in (tb_3 (List.mem_of_getElem? (i := 203) rfl)) rfl
theorem seX4_far : Cond.selects RX4 yX4_far yX4_far ∈ lw_tg := lw_tg_in (tb_3 (List.mem_of_getElem? (i := 204) rfl)) rfl
abbrev mX0_shortestMove : jv_M := (yX0_shortestMove, cX0_shortestMove, 6, some .int)
theorem okX0_shortestMove : jv_ok mX0_shortestMove 3 := ⟨lw_tg_in (tb_3 (List.mem_of_getElem? (i := 209) rfl)) rfl, lw_tg_in (tb_1 (List.mem_of_getElem? (i := 3) rfl)) rfl, ⟨by decide +kernel, by decide +kernel, by decide +kernel⟩, by decide +kernel, by decide⟩
theorem inX0_shortestMove : Cond.instanceMethod yX0_shortestMove ∈ lw_tg := lw_tg_in (tb_3 (List.mem_of_getElem? (i := 207) rfl)) rfl
theorem seX0_shortestMove : Cond.selects RX0 yX0_shortestMove yX0_shortestMove ∈ lw_tg := lw_tg_in (tb_3 (List.mem_of_getElem? (i := 208) rfl)) rfl
abbrev mX0_shortestMoveOf : jv_M := (yX0_shortestMoveOf, cX0_shortestMoveOf, 8, some .int)
theorem okX0_shortestMoveOf : jv_ok mX0_shortestMoveOf 3 := ⟨lw_tg_in (tb_3 (List.mem_of_getElem? (i := 213) rfl)) rfl, lw_tg_in (tb_1 (List.mem_of_getElem? (i := 3) rfl)) rfl, ⟨by decide +kernel, by decide +kernel, by decide +kernel⟩, by decide +kernel, by decide⟩
theorem inX0_shortestMoveOf : Cond.instanceMethod yX0_shortestMoveOf ∈ lw_tg := lw_tg_in (tb_3 (List.mem_of_getElem? (i := 212) rfl)) rfl
theorem seX0_shortestMoveOf : Cond.selects RX0 yX0_shortestMoveOf yX0_shortestMoveOf ∈ lw_tg := lw_tg_in (List.mem_of_getElem? (i := 22) (by decide +kernel)) rfl
abbrev mX3_sameSide : jv_M := (yX3_sameSide, cX3_sameSide, 4, some .boolean)
theorem okX3_sameSide : jv_ok mX3_sameSide 3 := ⟨lw_tg_in (tb_3 (List.mem_of_getElem? (i := 218) rfl)) rfl, lw_tg_in (tb_1 (List.mem_of_getElem? (i := 2) rfl)) rfl, ⟨by decide +kernel, by decide +kernel, by decide +kernel⟩, by decide +kernel, by decide⟩
theorem inX3_sameSide : Cond.instanceMethod yX3_sameSide ∈ lw_tg := lw_tg_in (tb_3 (List.mem_of_getElem? (i := 216) rfl)) rfl
theorem seX3_sameSide : Cond.selects RX3 yX3_sameSide yX3_sameSide ∈ lw_tg := lw_tg_in (tb_3 (List.mem_of_getElem? (i := 217) rfl)) rfl
abbrev mX4_most : jv_M := (yX4_most, cX4_most, 2, some .int)
theorem okX4_most : jv_ok mX4_most 1 := ⟨lw_tg_in (tb_3 (List.mem_of_getElem? (i := 224) rfl)) rfl, lw_tg_in (tb_1 (List.mem_of_getElem? (i := 1) rfl)) rfl, ⟨by decide +kernel, by decide +kernel, by decide +kernel⟩, by decide +kernel, by decide⟩
theorem inX4_most : Cond.instanceMethod yX4_most ∈ lw_tg := lw_tg_in (tb_3 (List.mem_of_getElem? (i := 222) rfl)) rfl
theorem seX4_most : Cond.selects RX4 yX4_most yX4_most ∈ lw_tg := lw_tg_in (tb_3 (List.mem_of_getElem? (i := 223) rfl)) rfl
abbrev mX0_greatestValue : jv_M := (yX0_greatestValue, cX0_greatestValue, 3, some .int)
theorem okX0_greatestValue : jv_ok mX0_greatestValue 1 := ⟨lw_tg_in (tb_3 (List.mem_of_getElem? (i := 228) rfl)) rfl, lw_tg_in (tb_1 (List.mem_of_getElem? (i := 3) rfl)) rfl, ⟨by decide +kernel, by decide +kernel, by decide +kernel⟩, by decide +kernel, by decide⟩
theorem inX0_greatestValue : Cond.instanceMethod yX0_greatestValue ∈ lw_tg := lw_tg_in (tb_3 (List.mem_of_getElem? (i := 226) rfl)) rfl
theorem seX0_greatestValue : Cond.selects RX0 yX0_greatestValue yX0_greatestValue ∈ lw_tg := lw_tg_in (tb_3 (List.mem_of_getElem? (i := 227) rfl)) rfl
abbrev mX0_greatestFrom : jv_M := (yX0_greatestFrom, cX0_greatestFrom, 4, some .int)
theorem okX0_greatestFrom : jv_ok mX0_greatestFrom 1 := ⟨lw_tg_in (tb_3 (List.mem_of_getElem? (i := 233) rfl)) rfl, lw_tg_in (tb_1 (List.mem_of_getElem? (i := 3) rfl)) rfl, ⟨by decide +kernel, by decide +kernel, by decide +kernel⟩, by decide +kernel, by decide⟩
theorem inX0_greatestFrom : Cond.instanceMethod yX0_greatestFrom ∈ lw_tg := lw_tg_in (tb_3 (List.mem_of_getElem? (i := 232) rfl)) rfl
theorem seX0_greatestFrom : Cond.selects RX0 yX0_greatestFrom yX0_greatestFrom ∈ lw_tg := lw_tg_in (List.mem_of_getElem? (i := 23) (by decide +kernel)) rfl
abbrev mX0_isLikeOneAhead : jv_M := (yX0_isLikeOneAhead, cX0_isLikeOneAhead, 3, some .boolean)
theorem okX0_isLikeOneAhead : jv_ok mX0_isLikeOneAhead 1 := ⟨lw_tg_in (tb_3 (List.mem_of_getElem? (i := 237) rfl)) rfl, lw_tg_in (tb_1 (List.mem_of_getElem? (i := 3) rfl)) rfl, ⟨by decide +kernel, by decide +kernel, by decide +kernel⟩, by decide +kernel, by decide⟩
theorem inX0_isLikeOneAhead : Cond.instanceMethod yX0_isLikeOneAhead ∈ lw_tg := lw_tg_in (tb_3 (List.mem_of_getElem? (i := 236) rfl)) rfl
theorem seX0_isLikeOneAhead : Cond.selects RX0 yX0_isLikeOneAhead yX0_isLikeOneAhead ∈ lw_tg := lw_tg_in (List.mem_of_getElem? (i := 24) (by decide +kernel)) rfl
abbrev mX4_always : jv_M := (yX4_always, cX4_always, 4, some .int)
theorem okX4_always : jv_ok mX4_always 1 := ⟨lw_tg_in (tb_4 (List.mem_of_getElem? (i := 1) rfl)) rfl, lw_tg_in (tb_1 (List.mem_of_getElem? (i := 1) rfl)) rfl, ⟨by decide +kernel, by decide +kernel, by decide +kernel⟩, by decide +kernel, by decide⟩
theorem inX4_always : Cond.instanceMethod yX4_always ∈ lw_tg := lw_tg_in (tb_3 (List.mem_of_getElem? (i := 239) rfl)) rfl
theorem seX4_always : Cond.selects RX4 yX4_always yX4_always ∈ lw_tg := lw_tg_in (tb_4 (List.mem_of_getElem? (i := 0) rfl)) rfl
abbrev mX3_timesTogether : jv_M := (yX3_timesTogether, cX3_timesTogether, 5, some .int)
theorem okX3_timesTogether : jv_ok mX3_timesTogether 2 := ⟨lw_tg_in (tb_4 (List.mem_of_getElem? (i := 5) rfl)) rfl, lw_tg_in (tb_1 (List.mem_of_getElem? (i := 2) rfl)) rfl, ⟨by decide +kernel, by decide +kernel, by decide +kernel⟩, by decide +kernel, by decide⟩
theorem inX3_timesTogether : Cond.instanceMethod yX3_timesTogether ∈ lw_tg := lw_tg_in (tb_4 (List.mem_of_getElem? (i := 3) rfl)) rfl
theorem seX3_timesTogether : Cond.selects RX3 yX3_timesTogether yX3_timesTogether ∈ lw_tg := lw_tg_in (tb_4 (List.mem_of_getElem? (i := 4) rfl)) rfl
abbrev mX4_often : jv_M := (yX4_often, cX4_often, 3, some .int)
theorem okX4_often : jv_ok mX4_often 2 := ⟨lw_tg_in (tb_4 (List.mem_of_getElem? (i := 10) rfl)) rfl, lw_tg_in (tb_1 (List.mem_of_getElem? (i := 1) rfl)) rfl, ⟨by decide +kernel, by decide +kernel, by decide +kernel⟩, by decide +kernel, by decide⟩
theorem inX4_often : Cond.instanceMethod yX4_often ∈ lw_tg := lw_tg_in (tb_4 (List.mem_of_getElem? (i := 8) rfl)) rfl
theorem seX4_often : Cond.selects RX4 yX4_often yX4_often ∈ lw_tg := lw_tg_in (tb_4 (List.mem_of_getElem? (i := 9) rfl)) rfl
abbrev mX4_safe : jv_M := (yX4_safe, cX4_safe, 3, some .int)
theorem okX4_safe : jv_ok mX4_safe 2 := ⟨lw_tg_in (tb_4 (List.mem_of_getElem? (i := 14) rfl)) rfl, lw_tg_in (tb_1 (List.mem_of_getElem? (i := 1) rfl)) rfl, ⟨by decide +kernel, by decide +kernel, by decide +kernel⟩, by decide +kernel, by decide⟩
theorem inX4_safe : Cond.instanceMethod yX4_safe ∈ lw_tg := lw_tg_in (tb_4 (List.mem_of_getElem? (i := 12) rfl)) rfl
theorem seX4_safe : Cond.selects RX4 yX4_safe yX4_safe ∈ lw_tg := lw_tg_in (tb_4 (List.mem_of_getElem? (i := 13) rfl)) rfl
abbrev mX0_safestPlace : jv_M := (yX0_safestPlace, cX0_safestPlace, 8, some .int)
theorem okX0_safestPlace : jv_ok mX0_safestPlace 2 := ⟨lw_tg_in (tb_4 (List.mem_of_getElem? (i := 18) rfl)) rfl, lw_tg_in (tb_1 (List.mem_of_getElem? (i := 3) rfl)) rfl, ⟨by decide +kernel, by decide +kernel, by decide +kernel⟩, by decide +kernel, by decide⟩
theorem inX0_safestPlace : Cond.instanceMethod yX0_safestPlace ∈ lw_tg := lw_tg_in (tb_4 (List.mem_of_getElem? (i := 16) rfl)) rfl
theorem seX0_safestPlace : Cond.selects RX0 yX0_safestPlace yX0_safestPlace ∈ lw_tg := lw_tg_in (tb_4 (List.mem_of_getElem? (i := 17) rfl)) rfl
abbrev mX4_out : jv_M := (yX4_out, cX4_out, 3, some .int)
theorem okX4_out : jv_ok mX4_out 2 := ⟨lw_tg_in (tb_4 (List.mem_of_getElem? (i := 23) rfl)) rfl, lw_tg_in (tb_1 (List.mem_of_getElem? (i := 1) rfl)) rfl, ⟨by decide +kernel, by decide +kernel, by decide +kernel⟩, by decide +kernel, by decide⟩
theorem inX4_out : Cond.instanceMethod yX4_out ∈ lw_tg := lw_tg_in (tb_4 (List.mem_of_getElem? (i := 21) rfl)) rfl
theorem seX4_out : Cond.selects RX4 yX4_out yX4_out ∈ lw_tg := lw_tg_in (tb_4 (List.mem_of_getElem? (i := 22) rfl)) rfl
abbrev mX0_countOut : jv_M := (yX0_countOut, cX0_countOut, 5, none)
theorem okX0_countOut : jv_ok mX0_countOut 1 := ⟨lw_tg_in (tb_4 (List.mem_of_getElem? (i := 27) rfl)) rfl, lw_tg_in (tb_1 (List.mem_of_getElem? (i := 3) rfl)) rfl, ⟨by decide +kernel, by decide +kernel, by decide +kernel⟩, by decide +kernel, by decide⟩
theorem inX0_countOut : Cond.instanceMethod yX0_countOut ∈ lw_tg := lw_tg_in (tb_4 (List.mem_of_getElem? (i := 25) rfl)) rfl
theorem seX0_countOut : Cond.selects RX0 yX0_countOut yX0_countOut ∈ lw_tg := lw_tg_in (tb_4 (List.mem_of_getElem? (i := 26) rfl)) rfl
abbrev mX4_outAt : jv_M := (yX4_outAt, cX4_outAt, 4, some .int)
theorem okX4_outAt : jv_ok mX4_outAt 2 := ⟨lw_tg_in (tb_4 (List.mem_of_getElem? (i := 32) rfl)) rfl, lw_tg_in (tb_1 (List.mem_of_getElem? (i := 1) rfl)) rfl, ⟨by decide +kernel, by decide +kernel, by decide +kernel⟩, by decide +kernel, by decide⟩
theorem inX4_outAt : Cond.instanceMethod yX4_outAt ∈ lw_tg := lw_tg_in (tb_4 (List.mem_of_getElem? (i := 30) rfl)) rfl
theorem seX4_outAt : Cond.selects RX4 yX4_outAt yX4_outAt ∈ lw_tg := lw_tg_in (tb_4 (List.mem_of_getElem? (i := 31) rfl)) rfl
abbrev mX4_stays : jv_M := (yX4_stays, cX4_stays, 3, some .int)
theorem okX4_stays : jv_ok mX4_stays 1 := ⟨lw_tg_in (tb_4 (List.mem_of_getElem? (i := 36) rfl)) rfl, lw_tg_in (tb_1 (List.mem_of_getElem? (i := 1) rfl)) rfl, ⟨by decide +kernel, by decide +kernel, by decide +kernel⟩, by decide +kernel, by decide⟩
theorem inX4_stays : Cond.instanceMethod yX4_stays ∈ lw_tg := lw_tg_in (tb_4 (List.mem_of_getElem? (i := 34) rfl)) rfl
theorem seX4_stays : Cond.selects RX4 yX4_stays yX4_stays ∈ lw_tg := lw_tg_in (tb_4 (List.mem_of_getElem? (i := 35) rfl)) rfl
abbrev mX4_fits : jv_M := (yX4_fits, cX4_fits, 5, some .int)
theorem okX4_fits : jv_ok mX4_fits 1 := ⟨lw_tg_in (tb_4 (List.mem_of_getElem? (i := 40) rfl)) rfl, lw_tg_in (tb_1 (List.mem_of_getElem? (i := 1) rfl)) rfl, ⟨by decide +kernel, by decide +kernel, by decide +kernel⟩, by decide +kernel, by decide⟩
theorem inX4_fits : Cond.instanceMethod yX4_fits ∈ lw_tg := lw_tg_in (tb_4 (List.mem_of_getElem? (i := 38) rfl)) rfl
theorem seX4_fits : Cond.selects RX4 yX4_fits yX4_fits ∈ lw_tg := lw_tg_in (tb_4 (List.mem_of_getElem? (i := 39) rfl)) rfl
abbrev mX4_toldTrouble : jv_M := (yX4_toldTrouble, cX4_toldTrouble, 4, some .int)
theorem okX4_toldTrouble : jv_ok mX4_toldTrouble 2 := ⟨lw_tg_in (tb_4 (List.mem_of_getElem? (i := 44) rfl)) rfl, lw_tg_in (tb_1 (List.mem_of_getElem? (i := 1) rfl)) rfl, ⟨by decide +kernel, by decide +kernel, by decide +kernel⟩, by decide +kernel, by decide⟩
theorem inX4_toldTrouble : Cond.instanceMethod yX4_toldTrouble ∈ lw_tg := lw_tg_in (tb_4 (List.mem_of_getElem? (i := 43) rfl)) rfl
theorem seX4_toldTrouble : Cond.selects RX4 yX4_toldTrouble yX4_toldTrouble ∈ lw_tg := lw_tg_in (List.mem_of_getElem? (i := 25) (by decide +kernel)) rfl
abbrev mX3_unlikeTold : jv_M := (yX3_unlikeTold, cX3_unlikeTold, 5, some .int)
theorem okX3_unlikeTold : jv_ok mX3_unlikeTold 2 := ⟨lw_tg_in (tb_4 (List.mem_of_getElem? (i := 48) rfl)) rfl, lw_tg_in (tb_1 (List.mem_of_getElem? (i := 2) rfl)) rfl, ⟨by decide +kernel, by decide +kernel, by decide +kernel⟩, by decide +kernel, by decide⟩
theorem inX3_unlikeTold : Cond.instanceMethod yX3_unlikeTold ∈ lw_tg := lw_tg_in (tb_4 (List.mem_of_getElem? (i := 46) rfl)) rfl
theorem seX3_unlikeTold : Cond.selects RX3 yX3_unlikeTold yX3_unlikeTold ∈ lw_tg := lw_tg_in (tb_4 (List.mem_of_getElem? (i := 47) rfl)) rfl
abbrev mX4_moved : jv_M := (yX4_moved, cX4_moved, 4, some .int)
theorem okX4_moved : jv_ok mX4_moved 2 := ⟨lw_tg_in (tb_4 (List.mem_of_getElem? (i := 52) rfl)) rfl, lw_tg_in (tb_1 (List.mem_of_getElem? (i := 1) rfl)) rfl, ⟨by decide +kernel, by decide +kernel, by decide +kernel⟩, by decide +kernel, by decide⟩
theorem inX4_moved : Cond.instanceMethod yX4_moved ∈ lw_tg := lw_tg_in (tb_4 (List.mem_of_getElem? (i := 50) rfl)) rfl
theorem seX4_moved : Cond.selects RX4 yX4_moved yX4_moved ∈ lw_tg := lw_tg_in (tb_4 (List.mem_of_getElem? (i := 51) rfl)) rfl
abbrev mX0_firstChangeToFit : jv_M := (yX0_firstChangeToFit, cX0_firstChangeToFit, 6, some .int)
theorem okX0_firstChangeToFit : jv_ok mX0_firstChangeToFit 2 := ⟨lw_tg_in (tb_4 (List.mem_of_getElem? (i := 56) rfl)) rfl, lw_tg_in (tb_1 (List.mem_of_getElem? (i := 3) rfl)) rfl, ⟨by decide +kernel, by decide +kernel, by decide +kernel⟩, by decide +kernel, by decide⟩
theorem inX0_firstChangeToFit : Cond.instanceMethod yX0_firstChangeToFit ∈ lw_tg := lw_tg_in (tb_4 (List.mem_of_getElem? (i := 54) rfl)) rfl
theorem seX0_firstChangeToFit : Cond.selects RX0 yX0_firstChangeToFit yX0_firstChangeToFit ∈ lw_tg := lw_tg_in (tb_4 (List.mem_of_getElem? (i := 55) rfl)) rfl
abbrev mX4_miscounted : jv_M := (yX4_miscounted, cX4_miscounted, 5, some .int)
theorem okX4_miscounted : jv_ok mX4_miscounted 1 := ⟨lw_tg_in (tb_4 (List.mem_of_getElem? (i := 62) rfl)) rfl, lw_tg_in (tb_1 (List.mem_of_getElem? (i := 1) rfl)) rfl, ⟨by decide +kernel, by decide +kernel, by decide +kernel⟩, by decide +kernel, by decide⟩
theorem inX4_miscounted : Cond.instanceMethod yX4_miscounted ∈ lw_tg := lw_tg_in (tb_4 (List.mem_of_getElem? (i := 60) rfl)) rfl
theorem seX4_miscounted : Cond.selects RX4 yX4_miscounted yX4_miscounted ∈ lw_tg := lw_tg_in (tb_4 (List.mem_of_getElem? (i := 61) rfl)) rfl
abbrev mX4_judge : jv_M := (yX4_judge, cX4_judge, 4, some .int)
theorem okX4_judge : jv_ok mX4_judge 2 := ⟨lw_tg_in (tb_4 (List.mem_of_getElem? (i := 67) rfl)) rfl, lw_tg_in (tb_1 (List.mem_of_getElem? (i := 1) rfl)) rfl, ⟨by decide +kernel, by decide +kernel, by decide +kernel⟩, by decide +kernel, by decide⟩
theorem inX4_judge : Cond.instanceMethod yX4_judge ∈ lw_tg := lw_tg_in (tb_4 (List.mem_of_getElem? (i := 65) rfl)) rfl
theorem seX4_judge : Cond.selects RX4 yX4_judge yX4_judge ∈ lw_tg := lw_tg_in (tb_4 (List.mem_of_getElem? (i := 66) rfl)) rfl
abbrev mX4_firstWrong : jv_M := (yX4_firstWrong, cX4_firstWrong, 4, some .int)
theorem okX4_firstWrong : jv_ok mX4_firstWrong 2 := ⟨lw_tg_in (tb_4 (List.mem_of_getElem? (i := 71) rfl)) rfl, lw_tg_in (tb_1 (List.mem_of_getElem? (i := 1) rfl)) rfl, ⟨by decide +kernel, by decide +kernel, by decide +kernel⟩, by decide +kernel, by decide⟩
theorem inX4_firstWrong : Cond.instanceMethod yX4_firstWrong ∈ lw_tg := lw_tg_in (tb_4 (List.mem_of_getElem? (i := 70) rfl)) rfl
theorem seX4_firstWrong : Cond.selects RX4 yX4_firstWrong yX4_firstWrong ∈ lw_tg := lw_tg_in (List.mem_of_getElem? (i := 26) (by decide +kernel)) rfl
abbrev mX3_changeAsTold : jv_M := (yX3_changeAsTold, cX3_changeAsTold, 5, some .boolean)
theorem okX3_changeAsTold : jv_ok mX3_changeAsTold 1 := ⟨lw_tg_in (tb_4 (List.mem_of_getElem? (i := 75) rfl)) rfl, lw_tg_in (tb_1 (List.mem_of_getElem? (i := 2) rfl)) rfl, ⟨by decide +kernel, by decide +kernel, by decide +kernel⟩, by decide +kernel, by decide⟩
theorem inX3_changeAsTold : Cond.instanceMethod yX3_changeAsTold ∈ lw_tg := lw_tg_in (tb_4 (List.mem_of_getElem? (i := 73) rfl)) rfl
theorem seX3_changeAsTold : Cond.selects RX3 yX3_changeAsTold yX3_changeAsTold ∈ lw_tg := lw_tg_in (tb_4 (List.mem_of_getElem? (i := 74) rfl)) rfl
abbrev mX4_behind : jv_M := (yX4_behind, cX4_behind, 5, some .int)
theorem okX4_behind : jv_ok mX4_behind 3 := ⟨lw_tg_in (tb_4 (List.mem_of_getElem? (i := 82) rfl)) rfl, lw_tg_in (tb_1 (List.mem_of_getElem? (i := 1) rfl)) rfl, ⟨by decide +kernel, by decide +kernel, by decide +kernel⟩, by decide +kernel, by decide⟩
theorem inX4_behind : Cond.instanceMethod yX4_behind ∈ lw_tg := lw_tg_in (tb_4 (List.mem_of_getElem? (i := 80) rfl)) rfl
theorem seX4_behind : Cond.selects RX4 yX4_behind yX4_behind ∈ lw_tg := lw_tg_in (tb_4 (List.mem_of_getElem? (i := 81) rfl)) rfl
abbrev mX4_done : jv_M := (yX4_done, cX4_done, 4, some .int)
theorem okX4_done : jv_ok mX4_done 2 := ⟨lw_tg_in (tb_4 (List.mem_of_getElem? (i := 86) rfl)) rfl, lw_tg_in (tb_1 (List.mem_of_getElem? (i := 1) rfl)) rfl, ⟨by decide +kernel, by decide +kernel, by decide +kernel⟩, by decide +kernel, by decide⟩
theorem inX4_done : Cond.instanceMethod yX4_done ∈ lw_tg := lw_tg_in (tb_4 (List.mem_of_getElem? (i := 84) rfl)) rfl
theorem seX4_done : Cond.selects RX4 yX4_done yX4_done ∈ lw_tg := lw_tg_in (tb_4 (List.mem_of_getElem? (i := 85) rfl)) rfl
abbrev mX4_swap : jv_M := (yX4_swap, cX4_swap, 3, some .int)
theorem okX4_swap : jv_ok mX4_swap 2 := ⟨lw_tg_in (tb_4 (List.mem_of_getElem? (i := 90) rfl)) rfl, lw_tg_in (tb_1 (List.mem_of_getElem? (i := 1) rfl)) rfl, ⟨by decide +kernel, by decide +kernel, by decide +kernel⟩, by decide +kernel, by decide⟩
theorem inX4_swap : Cond.instanceMethod yX4_swap ∈ lw_tg := lw_tg_in (tb_4 (List.mem_of_getElem? (i := 88) rfl)) rfl
theorem seX4_swap : Cond.selects RX4 yX4_swap yX4_swap ∈ lw_tg := lw_tg_in (tb_4 (List.mem_of_getElem? (i := 89) rfl)) rfl
abbrev mX4_move : jv_M := (yX4_move, cX4_move, 4, some .int)
theorem okX4_move : jv_ok mX4_move 2 := ⟨lw_tg_in (tb_4 (List.mem_of_getElem? (i := 96) rfl)) rfl, lw_tg_in (tb_1 (List.mem_of_getElem? (i := 1) rfl)) rfl, ⟨by decide +kernel, by decide +kernel, by decide +kernel⟩, by decide +kernel, by decide⟩
theorem inX4_move : Cond.instanceMethod yX4_move ∈ lw_tg := lw_tg_in (tb_4 (List.mem_of_getElem? (i := 94) rfl)) rfl
theorem seX4_move : Cond.selects RX4 yX4_move yX4_move ∈ lw_tg := lw_tg_in (tb_4 (List.mem_of_getElem? (i := 95) rfl)) rfl
abbrev mX4_turn : jv_M := (yX4_turn, cX4_turn, 1, some .int)
theorem okX4_turn : jv_ok mX4_turn 0 := ⟨lw_tg_in (tb_4 (List.mem_of_getElem? (i := 101) rfl)) rfl, lw_tg_in (tb_1 (List.mem_of_getElem? (i := 1) rfl)) rfl, ⟨by decide +kernel, by decide +kernel, by decide +kernel⟩, by decide +kernel, by decide⟩
theorem inX4_turn : Cond.instanceMethod yX4_turn ∈ lw_tg := lw_tg_in (tb_4 (List.mem_of_getElem? (i := 99) rfl)) rfl
theorem seX4_turn : Cond.selects RX4 yX4_turn yX4_turn ∈ lw_tg := lw_tg_in (tb_4 (List.mem_of_getElem? (i := 100) rfl)) rfl
abbrev mX4_leaves : jv_M := (yX4_leaves, cX4_leaves, 1, some .int)
theorem okX4_leaves : jv_ok mX4_leaves 0 := ⟨lw_tg_in (tb_4 (List.mem_of_getElem? (i := 105) rfl)) rfl, lw_tg_in (tb_1 (List.mem_of_getElem? (i := 1) rfl)) rfl, ⟨by decide +kernel, by decide +kernel, by decide +kernel⟩, by decide +kernel, by decide⟩
theorem inX4_leaves : Cond.instanceMethod yX4_leaves ∈ lw_tg := lw_tg_in (tb_4 (List.mem_of_getElem? (i := 103) rfl)) rfl
theorem seX4_leaves : Cond.selects RX4 yX4_leaves yX4_leaves ∈ lw_tg := lw_tg_in (tb_4 (List.mem_of_getElem? (i := 104) rfl)) rfl
abbrev mX3_dropLast : jv_M := (yX3_dropLast, cX3_dropLast, 4, none)
theorem okX3_dropLast : jv_ok mX3_dropLast 0 := ⟨lw_tg_in (tb_4 (List.mem_of_getElem? (i := 109) rfl)) rfl, lw_tg_in (tb_1 (List.mem_of_getElem? (i := 2) rfl)) rfl, ⟨by decide +kernel, by decide +kernel, by decide +kernel⟩, by decide +kernel, by decide⟩
theorem inX3_dropLast : Cond.instanceMethod yX3_dropLast ∈ lw_tg := lw_tg_in (tb_4 (List.mem_of_getElem? (i := 107) rfl)) rfl
theorem seX3_dropLast : Cond.selects RX3 yX3_dropLast yX3_dropLast ∈ lw_tg := lw_tg_in (tb_4 (List.mem_of_getElem? (i := 108) rfl)) rfl
abbrev mX4_term : jv_M := (yX4_term, cX4_term, 6, some .int)
theorem okX4_term : jv_ok mX4_term 1 := ⟨lw_tg_in (tb_4 (List.mem_of_getElem? (i := 114) rfl)) rfl, lw_tg_in (tb_1 (List.mem_of_getElem? (i := 1) rfl)) rfl, ⟨by decide +kernel, by decide +kernel, by decide +kernel⟩, by decide +kernel, by decide⟩
theorem inX4_term : Cond.instanceMethod yX4_term ∈ lw_tg := lw_tg_in (tb_4 (List.mem_of_getElem? (i := 112) rfl)) rfl
theorem seX4_term : Cond.selects RX4 yX4_term yX4_term ∈ lw_tg := lw_tg_in (tb_4 (List.mem_of_getElem? (i := 113) rfl)) rfl
abbrev mX3_draw : jv_M := (yX3_draw, cX3_draw, 2, some .int)
theorem okX3_draw : jv_ok mX3_draw 1 := ⟨lw_tg_in (tb_4 (List.mem_of_getElem? (i := 118) rfl)) rfl, lw_tg_in (tb_1 (List.mem_of_getElem? (i := 2) rfl)) rfl, ⟨by decide +kernel, by decide +kernel, by decide +kernel⟩, by decide +kernel, by decide⟩
theorem inX3_draw : Cond.instanceMethod yX3_draw ∈ lw_tg := lw_tg_in (tb_4 (List.mem_of_getElem? (i := 116) rfl)) rfl
theorem seX3_draw : Cond.selects RX3 yX3_draw yX3_draw ∈ lw_tg := lw_tg_in (tb_4 (List.mem_of_getElem? (i := 117) rfl)) rfl
abbrev mX4_seed : jv_M := (yX4_seed, cX4_seed, 3, some .int)
theorem okX4_seed : jv_ok mX4_seed 1 := ⟨lw_tg_in (tb_4 (List.mem_of_getElem? (i := 123) rfl)) rfl, lw_tg_in (tb_1 (List.mem_of_getElem? (i := 1) rfl)) rfl, ⟨by decide +kernel, by decide +kernel, by decide +kernel⟩, by decide +kernel, by decide⟩
theorem inX4_seed : Cond.instanceMethod yX4_seed ∈ lw_tg := lw_tg_in (tb_4 (List.mem_of_getElem? (i := 121) rfl)) rfl
theorem seX4_seed : Cond.selects RX4 yX4_seed yX4_seed ∈ lw_tg := lw_tg_in (tb_4 (List.mem_of_getElem? (i := 122) rfl)) rfl
abbrev mX4_image : jv_M := (yX4_image, cX4_image, 1, some .int)
theorem okX4_image : jv_ok mX4_image 0 := ⟨lw_tg_in (tb_4 (List.mem_of_getElem? (i := 127) rfl)) rfl, lw_tg_in (tb_1 (List.mem_of_getElem? (i := 1) rfl)) rfl, ⟨by decide +kernel, by decide +kernel, by decide +kernel⟩, by decide +kernel, by decide⟩
theorem inX4_image : Cond.instanceMethod yX4_image ∈ lw_tg := lw_tg_in (tb_4 (List.mem_of_getElem? (i := 125) rfl)) rfl
theorem seX4_image : Cond.selects RX4 yX4_image yX4_image ∈ lw_tg := lw_tg_in (tb_4 (List.mem_of_getElem? (i := 126) rfl)) rfl
abbrev mX4_back : jv_M := (yX4_back, cX4_back, 2, some .int)
theorem okX4_back : jv_ok mX4_back 0 := ⟨lw_tg_in (tb_4 (List.mem_of_getElem? (i := 131) rfl)) rfl, lw_tg_in (tb_1 (List.mem_of_getElem? (i := 1) rfl)) rfl, ⟨by decide +kernel, by decide +kernel, by decide +kernel⟩, by decide +kernel, by decide⟩
theorem inX4_back : Cond.instanceMethod yX4_back ∈ lw_tg := lw_tg_in (tb_4 (List.mem_of_getElem? (i := 129) rfl)) rfl
theorem seX4_back : Cond.selects RX4 yX4_back yX4_back ∈ lw_tg := lw_tg_in (tb_4 (List.mem_of_getElem? (i := 130) rfl)) rfl
abbrev mX4_status : jv_M := (yX4_status, cX4_status, 2, some .int)
theorem okX4_status : jv_ok mX4_status 1 := ⟨lw_tg_in (tb_4 (List.mem_of_getElem? (i := 135) rfl)) rfl, lw_tg_in (tb_1 (List.mem_of_getElem? (i := 1) rfl)) rfl, ⟨by decide +kernel, by decide +kernel, by decide +kernel⟩, by decide +kernel, by decide⟩
theorem inX4_status : Cond.instanceMethod yX4_status ∈ lw_tg := lw_tg_in (tb_4 (List.mem_of_getElem? (i := 133) rfl)) rfl
theorem seX4_status : Cond.selects RX4 yX4_status yX4_status ∈ lw_tg := lw_tg_in (tb_4 (List.mem_of_getElem? (i := 134) rfl)) rfl
abbrev mX3_allStrong : jv_M := (yX3_allStrong, cX3_allStrong, 3, some .int)
theorem okX3_allStrong : jv_ok mX3_allStrong 0 := ⟨lw_tg_in (tb_4 (List.mem_of_getElem? (i := 140) rfl)) rfl, lw_tg_in (tb_1 (List.mem_of_getElem? (i := 2) rfl)) rfl, ⟨by decide +kernel, by decide +kernel, by decide +kernel⟩, by decide +kernel, by decide⟩
theorem inX3_allStrong : Cond.instanceMethod yX3_allStrong ∈ lw_tg := lw_tg_in (tb_4 (List.mem_of_getElem? (i := 138) rfl)) rfl
theorem seX3_allStrong : Cond.selects RX3 yX3_allStrong yX3_allStrong ∈ lw_tg := lw_tg_in (tb_4 (List.mem_of_getElem? (i := 139) rfl)) rfl
abbrev mX4_shelvesInUse : jv_M := (yX4_shelvesInUse, cX4_shelvesInUse, 3, some .int)
theorem okX4_shelvesInUse : jv_ok mX4_shelvesInUse 0 := ⟨lw_tg_in (tb_4 (List.mem_of_getElem? (i := 144) rfl)) rfl, lw_tg_in (tb_1 (List.mem_of_getElem? (i := 1) rfl)) rfl, ⟨by decide +kernel, by decide +kernel, by decide +kernel⟩, by decide +kernel, by decide⟩
theorem inX4_shelvesInUse : Cond.instanceMethod yX4_shelvesInUse ∈ lw_tg := lw_tg_in (tb_4 (List.mem_of_getElem? (i := 143) rfl)) rfl
theorem seX4_shelvesInUse : Cond.selects RX4 yX4_shelvesInUse yX4_shelvesInUse ∈ lw_tg := lw_tg_in (List.mem_of_getElem? (i := 27) (by decide +kernel)) rfl
abbrev mX5_init : jv_M := (yX5_init, cX5_init, 1, none)
theorem okX5_init : jv_ok mX5_init 0 := ⟨lw_tg_in (tb_4 (List.mem_of_getElem? (i := 149) rfl)) rfl, lw_tg_in (tb_1 (List.mem_of_getElem? (i := 6) rfl)) rfl, ⟨by decide +kernel, by decide +kernel, by decide +kernel⟩, by decide +kernel, by decide⟩
theorem inX5_init : Cond.instanceMethod yX5_init ∈ lw_tg := lw_tg_in (tb_4 (List.mem_of_getElem? (i := 148) rfl)) rfl
abbrev mX5_row : jv_M := (yX5_row, cX5_row, 5, some .int)
theorem okX5_row : jv_ok mX5_row 3 := ⟨lw_tg_in (tb_5 (List.mem_of_getElem? (i := 22) rfl)) rfl, lw_tg_in (tb_1 (List.mem_of_getElem? (i := 6) rfl)) rfl, ⟨by decide +kernel, by decide +kernel, by decide +kernel⟩, by decide +kernel, by decide⟩
theorem inX5_row : Cond.instanceMethod yX5_row ∈ lw_tg := lw_tg_in (tb_5 (List.mem_of_getElem? (i := 20) rfl)) rfl
theorem seX5_row : Cond.selects RX5 yX5_row yX5_row ∈ lw_tg := lw_tg_in (tb_5 (List.mem_of_getElem? (i := 21) rfl)) rfl
abbrev mX5_in : jv_M := (yX5_in, cX5_in, 6, some .boolean)
theorem okX5_in : jv_ok mX5_in 3 := ⟨lw_tg_in (tb_5 (List.mem_of_getElem? (i := 26) rfl)) rfl, lw_tg_in (tb_1 (List.mem_of_getElem? (i := 6) rfl)) rfl, ⟨by decide +kernel, by decide +kernel, by decide +kernel⟩, by decide +kernel, by decide⟩
theorem stX5_in : Cond.static yX5_in ∈ lw_tg := lw_tg_in (tb_5 (List.mem_of_getElem? (i := 25) rfl)) rfl
abbrev mX5_refuse : jv_M := (yX5_refuse, cX5_refuse, 2, some .int)
theorem okX5_refuse : jv_ok mX5_refuse 1 := ⟨lw_tg_in (tb_5 (List.mem_of_getElem? (i := 32) rfl)) rfl, lw_tg_in (tb_1 (List.mem_of_getElem? (i := 6) rfl)) rfl, ⟨by decide +kernel, by decide +kernel, by decide +kernel⟩, by decide +kernel, by decide⟩
theorem inX5_refuse : Cond.instanceMethod yX5_refuse ∈ lw_tg := lw_tg_in (tb_5 (List.mem_of_getElem? (i := 31) rfl)) rfl
theorem seX5_refuse : Cond.selects RX5 yX5_refuse yX5_refuse ∈ lw_tg := lw_tg_in (List.mem_of_getElem? (i := 28) (by decide +kernel)) rfl
abbrev mX5_set : jv_M := (yX5_set, cX5_set, 6, some .int)
theorem okX5_set : jv_ok mX5_set 3 := ⟨lw_tg_in (tb_5 (List.mem_of_getElem? (i := 36) rfl)) rfl, lw_tg_in (tb_1 (List.mem_of_getElem? (i := 6) rfl)) rfl, ⟨by decide +kernel, by decide +kernel, by decide +kernel⟩, by decide +kernel, by decide⟩
theorem inX5_set : Cond.instanceMethod yX5_set ∈ lw_tg := lw_tg_in (tb_5 (List.mem_of_getElem? (i := 34) rfl)) rfl
theorem seX5_set : Cond.selects RX5 yX5_set yX5_set ∈ lw_tg := lw_tg_in (tb_5 (List.mem_of_getElem? (i := 35) rfl)) rfl
abbrev mX5_noRow : jv_M := (yX5_noRow, cX5_noRow, 2, some .int)
theorem okX5_noRow : jv_ok mX5_noRow 1 := ⟨lw_tg_in (tb_5 (List.mem_of_getElem? (i := 40) rfl)) rfl, lw_tg_in (tb_1 (List.mem_of_getElem? (i := 6) rfl)) rfl, ⟨by decide +kernel, by decide +kernel, by decide +kernel⟩, by decide +kernel, by decide⟩
theorem inX5_noRow : Cond.instanceMethod yX5_noRow ∈ lw_tg := lw_tg_in (tb_5 (List.mem_of_getElem? (i := 39) rfl)) rfl
theorem seX5_noRow : Cond.selects RX5 yX5_noRow yX5_noRow ∈ lw_tg := lw_tg_in (List.mem_of_getElem? (i := 29) (by decide +kernel)) rfl
abbrev mX5_fit : jv_M := (yX5_fit, cX5_fit, 3, some .long)
theorem okX5_fit : jv_ok mX5_fit 2 := ⟨lw_tg_in (tb_5 (List.mem_of_getElem? (i := 43) rfl)) rfl, lw_tg_in (tb_1 (List.mem_of_getElem? (i := 6) rfl)) rfl, ⟨by decide +kernel, by decide +kernel, by decide +kernel⟩, by decide +kernel, by decide⟩
theorem stX5_fit : Cond.static yX5_fit ∈ lw_tg := lw_tg_in (tb_5 (List.mem_of_getElem? (i := 42) rfl)) rfl
abbrev mX5_copy : jv_M := (yX5_copy, cX5_copy, 7, some .int)
theorem okX5_copy : jv_ok mX5_copy 5 := ⟨lw_tg_in (tb_5 (List.mem_of_getElem? (i := 47) rfl)) rfl, lw_tg_in (tb_1 (List.mem_of_getElem? (i := 6) rfl)) rfl, ⟨by decide +kernel, by decide +kernel, by decide +kernel⟩, by decide +kernel, by decide⟩
theorem inX5_copy : Cond.instanceMethod yX5_copy ∈ lw_tg := lw_tg_in (tb_5 (List.mem_of_getElem? (i := 45) rfl)) rfl
theorem seX5_copy : Cond.selects RX5 yX5_copy yX5_copy ∈ lw_tg := lw_tg_in (tb_5 (List.mem_of_getElem? (i := 46) rfl)) rfl
abbrev mX5_element : jv_M := (yX5_element, cX5_element, 3, some .long)
theorem okX5_element : jv_ok mX5_element 2 := ⟨lw_tg_in (tb_5 (List.mem_of_getElem? (i := 51) rfl)) rfl, lw_tg_in (tb_1 (List.mem_of_getElem? (i := 6) rfl)) rfl, ⟨by decide +kernel, by decide +kernel, by decide +kernel⟩, by decide +kernel, by decide⟩
theorem inX5_element : Cond.instanceMethod yX5_element ∈ lw_tg := lw_tg_in (tb_5 (List.mem_of_getElem? (i := 49) rfl)) rfl
theorem seX5_element : Cond.selects RX5 yX5_element yX5_element ∈ lw_tg := lw_tg_in (tb_5 (List.mem_of_getElem? (i := 50) rfl)) rfl
abbrev mX5_holds : jv_M := (yX5_holds, cX5_holds, 2, some .int)
theorem okX5_holds : jv_ok mX5_holds 1 := ⟨lw_tg_in (tb_5 (List.mem_of_getElem? (i := 55) rfl)) rfl, lw_tg_in (tb_1 (List.mem_of_getElem? (i := 6) rfl)) rfl, ⟨by decide +kernel, by decide +kernel, by decide +kernel⟩, by decide +kernel, by decide⟩
theorem inX5_holds : Cond.instanceMethod yX5_holds ∈ lw_tg := lw_tg_in (tb_5 (List.mem_of_getElem? (i := 53) rfl)) rfl
theorem seX5_holds : Cond.selects RX5 yX5_holds yX5_holds ∈ lw_tg := lw_tg_in (tb_5 (List.mem_of_getElem? (i := 54) rfl)) rfl
abbrev mX5_show : jv_M := (yX5_show, cX5_show, 3, some .int)
theorem okX5_show : jv_ok mX5_show 2 := ⟨lw_tg_in (tb_5 (List.mem_of_getElem? (i := 59) rfl)) rfl, lw_tg_in (tb_1 (List.mem_of_getElem? (i := 6) rfl)) rfl, ⟨by decide +kernel, by decide +kernel, by decide +kernel⟩, by decide +kernel, by decide⟩
theorem inX5_show : Cond.instanceMethod yX5_show ∈ lw_tg := lw_tg_in (tb_5 (List.mem_of_getElem? (i := 57) rfl)) rfl
theorem seX5_show : Cond.selects RX5 yX5_show yX5_show ∈ lw_tg := lw_tg_in (tb_5 (List.mem_of_getElem? (i := 58) rfl)) rfl
abbrev mX5_isCount : jv_M := (yX5_isCount, cX5_isCount, 2, some .boolean)
theorem okX5_isCount : jv_ok mX5_isCount 1 := ⟨lw_tg_in (tb_5 (List.mem_of_getElem? (i := 63) rfl)) rfl, lw_tg_in (tb_1 (List.mem_of_getElem? (i := 6) rfl)) rfl, ⟨by decide +kernel, by decide +kernel, by decide +kernel⟩, by decide +kernel, by decide⟩
theorem inX5_isCount : Cond.instanceMethod yX5_isCount ∈ lw_tg := lw_tg_in (tb_5 (List.mem_of_getElem? (i := 62) rfl)) rfl
theorem seX5_isCount : Cond.selects RX5 yX5_isCount yX5_isCount ∈ lw_tg := lw_tg_in (List.mem_of_getElem? (i := 30) (by decide +kernel)) rfl
abbrev mX5_says : jv_M := (yX5_says, cX5_says, 4, some .int)
theorem okX5_says : jv_ok mX5_says 2 := ⟨lw_tg_in (tb_5 (List.mem_of_getElem? (i := 67) rfl)) rfl, lw_tg_in (tb_1 (List.mem_of_getElem? (i := 6) rfl)) rfl, ⟨by decide +kernel, by decide +kernel, by decide +kernel⟩, by decide +kernel, by decide⟩
theorem inX5_says : Cond.instanceMethod yX5_says ∈ lw_tg := lw_tg_in (tb_5 (List.mem_of_getElem? (i := 65) rfl)) rfl
theorem seX5_says : Cond.selects RX5 yX5_says yX5_says ∈ lw_tg := lw_tg_in (tb_5 (List.mem_of_getElem? (i := 66) rfl)) rfl
abbrev mX5_isUnder : jv_M := (yX5_isUnder, cX5_isUnder, 2, some .boolean)
theorem okX5_isUnder : jv_ok mX5_isUnder 2 := ⟨lw_tg_in (tb_5 (List.mem_of_getElem? (i := 71) rfl)) rfl, lw_tg_in (tb_1 (List.mem_of_getElem? (i := 6) rfl)) rfl, ⟨by decide +kernel, by decide +kernel, by decide +kernel⟩, by decide +kernel, by decide⟩
theorem stX5_isUnder : Cond.static yX5_isUnder ∈ lw_tg := lw_tg_in (tb_5 (List.mem_of_getElem? (i := 70) rfl)) rfl
abbrev mX5_teamAt : jv_M := (yX5_teamAt, cX5_teamAt, 4, some .int)
theorem okX5_teamAt : jv_ok mX5_teamAt 2 := ⟨lw_tg_in (tb_5 (List.mem_of_getElem? (i := 75) rfl)) rfl, lw_tg_in (tb_1 (List.mem_of_getElem? (i := 6) rfl)) rfl, ⟨by decide +kernel, by decide +kernel, by decide +kernel⟩, by decide +kernel, by decide⟩
theorem inX5_teamAt : Cond.instanceMethod yX5_teamAt ∈ lw_tg := lw_tg_in (tb_5 (List.mem_of_getElem? (i := 74) rfl)) rfl
theorem seX5_teamAt : Cond.selects RX5 yX5_teamAt yX5_teamAt ∈ lw_tg := lw_tg_in (List.mem_of_getElem? (i := 31) (by decide +kernel)) rfl
abbrev mX5_slipped : jv_M := (yX5_slipped, cX5_slipped, 3, some .int)
theorem okX5_slipped : jv_ok mX5_slipped 2 := ⟨lw_tg_in (tb_5 (List.mem_of_getElem? (i := 79) rfl)) rfl, lw_tg_in (tb_1 (List.mem_of_getElem? (i := 6) rfl)) rfl, ⟨by decide +kernel, by decide +kernel, by decide +kernel⟩, by decide +kernel, by decide⟩
theorem inX5_slipped : Cond.instanceMethod yX5_slipped ∈ lw_tg := lw_tg_in (tb_5 (List.mem_of_getElem? (i := 78) rfl)) rfl
theorem seX5_slipped : Cond.selects RX5 yX5_slipped yX5_slipped ∈ lw_tg := lw_tg_in (List.mem_of_getElem? (i := 32) (by decide +kernel)) rfl
abbrev mX5_child : jv_M := (yX5_child, cX5_child, 3, some .int)
theorem okX5_child : jv_ok mX5_child 2 := ⟨lw_tg_in (tb_5 (List.mem_of_getElem? (i := 83) rfl)) rfl, lw_tg_in (tb_1 (List.mem_of_getElem? (i := 6) rfl)) rfl, ⟨by decide +kernel, by decide +kernel, by decide +kernel⟩, by decide +kernel, by decide⟩
theorem inX5_child : Cond.instanceMethod yX5_child ∈ lw_tg := lw_tg_in (tb_5 (List.mem_of_getElem? (i := 81) rfl)) rfl
theorem seX5_child : Cond.selects RX5 yX5_child yX5_child ∈ lw_tg := lw_tg_in (tb_5 (List.mem_of_getElem? (i := 82) rfl)) rfl
abbrev mX5_addChild : jv_M := (yX5_addChild, cX5_addChild, 3, none)
theorem okX5_addChild : jv_ok mX5_addChild 2 := ⟨lw_tg_in (tb_5 (List.mem_of_getElem? (i := 89) rfl)) rfl, lw_tg_in (tb_1 (List.mem_of_getElem? (i := 6) rfl)) rfl, ⟨by decide +kernel, by decide +kernel, by decide +kernel⟩, by decide +kernel, by decide⟩
theorem inX5_addChild : Cond.instanceMethod yX5_addChild ∈ lw_tg := lw_tg_in (tb_5 (List.mem_of_getElem? (i := 88) rfl)) rfl
theorem seX5_addChild : Cond.selects RX5 yX5_addChild yX5_addChild ∈ lw_tg := lw_tg_in (List.mem_of_getElem? (i := 33) (by decide +kernel)) rfl
abbrev mX5_count : jv_M := (yX5_count, cX5_count, 4, some .int)
theorem okX5_count : jv_ok mX5_count 3 := ⟨lw_tg_in (tb_5 (List.mem_of_getElem? (i := 93) rfl)) rfl, lw_tg_in (tb_1 (List.mem_of_getElem? (i := 6) rfl)) rfl, ⟨by decide +kernel, by decide +kernel, by decide +kernel⟩, by decide +kernel, by decide⟩
theorem inX5_count : Cond.instanceMethod yX5_count ∈ lw_tg := lw_tg_in (tb_5 (List.mem_of_getElem? (i := 91) rfl)) rfl
theorem seX5_count : Cond.selects RX5 yX5_count yX5_count ∈ lw_tg := lw_tg_in (tb_5 (List.mem_of_getElem? (i := 92) rfl)) rfl
abbrev mX5_addCount : jv_M := (yX5_addCount, cX5_addCount, 4, none)
theorem okX5_addCount : jv_ok mX5_addCount 3 := ⟨lw_tg_in (tb_5 (List.mem_of_getElem? (i := 99) rfl)) rfl, lw_tg_in (tb_1 (List.mem_of_getElem? (i := 6) rfl)) rfl, ⟨by decide +kernel, by decide +kernel, by decide +kernel⟩, by decide +kernel, by decide⟩
theorem inX5_addCount : Cond.instanceMethod yX5_addCount ∈ lw_tg := lw_tg_in (tb_5 (List.mem_of_getElem? (i := 98) rfl)) rfl
theorem seX5_addCount : Cond.selects RX5 yX5_addCount yX5_addCount ∈ lw_tg := lw_tg_in (List.mem_of_getElem? (i := 34) (by decide +kernel)) rfl
abbrev mX5_wish : jv_M := (yX5_wish, cX5_wish, 5, some .int)
theorem okX5_wish : jv_ok mX5_wish 4 := ⟨lw_tg_in (tb_5 (List.mem_of_getElem? (i := 103) rfl)) rfl, lw_tg_in (tb_1 (List.mem_of_getElem? (i := 6) rfl)) rfl, ⟨by decide +kernel, by decide +kernel, by decide +kernel⟩, by decide +kernel, by decide⟩
theorem inX5_wish : Cond.instanceMethod yX5_wish ∈ lw_tg := lw_tg_in (tb_5 (List.mem_of_getElem? (i := 101) rfl)) rfl
theorem seX5_wish : Cond.selects RX5 yX5_wish yX5_wish ∈ lw_tg := lw_tg_in (tb_5 (List.mem_of_getElem? (i := 102) rfl)) rfl
abbrev mX5_areTwo : jv_M := (yX5_areTwo, cX5_areTwo, 5, some .boolean)
theorem okX5_areTwo : jv_ok mX5_areTwo 2 := ⟨lw_tg_in (tb_5 (List.mem_of_getElem? (i := 107) rfl)) rfl, lw_tg_in (tb_1 (List.mem_of_getElem? (i := 6) rfl)) rfl, ⟨by decide +kernel, by decide +kernel, by decide +kernel⟩, by decide +kernel, by decide⟩
theorem inX5_areTwo : Cond.instanceMethod yX5_areTwo ∈ lw_tg := lw_tg_in (tb_5 (List.mem_of_getElem? (i := 106) rfl)) rfl
theorem seX5_areTwo : Cond.selects RX5 yX5_areTwo yX5_areTwo ∈ lw_tg := lw_tg_in (List.mem_of_getElem? (i := 35) (by decide +kernel)) rfl
abbrev mX5_isChild : jv_M := (yX5_isChild, cX5_isChild, 3, some .boolean)
theorem okX5_isChild : jv_ok mX5_isChild 1 := ⟨lw_tg_in (tb_5 (List.mem_of_getElem? (i := 111) rfl)) rfl, lw_tg_in (tb_1 (List.mem_of_getElem? (i := 6) rfl)) rfl, ⟨by decide +kernel, by decide +kernel, by decide +kernel⟩, by decide +kernel, by decide⟩
theorem inX5_isChild : Cond.instanceMethod yX5_isChild ∈ lw_tg := lw_tg_in (tb_5 (List.mem_of_getElem? (i := 110) rfl)) rfl
theorem seX5_isChild : Cond.selects RX5 yX5_isChild yX5_isChild ∈ lw_tg := lw_tg_in (List.mem_of_getElem? (i := 36) (by decide +kernel)) rfl
abbrev mX5_addWish : jv_M := (yX5_addWish, cX5_addWish, 5, none)
theorem okX5_addWish : jv_ok mX5_addWish 4 := ⟨lw_tg_in (tb_5 (List.mem_of_getElem? (i := 115) rfl)) rfl, lw_tg_in (tb_1 (List.mem_of_getElem? (i := 6) rfl)) rfl, ⟨by decide +kernel, by decide +kernel, by decide +kernel⟩, by decide +kernel, by decide⟩
theorem inX5_addWish : Cond.instanceMethod yX5_addWish ∈ lw_tg := lw_tg_in (tb_5 (List.mem_of_getElem? (i := 114) rfl)) rfl
theorem seX5_addWish : Cond.selects RX5 yX5_addWish yX5_addWish ∈ lw_tg := lw_tg_in (List.mem_of_getElem? (i := 37) (by decide +kernel)) rfl
abbrev mX5_content : jv_M := (yX5_content, cX5_content, 2, some .int)
theorem okX5_content : jv_ok mX5_content 0 := ⟨lw_tg_in (tb_5 (List.mem_of_getElem? (i := 119) rfl)) rfl, lw_tg_in (tb_1 (List.mem_of_getElem? (i := 6) rfl)) rfl, ⟨by decide +kernel, by decide +kernel, by decide +kernel⟩, by decide +kernel, by decide⟩
theorem inX5_content : Cond.instanceMethod yX5_content ∈ lw_tg := lw_tg_in (tb_5 (List.mem_of_getElem? (i := 117) rfl)) rfl
theorem seX5_content : Cond.selects RX5 yX5_content yX5_content ∈ lw_tg := lw_tg_in (tb_5 (List.mem_of_getElem? (i := 118) rfl)) rfl
abbrev mX5_feed : jv_M := (yX5_feed, cX5_feed, 2, some .int)
theorem okX5_feed : jv_ok mX5_feed 1 := ⟨lw_tg_in (tb_5 (List.mem_of_getElem? (i := 123) rfl)) rfl, lw_tg_in (tb_1 (List.mem_of_getElem? (i := 6) rfl)) rfl, ⟨by decide +kernel, by decide +kernel, by decide +kernel⟩, by decide +kernel, by decide⟩
theorem inX5_feed : Cond.instanceMethod yX5_feed ∈ lw_tg := lw_tg_in (tb_5 (List.mem_of_getElem? (i := 121) rfl)) rfl
theorem seX5_feed : Cond.selects RX5 yX5_feed yX5_feed ∈ lw_tg := lw_tg_in (tb_5 (List.mem_of_getElem? (i := 122) rfl)) rfl
abbrev mX5_wipe : jv_M := (yX5_wipe, cX5_wipe, 2, some .int)
theorem okX5_wipe : jv_ok mX5_wipe 0 := ⟨lw_tg_in (tb_5 (List.mem_of_getElem? (i := 128) rfl)) rfl, lw_tg_in (tb_1 (List.mem_of_getElem? (i := 6) rfl)) rfl, ⟨by decide +kernel, by decide +kernel, by decide +kernel⟩, by decide +kernel, by decide⟩
theorem inX5_wipe : Cond.instanceMethod yX5_wipe ∈ lw_tg := lw_tg_in (tb_5 (List.mem_of_getElem? (i := 126) rfl)) rfl
theorem seX5_wipe : Cond.selects RX5 yX5_wipe yX5_wipe ∈ lw_tg := lw_tg_in (tb_5 (List.mem_of_getElem? (i := 127) rfl)) rfl
abbrev mX5_yard : jv_M := (yX5_yard, cX5_yard, 3, some .int)
theorem okX5_yard : jv_ok mX5_yard 0 := ⟨lw_tg_in (tb_5 (List.mem_of_getElem? (i := 132) rfl)) rfl, lw_tg_in (tb_1 (List.mem_of_getElem? (i := 6) rfl)) rfl, ⟨by decide +kernel, by decide +kernel, by decide +kernel⟩, by decide +kernel, by decide⟩
theorem inX5_yard : Cond.instanceMethod yX5_yard ∈ lw_tg := lw_tg_in (tb_5 (List.mem_of_getElem? (i := 130) rfl)) rfl
theorem seX5_yard : Cond.selects RX5 yX5_yard yX5_yard ∈ lw_tg := lw_tg_in (tb_5 (List.mem_of_getElem? (i := 131) rfl)) rfl
abbrev mX5_fresh : jv_M := (yX5_fresh, cX5_fresh, 1, some (.object "OneTwoOneTwoModel"))
theorem okX5_fresh : jv_ok mX5_fresh 0 := ⟨lw_tg_in (tb_5 (List.mem_of_getElem? (i := 136) rfl)) rfl, lw_tg_in (tb_1 (List.mem_of_getElem? (i := 6) rfl)) rfl, ⟨by decide +kernel, by decide +kernel, by decide +kernel⟩, by decide +kernel, by decide⟩
theorem inX5_fresh : Cond.instanceMethod yX5_fresh ∈ lw_tg := lw_tg_in (tb_5 (List.mem_of_getElem? (i := 135) rfl)) rfl
theorem seX5_fresh : Cond.selects RX5 yX5_fresh yX5_fresh ∈ lw_tg := lw_tg_in (List.mem_of_getElem? (i := 38) (by decide +kernel)) rfl
abbrev mX5_takeFrom : jv_M := (yX5_takeFrom, cX5_takeFrom, 2, none)
theorem okX5_takeFrom : jv_ok mX5_takeFrom 1 := ⟨lw_tg_in (tb_5 (List.mem_of_getElem? (i := 142) rfl)) rfl, lw_tg_in (tb_1 (List.mem_of_getElem? (i := 6) rfl)) rfl, ⟨by decide +kernel, by decide +kernel, by decide +kernel⟩, by decide +kernel, by decide⟩
theorem inX5_takeFrom : Cond.instanceMethod yX5_takeFrom ∈ lw_tg := lw_tg_in (tb_5 (List.mem_of_getElem? (i := 141) rfl)) rfl
theorem seX5_takeFrom : Cond.selects RX5 yX5_takeFrom yX5_takeFrom ∈ lw_tg := lw_tg_in (List.mem_of_getElem? (i := 39) (by decide +kernel)) rfl
abbrev mX5_copied : jv_M := (yX5_copied, cX5_copied, 3, none)
theorem okX5_copied : jv_ok mX5_copied 2 := ⟨lw_tg_in (tb_5 (List.mem_of_getElem? (i := 145) rfl)) rfl, lw_tg_in (tb_1 (List.mem_of_getElem? (i := 6) rfl)) rfl, ⟨by decide +kernel, by decide +kernel, by decide +kernel⟩, by decide +kernel, by decide⟩
theorem stX5_copied : Cond.static yX5_copied ∈ lw_tg := lw_tg_in (tb_5 (List.mem_of_getElem? (i := 144) rfl)) rfl
abbrev mX5_readAll : jv_M := (yX5_readAll, cX5_readAll, 1, some .boolean)
theorem okX5_readAll : jv_ok mX5_readAll 0 := ⟨lw_tg_in (tb_5 (List.mem_of_getElem? (i := 149) rfl)) rfl, lw_tg_in (tb_1 (List.mem_of_getElem? (i := 6) rfl)) rfl, ⟨by decide +kernel, by decide +kernel, by decide +kernel⟩, by decide +kernel, by decide⟩
theorem inX5_readAll : Cond.instanceMethod yX5_readAll ∈ lw_tg := lw_tg_in (tb_5 (List.mem_of_getElem? (i := 148) rfl)) rfl
theorem seX5_readAll : Cond.selects RX5 yX5_readAll yX5_readAll ∈ lw_tg := lw_tg_in (List.mem_of_getElem? (i := 40) (by decide +kernel)) rfl
abbrev mX5_look : jv_M := (yX5_look, cX5_look, 1, none)
theorem okX5_look : jv_ok mX5_look 0 := ⟨lw_tg_in (tb_5 (List.mem_of_getElem? (i := 153) rfl)) rfl, lw_tg_in (tb_1 (List.mem_of_getElem? (i := 6) rfl)) rfl, ⟨by decide +kernel, by decide +kernel, by decide +kernel⟩, by decide +kernel, by decide⟩
theorem inX5_look : Cond.instanceMethod yX5_look ∈ lw_tg := lw_tg_in (tb_5 (List.mem_of_getElem? (i := 152) rfl)) rfl
theorem seX5_look : Cond.selects RX5 yX5_look yX5_look ∈ lw_tg := lw_tg_in (List.mem_of_getElem? (i := 41) (by decide +kernel)) rfl
abbrev mX5_isLetter : jv_M := (yX5_isLetter, cX5_isLetter, 1, some .boolean)
theorem okX5_isLetter : jv_ok mX5_isLetter 1 := ⟨lw_tg_in (tb_5 (List.mem_of_getElem? (i := 156) rfl)) rfl, lw_tg_in (tb_1 (List.mem_of_getElem? (i := 6) rfl)) rfl, ⟨by decide +kernel, by decide +kernel, by decide +kernel⟩, by decide +kernel, by decide⟩
theorem stX5_isLetter : Cond.static yX5_isLetter ∈ lw_tg := lw_tg_in (tb_5 (List.mem_of_getElem? (i := 155) rfl)) rfl
abbrev mX5_isDigit : jv_M := (yX5_isDigit, cX5_isDigit, 1, some .boolean)
theorem okX5_isDigit : jv_ok mX5_isDigit 1 := ⟨lw_tg_in (tb_5 (List.mem_of_getElem? (i := 159) rfl)) rfl, lw_tg_in (tb_1 (List.mem_of_getElem? (i := 6) rfl)) rfl, ⟨by decide +kernel, by decide +kernel, by decide +kernel⟩, by decide +kernel, by decide⟩
theorem stX5_isDigit : Cond.static yX5_isDigit ∈ lw_tg := lw_tg_in (tb_5 (List.mem_of_getElem? (i := 158) rfl)) rfl
abbrev mX5_statement : jv_M := (yX5_statement, cX5_statement, 1, some .boolean)
theorem okX5_statement : jv_ok mX5_statement 0 := ⟨lw_tg_in (tb_5 (List.mem_of_getElem? (i := 163) rfl)) rfl, lw_tg_in (tb_1 (List.mem_of_getElem? (i := 6) rfl)) rfl, ⟨by decide +kernel, by decide +kernel, by decide +kernel⟩, by decide +kernel, by decide⟩
theorem inX5_statement : Cond.instanceMethod yX5_statement ∈ lw_tg := lw_tg_in (tb_5 (List.mem_of_getElem? (i := 162) rfl)) rfl
theorem seX5_statement : Cond.selects RX5 yX5_statement yX5_statement ∈ lw_tg := lw_tg_in (List.mem_of_getElem? (i := 42) (by decide +kernel)) rfl
abbrev mX5_isWord : jv_M := (yX5_isWord, cX5_isWord, 3, some .boolean)
theorem okX5_isWord : jv_ok mX5_isWord 1 := ⟨lw_tg_in (tb_5 (List.mem_of_getElem? (i := 168) rfl)) rfl, lw_tg_in (tb_1 (List.mem_of_getElem? (i := 6) rfl)) rfl, ⟨by decide +kernel, by decide +kernel, by decide +kernel⟩, by decide +kernel, by decide⟩
theorem inX5_isWord : Cond.instanceMethod yX5_isWord ∈ lw_tg := lw_tg_in (tb_5 (List.mem_of_getElem? (i := 167) rfl)) rfl
theorem seX5_isWord : Cond.selects RX5 yX5_isWord yX5_isWord ∈ lw_tg := lw_tg_in (List.mem_of_getElem? (i := 43) (by decide +kernel)) rfl
abbrev mX5_tells : jv_M := (yX5_tells, cX5_tells, 3, some .boolean)
theorem okX5_tells : jv_ok mX5_tells 2 := ⟨lw_tg_in (tb_5 (List.mem_of_getElem? (i := 174) rfl)) rfl, lw_tg_in (tb_1 (List.mem_of_getElem? (i := 6) rfl)) rfl, ⟨by decide +kernel, by decide +kernel, by decide +kernel⟩, by decide +kernel, by decide⟩
theorem inX5_tells : Cond.instanceMethod yX5_tells ∈ lw_tg := lw_tg_in (tb_5 (List.mem_of_getElem? (i := 173) rfl)) rfl
theorem seX5_tells : Cond.selects RX5 yX5_tells yX5_tells ∈ lw_tg := lw_tg_in (List.mem_of_getElem? (i := 44) (by decide +kernel)) rfl
abbrev mX5_number : jv_M := (yX5_number, cX5_number, 4, some .boolean)
theorem okX5_number : jv_ok mX5_number 3 := ⟨lw_tg_in (tb_5 (List.mem_of_getElem? (i := 178) rfl)) rfl, lw_tg_in (tb_1 (List.mem_of_getElem? (i := 6) rfl)) rfl, ⟨by decide +kernel, by decide +kernel, by decide +kernel⟩, by decide +kernel, by decide⟩
theorem inX5_number : Cond.instanceMethod yX5_number ∈ lw_tg := lw_tg_in (tb_5 (List.mem_of_getElem? (i := 177) rfl)) rfl
theorem seX5_number : Cond.selects RX5 yX5_number yX5_number ∈ lw_tg := lw_tg_in (List.mem_of_getElem? (i := 45) (by decide +kernel)) rfl
abbrev mX5_wrong : jv_M := (yX5_wrong, cX5_wrong, 1, some .boolean)
theorem okX5_wrong : jv_ok mX5_wrong 0 := ⟨lw_tg_in (tb_5 (List.mem_of_getElem? (i := 182) rfl)) rfl, lw_tg_in (tb_1 (List.mem_of_getElem? (i := 6) rfl)) rfl, ⟨by decide +kernel, by decide +kernel, by decide +kernel⟩, by decide +kernel, by decide⟩
theorem inX5_wrong : Cond.instanceMethod yX5_wrong ∈ lw_tg := lw_tg_in (tb_5 (List.mem_of_getElem? (i := 181) rfl)) rfl
theorem seX5_wrong : Cond.selects RX5 yX5_wrong yX5_wrong ∈ lw_tg := lw_tg_in (List.mem_of_getElem? (i := 46) (by decide +kernel)) rfl
abbrev mX5_wishTold : jv_M := (yX5_wishTold, cX5_wishTold, 2, some .boolean)
theorem okX5_wishTold : jv_ok mX5_wishTold 1 := ⟨lw_tg_in (tb_5 (List.mem_of_getElem? (i := 188) rfl)) rfl, lw_tg_in (tb_1 (List.mem_of_getElem? (i := 6) rfl)) rfl, ⟨by decide +kernel, by decide +kernel, by decide +kernel⟩, by decide +kernel, by decide⟩
theorem inX5_wishTold : Cond.instanceMethod yX5_wishTold ∈ lw_tg := lw_tg_in (tb_5 (List.mem_of_getElem? (i := 187) rfl)) rfl
theorem seX5_wishTold : Cond.selects RX5 yX5_wishTold yX5_wishTold ∈ lw_tg := lw_tg_in (List.mem_of_getElem? (i := 47) (by decide +kernel)) rfl
abbrev mX5_twoTold : jv_M := (yX5_twoTold, cX5_twoTold, 1, some .boolean)
theorem okX5_twoTold : jv_ok mX5_twoTold 0 := ⟨lw_tg_in (tb_5 (List.mem_of_getElem? (i := 192) rfl)) rfl, lw_tg_in (tb_1 (List.mem_of_getElem? (i := 6) rfl)) rfl, ⟨by decide +kernel, by decide +kernel, by decide +kernel⟩, by decide +kernel, by decide⟩
theorem inX5_twoTold : Cond.instanceMethod yX5_twoTold ∈ lw_tg := lw_tg_in (tb_5 (List.mem_of_getElem? (i := 191) rfl)) rfl
theorem seX5_twoTold : Cond.selects RX5 yX5_twoTold yX5_twoTold ∈ lw_tg := lw_tg_in (List.mem_of_getElem? (i := 48) (by decide +kernel)) rfl
abbrev mX5_swaps : jv_M := (yX5_swaps, cX5_swaps, 4, none)
theorem okX5_swaps : jv_ok mX5_swaps 2 := ⟨lw_tg_in (tb_5 (List.mem_of_getElem? (i := 198) rfl)) rfl, lw_tg_in (tb_1 (List.mem_of_getElem? (i := 6) rfl)) rfl, ⟨by decide +kernel, by decide +kernel, by decide +kernel⟩, by decide +kernel, by decide⟩
theorem inX5_swaps : Cond.instanceMethod yX5_swaps ∈ lw_tg := lw_tg_in (tb_5 (List.mem_of_getElem? (i := 197) rfl)) rfl
theorem seX5_swaps : Cond.selects RX5 yX5_swaps yX5_swaps ∈ lw_tg := lw_tg_in (List.mem_of_getElem? (i := 49) (by decide +kernel)) rfl
abbrev mX5_moves : jv_M := (yX5_moves, cX5_moves, 5, none)
theorem okX5_moves : jv_ok mX5_moves 2 := ⟨lw_tg_in (tb_5 (List.mem_of_getElem? (i := 203) rfl)) rfl, lw_tg_in (tb_1 (List.mem_of_getElem? (i := 6) rfl)) rfl, ⟨by decide +kernel, by decide +kernel, by decide +kernel⟩, by decide +kernel, by decide⟩
theorem inX5_moves : Cond.instanceMethod yX5_moves ∈ lw_tg := lw_tg_in (tb_5 (List.mem_of_getElem? (i := 202) rfl)) rfl
theorem seX5_moves : Cond.selects RX5 yX5_moves yX5_moves ∈ lw_tg := lw_tg_in (List.mem_of_getElem? (i := 50) (by decide +kernel)) rfl
abbrev mX5_childOf : jv_M := (yX5_childOf, cX5_childOf, 5, some .int)
theorem okX5_childOf : jv_ok mX5_childOf 2 := ⟨lw_tg_in (tb_5 (List.mem_of_getElem? (i := 207) rfl)) rfl, lw_tg_in (tb_1 (List.mem_of_getElem? (i := 6) rfl)) rfl, ⟨by decide +kernel, by decide +kernel, by decide +kernel⟩, by decide +kernel, by decide⟩
theorem inX5_childOf : Cond.instanceMethod yX5_childOf ∈ lw_tg := lw_tg_in (tb_5 (List.mem_of_getElem? (i := 205) rfl)) rfl
theorem seX5_childOf : Cond.selects RX5 yX5_childOf yX5_childOf ∈ lw_tg := lw_tg_in (tb_5 (List.mem_of_getElem? (i := 206) rfl)) rfl
abbrev mX5_countOf : jv_M := (yX5_countOf, cX5_countOf, 3, some .int)
theorem okX5_countOf : jv_ok mX5_countOf 2 := ⟨lw_tg_in (tb_5 (List.mem_of_getElem? (i := 212) rfl)) rfl, lw_tg_in (tb_1 (List.mem_of_getElem? (i := 6) rfl)) rfl, ⟨by decide +kernel, by decide +kernel, by decide +kernel⟩, by decide +kernel, by decide⟩
theorem inX5_countOf : Cond.instanceMethod yX5_countOf ∈ lw_tg := lw_tg_in (tb_5 (List.mem_of_getElem? (i := 210) rfl)) rfl
theorem seX5_countOf : Cond.selects RX5 yX5_countOf yX5_countOf ∈ lw_tg := lw_tg_in (tb_5 (List.mem_of_getElem? (i := 211) rfl)) rfl
abbrev mX5_wishOf : jv_M := (yX5_wishOf, cX5_wishOf, 3, some .int)
theorem okX5_wishOf : jv_ok mX5_wishOf 2 := ⟨lw_tg_in (tb_5 (List.mem_of_getElem? (i := 216) rfl)) rfl, lw_tg_in (tb_1 (List.mem_of_getElem? (i := 6) rfl)) rfl, ⟨by decide +kernel, by decide +kernel, by decide +kernel⟩, by decide +kernel, by decide⟩
theorem inX5_wishOf : Cond.instanceMethod yX5_wishOf ∈ lw_tg := lw_tg_in (tb_5 (List.mem_of_getElem? (i := 214) rfl)) rfl
theorem seX5_wishOf : Cond.selects RX5 yX5_wishOf yX5_wishOf ∈ lw_tg := lw_tg_in (tb_5 (List.mem_of_getElem? (i := 215) rfl)) rfl
abbrev mX5_at : jv_M := (yX5_at, cX5_at, 2, some .int)
theorem okX5_at : jv_ok mX5_at 1 := ⟨lw_tg_in (tb_5 (List.mem_of_getElem? (i := 220) rfl)) rfl, lw_tg_in (tb_1 (List.mem_of_getElem? (i := 6) rfl)) rfl, ⟨by decide +kernel, by decide +kernel, by decide +kernel⟩, by decide +kernel, by decide⟩
theorem inX5_at : Cond.instanceMethod yX5_at ∈ lw_tg := lw_tg_in (tb_5 (List.mem_of_getElem? (i := 218) rfl)) rfl
theorem seX5_at : Cond.selects RX5 yX5_at yX5_at ∈ lw_tg := lw_tg_in (tb_5 (List.mem_of_getElem? (i := 219) rfl)) rfl
abbrev mX5_standing : jv_M := (yX5_standing, cX5_standing, 3, some .int)
theorem okX5_standing : jv_ok mX5_standing 1 := ⟨lw_tg_in (tb_5 (List.mem_of_getElem? (i := 224) rfl)) rfl, lw_tg_in (tb_1 (List.mem_of_getElem? (i := 6) rfl)) rfl, ⟨by decide +kernel, by decide +kernel, by decide +kernel⟩, by decide +kernel, by decide⟩
theorem inX5_standing : Cond.instanceMethod yX5_standing ∈ lw_tg := lw_tg_in (tb_5 (List.mem_of_getElem? (i := 223) rfl)) rfl
theorem seX5_standing : Cond.selects RX5 yX5_standing yX5_standing ∈ lw_tg := lw_tg_in (List.mem_of_getElem? (i := 51) (by decide +kernel)) rfl
abbrev mX5_team : jv_M := (yX5_team, cX5_team, 3, some .int)
theorem okX5_team : jv_ok mX5_team 2 := ⟨lw_tg_in (tb_5 (List.mem_of_getElem? (i := 228) rfl)) rfl, lw_tg_in (tb_1 (List.mem_of_getElem? (i := 6) rfl)) rfl, ⟨by decide +kernel, by decide +kernel, by decide +kernel⟩, by decide +kernel, by decide⟩
theorem inX5_team : Cond.instanceMethod yX5_team ∈ lw_tg := lw_tg_in (tb_5 (List.mem_of_getElem? (i := 226) rfl)) rfl
theorem seX5_team : Cond.selects RX5 yX5_team yX5_team ∈ lw_tg := lw_tg_in (tb_5 (List.mem_of_getElem? (i := 227) rfl)) rfl
abbrev mX5_teamOf : jv_M := (yX5_teamOf, cX5_teamOf, 3, some .int)
theorem okX5_teamOf : jv_ok mX5_teamOf 2 := ⟨lw_tg_in (tb_5 (List.mem_of_getElem? (i := 232) rfl)) rfl, lw_tg_in (tb_1 (List.mem_of_getElem? (i := 6) rfl)) rfl, ⟨by decide +kernel, by decide +kernel, by decide +kernel⟩, by decide +kernel, by decide⟩
theorem inX5_teamOf : Cond.instanceMethod yX5_teamOf ∈ lw_tg := lw_tg_in (tb_5 (List.mem_of_getElem? (i := 231) rfl)) rfl
theorem seX5_teamOf : Cond.selects RX5 yX5_teamOf yX5_teamOf ∈ lw_tg := lw_tg_in (List.mem_of_getElem? (i := 52) (by decide +kernel)) rfl
abbrev mX5_members : jv_M := (yX5_members, cX5_members, 5, some .int)
theorem okX5_members : jv_ok mX5_members 2 := ⟨lw_tg_in (tb_5 (List.mem_of_getElem? (i := 236) rfl)) rfl, lw_tg_in (tb_1 (List.mem_of_getElem? (i := 6) rfl)) rfl, ⟨by decide +kernel, by decide +kernel, by decide +kernel⟩, by decide +kernel, by decide⟩
theorem inX5_members : Cond.instanceMethod yX5_members ∈ lw_tg := lw_tg_in (tb_5 (List.mem_of_getElem? (i := 234) rfl)) rfl
theorem seX5_members : Cond.selects RX5 yX5_members yX5_members ∈ lw_tg := lw_tg_in (tb_5 (List.mem_of_getElem? (i := 235) rfl)) rfl
abbrev mX5_isTeam : jv_M := (yX5_isTeam, cX5_isTeam, 3, some .boolean)
theorem okX5_isTeam : jv_ok mX5_isTeam 2 := ⟨lw_tg_in (tb_6 (List.mem_of_getElem? (i := 0) rfl)) rfl, lw_tg_in (tb_1 (List.mem_of_getElem? (i := 6) rfl)) rfl, ⟨by decide +kernel, by decide +kernel, by decide +kernel⟩, by decide +kernel, by decide⟩
theorem inX5_isTeam : Cond.instanceMethod yX5_isTeam ∈ lw_tg := lw_tg_in (tb_5 (List.mem_of_getElem? (i := 239) rfl)) rfl
theorem seX5_isTeam : Cond.selects RX5 yX5_isTeam yX5_isTeam ∈ lw_tg := lw_tg_in (List.mem_of_getElem? (i := 53) (by decide +kernel)) rfl
abbrev mX5_strength : jv_M := (yX5_strength, cX5_strength, 3, some .int)
theorem okX5_strength : jv_ok mX5_strength 2 := ⟨lw_tg_in (tb_6 (List.mem_of_getElem? (i := 4) rfl)) rfl, lw_tg_in (tb_1 (List.mem_of_getElem? (i := 6) rfl)) rfl, ⟨by decide +kernel, by decide +kernel, by decide +kernel⟩, by decide +kernel, by decide⟩
theorem inX5_strength : Cond.instanceMethod yX5_strength ∈ lw_tg := lw_tg_in (tb_6 (List.mem_of_getElem? (i := 2) rfl)) rfl
theorem seX5_strength : Cond.selects RX5 yX5_strength yX5_strength ∈ lw_tg := lw_tg_in (tb_6 (List.mem_of_getElem? (i := 3) rfl)) rfl
abbrev mX5_strengthOf : jv_M := (yX5_strengthOf, cX5_strengthOf, 5, some .int)
theorem okX5_strengthOf : jv_ok mX5_strengthOf 2 := ⟨lw_tg_in (tb_6 (List.mem_of_getElem? (i := 8) rfl)) rfl, lw_tg_in (tb_1 (List.mem_of_getElem? (i := 6) rfl)) rfl, ⟨by decide +kernel, by decide +kernel, by decide +kernel⟩, by decide +kernel, by decide⟩
theorem inX5_strengthOf : Cond.instanceMethod yX5_strengthOf ∈ lw_tg := lw_tg_in (tb_6 (List.mem_of_getElem? (i := 7) rfl)) rfl
theorem seX5_strengthOf : Cond.selects RX5 yX5_strengthOf yX5_strengthOf ∈ lw_tg := lw_tg_in (List.mem_of_getElem? (i := 54) (by decide +kernel)) rfl
abbrev mX5_heaviest : jv_M := (yX5_heaviest, cX5_heaviest, 4, some .int)
theorem okX5_heaviest : jv_ok mX5_heaviest 1 := ⟨lw_tg_in (tb_6 (List.mem_of_getElem? (i := 12) rfl)) rfl, lw_tg_in (tb_1 (List.mem_of_getElem? (i := 6) rfl)) rfl, ⟨by decide +kernel, by decide +kernel, by decide +kernel⟩, by decide +kernel, by decide⟩
theorem inX5_heaviest : Cond.instanceMethod yX5_heaviest ∈ lw_tg := lw_tg_in (tb_6 (List.mem_of_getElem? (i := 10) rfl)) rfl
theorem seX5_heaviest : Cond.selects RX5 yX5_heaviest yX5_heaviest ∈ lw_tg := lw_tg_in (tb_6 (List.mem_of_getElem? (i := 11) rfl)) rfl
abbrev mX5_turned : jv_M := (yX5_turned, cX5_turned, 3, some .int)
theorem okX5_turned : jv_ok mX5_turned 1 := ⟨lw_tg_in (tb_6 (List.mem_of_getElem? (i := 16) rfl)) rfl, lw_tg_in (tb_1 (List.mem_of_getElem? (i := 6) rfl)) rfl, ⟨by decide +kernel, by decide +kernel, by decide +kernel⟩, by decide +kernel, by decide⟩
theorem inX5_turned : Cond.instanceMethod yX5_turned ∈ lw_tg := lw_tg_in (tb_6 (List.mem_of_getElem? (i := 14) rfl)) rfl
theorem seX5_turned : Cond.selects RX5 yX5_turned yX5_turned ∈ lw_tg := lw_tg_in (tb_6 (List.mem_of_getElem? (i := 15) rfl)) rfl
abbrev mX5_turns : jv_M := (yX5_turns, cX5_turns, 2, none)
theorem okX5_turns : jv_ok mX5_turns 0 := ⟨lw_tg_in (tb_6 (List.mem_of_getElem? (i := 20) rfl)) rfl, lw_tg_in (tb_1 (List.mem_of_getElem? (i := 6) rfl)) rfl, ⟨by decide +kernel, by decide +kernel, by decide +kernel⟩, by decide +kernel, by decide⟩
theorem inX5_turns : Cond.instanceMethod yX5_turns ∈ lw_tg := lw_tg_in (tb_6 (List.mem_of_getElem? (i := 19) rfl)) rfl
theorem seX5_turns : Cond.selects RX5 yX5_turns yX5_turns ∈ lw_tg := lw_tg_in (List.mem_of_getElem? (i := 55) (by decide +kernel)) rfl
abbrev mX5_valueOf : jv_M := (yX5_valueOf, cX5_valueOf, 4, some .int)
theorem okX5_valueOf : jv_ok mX5_valueOf 1 := ⟨lw_tg_in (tb_6 (List.mem_of_getElem? (i := 24) rfl)) rfl, lw_tg_in (tb_1 (List.mem_of_getElem? (i := 6) rfl)) rfl, ⟨by decide +kernel, by decide +kernel, by decide +kernel⟩, by decide +kernel, by decide⟩
theorem inX5_valueOf : Cond.instanceMethod yX5_valueOf ∈ lw_tg := lw_tg_in (tb_6 (List.mem_of_getElem? (i := 23) rfl)) rfl
theorem seX5_valueOf : Cond.selects RX5 yX5_valueOf yX5_valueOf ∈ lw_tg := lw_tg_in (List.mem_of_getElem? (i := 56) (by decide +kernel)) rfl
abbrev mX5_isMet : jv_M := (yX5_isMet, cX5_isMet, 3, some .boolean)
theorem okX5_isMet : jv_ok mX5_isMet 2 := ⟨lw_tg_in (tb_6 (List.mem_of_getElem? (i := 28) rfl)) rfl, lw_tg_in (tb_1 (List.mem_of_getElem? (i := 6) rfl)) rfl, ⟨by decide +kernel, by decide +kernel, by decide +kernel⟩, by decide +kernel, by decide⟩
theorem inX5_isMet : Cond.instanceMethod yX5_isMet ∈ lw_tg := lw_tg_in (tb_6 (List.mem_of_getElem? (i := 27) rfl)) rfl
theorem seX5_isMet : Cond.selects RX5 yX5_isMet yX5_isMet ∈ lw_tg := lw_tg_in (List.mem_of_getElem? (i := 57) (by decide +kernel)) rfl
abbrev mX5_areIn : jv_M := (yX5_areIn, cX5_areIn, 4, some .boolean)
theorem okX5_areIn : jv_ok mX5_areIn 3 := ⟨lw_tg_in (tb_6 (List.mem_of_getElem? (i := 32) rfl)) rfl, lw_tg_in (tb_1 (List.mem_of_getElem? (i := 6) rfl)) rfl, ⟨by decide +kernel, by decide +kernel, by decide +kernel⟩, by decide +kernel, by decide⟩
theorem inX5_areIn : Cond.instanceMethod yX5_areIn ∈ lw_tg := lw_tg_in (tb_6 (List.mem_of_getElem? (i := 31) rfl)) rfl
theorem seX5_areIn : Cond.selects RX5 yX5_areIn yX5_areIn ∈ lw_tg := lw_tg_in (List.mem_of_getElem? (i := 58) (by decide +kernel)) rfl
abbrev mX5_unlike : jv_M := (yX5_unlike, cX5_unlike, 5, some .int)
theorem okX5_unlike : jv_ok mX5_unlike 2 := ⟨lw_tg_in (tb_6 (List.mem_of_getElem? (i := 36) rfl)) rfl, lw_tg_in (tb_1 (List.mem_of_getElem? (i := 6) rfl)) rfl, ⟨by decide +kernel, by decide +kernel, by decide +kernel⟩, by decide +kernel, by decide⟩
theorem inX5_unlike : Cond.instanceMethod yX5_unlike ∈ lw_tg := lw_tg_in (tb_6 (List.mem_of_getElem? (i := 34) rfl)) rfl
theorem seX5_unlike : Cond.selects RX5 yX5_unlike yX5_unlike ∈ lw_tg := lw_tg_in (tb_6 (List.mem_of_getElem? (i := 35) rfl)) rfl
abbrev mX5_unmet : jv_M := (yX5_unmet, cX5_unmet, 4, some .int)
theorem okX5_unmet : jv_ok mX5_unmet 1 := ⟨lw_tg_in (tb_6 (List.mem_of_getElem? (i := 40) rfl)) rfl, lw_tg_in (tb_1 (List.mem_of_getElem? (i := 6) rfl)) rfl, ⟨by decide +kernel, by decide +kernel, by decide +kernel⟩, by decide +kernel, by decide⟩
theorem inX5_unmet : Cond.instanceMethod yX5_unmet ∈ lw_tg := lw_tg_in (tb_6 (List.mem_of_getElem? (i := 38) rfl)) rfl
theorem seX5_unmet : Cond.selects RX5 yX5_unmet yX5_unmet ∈ lw_tg := lw_tg_in (tb_6 (List.mem_of_getElem? (i := 39) rfl)) rfl
abbrev mX5_friendsOf : jv_M := (yX5_friendsOf, cX5_friendsOf, 2, some .int)
theorem okX5_friendsOf : jv_ok mX5_friendsOf 1 := ⟨lw_tg_in (tb_6 (List.mem_of_getElem? (i := 44) rfl)) rfl, lw_tg_in (tb_1 (List.mem_of_getElem? (i := 6) rfl)) rfl, ⟨by decide +kernel, by decide +kernel, by decide +kernel⟩, by decide +kernel, by decide⟩
theorem inX5_friendsOf : Cond.instanceMethod yX5_friendsOf ∈ lw_tg := lw_tg_in (tb_6 (List.mem_of_getElem? (i := 42) rfl)) rfl
theorem seX5_friendsOf : Cond.selects RX5 yX5_friendsOf yX5_friendsOf ∈ lw_tg := lw_tg_in (tb_6 (List.mem_of_getElem? (i := 43) rfl)) rfl
abbrev mX5_friends : jv_M := (yX5_friends, cX5_friends, 5, some .int)
theorem okX5_friends : jv_ok mX5_friends 1 := ⟨lw_tg_in (tb_6 (List.mem_of_getElem? (i := 48) rfl)) rfl, lw_tg_in (tb_1 (List.mem_of_getElem? (i := 6) rfl)) rfl, ⟨by decide +kernel, by decide +kernel, by decide +kernel⟩, by decide +kernel, by decide⟩
theorem inX5_friends : Cond.instanceMethod yX5_friends ∈ lw_tg := lw_tg_in (tb_6 (List.mem_of_getElem? (i := 47) rfl)) rfl
theorem seX5_friends : Cond.selects RX5 yX5_friends yX5_friends ∈ lw_tg := lw_tg_in (List.mem_of_getElem? (i := 59) (by decide +kernel)) rfl
abbrev mX5_has : jv_M := (yX5_has, cX5_has, 2, some .boolean)
theorem okX5_has : jv_ok mX5_has 2 := ⟨lw_tg_in (tb_6 (List.mem_of_getElem? (i := 51) rfl)) rfl, lw_tg_in (tb_1 (List.mem_of_getElem? (i := 6) rfl)) rfl, ⟨by decide +kernel, by decide +kernel, by decide +kernel⟩, by decide +kernel, by decide⟩
theorem stX5_has : Cond.static yX5_has ∈ lw_tg := lw_tg_in (tb_6 (List.mem_of_getElem? (i := 50) rfl)) rfl
abbrev mX5_groups : jv_M := (yX5_groups, cX5_groups, 4, some .int)
theorem okX5_groups : jv_ok mX5_groups 0 := ⟨lw_tg_in (tb_6 (List.mem_of_getElem? (i := 55) rfl)) rfl, lw_tg_in (tb_1 (List.mem_of_getElem? (i := 6) rfl)) rfl, ⟨by decide +kernel, by decide +kernel, by decide +kernel⟩, by decide +kernel, by decide⟩
theorem inX5_groups : Cond.instanceMethod yX5_groups ∈ lw_tg := lw_tg_in (tb_6 (List.mem_of_getElem? (i := 53) rfl)) rfl
theorem seX5_groups : Cond.selects RX5 yX5_groups yX5_groups ∈ lw_tg := lw_tg_in (tb_6 (List.mem_of_getElem? (i := 54) rfl)) rfl
abbrev mX5_conflict : jv_M := (yX5_conflict, cX5_conflict, 2, some .int)
theorem okX5_conflict : jv_ok mX5_conflict 0 := ⟨lw_tg_in (tb_6 (List.mem_of_getElem? (i := 59) rfl)) rfl, lw_tg_in (tb_1 (List.mem_of_getElem? (i := 6) rfl)) rfl, ⟨by decide +kernel, by decide +kernel, by decide +kernel⟩, by decide +kernel, by decide⟩
theorem inX5_conflict : Cond.instanceMethod yX5_conflict ∈ lw_tg := lw_tg_in (tb_6 (List.mem_of_getElem? (i := 57) rfl)) rfl
theorem seX5_conflict : Cond.selects RX5 yX5_conflict yX5_conflict ∈ lw_tg := lw_tg_in (tb_6 (List.mem_of_getElem? (i := 58) rfl)) rfl
abbrev mX5_value : jv_M := (yX5_value, cX5_value, 2, some .int)
theorem okX5_value : jv_ok mX5_value 1 := ⟨lw_tg_in (tb_6 (List.mem_of_getElem? (i := 63) rfl)) rfl, lw_tg_in (tb_1 (List.mem_of_getElem? (i := 6) rfl)) rfl, ⟨by decide +kernel, by decide +kernel, by decide +kernel⟩, by decide +kernel, by decide⟩
theorem inX5_value : Cond.instanceMethod yX5_value ∈ lw_tg := lw_tg_in (tb_6 (List.mem_of_getElem? (i := 61) rfl)) rfl
theorem seX5_value : Cond.selects RX5 yX5_value yX5_value ∈ lw_tg := lw_tg_in (tb_6 (List.mem_of_getElem? (i := 62) rfl)) rfl
abbrev mX5_met : jv_M := (yX5_met, cX5_met, 3, some .int)
theorem okX5_met : jv_ok mX5_met 2 := ⟨lw_tg_in (tb_6 (List.mem_of_getElem? (i := 67) rfl)) rfl, lw_tg_in (tb_1 (List.mem_of_getElem? (i := 6) rfl)) rfl, ⟨by decide +kernel, by decide +kernel, by decide +kernel⟩, by decide +kernel, by decide⟩
theorem inX5_met : Cond.instanceMethod yX5_met ∈ lw_tg := lw_tg_in (tb_6 (List.mem_of_getElem? (i := 65) rfl)) rfl
theorem seX5_met : Cond.selects RX5 yX5_met yX5_met ∈ lw_tg := lw_tg_in (tb_6 (List.mem_of_getElem? (i := 66) rfl)) rfl
abbrev mX5_even : jv_M := (yX5_even, cX5_even, 2, some .int)
theorem okX5_even : jv_ok mX5_even 1 := ⟨lw_tg_in (tb_6 (List.mem_of_getElem? (i := 71) rfl)) rfl, lw_tg_in (tb_1 (List.mem_of_getElem? (i := 6) rfl)) rfl, ⟨by decide +kernel, by decide +kernel, by decide +kernel⟩, by decide +kernel, by decide⟩
theorem inX5_even : Cond.instanceMethod yX5_even ∈ lw_tg := lw_tg_in (tb_6 (List.mem_of_getElem? (i := 69) rfl)) rfl
theorem seX5_even : Cond.selects RX5 yX5_even yX5_even ∈ lw_tg := lw_tg_in (tb_6 (List.mem_of_getElem? (i := 70) rfl)) rfl
abbrev mX5_evenOf : jv_M := (yX5_evenOf, cX5_evenOf, 6, some .int)
theorem okX5_evenOf : jv_ok mX5_evenOf 1 := ⟨lw_tg_in (tb_6 (List.mem_of_getElem? (i := 75) rfl)) rfl, lw_tg_in (tb_1 (List.mem_of_getElem? (i := 6) rfl)) rfl, ⟨by decide +kernel, by decide +kernel, by decide +kernel⟩, by decide +kernel, by decide⟩
theorem inX5_evenOf : Cond.instanceMethod yX5_evenOf ∈ lw_tg := lw_tg_in (tb_6 (List.mem_of_getElem? (i := 74) rfl)) rfl
theorem seX5_evenOf : Cond.selects RX5 yX5_evenOf yX5_evenOf ∈ lw_tg := lw_tg_in (List.mem_of_getElem? (i := 60) (by decide +kernel)) rfl
abbrev mX5_best : jv_M := (yX5_best, cX5_best, 6, some .int)
theorem okX5_best : jv_ok mX5_best 1 := ⟨lw_tg_in (tb_6 (List.mem_of_getElem? (i := 79) rfl)) rfl, lw_tg_in (tb_1 (List.mem_of_getElem? (i := 6) rfl)) rfl, ⟨by decide +kernel, by decide +kernel, by decide +kernel⟩, by decide +kernel, by decide⟩
theorem inX5_best : Cond.instanceMethod yX5_best ∈ lw_tg := lw_tg_in (tb_6 (List.mem_of_getElem? (i := 77) rfl)) rfl
theorem seX5_best : Cond.selects RX5 yX5_best yX5_best ∈ lw_tg := lw_tg_in (tb_6 (List.mem_of_getElem? (i := 78) rfl)) rfl
abbrev mX5_change : jv_M := (yX5_change, cX5_change, 7, some .int)
theorem okX5_change : jv_ok mX5_change 1 := ⟨lw_tg_in (tb_6 (List.mem_of_getElem? (i := 83) rfl)) rfl, lw_tg_in (tb_1 (List.mem_of_getElem? (i := 6) rfl)) rfl, ⟨by decide +kernel, by decide +kernel, by decide +kernel⟩, by decide +kernel, by decide⟩
theorem inX5_change : Cond.instanceMethod yX5_change ∈ lw_tg := lw_tg_in (tb_6 (List.mem_of_getElem? (i := 81) rfl)) rfl
theorem seX5_change : Cond.selects RX5 yX5_change yX5_change ∈ lw_tg := lw_tg_in (tb_6 (List.mem_of_getElem? (i := 82) rfl)) rfl
abbrev mX5_mayChange : jv_M := (yX5_mayChange, cX5_mayChange, 4, some .boolean)
theorem okX5_mayChange : jv_ok mX5_mayChange 2 := ⟨lw_tg_in (tb_6 (List.mem_of_getElem? (i := 87) rfl)) rfl, lw_tg_in (tb_1 (List.mem_of_getElem? (i := 6) rfl)) rfl, ⟨by decide +kernel, by decide +kernel, by decide +kernel⟩, by decide +kernel, by decide⟩
theorem inX5_mayChange : Cond.instanceMethod yX5_mayChange ∈ lw_tg := lw_tg_in (tb_6 (List.mem_of_getElem? (i := 86) rfl)) rfl
theorem seX5_mayChange : Cond.selects RX5 yX5_mayChange yX5_mayChange ∈ lw_tg := lw_tg_in (List.mem_of_getElem? (i := 61) (by decide +kernel)) rfl
abbrev mX5_changes : jv_M := (yX5_changes, cX5_changes, 4, some .int)
theorem okX5_changes : jv_ok mX5_changes 2 := ⟨lw_tg_in (tb_6 (List.mem_of_getElem? (i := 91) rfl)) rfl, lw_tg_in (tb_1 (List.mem_of_getElem? (i := 6) rfl)) rfl, ⟨by decide +kernel, by decide +kernel, by decide +kernel⟩, by decide +kernel, by decide⟩
theorem inX5_changes : Cond.instanceMethod yX5_changes ∈ lw_tg := lw_tg_in (tb_6 (List.mem_of_getElem? (i := 89) rfl)) rfl
theorem seX5_changes : Cond.selects RX5 yX5_changes yX5_changes ∈ lw_tg := lw_tg_in (tb_6 (List.mem_of_getElem? (i := 90) rfl)) rfl
abbrev mX5_canBeBy : jv_M := (yX5_canBeBy, cX5_canBeBy, 7, some .boolean)
theorem okX5_canBeBy : jv_ok mX5_canBeBy 3 := ⟨lw_tg_in (tb_6 (List.mem_of_getElem? (i := 96) rfl)) rfl, lw_tg_in (tb_1 (List.mem_of_getElem? (i := 6) rfl)) rfl, ⟨by decide +kernel, by decide +kernel, by decide +kernel⟩, by decide +kernel, by decide⟩
theorem inX5_canBeBy : Cond.instanceMethod yX5_canBeBy ∈ lw_tg := lw_tg_in (tb_6 (List.mem_of_getElem? (i := 95) rfl)) rfl
theorem seX5_canBeBy : Cond.selects RX5 yX5_canBeBy yX5_canBeBy ∈ lw_tg := lw_tg_in (List.mem_of_getElem? (i := 62) (by decide +kernel)) rfl
abbrev mX5_place : jv_M := (yX5_place, cX5_place, 8, some .int)
theorem okX5_place : jv_ok mX5_place 1 := ⟨lw_tg_in (tb_6 (List.mem_of_getElem? (i := 100) rfl)) rfl, lw_tg_in (tb_1 (List.mem_of_getElem? (i := 6) rfl)) rfl, ⟨by decide +kernel, by decide +kernel, by decide +kernel⟩, by decide +kernel, by decide⟩
theorem inX5_place : Cond.instanceMethod yX5_place ∈ lw_tg := lw_tg_in (tb_6 (List.mem_of_getElem? (i := 98) rfl)) rfl
theorem seX5_place : Cond.selects RX5 yX5_place yX5_place ∈ lw_tg := lw_tg_in (tb_6 (List.mem_of_getElem? (i := 99) rfl)) rfl
abbrev mX5_far : jv_M := (yX5_far, cX5_far, 10, some .int)
theorem okX5_far : jv_ok mX5_far 3 := ⟨lw_tg_in (tb_6 (List.mem_of_getElem? (i := 104) rfl)) rfl, lw_tg_in (tb_1 (List.mem_of_getElem? (i := 6) rfl)) rfl, ⟨by decide +kernel, by decide +kernel, by decide +kernel⟩, by decide +kernel, by decide⟩
theorem inX5_far : Cond.instanceMethod yX5_far ∈ lw_tg := lw_tg_in (tb_6 (List.mem_of_getElem? (i := 102) rfl)) rfl
theorem seX5_far : Cond.selects RX5 yX5_far yX5_far ∈ lw_tg := lw_tg_in (tb_6 (List.mem_of_getElem? (i := 103) rfl)) rfl
abbrev mX5_most : jv_M := (yX5_most, cX5_most, 3, some .int)
theorem okX5_most : jv_ok mX5_most 1 := ⟨lw_tg_in (tb_6 (List.mem_of_getElem? (i := 108) rfl)) rfl, lw_tg_in (tb_1 (List.mem_of_getElem? (i := 6) rfl)) rfl, ⟨by decide +kernel, by decide +kernel, by decide +kernel⟩, by decide +kernel, by decide⟩
theorem inX5_most : Cond.instanceMethod yX5_most ∈ lw_tg := lw_tg_in (tb_6 (List.mem_of_getElem? (i := 106) rfl)) rfl
theorem seX5_most : Cond.selects RX5 yX5_most yX5_most ∈ lw_tg := lw_tg_in (tb_6 (List.mem_of_getElem? (i := 107) rfl)) rfl
abbrev mX5_seekMost : jv_M := (yX5_seekMost, cX5_seekMost, 5, none)
theorem okX5_seekMost : jv_ok mX5_seekMost 3 := ⟨lw_tg_in (tb_6 (List.mem_of_getElem? (i := 112) rfl)) rfl, lw_tg_in (tb_1 (List.mem_of_getElem? (i := 6) rfl)) rfl, ⟨by decide +kernel, by decide +kernel, by decide +kernel⟩, by decide +kernel, by decide⟩
theorem inX5_seekMost : Cond.instanceMethod yX5_seekMost ∈ lw_tg := lw_tg_in (tb_6 (List.mem_of_getElem? (i := 111) rfl)) rfl
theorem seX5_seekMost : Cond.selects RX5 yX5_seekMost yX5_seekMost ∈ lw_tg := lw_tg_in (List.mem_of_getElem? (i := 63) (by decide +kernel)) rfl
abbrev mX5_always : jv_M := (yX5_always, cX5_always, 6, some .int)
theorem okX5_always : jv_ok mX5_always 1 := ⟨lw_tg_in (tb_6 (List.mem_of_getElem? (i := 116) rfl)) rfl, lw_tg_in (tb_1 (List.mem_of_getElem? (i := 6) rfl)) rfl, ⟨by decide +kernel, by decide +kernel, by decide +kernel⟩, by decide +kernel, by decide⟩
theorem inX5_always : Cond.instanceMethod yX5_always ∈ lw_tg := lw_tg_in (tb_6 (List.mem_of_getElem? (i := 114) rfl)) rfl
theorem seX5_always : Cond.selects RX5 yX5_always yX5_always ∈ lw_tg := lw_tg_in (tb_6 (List.mem_of_getElem? (i := 115) rfl)) rfl
abbrev mX5_often : jv_M := (yX5_often, cX5_often, 3, some .int)
theorem okX5_often : jv_ok mX5_often 2 := ⟨lw_tg_in (tb_6 (List.mem_of_getElem? (i := 120) rfl)) rfl, lw_tg_in (tb_1 (List.mem_of_getElem? (i := 6) rfl)) rfl, ⟨by decide +kernel, by decide +kernel, by decide +kernel⟩, by decide +kernel, by decide⟩
theorem inX5_often : Cond.instanceMethod yX5_often ∈ lw_tg := lw_tg_in (tb_6 (List.mem_of_getElem? (i := 118) rfl)) rfl
theorem seX5_often : Cond.selects RX5 yX5_often yX5_often ∈ lw_tg := lw_tg_in (tb_6 (List.mem_of_getElem? (i := 119) rfl)) rfl
abbrev mX5_oftenOf : jv_M := (yX5_oftenOf, cX5_oftenOf, 5, some .int)
theorem okX5_oftenOf : jv_ok mX5_oftenOf 2 := ⟨lw_tg_in (tb_6 (List.mem_of_getElem? (i := 124) rfl)) rfl, lw_tg_in (tb_1 (List.mem_of_getElem? (i := 6) rfl)) rfl, ⟨by decide +kernel, by decide +kernel, by decide +kernel⟩, by decide +kernel, by decide⟩
theorem inX5_oftenOf : Cond.instanceMethod yX5_oftenOf ∈ lw_tg := lw_tg_in (tb_6 (List.mem_of_getElem? (i := 123) rfl)) rfl
theorem seX5_oftenOf : Cond.selects RX5 yX5_oftenOf yX5_oftenOf ∈ lw_tg := lw_tg_in (List.mem_of_getElem? (i := 64) (by decide +kernel)) rfl
abbrev mX5_safe : jv_M := (yX5_safe, cX5_safe, 7, some .int)
theorem okX5_safe : jv_ok mX5_safe 2 := ⟨lw_tg_in (tb_6 (List.mem_of_getElem? (i := 128) rfl)) rfl, lw_tg_in (tb_1 (List.mem_of_getElem? (i := 6) rfl)) rfl, ⟨by decide +kernel, by decide +kernel, by decide +kernel⟩, by decide +kernel, by decide⟩
theorem inX5_safe : Cond.instanceMethod yX5_safe ∈ lw_tg := lw_tg_in (tb_6 (List.mem_of_getElem? (i := 126) rfl)) rfl
theorem seX5_safe : Cond.selects RX5 yX5_safe yX5_safe ∈ lw_tg := lw_tg_in (tb_6 (List.mem_of_getElem? (i := 127) rfl)) rfl
abbrev mX5_out : jv_M := (yX5_out, cX5_out, 3, some .int)
theorem okX5_out : jv_ok mX5_out 2 := ⟨lw_tg_in (tb_6 (List.mem_of_getElem? (i := 132) rfl)) rfl, lw_tg_in (tb_1 (List.mem_of_getElem? (i := 6) rfl)) rfl, ⟨by decide +kernel, by decide +kernel, by decide +kernel⟩, by decide +kernel, by decide⟩
theorem inX5_out : Cond.instanceMethod yX5_out ∈ lw_tg := lw_tg_in (tb_6 (List.mem_of_getElem? (i := 130) rfl)) rfl
theorem seX5_out : Cond.selects RX5 yX5_out yX5_out ∈ lw_tg := lw_tg_in (tb_6 (List.mem_of_getElem? (i := 131) rfl)) rfl
abbrev mX5_findOut : jv_M := (yX5_findOut, cX5_findOut, 5, none)
theorem okX5_findOut : jv_ok mX5_findOut 1 := ⟨lw_tg_in (tb_6 (List.mem_of_getElem? (i := 137) rfl)) rfl, lw_tg_in (tb_1 (List.mem_of_getElem? (i := 6) rfl)) rfl, ⟨by decide +kernel, by decide +kernel, by decide +kernel⟩, by decide +kernel, by decide⟩
theorem inX5_findOut : Cond.instanceMethod yX5_findOut ∈ lw_tg := lw_tg_in (tb_6 (List.mem_of_getElem? (i := 136) rfl)) rfl
theorem seX5_findOut : Cond.selects RX5 yX5_findOut yX5_findOut ∈ lw_tg := lw_tg_in (List.mem_of_getElem? (i := 65) (by decide +kernel)) rfl
abbrev mX5_outAt : jv_M := (yX5_outAt, cX5_outAt, 4, some .int)
theorem okX5_outAt : jv_ok mX5_outAt 2 := ⟨lw_tg_in (tb_6 (List.mem_of_getElem? (i := 141) rfl)) rfl, lw_tg_in (tb_1 (List.mem_of_getElem? (i := 6) rfl)) rfl, ⟨by decide +kernel, by decide +kernel, by decide +kernel⟩, by decide +kernel, by decide⟩
theorem inX5_outAt : Cond.instanceMethod yX5_outAt ∈ lw_tg := lw_tg_in (tb_6 (List.mem_of_getElem? (i := 139) rfl)) rfl
theorem seX5_outAt : Cond.selects RX5 yX5_outAt yX5_outAt ∈ lw_tg := lw_tg_in (tb_6 (List.mem_of_getElem? (i := 140) rfl)) rfl
abbrev mX5_stays : jv_M := (yX5_stays, cX5_stays, 3, some .int)
theorem okX5_stays : jv_ok mX5_stays 1 := ⟨lw_tg_in (tb_6 (List.mem_of_getElem? (i := 145) rfl)) rfl, lw_tg_in (tb_1 (List.mem_of_getElem? (i := 6) rfl)) rfl, ⟨by decide +kernel, by decide +kernel, by decide +kernel⟩, by decide +kernel, by decide⟩
theorem inX5_stays : Cond.instanceMethod yX5_stays ∈ lw_tg := lw_tg_in (tb_6 (List.mem_of_getElem? (i := 143) rfl)) rfl
theorem seX5_stays : Cond.selects RX5 yX5_stays yX5_stays ∈ lw_tg := lw_tg_in (tb_6 (List.mem_of_getElem? (i := 144) rfl)) rfl
abbrev mX5_fits : jv_M := (yX5_fits, cX5_fits, 5, some .int)
theorem okX5_fits : jv_ok mX5_fits 1 := ⟨lw_tg_in (tb_6 (List.mem_of_getElem? (i := 149) rfl)) rfl, lw_tg_in (tb_1 (List.mem_of_getElem? (i := 6) rfl)) rfl, ⟨by decide +kernel, by decide +kernel, by decide +kernel⟩, by decide +kernel, by decide⟩
theorem inX5_fits : Cond.instanceMethod yX5_fits ∈ lw_tg := lw_tg_in (tb_6 (List.mem_of_getElem? (i := 147) rfl)) rfl
theorem seX5_fits : Cond.selects RX5 yX5_fits yX5_fits ∈ lw_tg := lw_tg_in (tb_6 (List.mem_of_getElem? (i := 148) rfl)) rfl
abbrev mX5_noMorning : jv_M := (yX5_noMorning, cX5_noMorning, 3, some .int)
theorem okX5_noMorning : jv_ok mX5_noMorning 1 := ⟨lw_tg_in (tb_6 (List.mem_of_getElem? (i := 153) rfl)) rfl, lw_tg_in (tb_1 (List.mem_of_getElem? (i := 6) rfl)) rfl, ⟨by decide +kernel, by decide +kernel, by decide +kernel⟩, by decide +kernel, by decide⟩
theorem inX5_noMorning : Cond.instanceMethod yX5_noMorning ∈ lw_tg := lw_tg_in (tb_6 (List.mem_of_getElem? (i := 152) rfl)) rfl
theorem seX5_noMorning : Cond.selects RX5 yX5_noMorning yX5_noMorning ∈ lw_tg := lw_tg_in (List.mem_of_getElem? (i := 66) (by decide +kernel)) rfl
abbrev mX5_wrongTeams : jv_M := (yX5_wrongTeams, cX5_wrongTeams, 5, some .int)
theorem okX5_wrongTeams : jv_ok mX5_wrongTeams 2 := ⟨lw_tg_in (tb_6 (List.mem_of_getElem? (i := 157) rfl)) rfl, lw_tg_in (tb_1 (List.mem_of_getElem? (i := 6) rfl)) rfl, ⟨by decide +kernel, by decide +kernel, by decide +kernel⟩, by decide +kernel, by decide⟩
theorem inX5_wrongTeams : Cond.instanceMethod yX5_wrongTeams ∈ lw_tg := lw_tg_in (tb_6 (List.mem_of_getElem? (i := 156) rfl)) rfl
theorem seX5_wrongTeams : Cond.selects RX5 yX5_wrongTeams yX5_wrongTeams ∈ lw_tg := lw_tg_in (List.mem_of_getElem? (i := 67) (by decide +kernel)) rfl
abbrev mX5_moved : jv_M := (yX5_moved, cX5_moved, 7, some .int)
theorem okX5_moved : jv_ok mX5_moved 2 := ⟨lw_tg_in (tb_6 (List.mem_of_getElem? (i := 161) rfl)) rfl, lw_tg_in (tb_1 (List.mem_of_getElem? (i := 6) rfl)) rfl, ⟨by decide +kernel, by decide +kernel, by decide +kernel⟩, by decide +kernel, by decide⟩
theorem inX5_moved : Cond.instanceMethod yX5_moved ∈ lw_tg := lw_tg_in (tb_6 (List.mem_of_getElem? (i := 159) rfl)) rfl
theorem seX5_moved : Cond.selects RX5 yX5_moved yX5_moved ∈ lw_tg := lw_tg_in (tb_6 (List.mem_of_getElem? (i := 160) rfl)) rfl
abbrev mX5_miscounted : jv_M := (yX5_miscounted, cX5_miscounted, 6, some .int)
theorem okX5_miscounted : jv_ok mX5_miscounted 1 := ⟨lw_tg_in (tb_6 (List.mem_of_getElem? (i := 165) rfl)) rfl, lw_tg_in (tb_1 (List.mem_of_getElem? (i := 6) rfl)) rfl, ⟨by decide +kernel, by decide +kernel, by decide +kernel⟩, by decide +kernel, by decide⟩
theorem inX5_miscounted : Cond.instanceMethod yX5_miscounted ∈ lw_tg := lw_tg_in (tb_6 (List.mem_of_getElem? (i := 163) rfl)) rfl
theorem seX5_miscounted : Cond.selects RX5 yX5_miscounted yX5_miscounted ∈ lw_tg := lw_tg_in (tb_6 (List.mem_of_getElem? (i := 164) rfl)) rfl
abbrev mX5_judge : jv_M := (yX5_judge, cX5_judge, 4, some .int)
theorem okX5_judge : jv_ok mX5_judge 2 := ⟨lw_tg_in (tb_6 (List.mem_of_getElem? (i := 169) rfl)) rfl, lw_tg_in (tb_1 (List.mem_of_getElem? (i := 6) rfl)) rfl, ⟨by decide +kernel, by decide +kernel, by decide +kernel⟩, by decide +kernel, by decide⟩
theorem inX5_judge : Cond.instanceMethod yX5_judge ∈ lw_tg := lw_tg_in (tb_6 (List.mem_of_getElem? (i := 167) rfl)) rfl
theorem seX5_judge : Cond.selects RX5 yX5_judge yX5_judge ∈ lw_tg := lw_tg_in (tb_6 (List.mem_of_getElem? (i := 168) rfl)) rfl
abbrev mX5_noChanges : jv_M := (yX5_noChanges, cX5_noChanges, 4, some .int)
theorem okX5_noChanges : jv_ok mX5_noChanges 2 := ⟨lw_tg_in (tb_6 (List.mem_of_getElem? (i := 173) rfl)) rfl, lw_tg_in (tb_1 (List.mem_of_getElem? (i := 6) rfl)) rfl, ⟨by decide +kernel, by decide +kernel, by decide +kernel⟩, by decide +kernel, by decide⟩
theorem inX5_noChanges : Cond.instanceMethod yX5_noChanges ∈ lw_tg := lw_tg_in (tb_6 (List.mem_of_getElem? (i := 172) rfl)) rfl
theorem seX5_noChanges : Cond.selects RX5 yX5_noChanges yX5_noChanges ∈ lw_tg := lw_tg_in (List.mem_of_getElem? (i := 68) (by decide +kernel)) rfl
abbrev mX5_goesBy : jv_M := (yX5_goesBy, cX5_goesBy, 6, some .int)
theorem okX5_goesBy : jv_ok mX5_goesBy 2 := ⟨lw_tg_in (tb_6 (List.mem_of_getElem? (i := 177) rfl)) rfl, lw_tg_in (tb_1 (List.mem_of_getElem? (i := 6) rfl)) rfl, ⟨by decide +kernel, by decide +kernel, by decide +kernel⟩, by decide +kernel, by decide⟩
theorem inX5_goesBy : Cond.instanceMethod yX5_goesBy ∈ lw_tg := lw_tg_in (tb_6 (List.mem_of_getElem? (i := 176) rfl)) rfl
theorem seX5_goesBy : Cond.selects RX5 yX5_goesBy yX5_goesBy ∈ lw_tg := lw_tg_in (List.mem_of_getElem? (i := 69) (by decide +kernel)) rfl
abbrev mX5_behind : jv_M := (yX5_behind, cX5_behind, 6, some .int)
theorem okX5_behind : jv_ok mX5_behind 3 := ⟨lw_tg_in (tb_6 (List.mem_of_getElem? (i := 182) rfl)) rfl, lw_tg_in (tb_1 (List.mem_of_getElem? (i := 6) rfl)) rfl, ⟨by decide +kernel, by decide +kernel, by decide +kernel⟩, by decide +kernel, by decide⟩
theorem inX5_behind : Cond.instanceMethod yX5_behind ∈ lw_tg := lw_tg_in (tb_6 (List.mem_of_getElem? (i := 180) rfl)) rfl
theorem seX5_behind : Cond.selects RX5 yX5_behind yX5_behind ∈ lw_tg := lw_tg_in (tb_6 (List.mem_of_getElem? (i := 181) rfl)) rfl
abbrev mX5_done : jv_M := (yX5_done, cX5_done, 4, some .int)
theorem okX5_done : jv_ok mX5_done 2 := ⟨lw_tg_in (tb_6 (List.mem_of_getElem? (i := 186) rfl)) rfl, lw_tg_in (tb_1 (List.mem_of_getElem? (i := 6) rfl)) rfl, ⟨by decide +kernel, by decide +kernel, by decide +kernel⟩, by decide +kernel, by decide⟩
theorem inX5_done : Cond.instanceMethod yX5_done ∈ lw_tg := lw_tg_in (tb_6 (List.mem_of_getElem? (i := 184) rfl)) rfl
theorem seX5_done : Cond.selects RX5 yX5_done yX5_done ∈ lw_tg := lw_tg_in (tb_6 (List.mem_of_getElem? (i := 185) rfl)) rfl
abbrev mX5_swap : jv_M := (yX5_swap, cX5_swap, 3, some .int)
theorem okX5_swap : jv_ok mX5_swap 2 := ⟨lw_tg_in (tb_6 (List.mem_of_getElem? (i := 190) rfl)) rfl, lw_tg_in (tb_1 (List.mem_of_getElem? (i := 6) rfl)) rfl, ⟨by decide +kernel, by decide +kernel, by decide +kernel⟩, by decide +kernel, by decide⟩
theorem inX5_swap : Cond.instanceMethod yX5_swap ∈ lw_tg := lw_tg_in (tb_6 (List.mem_of_getElem? (i := 188) rfl)) rfl
theorem seX5_swap : Cond.selects RX5 yX5_swap yX5_swap ∈ lw_tg := lw_tg_in (tb_6 (List.mem_of_getElem? (i := 189) rfl)) rfl
abbrev mX5_move : jv_M := (yX5_move, cX5_move, 4, some .int)
theorem okX5_move : jv_ok mX5_move 2 := ⟨lw_tg_in (tb_6 (List.mem_of_getElem? (i := 194) rfl)) rfl, lw_tg_in (tb_1 (List.mem_of_getElem? (i := 6) rfl)) rfl, ⟨by decide +kernel, by decide +kernel, by decide +kernel⟩, by decide +kernel, by decide⟩
theorem inX5_move : Cond.instanceMethod yX5_move ∈ lw_tg := lw_tg_in (tb_6 (List.mem_of_getElem? (i := 192) rfl)) rfl
theorem seX5_move : Cond.selects RX5 yX5_move yX5_move ∈ lw_tg := lw_tg_in (tb_6 (List.mem_of_getElem? (i := 193) rfl)) rfl
abbrev mX5_turn : jv_M := (yX5_turn, cX5_turn, 1, some .int)
theorem okX5_turn : jv_ok mX5_turn 0 := ⟨lw_tg_in (tb_6 (List.mem_of_getElem? (i := 198) rfl)) rfl, lw_tg_in (tb_1 (List.mem_of_getElem? (i := 6) rfl)) rfl, ⟨by decide +kernel, by decide +kernel, by decide +kernel⟩, by decide +kernel, by decide⟩
theorem inX5_turn : Cond.instanceMethod yX5_turn ∈ lw_tg := lw_tg_in (tb_6 (List.mem_of_getElem? (i := 196) rfl)) rfl
theorem seX5_turn : Cond.selects RX5 yX5_turn yX5_turn ∈ lw_tg := lw_tg_in (tb_6 (List.mem_of_getElem? (i := 197) rfl)) rfl
abbrev mX5_leaves : jv_M := (yX5_leaves, cX5_leaves, 3, some .int)
theorem okX5_leaves : jv_ok mX5_leaves 0 := ⟨lw_tg_in (tb_6 (List.mem_of_getElem? (i := 202) rfl)) rfl, lw_tg_in (tb_1 (List.mem_of_getElem? (i := 6) rfl)) rfl, ⟨by decide +kernel, by decide +kernel, by decide +kernel⟩, by decide +kernel, by decide⟩
theorem inX5_leaves : Cond.instanceMethod yX5_leaves ∈ lw_tg := lw_tg_in (tb_6 (List.mem_of_getElem? (i := 200) rfl)) rfl
theorem seX5_leaves : Cond.selects RX5 yX5_leaves yX5_leaves ∈ lw_tg := lw_tg_in (tb_6 (List.mem_of_getElem? (i := 201) rfl)) rfl
abbrev mX5_term : jv_M := (yX5_term, cX5_term, 5, some .int)
theorem okX5_term : jv_ok mX5_term 1 := ⟨lw_tg_in (tb_6 (List.mem_of_getElem? (i := 206) rfl)) rfl, lw_tg_in (tb_1 (List.mem_of_getElem? (i := 6) rfl)) rfl, ⟨by decide +kernel, by decide +kernel, by decide +kernel⟩, by decide +kernel, by decide⟩
theorem inX5_term : Cond.instanceMethod yX5_term ∈ lw_tg := lw_tg_in (tb_6 (List.mem_of_getElem? (i := 204) rfl)) rfl
theorem seX5_term : Cond.selects RX5 yX5_term yX5_term ∈ lw_tg := lw_tg_in (tb_6 (List.mem_of_getElem? (i := 205) rfl)) rfl
abbrev mX5_below : jv_M := (yX5_below, cX5_below, 2, some .int)
theorem okX5_below : jv_ok mX5_below 1 := ⟨lw_tg_in (tb_6 (List.mem_of_getElem? (i := 211) rfl)) rfl, lw_tg_in (tb_1 (List.mem_of_getElem? (i := 6) rfl)) rfl, ⟨by decide +kernel, by decide +kernel, by decide +kernel⟩, by decide +kernel, by decide⟩
theorem inX5_below : Cond.instanceMethod yX5_below ∈ lw_tg := lw_tg_in (tb_6 (List.mem_of_getElem? (i := 210) rfl)) rfl
theorem seX5_below : Cond.selects RX5 yX5_below yX5_below ∈ lw_tg := lw_tg_in (List.mem_of_getElem? (i := 70) (by decide +kernel)) rfl
abbrev mX5_seed : jv_M := (yX5_seed, cX5_seed, 3, some .int)
theorem okX5_seed : jv_ok mX5_seed 1 := ⟨lw_tg_in (tb_6 (List.mem_of_getElem? (i := 216) rfl)) rfl, lw_tg_in (tb_1 (List.mem_of_getElem? (i := 6) rfl)) rfl, ⟨by decide +kernel, by decide +kernel, by decide +kernel⟩, by decide +kernel, by decide⟩
theorem inX5_seed : Cond.instanceMethod yX5_seed ∈ lw_tg := lw_tg_in (tb_6 (List.mem_of_getElem? (i := 214) rfl)) rfl
theorem seX5_seed : Cond.selects RX5 yX5_seed yX5_seed ∈ lw_tg := lw_tg_in (tb_6 (List.mem_of_getElem? (i := 215) rfl)) rfl
abbrev mX5_image : jv_M := (yX5_image, cX5_image, 1, some .int)
theorem okX5_image : jv_ok mX5_image 0 := ⟨lw_tg_in (tb_6 (List.mem_of_getElem? (i := 220) rfl)) rfl, lw_tg_in (tb_1 (List.mem_of_getElem? (i := 6) rfl)) rfl, ⟨by decide +kernel, by decide +kernel, by decide +kernel⟩, by decide +kernel, by decide⟩
theorem inX5_image : Cond.instanceMethod yX5_image ∈ lw_tg := lw_tg_in (tb_6 (List.mem_of_getElem? (i := 218) rfl)) rfl
theorem seX5_image : Cond.selects RX5 yX5_image yX5_image ∈ lw_tg := lw_tg_in (tb_6 (List.mem_of_getElem? (i := 219) rfl)) rfl
abbrev mX5_back : jv_M := (yX5_back, cX5_back, 2, some .int)
theorem okX5_back : jv_ok mX5_back 0 := ⟨lw_tg_in (tb_6 (List.mem_of_getElem? (i := 224) rfl)) rfl, lw_tg_in (tb_1 (List.mem_of_getElem? (i := 6) rfl)) rfl, ⟨by decide +kernel, by decide +kernel, by decide +kernel⟩, by decide +kernel, by decide⟩
theorem inX5_back : Cond.instanceMethod yX5_back ∈ lw_tg := lw_tg_in (tb_6 (List.mem_of_getElem? (i := 222) rfl)) rfl
theorem seX5_back : Cond.selects RX5 yX5_back yX5_back ∈ lw_tg := lw_tg_in (tb_6 (List.mem_of_getElem? (i := 223) rfl)) rfl
abbrev mX5_status : jv_M := (yX5_status, cX5_status, 4, some .int)
theorem okX5_status : jv_ok mX5_status 1 := ⟨lw_tg_in (tb_6 (List.mem_of_getElem? (i := 228) rfl)) rfl, lw_tg_in (tb_1 (List.mem_of_getElem? (i := 6) rfl)) rfl, ⟨by decide +kernel, by decide +kernel, by decide +kernel⟩, by decide +kernel, by decide⟩
theorem inX5_status : Cond.instanceMethod yX5_status ∈ lw_tg := lw_tg_in (tb_6 (List.mem_of_getElem? (i := 226) rfl)) rfl
theorem seX5_status : Cond.selects RX5 yX5_status yX5_status ∈ lw_tg := lw_tg_in (tb_6 (List.mem_of_getElem? (i := 227) rfl)) rfl
theorem mlL_9 : Cond.methodLink RL 9 yX4_init ∈ lw_tg := lw_tg_in (tb_1 (List.mem_of_getElem? (i := 15) rfl)) rfl
theorem mlX4_1 : Cond.methodLink RX4 1 Lib.objectInit ∈ lw_tg := lw_tg_in (tb_1 (List.mem_of_getElem? (i := 18) rfl)) rfl
theorem mlX3_3 : Cond.methodLink RX3 3 Lib.objectInit ∈ lw_tg := lw_tg_in (tb_1 (List.mem_of_getElem? (i := 26) rfl)) rfl
theorem mlX4_24 : Cond.methodLink RX4 24 yX0_init ∈ lw_tg := lw_tg_in (tb_1 (List.mem_of_getElem? (i := 102) rfl)) rfl
theorem mlX0_3 : Cond.methodLink RX0 3 Lib.objectInit ∈ lw_tg := lw_tg_in (tb_1 (List.mem_of_getElem? (i := 105) rfl)) rfl
theorem mlX2_3 : Cond.methodLink RX2 3 Lib.objectInit ∈ lw_tg := lw_tg_in (tb_1 (List.mem_of_getElem? (i := 131) rfl)) rfl
theorem mlX1_3 : Cond.methodLink RX1 3 Lib.objectInit ∈ lw_tg := lw_tg_in (tb_1 (List.mem_of_getElem? (i := 155) rfl)) rfl
theorem mlL_13 : Cond.methodLink RL 13 yX4_row ∈ lw_tg := lw_tg_in (tb_1 (List.mem_of_getElem? (i := 195) rfl)) rfl
theorem mlX4_53 : Cond.methodLink RX4 53 yX4_isShelf ∈ lw_tg := lw_tg_in (tb_1 (List.mem_of_getElem? (i := 199) rfl)) rfl
theorem mlX4_57 : Cond.methodLink RX4 57 yX4_within ∈ lw_tg := lw_tg_in (tb_1 (List.mem_of_getElem? (i := 202) rfl)) rfl
theorem mlX4_61 : Cond.methodLink RX4 61 yX4_refuse ∈ lw_tg := lw_tg_in (tb_1 (List.mem_of_getElem? (i := 205) rfl)) rfl
theorem mlX4_65 : Cond.methodLink RX4 65 yX1_takeRow ∈ lw_tg := lw_tg_in (tb_1 (List.mem_of_getElem? (i := 209) rfl)) rfl
theorem mlL_20 : Cond.methodLink RL 20 yX4_set ∈ lw_tg := lw_tg_in (tb_1 (List.mem_of_getElem? (i := 213) rfl)) rfl
theorem mlX4_69 : Cond.methodLink RX4 69 yX4_rowTrouble ∈ lw_tg := lw_tg_in (tb_1 (List.mem_of_getElem? (i := 217) rfl)) rfl
theorem mlX4_301 : Cond.methodLink RX4 301 yX1_isCount ∈ lw_tg := lw_tg_in (tb_1 (List.mem_of_getElem? (i := 221) rfl)) rfl
theorem mlX4_111 : Cond.methodLink RX4 111 yX1_isRow ∈ lw_tg := lw_tg_in (tb_1 (List.mem_of_getElem? (i := 225) rfl)) rfl
theorem mlX4_72 : Cond.methodLink RX4 72 yX1_hasElement ∈ lw_tg := lw_tg_in (tb_1 (List.mem_of_getElem? (i := 230) rfl)) rfl
theorem mlX4_75 : Cond.methodLink RX4 75 yX1_put ∈ lw_tg := lw_tg_in (tb_1 (List.mem_of_getElem? (i := 234) rfl)) rfl
theorem mlL_25 : Cond.methodLink RL 25 yX4_copy ∈ lw_tg := lw_tg_in (tb_1 (List.mem_of_getElem? (i := 238) rfl)) rfl
theorem mlX4_79 : Cond.methodLink RX4 79 yX4_copyTrouble ∈ lw_tg := lw_tg_in (tb_2 (List.mem_of_getElem? (i := 2) rfl)) rfl
theorem mlX4_83 : Cond.methodLink RX4 83 yX1_hasStretch ∈ lw_tg := lw_tg_in (tb_2 (List.mem_of_getElem? (i := 6) rfl)) rfl
theorem mlX4_91 : Cond.methodLink RX4 91 arraycopyName ∈ lw_tg := lw_tg_in (tb_2 (List.mem_of_getElem? (i := 10) rfl)) rfl
theorem mlL_30 : Cond.methodLink RL 30 yX4_element ∈ lw_tg := lw_tg_in (tb_2 (List.mem_of_getElem? (i := 13) rfl)) rfl
theorem mlL_35 : Cond.methodLink RL 35 yX4_holds ∈ lw_tg := lw_tg_in (tb_2 (List.mem_of_getElem? (i := 17) rfl)) rfl
theorem mlL_40 : Cond.methodLink RL 40 yX4_show ∈ lw_tg := lw_tg_in (tb_2 (List.mem_of_getElem? (i := 21) rfl)) rfl
theorem mlX4_101 : Cond.methodLink RX4 101 yX3_hasCount ∈ lw_tg := lw_tg_in (tb_2 (List.mem_of_getElem? (i := 25) rfl)) rfl
theorem mlX4_104 : Cond.methodLink RX4 104 yX1_takeNothing ∈ lw_tg := lw_tg_in (tb_2 (List.mem_of_getElem? (i := 30) rfl)) rfl
theorem mlX4_107 : Cond.methodLink RX4 107 yX1_takeCount ∈ lw_tg := lw_tg_in (tb_2 (List.mem_of_getElem? (i := 34) rfl)) rfl
theorem mlL_45 : Cond.methodLink RL 45 yX4_says ∈ lw_tg := lw_tg_in (tb_2 (List.mem_of_getElem? (i := 38) rfl)) rfl
theorem mlX4_115 : Cond.methodLink RX4 115 yX1_countNumber ∈ lw_tg := lw_tg_in (tb_2 (List.mem_of_getElem? (i := 42) rfl)) rfl
theorem mlX1_26 : Cond.methodLink RX1 26 yX1_isCount ∈ lw_tg := lw_tg_in (tb_2 (List.mem_of_getElem? (i := 46) rfl)) rfl
theorem mlX4_122 : Cond.methodLink RX4 122 yX4_isOfKind ∈ lw_tg := lw_tg_in (tb_2 (List.mem_of_getElem? (i := 47) rfl)) rfl
theorem mlX4_125 : Cond.methodLink RX4 125 yX4_saying ∈ lw_tg := lw_tg_in (tb_2 (List.mem_of_getElem? (i := 52) rfl)) rfl
theorem mlX4_323 : Cond.methodLink RX4 323 yX3_sideAt ∈ lw_tg := lw_tg_in (tb_2 (List.mem_of_getElem? (i := 56) rfl)) rfl
theorem mlX3_98 : Cond.methodLink RX3 98 yX3_evenPlaces ∈ lw_tg := lw_tg_in (tb_2 (List.mem_of_getElem? (i := 60) rfl)) rfl
theorem mlX4_326 : Cond.methodLink RX4 326 yX3_evenPlaces ∈ lw_tg := lw_tg_in (tb_2 (List.mem_of_getElem? (i := 64) rfl)) rfl
theorem mlL_49 : Cond.methodLink RL 49 yX4_child ∈ lw_tg := lw_tg_in (tb_2 (List.mem_of_getElem? (i := 65) rfl)) rfl
theorem mlX4_131 : Cond.methodLink RX4 131 yX3_addChild ∈ lw_tg := lw_tg_in (tb_2 (List.mem_of_getElem? (i := 69) rfl)) rfl
theorem mlL_53 : Cond.methodLink RL 53 yX4_count ∈ lw_tg := lw_tg_in (tb_2 (List.mem_of_getElem? (i := 73) rfl)) rfl
theorem mlX4_137 : Cond.methodLink RX4 137 yX3_addCount ∈ lw_tg := lw_tg_in (tb_2 (List.mem_of_getElem? (i := 77) rfl)) rfl
theorem mlL_57 : Cond.methodLink RL 57 yX4_wish ∈ lw_tg := lw_tg_in (tb_2 (List.mem_of_getElem? (i := 81) rfl)) rfl
theorem mlX4_141 : Cond.methodLink RX4 141 yX4_areTwo ∈ lw_tg := lw_tg_in (tb_2 (List.mem_of_getElem? (i := 85) rfl)) rfl
theorem mlX4_166 : Cond.methodLink RX4 166 yX3_hasChild ∈ lw_tg := lw_tg_in (tb_2 (List.mem_of_getElem? (i := 89) rfl)) rfl
theorem mlX4_147 : Cond.methodLink RX4 147 yX3_addWish ∈ lw_tg := lw_tg_in (tb_2 (List.mem_of_getElem? (i := 93) rfl)) rfl
theorem mlL_62 : Cond.methodLink RL 62 yX4_content ∈ lw_tg := lw_tg_in (tb_2 (List.mem_of_getElem? (i := 97) rfl)) rfl
theorem mlL_67 : Cond.methodLink RL 67 yX4_feed ∈ lw_tg := lw_tg_in (tb_2 (List.mem_of_getElem? (i := 101) rfl)) rfl
theorem mlX4_154 : Cond.methodLink RX4 154 yX2_put ∈ lw_tg := lw_tg_in (tb_2 (List.mem_of_getElem? (i := 105) rfl)) rfl
theorem mlL_71 : Cond.methodLink RL 71 yX4_wipe ∈ lw_tg := lw_tg_in (tb_2 (List.mem_of_getElem? (i := 109) rfl)) rfl
theorem mlX4_156 : Cond.methodLink RX4 156 yX2_clear ∈ lw_tg := lw_tg_in (tb_2 (List.mem_of_getElem? (i := 113) rfl)) rfl
theorem mlL_75 : Cond.methodLink RL 75 yX4_yard ∈ lw_tg := lw_tg_in (tb_2 (List.mem_of_getElem? (i := 117) rfl)) rfl
theorem mlX4_159 : Cond.methodLink RX4 159 yX3_takeOver ∈ lw_tg := lw_tg_in (tb_2 (List.mem_of_getElem? (i := 121) rfl)) rfl
theorem mlX3_58 : Cond.methodLink RX3 58 arraycopyName ∈ lw_tg := lw_tg_in (tb_2 (List.mem_of_getElem? (i := 125) rfl)) rfl
theorem mlX4_162 : Cond.methodLink RX4 162 yX2_readOnto ∈ lw_tg := lw_tg_in (tb_2 (List.mem_of_getElem? (i := 126) rfl)) rfl
theorem mlX2_28 : Cond.methodLink RX2 28 yX2_readStatement ∈ lw_tg := lw_tg_in (tb_2 (List.mem_of_getElem? (i := 130) rfl)) rfl
theorem mlX2_32 : Cond.methodLink RX2 32 yX2_nextToken ∈ lw_tg := lw_tg_in (tb_2 (List.mem_of_getElem? (i := 134) rfl)) rfl
theorem mlX2_35 : Cond.methodLink RX2 35 yX2_tokenOf ∈ lw_tg := lw_tg_in (tb_2 (List.mem_of_getElem? (i := 138) rfl)) rfl
theorem mlX2_55 : Cond.methodLink RX2 55 yX2_isWord ∈ lw_tg := lw_tg_in (tb_2 (List.mem_of_getElem? (i := 142) rfl)) rfl
theorem mlX2_39 : Cond.methodLink RX2 39 yJ0_length_8abf5 ∈ lw_tg := lw_tg_in (tb_2 (List.mem_of_getElem? (i := 146) rfl)) rfl
theorem mlJ0_335 : Cond.methodLink RJ0 335 yJ0_coder_7d493 ∈ lw_tg := lw_tg_in (tb_2 (List.mem_of_getElem? (i := 150) rfl)) rfl
theorem mlX2_45 : Cond.methodLink RX2 45 yJ0_charAt_5068e ∈ lw_tg := lw_tg_in (tb_2 (List.mem_of_getElem? (i := 156) rfl)) rfl
theorem mlJ0_492 : Cond.methodLink RJ0 492 yJ0_isLatin1_aae02 ∈ lw_tg := lw_tg_in (tb_2 (List.mem_of_getElem? (i := 160) rfl)) rfl
theorem mlJ0_495 : Cond.methodLink RJ0 495 yJ1_charAt_3b067 ∈ lw_tg := lw_tg_in (tb_2 (List.mem_of_getElem? (i := 164) rfl)) rfl
theorem mlJ1_9 : Cond.methodLink RJ1 9 yJ0_checkIndex_df160 ∈ lw_tg := lw_tg_in (tb_2 (List.mem_of_getElem? (i := 167) rfl)) rfl
theorem mlJ0_1059 : Cond.methodLink RJ0 1059 yJ3_checkIndex_8e157 ∈ lw_tg := lw_tg_in (tb_2 (List.mem_of_getElem? (i := 172) rfl)) rfl
theorem mlJ0_498 : Cond.methodLink RJ0 498 yJ2_charAt_3b067 ∈ lw_tg := lw_tg_in (tb_2 (List.mem_of_getElem? (i := 175) rfl)) rfl
theorem mlJ2_67 : Cond.methodLink RJ2 67 yJ2_checkIndex_2214a ∈ lw_tg := lw_tg_in (tb_2 (List.mem_of_getElem? (i := 178) rfl)) rfl
theorem mlJ2_48 : Cond.methodLink RJ2 48 yJ2_length_9d52b ∈ lw_tg := lw_tg_in (tb_2 (List.mem_of_getElem? (i := 181) rfl)) rfl
theorem mlJ2_414 : Cond.methodLink RJ2 414 yJ0_checkIndex_df160 ∈ lw_tg := lw_tg_in (tb_2 (List.mem_of_getElem? (i := 184) rfl)) rfl
theorem mlJ2_71 : Cond.methodLink RJ2 71 yJ2_getChar_3b067 ∈ lw_tg := lw_tg_in (tb_2 (List.mem_of_getElem? (i := 185) rfl)) rfl
theorem mlX2_64 : Cond.methodLink RX2 64 yX2_readChild ∈ lw_tg := lw_tg_in (tb_2 (List.mem_of_getElem? (i := 194) rfl)) rfl
theorem mlX2_96 : Cond.methodLink RX2 96 yX2_nextNumber ∈ lw_tg := lw_tg_in (tb_2 (List.mem_of_getElem? (i := 198) rfl)) rfl
theorem mlX2_100 : Cond.methodLink RX2 100 yX3_addChild ∈ lw_tg := lw_tg_in (tb_2 (List.mem_of_getElem? (i := 203) rfl)) rfl
theorem mlX2_72 : Cond.methodLink RX2 72 yX2_readCount ∈ lw_tg := lw_tg_in (tb_2 (List.mem_of_getElem? (i := 205) rfl)) rfl
theorem mlX2_103 : Cond.methodLink RX2 103 yX3_addCount ∈ lw_tg := lw_tg_in (tb_2 (List.mem_of_getElem? (i := 209) rfl)) rfl
theorem mlX2_80 : Cond.methodLink RX2 80 yX2_readWish ∈ lw_tg := lw_tg_in (tb_2 (List.mem_of_getElem? (i := 211) rfl)) rfl
theorem mlX2_107 : Cond.methodLink RX2 107 yX3_addWish ∈ lw_tg := lw_tg_in (tb_2 (List.mem_of_getElem? (i := 215) rfl)) rfl
theorem mlX2_88 : Cond.methodLink RX2 88 yX2_readSwap ∈ lw_tg := lw_tg_in (tb_2 (List.mem_of_getElem? (i := 218) rfl)) rfl
theorem mlX2_111 : Cond.methodLink RX2 111 yX3_exchange ∈ lw_tg := lw_tg_in (tb_2 (List.mem_of_getElem? (i := 222) rfl)) rfl
theorem mlX3_72 : Cond.methodLink RX3 72 yX3_stand ∈ lw_tg := lw_tg_in (tb_2 (List.mem_of_getElem? (i := 226) rfl)) rfl
theorem mlX2_93 : Cond.methodLink RX2 93 yX2_readMove ∈ lw_tg := lw_tg_in (tb_2 (List.mem_of_getElem? (i := 231) rfl)) rfl
theorem mlX2_115 : Cond.methodLink RX2 115 yX3_shift ∈ lw_tg := lw_tg_in (tb_2 (List.mem_of_getElem? (i := 235) rfl)) rfl
theorem mlL_79 : Cond.methodLink RL 79 yX4_childOf ∈ lw_tg := lw_tg_in (tb_3 (List.mem_of_getElem? (i := 0) rfl)) rfl
theorem mlX4_178 : Cond.methodLink RX4 178 yX3_wishesOf ∈ lw_tg := lw_tg_in (tb_3 (List.mem_of_getElem? (i := 4) rfl)) rfl
theorem mlL_83 : Cond.methodLink RL 83 yX4_countOf ∈ lw_tg := lw_tg_in (tb_3 (List.mem_of_getElem? (i := 8) rfl)) rfl
theorem mlL_87 : Cond.methodLink RL 87 yX4_wishOf ∈ lw_tg := lw_tg_in (tb_3 (List.mem_of_getElem? (i := 12) rfl)) rfl
theorem mlX4_187 : Cond.methodLink RX4 187 yX3_hasWish ∈ lw_tg := lw_tg_in (tb_3 (List.mem_of_getElem? (i := 16) rfl)) rfl
theorem mlL_91 : Cond.methodLink RL 91 yX4_at ∈ lw_tg := lw_tg_in (tb_3 (List.mem_of_getElem? (i := 20) rfl)) rfl
theorem mlX4_202 : Cond.methodLink RX4 202 yX3_hasPlace ∈ lw_tg := lw_tg_in (tb_3 (List.mem_of_getElem? (i := 24) rfl)) rfl
theorem mlL_95 : Cond.methodLink RL 95 yX4_team ∈ lw_tg := lw_tg_in (tb_3 (List.mem_of_getElem? (i := 28) rfl)) rfl
theorem mlX4_208 : Cond.methodLink RX4 208 yX3_sideOf ∈ lw_tg := lw_tg_in (tb_3 (List.mem_of_getElem? (i := 32) rfl)) rfl
theorem mlX3_102 : Cond.methodLink RX3 102 yX3_sideAt ∈ lw_tg := lw_tg_in (tb_3 (List.mem_of_getElem? (i := 36) rfl)) rfl
theorem mlL_99 : Cond.methodLink RL 99 yX4_members ∈ lw_tg := lw_tg_in (tb_3 (List.mem_of_getElem? (i := 37) rfl)) rfl
theorem mlX4_211 : Cond.methodLink RX4 211 yX3_hasTeam ∈ lw_tg := lw_tg_in (tb_3 (List.mem_of_getElem? (i := 41) rfl)) rfl
theorem mlX3_68 : Cond.methodLink RX3 68 yX3_hasCount ∈ lw_tg := lw_tg_in (tb_3 (List.mem_of_getElem? (i := 45) rfl)) rfl
theorem mlX4_214 : Cond.methodLink RX4 214 yX3_bitsOfSide ∈ lw_tg := lw_tg_in (tb_3 (List.mem_of_getElem? (i := 46) rfl)) rfl
theorem mlX3_112 : Cond.methodLink RX3 112 yX3_sideOf ∈ lw_tg := lw_tg_in (tb_3 (List.mem_of_getElem? (i := 50) rfl)) rfl
theorem mlL_103 : Cond.methodLink RL 103 yX4_strength ∈ lw_tg := lw_tg_in (tb_3 (List.mem_of_getElem? (i := 51) rfl)) rfl
theorem mlX4_217 : Cond.methodLink RX4 217 yX3_strongOfSide ∈ lw_tg := lw_tg_in (tb_3 (List.mem_of_getElem? (i := 55) rfl)) rfl
theorem mlL_107 : Cond.methodLink RL 107 yX4_heaviest ∈ lw_tg := lw_tg_in (tb_3 (List.mem_of_getElem? (i := 59) rfl)) rfl
theorem mlL_111 : Cond.methodLink RL 111 yX4_turned ∈ lw_tg := lw_tg_in (tb_3 (List.mem_of_getElem? (i := 63) rfl)) rfl
theorem mlX4_220 : Cond.methodLink RX4 220 yX3_turnAbout ∈ lw_tg := lw_tg_in (tb_3 (List.mem_of_getElem? (i := 67) rfl)) rfl
theorem mlX3_76 : Cond.methodLink RX3 76 yX3_exchange ∈ lw_tg := lw_tg_in (tb_3 (List.mem_of_getElem? (i := 71) rfl)) rfl
theorem mlX4_223 : Cond.methodLink RX4 223 yX3_valueBy ∈ lw_tg := lw_tg_in (tb_3 (List.mem_of_getElem? (i := 72) rfl)) rfl
theorem mlX3_106 : Cond.methodLink RX3 106 yX3_isMet ∈ lw_tg := lw_tg_in (tb_3 (List.mem_of_getElem? (i := 76) rfl)) rfl
theorem mlL_115 : Cond.methodLink RL 115 yX4_unlike ∈ lw_tg := lw_tg_in (tb_3 (List.mem_of_getElem? (i := 80) rfl)) rfl
theorem mlL_119 : Cond.methodLink RL 119 yX4_unmet ∈ lw_tg := lw_tg_in (tb_3 (List.mem_of_getElem? (i := 84) rfl)) rfl
theorem mlX4_226 : Cond.methodLink RX4 226 yX3_isMet ∈ lw_tg := lw_tg_in (tb_3 (List.mem_of_getElem? (i := 88) rfl)) rfl
theorem mlL_123 : Cond.methodLink RL 123 yX4_friendsOf ∈ lw_tg := lw_tg_in (tb_3 (List.mem_of_getElem? (i := 89) rfl)) rfl
theorem mlX4_229 : Cond.methodLink RX4 229 yX3_hangingWith ∈ lw_tg := lw_tg_in (tb_3 (List.mem_of_getElem? (i := 93) rfl)) rfl
theorem mlL_127 : Cond.methodLink RL 127 yX4_groups ∈ lw_tg := lw_tg_in (tb_3 (List.mem_of_getElem? (i := 97) rfl)) rfl
theorem mlL_131 : Cond.methodLink RL 131 yX4_conflict ∈ lw_tg := lw_tg_in (tb_3 (List.mem_of_getElem? (i := 101) rfl)) rfl
theorem mlL_135 : Cond.methodLink RL 135 yX4_changes ∈ lw_tg := lw_tg_in (tb_3 (List.mem_of_getElem? (i := 105) rfl)) rfl
theorem mlX4_232 : Cond.methodLink RX4 232 yX0_fewestChanges ∈ lw_tg := lw_tg_in (tb_3 (List.mem_of_getElem? (i := 109) rfl)) rfl
theorem mlX0_64 : Cond.methodLink RX0 64 yX0_takeSides ∈ lw_tg := lw_tg_in (tb_3 (List.mem_of_getElem? (i := 113) rfl)) rfl
theorem mlX0_37 : Cond.methodLink RX0 37 yX3_sideOf ∈ lw_tg := lw_tg_in (tb_3 (List.mem_of_getElem? (i := 117) rfl)) rfl
theorem mlX0_60 : Cond.methodLink RX0 60 yX0_valueOfSides ∈ lw_tg := lw_tg_in (tb_3 (List.mem_of_getElem? (i := 118) rfl)) rfl
theorem mlX0_75 : Cond.methodLink RX0 75 yX3_allWorths ∈ lw_tg := lw_tg_in (tb_3 (List.mem_of_getElem? (i := 122) rfl)) rfl
theorem mlX0_78 : Cond.methodLink RX0 78 yX0_oneChangeReaches ∈ lw_tg := lw_tg_in (tb_3 (List.mem_of_getElem? (i := 126) rfl)) rfl
theorem mlX0_72 : Cond.methodLink RX0 72 yX0_valueWithChange ∈ lw_tg := lw_tg_in (tb_3 (List.mem_of_getElem? (i := 130) rfl)) rfl
theorem mlX0_56 : Cond.methodLink RX0 56 yX0_exchangeSides ∈ lw_tg := lw_tg_in (tb_3 (List.mem_of_getElem? (i := 134) rfl)) rfl
theorem mlX0_82 : Cond.methodLink RX0 82 yX0_twoChangesReach ∈ lw_tg := lw_tg_in (tb_3 (List.mem_of_getElem? (i := 138) rfl)) rfl
theorem mlL_139 : Cond.methodLink RL 139 yX4_place ∈ lw_tg := lw_tg_in (tb_3 (List.mem_of_getElem? (i := 142) rfl)) rfl
theorem mlX4_235 : Cond.methodLink RX4 235 yX0_bestPlace ∈ lw_tg := lw_tg_in (tb_3 (List.mem_of_getElem? (i := 146) rfl)) rfl
theorem mlX0_96 : Cond.methodLink RX0 96 yX3_shift ∈ lw_tg := lw_tg_in (tb_3 (List.mem_of_getElem? (i := 150) rfl)) rfl
theorem mlX0_99 : Cond.methodLink RX0 99 yX3_valueByAll ∈ lw_tg := lw_tg_in (tb_3 (List.mem_of_getElem? (i := 151) rfl)) rfl
theorem mlX3_109 : Cond.methodLink RX3 109 yX3_valueBy ∈ lw_tg := lw_tg_in (tb_3 (List.mem_of_getElem? (i := 155) rfl)) rfl
theorem mlL_143 : Cond.methodLink RL 143 yX4_value ∈ lw_tg := lw_tg_in (tb_3 (List.mem_of_getElem? (i := 156) rfl)) rfl
theorem mlL_147 : Cond.methodLink RL 147 yX4_met ∈ lw_tg := lw_tg_in (tb_3 (List.mem_of_getElem? (i := 160) rfl)) rfl
theorem mlL_151 : Cond.methodLink RL 151 yX4_best ∈ lw_tg := lw_tg_in (tb_3 (List.mem_of_getElem? (i := 164) rfl)) rfl
theorem mlX4_238 : Cond.methodLink RX4 238 yX4_merit ∈ lw_tg := lw_tg_in (tb_3 (List.mem_of_getElem? (i := 168) rfl)) rfl
theorem mlX4_241 : Cond.methodLink RX4 241 yX3_unevenness ∈ lw_tg := lw_tg_in (tb_3 (List.mem_of_getElem? (i := 172) rfl)) rfl
theorem mlX3_115 : Cond.methodLink RX3 115 yX3_strongOfSide ∈ lw_tg := lw_tg_in (tb_3 (List.mem_of_getElem? (i := 176) rfl)) rfl
theorem mlX3_118 : Cond.methodLink RX3 118 Lib.Math.max.name ∈ lw_tg := lw_tg_in (tb_3 (List.mem_of_getElem? (i := 177) rfl)) rfl
theorem mlX3_121 : Cond.methodLink RX3 121 Lib.Math.min.name ∈ lw_tg := lw_tg_in (tb_3 (List.mem_of_getElem? (i := 180) rfl)) rfl
theorem mlL_155 : Cond.methodLink RL 155 yX4_even ∈ lw_tg := lw_tg_in (tb_3 (List.mem_of_getElem? (i := 183) rfl)) rfl
theorem mlL_159 : Cond.methodLink RL 159 yX4_change ∈ lw_tg := lw_tg_in (tb_3 (List.mem_of_getElem? (i := 187) rfl)) rfl
theorem mlX4_244 : Cond.methodLink RX4 244 yX0_bestChange ∈ lw_tg := lw_tg_in (tb_3 (List.mem_of_getElem? (i := 191) rfl)) rfl
theorem mlX0_68 : Cond.methodLink RX0 68 yX3_inReach ∈ lw_tg := lw_tg_in (tb_3 (List.mem_of_getElem? (i := 195) rfl)) rfl
theorem mlX3_82 : Cond.methodLink RX3 82 Lib.Math.abs.name ∈ lw_tg := lw_tg_in (tb_3 (List.mem_of_getElem? (i := 199) rfl)) rfl
theorem mlL_163 : Cond.methodLink RL 163 yX4_far ∈ lw_tg := lw_tg_in (tb_3 (List.mem_of_getElem? (i := 202) rfl)) rfl
theorem mlX4_247 : Cond.methodLink RX4 247 yX0_shortestMove ∈ lw_tg := lw_tg_in (tb_3 (List.mem_of_getElem? (i := 206) rfl)) rfl
theorem mlX0_105 : Cond.methodLink RX0 105 yX0_shortestMoveOf ∈ lw_tg := lw_tg_in (tb_3 (List.mem_of_getElem? (i := 210) rfl)) rfl
theorem mlX0_117 : Cond.methodLink RX0 117 Lib.Math.abs.name ∈ lw_tg := lw_tg_in (tb_3 (List.mem_of_getElem? (i := 214) rfl)) rfl
theorem mlX0_121 : Cond.methodLink RX0 121 yX3_sameSide ∈ lw_tg := lw_tg_in (tb_3 (List.mem_of_getElem? (i := 215) rfl)) rfl
theorem mlX0_109 : Cond.methodLink RX0 109 Lib.Math.max.name ∈ lw_tg := lw_tg_in (tb_3 (List.mem_of_getElem? (i := 219) rfl)) rfl
theorem mlX0_114 : Cond.methodLink RX0 114 Lib.Math.min.name ∈ lw_tg := lw_tg_in (tb_3 (List.mem_of_getElem? (i := 220) rfl)) rfl
theorem mlL_167 : Cond.methodLink RL 167 yX4_most ∈ lw_tg := lw_tg_in (tb_3 (List.mem_of_getElem? (i := 221) rfl)) rfl
theorem mlX4_250 : Cond.methodLink RX4 250 yX0_greatestValue ∈ lw_tg := lw_tg_in (tb_3 (List.mem_of_getElem? (i := 225) rfl)) rfl
theorem mlX0_124 : Cond.methodLink RX0 124 yX3_sideAt ∈ lw_tg := lw_tg_in (tb_3 (List.mem_of_getElem? (i := 229) rfl)) rfl
theorem mlX0_127 : Cond.methodLink RX0 127 yX0_greatestFrom ∈ lw_tg := lw_tg_in (tb_3 (List.mem_of_getElem? (i := 230) rfl)) rfl
theorem mlX0_130 : Cond.methodLink RX0 130 yX0_isLikeOneAhead ∈ lw_tg := lw_tg_in (tb_3 (List.mem_of_getElem? (i := 234) rfl)) rfl
theorem mlL_171 : Cond.methodLink RL 171 yX4_always ∈ lw_tg := lw_tg_in (tb_3 (List.mem_of_getElem? (i := 238) rfl)) rfl
theorem mlX4_253 : Cond.methodLink RX4 253 yX3_timesTogether ∈ lw_tg := lw_tg_in (tb_4 (List.mem_of_getElem? (i := 2) rfl)) rfl
theorem mlX3_124 : Cond.methodLink RX3 124 yX3_sameSide ∈ lw_tg := lw_tg_in (tb_4 (List.mem_of_getElem? (i := 6) rfl)) rfl
theorem mlL_175 : Cond.methodLink RL 175 yX4_often ∈ lw_tg := lw_tg_in (tb_4 (List.mem_of_getElem? (i := 7) rfl)) rfl
theorem mlL_179 : Cond.methodLink RL 179 yX4_safe ∈ lw_tg := lw_tg_in (tb_4 (List.mem_of_getElem? (i := 11) rfl)) rfl
theorem mlX4_256 : Cond.methodLink RX4 256 yX0_safestPlace ∈ lw_tg := lw_tg_in (tb_4 (List.mem_of_getElem? (i := 15) rfl)) rfl
theorem mlX0_102 : Cond.methodLink RX0 102 yX3_timesTogether ∈ lw_tg := lw_tg_in (tb_4 (List.mem_of_getElem? (i := 19) rfl)) rfl
theorem mlL_183 : Cond.methodLink RL 183 yX4_out ∈ lw_tg := lw_tg_in (tb_4 (List.mem_of_getElem? (i := 20) rfl)) rfl
theorem mlX4_259 : Cond.methodLink RX4 259 yX0_countOut ∈ lw_tg := lw_tg_in (tb_4 (List.mem_of_getElem? (i := 24) rfl)) rfl
theorem mlX0_136 : Cond.methodLink RX0 136 arraycopyName ∈ lw_tg := lw_tg_in (tb_4 (List.mem_of_getElem? (i := 28) rfl)) rfl
theorem mlL_187 : Cond.methodLink RL 187 yX4_outAt ∈ lw_tg := lw_tg_in (tb_4 (List.mem_of_getElem? (i := 29) rfl)) rfl
theorem mlL_191 : Cond.methodLink RL 191 yX4_stays ∈ lw_tg := lw_tg_in (tb_4 (List.mem_of_getElem? (i := 33) rfl)) rfl
theorem mlL_195 : Cond.methodLink RL 195 yX4_fits ∈ lw_tg := lw_tg_in (tb_4 (List.mem_of_getElem? (i := 37) rfl)) rfl
theorem mlX4_265 : Cond.methodLink RX4 265 yX4_toldTrouble ∈ lw_tg := lw_tg_in (tb_4 (List.mem_of_getElem? (i := 41) rfl)) rfl
theorem mlX4_268 : Cond.methodLink RX4 268 yX3_unlikeTold ∈ lw_tg := lw_tg_in (tb_4 (List.mem_of_getElem? (i := 45) rfl)) rfl
theorem mlL_199 : Cond.methodLink RL 199 yX4_moved ∈ lw_tg := lw_tg_in (tb_4 (List.mem_of_getElem? (i := 49) rfl)) rfl
theorem mlX4_272 : Cond.methodLink RX4 272 yX0_firstChangeToFit ∈ lw_tg := lw_tg_in (tb_4 (List.mem_of_getElem? (i := 53) rfl)) rfl
theorem mlX0_86 : Cond.methodLink RX0 86 yX3_exchange ∈ lw_tg := lw_tg_in (tb_4 (List.mem_of_getElem? (i := 57) rfl)) rfl
theorem mlX0_89 : Cond.methodLink RX0 89 yX3_unlikeTold ∈ lw_tg := lw_tg_in (tb_4 (List.mem_of_getElem? (i := 58) rfl)) rfl
theorem mlL_203 : Cond.methodLink RL 203 yX4_miscounted ∈ lw_tg := lw_tg_in (tb_4 (List.mem_of_getElem? (i := 59) rfl)) rfl
theorem mlX4_275 : Cond.methodLink RX4 275 Lib.Math.min.name ∈ lw_tg := lw_tg_in (tb_4 (List.mem_of_getElem? (i := 63) rfl)) rfl
theorem mlL_207 : Cond.methodLink RL 207 yX4_judge ∈ lw_tg := lw_tg_in (tb_4 (List.mem_of_getElem? (i := 64) rfl)) rfl
theorem mlX4_280 : Cond.methodLink RX4 280 yX4_firstWrong ∈ lw_tg := lw_tg_in (tb_4 (List.mem_of_getElem? (i := 68) rfl)) rfl
theorem mlX4_319 : Cond.methodLink RX4 319 yX3_changeAsTold ∈ lw_tg := lw_tg_in (tb_4 (List.mem_of_getElem? (i := 72) rfl)) rfl
theorem mlX3_90 : Cond.methodLink RX3 90 yX3_hasChild ∈ lw_tg := lw_tg_in (tb_4 (List.mem_of_getElem? (i := 77) rfl)) rfl
theorem mlX3_93 : Cond.methodLink RX3 93 yX3_inReach ∈ lw_tg := lw_tg_in (tb_4 (List.mem_of_getElem? (i := 78) rfl)) rfl
theorem mlL_211 : Cond.methodLink RL 211 yX4_behind ∈ lw_tg := lw_tg_in (tb_4 (List.mem_of_getElem? (i := 79) rfl)) rfl
theorem mlL_215 : Cond.methodLink RL 215 yX4_done ∈ lw_tg := lw_tg_in (tb_4 (List.mem_of_getElem? (i := 83) rfl)) rfl
theorem mlL_219 : Cond.methodLink RL 219 yX4_swap ∈ lw_tg := lw_tg_in (tb_4 (List.mem_of_getElem? (i := 87) rfl)) rfl
theorem mlX4_283 : Cond.methodLink RX4 283 yX3_inReach ∈ lw_tg := lw_tg_in (tb_4 (List.mem_of_getElem? (i := 91) rfl)) rfl
theorem mlX4_286 : Cond.methodLink RX4 286 yX3_exchange ∈ lw_tg := lw_tg_in (tb_4 (List.mem_of_getElem? (i := 92) rfl)) rfl
theorem mlL_223 : Cond.methodLink RL 223 yX4_move ∈ lw_tg := lw_tg_in (tb_4 (List.mem_of_getElem? (i := 93) rfl)) rfl
theorem mlX4_289 : Cond.methodLink RX4 289 yX3_shift ∈ lw_tg := lw_tg_in (tb_4 (List.mem_of_getElem? (i := 97) rfl)) rfl
theorem mlL_227 : Cond.methodLink RL 227 yX4_turn ∈ lw_tg := lw_tg_in (tb_4 (List.mem_of_getElem? (i := 98) rfl)) rfl
theorem mlL_231 : Cond.methodLink RL 231 yX4_leaves ∈ lw_tg := lw_tg_in (tb_4 (List.mem_of_getElem? (i := 102) rfl)) rfl
theorem mlX4_292 : Cond.methodLink RX4 292 yX3_dropLast ∈ lw_tg := lw_tg_in (tb_4 (List.mem_of_getElem? (i := 106) rfl)) rfl
theorem mlX3_79 : Cond.methodLink RX3 79 yX3_shift ∈ lw_tg := lw_tg_in (tb_4 (List.mem_of_getElem? (i := 110) rfl)) rfl
theorem mlL_235 : Cond.methodLink RL 235 yX4_term ∈ lw_tg := lw_tg_in (tb_4 (List.mem_of_getElem? (i := 111) rfl)) rfl
theorem mlX4_295 : Cond.methodLink RX4 295 yX3_draw ∈ lw_tg := lw_tg_in (tb_4 (List.mem_of_getElem? (i := 115) rfl)) rfl
theorem mlL_239 : Cond.methodLink RL 239 yX4_seed ∈ lw_tg := lw_tg_in (tb_4 (List.mem_of_getElem? (i := 120) rfl)) rfl
theorem mlL_243 : Cond.methodLink RL 243 yX4_image ∈ lw_tg := lw_tg_in (tb_4 (List.mem_of_getElem? (i := 124) rfl)) rfl
theorem mlL_247 : Cond.methodLink RL 247 yX4_back ∈ lw_tg := lw_tg_in (tb_4 (List.mem_of_getElem? (i := 128) rfl)) rfl
theorem mlL_251 : Cond.methodLink RL 251 yX4_status ∈ lw_tg := lw_tg_in (tb_4 (List.mem_of_getElem? (i := 132) rfl)) rfl
theorem mlX4_304 : Cond.methodLink RX4 304 yX3_allWorths ∈ lw_tg := lw_tg_in (tb_4 (List.mem_of_getElem? (i := 136) rfl)) rfl
theorem mlX4_307 : Cond.methodLink RX4 307 yX3_allStrong ∈ lw_tg := lw_tg_in (tb_4 (List.mem_of_getElem? (i := 137) rfl)) rfl
theorem mlX4_310 : Cond.methodLink RX4 310 yX4_shelvesInUse ∈ lw_tg := lw_tg_in (tb_4 (List.mem_of_getElem? (i := 141) rfl)) rfl
theorem mlL_12 : Cond.methodLink RL 12 yX5_init ∈ lw_tg := lw_tg_in (tb_4 (List.mem_of_getElem? (i := 147) rfl)) rfl
theorem mlX5_1 : Cond.methodLink RX5 1 Lib.objectInit ∈ lw_tg := lw_tg_in (tb_4 (List.mem_of_getElem? (i := 150) rfl)) rfl
theorem mlL_17 : Cond.methodLink RL 17 yX5_row ∈ lw_tg := lw_tg_in (tb_5 (List.mem_of_getElem? (i := 19) rfl)) rfl
theorem mlX5_83 : Cond.methodLink RX5 83 yX5_in ∈ lw_tg := lw_tg_in (tb_5 (List.mem_of_getElem? (i := 24) rfl)) rfl
theorem mlX5_104 : Cond.methodLink RX5 104 yX5_refuse ∈ lw_tg := lw_tg_in (tb_5 (List.mem_of_getElem? (i := 29) rfl)) rfl
theorem mlL_24 : Cond.methodLink RL 24 yX5_set ∈ lw_tg := lw_tg_in (tb_5 (List.mem_of_getElem? (i := 33) rfl)) rfl
theorem mlX5_108 : Cond.methodLink RX5 108 yX5_noRow ∈ lw_tg := lw_tg_in (tb_5 (List.mem_of_getElem? (i := 37) rfl)) rfl
theorem mlX5_111 : Cond.methodLink RX5 111 yX5_fit ∈ lw_tg := lw_tg_in (tb_5 (List.mem_of_getElem? (i := 41) rfl)) rfl
theorem mlL_29 : Cond.methodLink RL 29 yX5_copy ∈ lw_tg := lw_tg_in (tb_5 (List.mem_of_getElem? (i := 44) rfl)) rfl
theorem mlL_34 : Cond.methodLink RL 34 yX5_element ∈ lw_tg := lw_tg_in (tb_5 (List.mem_of_getElem? (i := 48) rfl)) rfl
theorem mlL_39 : Cond.methodLink RL 39 yX5_holds ∈ lw_tg := lw_tg_in (tb_5 (List.mem_of_getElem? (i := 52) rfl)) rfl
theorem mlL_44 : Cond.methodLink RL 44 yX5_show ∈ lw_tg := lw_tg_in (tb_5 (List.mem_of_getElem? (i := 56) rfl)) rfl
theorem mlX5_94 : Cond.methodLink RX5 94 yX5_isCount ∈ lw_tg := lw_tg_in (tb_5 (List.mem_of_getElem? (i := 60) rfl)) rfl
theorem mlL_48 : Cond.methodLink RL 48 yX5_says ∈ lw_tg := lw_tg_in (tb_5 (List.mem_of_getElem? (i := 64) rfl)) rfl
theorem mlX5_117 : Cond.methodLink RX5 117 yX5_isUnder ∈ lw_tg := lw_tg_in (tb_5 (List.mem_of_getElem? (i := 69) rfl)) rfl
theorem mlX5_121 : Cond.methodLink RX5 121 yX5_teamAt ∈ lw_tg := lw_tg_in (tb_5 (List.mem_of_getElem? (i := 72) rfl)) rfl
theorem mlX5_257 : Cond.methodLink RX5 257 yX5_slipped ∈ lw_tg := lw_tg_in (tb_5 (List.mem_of_getElem? (i := 76) rfl)) rfl
theorem mlL_52 : Cond.methodLink RL 52 yX5_child ∈ lw_tg := lw_tg_in (tb_5 (List.mem_of_getElem? (i := 80) rfl)) rfl
theorem mlX5_129 : Cond.methodLink RX5 129 yX5_addChild ∈ lw_tg := lw_tg_in (tb_5 (List.mem_of_getElem? (i := 86) rfl)) rfl
theorem mlL_56 : Cond.methodLink RL 56 yX5_count ∈ lw_tg := lw_tg_in (tb_5 (List.mem_of_getElem? (i := 90) rfl)) rfl
theorem mlX5_137 : Cond.methodLink RX5 137 yX5_addCount ∈ lw_tg := lw_tg_in (tb_5 (List.mem_of_getElem? (i := 96) rfl)) rfl
theorem mlL_61 : Cond.methodLink RL 61 yX5_wish ∈ lw_tg := lw_tg_in (tb_5 (List.mem_of_getElem? (i := 100) rfl)) rfl
theorem mlX5_144 : Cond.methodLink RX5 144 yX5_areTwo ∈ lw_tg := lw_tg_in (tb_5 (List.mem_of_getElem? (i := 104) rfl)) rfl
theorem mlX5_87 : Cond.methodLink RX5 87 yX5_isChild ∈ lw_tg := lw_tg_in (tb_5 (List.mem_of_getElem? (i := 108) rfl)) rfl
theorem mlX5_148 : Cond.methodLink RX5 148 yX5_addWish ∈ lw_tg := lw_tg_in (tb_5 (List.mem_of_getElem? (i := 112) rfl)) rfl
theorem mlL_66 : Cond.methodLink RL 66 yX5_content ∈ lw_tg := lw_tg_in (tb_5 (List.mem_of_getElem? (i := 116) rfl)) rfl
theorem mlL_70 : Cond.methodLink RL 70 yX5_feed ∈ lw_tg := lw_tg_in (tb_5 (List.mem_of_getElem? (i := 120) rfl)) rfl
theorem mlL_74 : Cond.methodLink RL 74 yX5_wipe ∈ lw_tg := lw_tg_in (tb_5 (List.mem_of_getElem? (i := 125) rfl)) rfl
theorem mlL_78 : Cond.methodLink RL 78 yX5_yard ∈ lw_tg := lw_tg_in (tb_5 (List.mem_of_getElem? (i := 129) rfl)) rfl
theorem mlX5_245 : Cond.methodLink RX5 245 yX5_fresh ∈ lw_tg := lw_tg_in (tb_5 (List.mem_of_getElem? (i := 133) rfl)) rfl
theorem mlX5_240 : Cond.methodLink RX5 240 yX5_init ∈ lw_tg := lw_tg_in (tb_5 (List.mem_of_getElem? (i := 138) rfl)) rfl
theorem mlX5_241 : Cond.methodLink RX5 241 yX5_takeFrom ∈ lw_tg := lw_tg_in (tb_5 (List.mem_of_getElem? (i := 139) rfl)) rfl
theorem mlX5_335 : Cond.methodLink RX5 335 yX5_copied ∈ lw_tg := lw_tg_in (tb_5 (List.mem_of_getElem? (i := 143) rfl)) rfl
theorem mlX5_249 : Cond.methodLink RX5 249 yX5_readAll ∈ lw_tg := lw_tg_in (tb_5 (List.mem_of_getElem? (i := 146) rfl)) rfl
theorem mlX5_192 : Cond.methodLink RX5 192 yX5_look ∈ lw_tg := lw_tg_in (tb_5 (List.mem_of_getElem? (i := 150) rfl)) rfl
theorem mlX5_169 : Cond.methodLink RX5 169 yX5_isLetter ∈ lw_tg := lw_tg_in (tb_5 (List.mem_of_getElem? (i := 154) rfl)) rfl
theorem mlX5_172 : Cond.methodLink RX5 172 yX5_isDigit ∈ lw_tg := lw_tg_in (tb_5 (List.mem_of_getElem? (i := 157) rfl)) rfl
theorem mlX5_233 : Cond.methodLink RX5 233 yX5_statement ∈ lw_tg := lw_tg_in (tb_5 (List.mem_of_getElem? (i := 160) rfl)) rfl
theorem mlX5_207 : Cond.methodLink RX5 207 yX5_isWord ∈ lw_tg := lw_tg_in (tb_5 (List.mem_of_getElem? (i := 165) rfl)) rfl
theorem mlX5_178 : Cond.methodLink RX5 178 yJ0_length_8abf5 ∈ lw_tg := lw_tg_in (tb_5 (List.mem_of_getElem? (i := 169) rfl)) rfl
theorem mlX5_184 : Cond.methodLink RX5 184 yJ0_charAt_5068e ∈ lw_tg := lw_tg_in (tb_5 (List.mem_of_getElem? (i := 170) rfl)) rfl
theorem mlX5_199 : Cond.methodLink RX5 199 yX5_tells ∈ lw_tg := lw_tg_in (tb_5 (List.mem_of_getElem? (i := 171) rfl)) rfl
theorem mlX5_195 : Cond.methodLink RX5 195 yX5_number ∈ lw_tg := lw_tg_in (tb_5 (List.mem_of_getElem? (i := 175) rfl)) rfl
theorem mlX5_188 : Cond.methodLink RX5 188 yX5_wrong ∈ lw_tg := lw_tg_in (tb_5 (List.mem_of_getElem? (i := 179) rfl)) rfl
theorem mlX5_215 : Cond.methodLink RX5 215 yX5_wishTold ∈ lw_tg := lw_tg_in (tb_5 (List.mem_of_getElem? (i := 185) rfl)) rfl
theorem mlX5_202 : Cond.methodLink RX5 202 yX5_twoTold ∈ lw_tg := lw_tg_in (tb_5 (List.mem_of_getElem? (i := 189) rfl)) rfl
theorem mlX5_222 : Cond.methodLink RX5 222 yX5_swaps ∈ lw_tg := lw_tg_in (tb_5 (List.mem_of_getElem? (i := 195) rfl)) rfl
theorem mlX5_227 : Cond.methodLink RX5 227 yX5_moves ∈ lw_tg := lw_tg_in (tb_5 (List.mem_of_getElem? (i := 200) rfl)) rfl
theorem mlL_82 : Cond.methodLink RL 82 yX5_childOf ∈ lw_tg := lw_tg_in (tb_5 (List.mem_of_getElem? (i := 204) rfl)) rfl
theorem mlL_86 : Cond.methodLink RL 86 yX5_countOf ∈ lw_tg := lw_tg_in (tb_5 (List.mem_of_getElem? (i := 209) rfl)) rfl
theorem mlL_90 : Cond.methodLink RL 90 yX5_wishOf ∈ lw_tg := lw_tg_in (tb_5 (List.mem_of_getElem? (i := 213) rfl)) rfl
theorem mlL_94 : Cond.methodLink RL 94 yX5_at ∈ lw_tg := lw_tg_in (tb_5 (List.mem_of_getElem? (i := 217) rfl)) rfl
theorem mlX5_254 : Cond.methodLink RX5 254 yX5_standing ∈ lw_tg := lw_tg_in (tb_5 (List.mem_of_getElem? (i := 221) rfl)) rfl
theorem mlL_98 : Cond.methodLink RL 98 yX5_team ∈ lw_tg := lw_tg_in (tb_5 (List.mem_of_getElem? (i := 225) rfl)) rfl
theorem mlX5_260 : Cond.methodLink RX5 260 yX5_teamOf ∈ lw_tg := lw_tg_in (tb_5 (List.mem_of_getElem? (i := 229) rfl)) rfl
theorem mlL_102 : Cond.methodLink RL 102 yX5_members ∈ lw_tg := lw_tg_in (tb_5 (List.mem_of_getElem? (i := 233) rfl)) rfl
theorem mlX5_269 : Cond.methodLink RX5 269 yX5_isTeam ∈ lw_tg := lw_tg_in (tb_5 (List.mem_of_getElem? (i := 237) rfl)) rfl
theorem mlL_106 : Cond.methodLink RL 106 yX5_strength ∈ lw_tg := lw_tg_in (tb_6 (List.mem_of_getElem? (i := 1) rfl)) rfl
theorem mlX5_272 : Cond.methodLink RX5 272 yX5_strengthOf ∈ lw_tg := lw_tg_in (tb_6 (List.mem_of_getElem? (i := 5) rfl)) rfl
theorem mlL_110 : Cond.methodLink RL 110 yX5_heaviest ∈ lw_tg := lw_tg_in (tb_6 (List.mem_of_getElem? (i := 9) rfl)) rfl
theorem mlL_114 : Cond.methodLink RL 114 yX5_turned ∈ lw_tg := lw_tg_in (tb_6 (List.mem_of_getElem? (i := 13) rfl)) rfl
theorem mlX5_275 : Cond.methodLink RX5 275 yX5_turns ∈ lw_tg := lw_tg_in (tb_6 (List.mem_of_getElem? (i := 17) rfl)) rfl
theorem mlX5_278 : Cond.methodLink RX5 278 yX5_valueOf ∈ lw_tg := lw_tg_in (tb_6 (List.mem_of_getElem? (i := 21) rfl)) rfl
theorem mlX5_266 : Cond.methodLink RX5 266 yX5_isMet ∈ lw_tg := lw_tg_in (tb_6 (List.mem_of_getElem? (i := 25) rfl)) rfl
theorem mlX5_263 : Cond.methodLink RX5 263 yX5_areIn ∈ lw_tg := lw_tg_in (tb_6 (List.mem_of_getElem? (i := 29) rfl)) rfl
theorem mlL_118 : Cond.methodLink RL 118 yX5_unlike ∈ lw_tg := lw_tg_in (tb_6 (List.mem_of_getElem? (i := 33) rfl)) rfl
theorem mlL_122 : Cond.methodLink RL 122 yX5_unmet ∈ lw_tg := lw_tg_in (tb_6 (List.mem_of_getElem? (i := 37) rfl)) rfl
theorem mlL_126 : Cond.methodLink RL 126 yX5_friendsOf ∈ lw_tg := lw_tg_in (tb_6 (List.mem_of_getElem? (i := 41) rfl)) rfl
theorem mlX5_284 : Cond.methodLink RX5 284 yX5_friends ∈ lw_tg := lw_tg_in (tb_6 (List.mem_of_getElem? (i := 45) rfl)) rfl
theorem mlX5_281 : Cond.methodLink RX5 281 yX5_has ∈ lw_tg := lw_tg_in (tb_6 (List.mem_of_getElem? (i := 49) rfl)) rfl
theorem mlL_130 : Cond.methodLink RL 130 yX5_groups ∈ lw_tg := lw_tg_in (tb_6 (List.mem_of_getElem? (i := 52) rfl)) rfl
theorem mlL_134 : Cond.methodLink RL 134 yX5_conflict ∈ lw_tg := lw_tg_in (tb_6 (List.mem_of_getElem? (i := 56) rfl)) rfl
theorem mlL_146 : Cond.methodLink RL 146 yX5_value ∈ lw_tg := lw_tg_in (tb_6 (List.mem_of_getElem? (i := 60) rfl)) rfl
theorem mlL_150 : Cond.methodLink RL 150 yX5_met ∈ lw_tg := lw_tg_in (tb_6 (List.mem_of_getElem? (i := 64) rfl)) rfl
theorem mlL_158 : Cond.methodLink RL 158 yX5_even ∈ lw_tg := lw_tg_in (tb_6 (List.mem_of_getElem? (i := 68) rfl)) rfl
theorem mlX5_287 : Cond.methodLink RX5 287 yX5_evenOf ∈ lw_tg := lw_tg_in (tb_6 (List.mem_of_getElem? (i := 72) rfl)) rfl
theorem mlL_154 : Cond.methodLink RL 154 yX5_best ∈ lw_tg := lw_tg_in (tb_6 (List.mem_of_getElem? (i := 76) rfl)) rfl
theorem mlL_162 : Cond.methodLink RL 162 yX5_change ∈ lw_tg := lw_tg_in (tb_6 (List.mem_of_getElem? (i := 80) rfl)) rfl
theorem mlX5_290 : Cond.methodLink RX5 290 yX5_mayChange ∈ lw_tg := lw_tg_in (tb_6 (List.mem_of_getElem? (i := 84) rfl)) rfl
theorem mlL_138 : Cond.methodLink RL 138 yX5_changes ∈ lw_tg := lw_tg_in (tb_6 (List.mem_of_getElem? (i := 88) rfl)) rfl
theorem mlX5_293 : Cond.methodLink RX5 293 yX5_canBeBy ∈ lw_tg := lw_tg_in (tb_6 (List.mem_of_getElem? (i := 93) rfl)) rfl
theorem mlL_142 : Cond.methodLink RL 142 yX5_place ∈ lw_tg := lw_tg_in (tb_6 (List.mem_of_getElem? (i := 97) rfl)) rfl
theorem mlL_166 : Cond.methodLink RL 166 yX5_far ∈ lw_tg := lw_tg_in (tb_6 (List.mem_of_getElem? (i := 101) rfl)) rfl
theorem mlL_170 : Cond.methodLink RL 170 yX5_most ∈ lw_tg := lw_tg_in (tb_6 (List.mem_of_getElem? (i := 105) rfl)) rfl
theorem mlX5_301 : Cond.methodLink RX5 301 yX5_seekMost ∈ lw_tg := lw_tg_in (tb_6 (List.mem_of_getElem? (i := 109) rfl)) rfl
theorem mlL_174 : Cond.methodLink RL 174 yX5_always ∈ lw_tg := lw_tg_in (tb_6 (List.mem_of_getElem? (i := 113) rfl)) rfl
theorem mlL_178 : Cond.methodLink RL 178 yX5_often ∈ lw_tg := lw_tg_in (tb_6 (List.mem_of_getElem? (i := 117) rfl)) rfl
theorem mlX5_304 : Cond.methodLink RX5 304 yX5_oftenOf ∈ lw_tg := lw_tg_in (tb_6 (List.mem_of_getElem? (i := 121) rfl)) rfl
theorem mlL_182 : Cond.methodLink RL 182 yX5_safe ∈ lw_tg := lw_tg_in (tb_6 (List.mem_of_getElem? (i := 125) rfl)) rfl
theorem mlL_186 : Cond.methodLink RL 186 yX5_out ∈ lw_tg := lw_tg_in (tb_6 (List.mem_of_getElem? (i := 129) rfl)) rfl
theorem mlX5_309 : Cond.methodLink RX5 309 yX5_findOut ∈ lw_tg := lw_tg_in (tb_6 (List.mem_of_getElem? (i := 134) rfl)) rfl
theorem mlL_190 : Cond.methodLink RL 190 yX5_outAt ∈ lw_tg := lw_tg_in (tb_6 (List.mem_of_getElem? (i := 138) rfl)) rfl
theorem mlL_194 : Cond.methodLink RL 194 yX5_stays ∈ lw_tg := lw_tg_in (tb_6 (List.mem_of_getElem? (i := 142) rfl)) rfl
theorem mlL_198 : Cond.methodLink RL 198 yX5_fits ∈ lw_tg := lw_tg_in (tb_6 (List.mem_of_getElem? (i := 146) rfl)) rfl
theorem mlX5_313 : Cond.methodLink RX5 313 yX5_noMorning ∈ lw_tg := lw_tg_in (tb_6 (List.mem_of_getElem? (i := 150) rfl)) rfl
theorem mlX5_316 : Cond.methodLink RX5 316 yX5_wrongTeams ∈ lw_tg := lw_tg_in (tb_6 (List.mem_of_getElem? (i := 154) rfl)) rfl
theorem mlL_202 : Cond.methodLink RL 202 yX5_moved ∈ lw_tg := lw_tg_in (tb_6 (List.mem_of_getElem? (i := 158) rfl)) rfl
theorem mlL_206 : Cond.methodLink RL 206 yX5_miscounted ∈ lw_tg := lw_tg_in (tb_6 (List.mem_of_getElem? (i := 162) rfl)) rfl
theorem mlL_210 : Cond.methodLink RL 210 yX5_judge ∈ lw_tg := lw_tg_in (tb_6 (List.mem_of_getElem? (i := 166) rfl)) rfl
theorem mlX5_322 : Cond.methodLink RX5 322 yX5_noChanges ∈ lw_tg := lw_tg_in (tb_6 (List.mem_of_getElem? (i := 170) rfl)) rfl
theorem mlX5_325 : Cond.methodLink RX5 325 yX5_goesBy ∈ lw_tg := lw_tg_in (tb_6 (List.mem_of_getElem? (i := 174) rfl)) rfl
theorem mlL_214 : Cond.methodLink RL 214 yX5_behind ∈ lw_tg := lw_tg_in (tb_6 (List.mem_of_getElem? (i := 179) rfl)) rfl
theorem mlL_218 : Cond.methodLink RL 218 yX5_done ∈ lw_tg := lw_tg_in (tb_6 (List.mem_of_getElem? (i := 183) rfl)) rfl
theorem mlL_222 : Cond.methodLink RL 222 yX5_swap ∈ lw_tg := lw_tg_in (tb_6 (List.mem_of_getElem? (i := 187) rfl)) rfl
theorem mlL_226 : Cond.methodLink RL 226 yX5_move ∈ lw_tg := lw_tg_in (tb_6 (List.mem_of_getElem? (i := 191) rfl)) rfl
theorem mlL_230 : Cond.methodLink RL 230 yX5_turn ∈ lw_tg := lw_tg_in (tb_6 (List.mem_of_getElem? (i := 195) rfl)) rfl
theorem mlL_234 : Cond.methodLink RL 234 yX5_leaves ∈ lw_tg := lw_tg_in (tb_6 (List.mem_of_getElem? (i := 199) rfl)) rfl
theorem mlL_238 : Cond.methodLink RL 238 yX5_term ∈ lw_tg := lw_tg_in (tb_6 (List.mem_of_getElem? (i := 203) rfl)) rfl
theorem mlX5_332 : Cond.methodLink RX5 332 yX5_below ∈ lw_tg := lw_tg_in (tb_6 (List.mem_of_getElem? (i := 208) rfl)) rfl
theorem mlL_242 : Cond.methodLink RL 242 yX5_seed ∈ lw_tg := lw_tg_in (tb_6 (List.mem_of_getElem? (i := 213) rfl)) rfl
theorem mlL_246 : Cond.methodLink RL 246 yX5_image ∈ lw_tg := lw_tg_in (tb_6 (List.mem_of_getElem? (i := 217) rfl)) rfl
theorem mlL_250 : Cond.methodLink RL 250 yX5_back ∈ lw_tg := lw_tg_in (tb_6 (List.mem_of_getElem? (i := 221) rfl)) rfl
theorem mlL_254 : Cond.methodLink RL 254 yX5_status ∈ lw_tg := lw_tg_in (tb_6 (List.mem_of_getElem? (i := 225) rfl)) rfl
theorem lyX0 : ∀ k, k < 6 → u_lay RX0 TX0 k ∈ lw_tg := by
  intro k hk
  match k, hk with
  | 0, _ => exact lw_tg_in (tb_1 (List.mem_of_getElem? (i := 113) rfl)) rfl
  | 1, _ => exact lw_tg_in (tb_1 (List.mem_of_getElem? (i := 115) rfl)) rfl
  | 2, _ => exact lw_tg_in (tb_1 (List.mem_of_getElem? (i := 117) rfl)) rfl
  | 3, _ => exact lw_tg_in (tb_1 (List.mem_of_getElem? (i := 119) rfl)) rfl
  | 4, _ => exact lw_tg_in (tb_1 (List.mem_of_getElem? (i := 121) rfl)) rfl
  | 5, _ => exact lw_tg_in (tb_1 (List.mem_of_getElem? (i := 123) rfl)) rfl
  | _ + 6, hk => omega
theorem clX0 : jv_cl 0 RX0 TX0 6 tyX0 := ⟨rfl, rfl, fun w hw => by
  obtain ⟨k, hk, rfl⟩ := List.mem_map.mp hw
  exact lyX0 k (List.mem_range.mp hk), tyX0_ok, nmX0, by decide +kernel, lw_tg_in (tb_1 (List.mem_of_getElem? (i := 101) rfl)) rfl, lw_tg_in (tb_1 (List.mem_of_getElem? (i := 3) rfl)) rfl, by decide +kernel⟩
theorem lyX1 : ∀ k, k < 3 → u_lay RX1 TX1 k ∈ lw_tg := by
  intro k hk
  match k, hk with
  | 0, _ => exact lw_tg_in (tb_1 (List.mem_of_getElem? (i := 162) rfl)) rfl
  | 1, _ => exact lw_tg_in (tb_1 (List.mem_of_getElem? (i := 164) rfl)) rfl
  | 2, _ => exact lw_tg_in (tb_1 (List.mem_of_getElem? (i := 166) rfl)) rfl
  | _ + 3, hk => omega
theorem clX1 : jv_cl 1 RX1 TX1 3 tyX1 := ⟨rfl, rfl, fun w hw => by
  obtain ⟨k, hk, rfl⟩ := List.mem_map.mp hw
  exact lyX1 k (List.mem_range.mp hk), tyX1_ok, nmX1, by decide +kernel, lw_tg_in (tb_1 (List.mem_of_getElem? (i := 151) rfl)) rfl, lw_tg_in (tb_1 (List.mem_of_getElem? (i := 5) rfl)) rfl, by decide +kernel⟩
theorem lyX2 : ∀ k, k < 5 → u_lay RX2 TX2 k ∈ lw_tg := by
  intro k hk
  match k, hk with
  | 0, _ => exact lw_tg_in (tb_1 (List.mem_of_getElem? (i := 138) rfl)) rfl
  | 1, _ => exact lw_tg_in (tb_1 (List.mem_of_getElem? (i := 140) rfl)) rfl
  | 2, _ => exact lw_tg_in (tb_1 (List.mem_of_getElem? (i := 142) rfl)) rfl
  | 3, _ => exact lw_tg_in (tb_1 (List.mem_of_getElem? (i := 144) rfl)) rfl
  | 4, _ => exact lw_tg_in (tb_1 (List.mem_of_getElem? (i := 146) rfl)) rfl
  | _ + 5, hk => omega
theorem clX2 : jv_cl 2 RX2 TX2 5 tyX2 := ⟨rfl, rfl, fun w hw => by
  obtain ⟨k, hk, rfl⟩ := List.mem_map.mp hw
  exact lyX2 k (List.mem_range.mp hk), tyX2_ok, nmX2, by decide +kernel, lw_tg_in (tb_1 (List.mem_of_getElem? (i := 127) rfl)) rfl, lw_tg_in (tb_1 (List.mem_of_getElem? (i := 4) rfl)) rfl, by decide +kernel⟩
theorem lyX3 : ∀ k, k < 15 → u_lay RX3 TX3 k ∈ lw_tg := by
  intro k hk
  match k, hk with
  | 0, _ => exact lw_tg_in (tb_1 (List.mem_of_getElem? (i := 68) rfl)) rfl
  | 1, _ => exact lw_tg_in (tb_1 (List.mem_of_getElem? (i := 70) rfl)) rfl
  | 2, _ => exact lw_tg_in (tb_1 (List.mem_of_getElem? (i := 72) rfl)) rfl
  | 3, _ => exact lw_tg_in (tb_1 (List.mem_of_getElem? (i := 74) rfl)) rfl
  | 4, _ => exact lw_tg_in (tb_1 (List.mem_of_getElem? (i := 76) rfl)) rfl
  | 5, _ => exact lw_tg_in (tb_1 (List.mem_of_getElem? (i := 78) rfl)) rfl
  | 6, _ => exact lw_tg_in (tb_1 (List.mem_of_getElem? (i := 80) rfl)) rfl
  | 7, _ => exact lw_tg_in (tb_1 (List.mem_of_getElem? (i := 82) rfl)) rfl
  | 8, _ => exact lw_tg_in (tb_1 (List.mem_of_getElem? (i := 84) rfl)) rfl
  | 9, _ => exact lw_tg_in (tb_1 (List.mem_of_getElem? (i := 86) rfl)) rfl
  | 10, _ => exact lw_tg_in (tb_1 (List.mem_of_getElem? (i := 88) rfl)) rfl
  | 11, _ => exact lw_tg_in (tb_1 (List.mem_of_getElem? (i := 90) rfl)) rfl
  | 12, _ => exact lw_tg_in (tb_1 (List.mem_of_getElem? (i := 92) rfl)) rfl
  | 13, _ => exact lw_tg_in (tb_1 (List.mem_of_getElem? (i := 94) rfl)) rfl
  | 14, _ => exact lw_tg_in (tb_1 (List.mem_of_getElem? (i := 96) rfl)) rfl
  | _ + 15, hk => omega
theorem clX3 : jv_cl 3 RX3 TX3 15 tyX3 := ⟨rfl, rfl, fun w hw => by
  obtain ⟨k, hk, rfl⟩ := List.mem_map.mp hw
  exact lyX3 k (List.mem_range.mp hk), tyX3_ok, nmX3, by decide +kernel, lw_tg_in (tb_1 (List.mem_of_getElem? (i := 22) rfl)) rfl, lw_tg_in (tb_1 (List.mem_of_getElem? (i := 2) rfl)) rfl, by decide +kernel⟩
theorem lyX4 : ∀ k, k < 8 → u_lay RX4 TX4 k ∈ lw_tg := by
  intro k hk
  match k, hk with
  | 0, _ => exact lw_tg_in (tb_1 (List.mem_of_getElem? (i := 178) rfl)) rfl
  | 1, _ => exact lw_tg_in (tb_1 (List.mem_of_getElem? (i := 180) rfl)) rfl
  | 2, _ => exact lw_tg_in (tb_1 (List.mem_of_getElem? (i := 182) rfl)) rfl
  | 3, _ => exact lw_tg_in (tb_1 (List.mem_of_getElem? (i := 184) rfl)) rfl
  | 4, _ => exact lw_tg_in (tb_1 (List.mem_of_getElem? (i := 186) rfl)) rfl
  | 5, _ => exact lw_tg_in (tb_1 (List.mem_of_getElem? (i := 188) rfl)) rfl
  | 6, _ => exact lw_tg_in (tb_1 (List.mem_of_getElem? (i := 190) rfl)) rfl
  | 7, _ => exact lw_tg_in (tb_1 (List.mem_of_getElem? (i := 192) rfl)) rfl
  | _ + 8, hk => omega
theorem clX4 : jv_cl 4 RX4 TX4 8 tyX4 := ⟨rfl, rfl, fun w hw => by
  obtain ⟨k, hk, rfl⟩ := List.mem_map.mp hw
  exact lyX4 k (List.mem_range.mp hk), tyX4_ok, nmX4, by decide +kernel, lw_tg_in (tb_1 (List.mem_of_getElem? (i := 14) rfl)) rfl, lw_tg_in (tb_1 (List.mem_of_getElem? (i := 1) rfl)) rfl, by decide +kernel⟩
theorem lyX5 : ∀ k, k < 35 → u_lay RX5 TX5 k ∈ lw_tg := by
  intro k hk
  match k, hk with
  | 0, _ => exact lw_tg_in (tb_4 (List.mem_of_getElem? (i := 188) rfl)) rfl
  | 1, _ => exact lw_tg_in (tb_4 (List.mem_of_getElem? (i := 190) rfl)) rfl
  | 2, _ => exact lw_tg_in (tb_4 (List.mem_of_getElem? (i := 192) rfl)) rfl
  | 3, _ => exact lw_tg_in (tb_4 (List.mem_of_getElem? (i := 194) rfl)) rfl
  | 4, _ => exact lw_tg_in (tb_4 (List.mem_of_getElem? (i := 196) rfl)) rfl
  | 5, _ => exact lw_tg_in (tb_4 (List.mem_of_getElem? (i := 198) rfl)) rfl
  | 6, _ => exact lw_tg_in (tb_4 (List.mem_of_getElem? (i := 200) rfl)) rfl
  | 7, _ => exact lw_tg_in (tb_4 (List.mem_of_getElem? (i := 202) rfl)) rfl
  | 8, _ => exact lw_tg_in (tb_4 (List.mem_of_getElem? (i := 204) rfl)) rfl
  | 9, _ => exact lw_tg_in (tb_4 (List.mem_of_getElem? (i := 206) rfl)) rfl
  | 10, _ => exact lw_tg_in (tb_4 (List.mem_of_getElem? (i := 208) rfl)) rfl
  | 11, _ => exact lw_tg_in (tb_4 (List.mem_of_getElem? (i := 210) rfl)) rfl
  | 12, _ => exact lw_tg_in (tb_4 (List.mem_of_getElem? (i := 212) rfl)) rfl
  | 13, _ => exact lw_tg_in (tb_4 (List.mem_of_getElem? (i := 214) rfl)) rfl
  | 14, _ => exact lw_tg_in (tb_4 (List.mem_of_getElem? (i := 216) rfl)) rfl
  | 15, _ => exact lw_tg_in (tb_4 (List.mem_of_getElem? (i := 218) rfl)) rfl
  | 16, _ => exact lw_tg_in (tb_4 (List.mem_of_getElem? (i := 220) rfl)) rfl
  | 17, _ => exact lw_tg_in (tb_4 (List.mem_of_getElem? (i := 222) rfl)) rfl
  | 18, _ => exact lw_tg_in (tb_4 (List.mem_of_getElem? (i := 224) rfl)) rfl
  | 19, _ => exact lw_tg_in (tb_4 (List.mem_of_getElem? (i := 226) rfl)) rfl
  | 20, _ => exact lw_tg_in (tb_4 (List.mem_of_getElem? (i := 228) rfl)) rfl
  | 21, _ => exact lw_tg_in (tb_4 (List.mem_of_getElem? (i := 230) rfl)) rfl
  | 22, _ => exact lw_tg_in (tb_4 (List.mem_of_getElem? (i := 232) rfl)) rfl
  | 23, _ => exact lw_tg_in (tb_4 (List.mem_of_getElem? (i := 234) rfl)) rfl
  | 24, _ => exact lw_tg_in (tb_4 (List.mem_of_getElem? (i := 236) rfl)) rfl
  | 25, _ => exact lw_tg_in (tb_4 (List.mem_of_getElem? (i := 238) rfl)) rfl
  | 26, _ => exact lw_tg_in (tb_5 (List.mem_of_getElem? (i := 0) rfl)) rfl
  | 27, _ => exact lw_tg_in (tb_5 (List.mem_of_getElem? (i := 2) rfl)) rfl
  | 28, _ => exact lw_tg_in (tb_5 (List.mem_of_getElem? (i := 4) rfl)) rfl
  | 29, _ => exact lw_tg_in (tb_5 (List.mem_of_getElem? (i := 6) rfl)) rfl
  | 30, _ => exact lw_tg_in (tb_5 (List.mem_of_getElem? (i := 8) rfl)) rfl
  | 31, _ => exact lw_tg_in (tb_5 (List.mem_of_getElem? (i := 10) rfl)) rfl
  | 32, _ => exact lw_tg_in (tb_5 (List.mem_of_getElem? (i := 12) rfl)) rfl
  | 33, _ => exact lw_tg_in (tb_5 (List.mem_of_getElem? (i := 14) rfl)) rfl
  | 34, _ => exact lw_tg_in (tb_5 (List.mem_of_getElem? (i := 16) rfl)) rfl
  | _ + 35, hk => omega
theorem clX5 : jv_cl 5 RX5 TX5 35 tyX5 := ⟨rfl, rfl, fun w hw => by
  obtain ⟨k, hk, rfl⟩ := List.mem_map.mp hw
  exact lyX5 k (List.mem_range.mp hk), tyX5_ok, nmX5, by decide +kernel, lw_tg_in (tb_4 (List.mem_of_getElem? (i := 146) rfl)) rfl, lw_tg_in (tb_1 (List.mem_of_getElem? (i := 6) rfl)) rfl, by decide +kernel⟩
theorem flX3_9 : jv_fl RX3 9 3 0 (.int) false := ⟨RX3, TX3, 15, tyX3, clX3, by decide, lw_tg_in (tb_1 (List.mem_of_getElem? (i := 27) rfl)) rfl, rfl, rfl⟩
theorem flX0_31 : jv_fl RX0 31 3 0 (.int) false := ⟨RX3, TX3, 15, tyX3, clX3, by decide, lw_tg_in (tb_1 (List.mem_of_getElem? (i := 28) rfl)) rfl, rfl, rfl⟩
theorem flX2_59 : jv_fl RX2 59 3 0 (.int) false := ⟨RX3, TX3, 15, tyX3, clX3, by decide, lw_tg_in (tb_1 (List.mem_of_getElem? (i := 29) rfl)) rfl, rfl, rfl⟩
theorem flX4_128 : jv_fl RX4 128 3 0 (.int) false := ⟨RX3, TX3, 15, tyX3, clX3, by decide, lw_tg_in (tb_1 (List.mem_of_getElem? (i := 30) rfl)) rfl, rfl, rfl⟩
theorem flX3_15 : jv_fl RX3 15 3 1 (.array .int) true := ⟨RX3, TX3, 15, tyX3, clX3, by decide, lw_tg_in (tb_1 (List.mem_of_getElem? (i := 31) rfl)) rfl, rfl, rfl⟩
theorem flX4_169 : jv_fl RX4 169 3 1 (.array .int) true := ⟨RX3, TX3, 15, tyX3, clX3, by decide, lw_tg_in (tb_1 (List.mem_of_getElem? (i := 32) rfl)) rfl, rfl, rfl⟩
theorem flX3_19 : jv_fl RX3 19 3 2 (.array .int) true := ⟨RX3, TX3, 15, tyX3, clX3, by decide, lw_tg_in (tb_1 (List.mem_of_getElem? (i := 33) rfl)) rfl, rfl, rfl⟩
theorem flX4_172 : jv_fl RX4 172 3 2 (.array .int) true := ⟨RX3, TX3, 15, tyX3, clX3, by decide, lw_tg_in (tb_1 (List.mem_of_getElem? (i := 34) rfl)) rfl, rfl, rfl⟩
theorem flX3_22 : jv_fl RX3 22 3 3 (.array .int) true := ⟨RX3, TX3, 15, tyX3, clX3, by decide, lw_tg_in (tb_1 (List.mem_of_getElem? (i := 35) rfl)) rfl, rfl, rfl⟩
theorem flX0_93 : jv_fl RX0 93 3 3 (.array .int) true := ⟨RX3, TX3, 15, tyX3, clX3, by decide, lw_tg_in (tb_1 (List.mem_of_getElem? (i := 36) rfl)) rfl, rfl, rfl⟩
theorem flX4_175 : jv_fl RX4 175 3 3 (.array .int) true := ⟨RX3, TX3, 15, tyX3, clX3, by decide, lw_tg_in (tb_1 (List.mem_of_getElem? (i := 37) rfl)) rfl, rfl, rfl⟩
theorem flX3_25 : jv_fl RX3 25 3 4 (.array .int) true := ⟨RX3, TX3, 15, tyX3, clX3, by decide, lw_tg_in (tb_1 (List.mem_of_getElem? (i := 38) rfl)) rfl, rfl, rfl⟩
theorem flX0_133 : jv_fl RX0 133 3 4 (.array .int) true := ⟨RX3, TX3, 15, tyX3, clX3, by decide, lw_tg_in (tb_1 (List.mem_of_getElem? (i := 39) rfl)) rfl, rfl, rfl⟩
theorem flX4_205 : jv_fl RX4 205 3 4 (.array .int) true := ⟨RX3, TX3, 15, tyX3, clX3, by decide, lw_tg_in (tb_1 (List.mem_of_getElem? (i := 40) rfl)) rfl, rfl, rfl⟩
theorem flX3_28 : jv_fl RX3 28 3 5 (.int) false := ⟨RX3, TX3, 15, tyX3, clX3, by decide, lw_tg_in (tb_1 (List.mem_of_getElem? (i := 41) rfl)) rfl, rfl, rfl⟩
theorem flX2_69 : jv_fl RX2 69 3 5 (.int) false := ⟨RX3, TX3, 15, tyX3, clX3, by decide, lw_tg_in (tb_1 (List.mem_of_getElem? (i := 42) rfl)) rfl, rfl, rfl⟩
theorem flX4_134 : jv_fl RX4 134 3 5 (.int) false := ⟨RX3, TX3, 15, tyX3, clX3, by decide, lw_tg_in (tb_1 (List.mem_of_getElem? (i := 43) rfl)) rfl, rfl, rfl⟩
theorem flX3_31 : jv_fl RX3 31 3 6 (.array .int) true := ⟨RX3, TX3, 15, tyX3, clX3, by decide, lw_tg_in (tb_1 (List.mem_of_getElem? (i := 44) rfl)) rfl, rfl, rfl⟩
theorem flX4_119 : jv_fl RX4 119 3 6 (.array .int) true := ⟨RX3, TX3, 15, tyX3, clX3, by decide, lw_tg_in (tb_1 (List.mem_of_getElem? (i := 45) rfl)) rfl, rfl, rfl⟩
theorem flX3_34 : jv_fl RX3 34 3 7 (.array .int) true := ⟨RX3, TX3, 15, tyX3, clX3, by decide, lw_tg_in (tb_1 (List.mem_of_getElem? (i := 46) rfl)) rfl, rfl, rfl⟩
theorem flX4_181 : jv_fl RX4 181 3 7 (.array .int) true := ⟨RX3, TX3, 15, tyX3, clX3, by decide, lw_tg_in (tb_1 (List.mem_of_getElem? (i := 47) rfl)) rfl, rfl, rfl⟩
theorem flX3_37 : jv_fl RX3 37 3 8 (.array .int) true := ⟨RX3, TX3, 15, tyX3, clX3, by decide, lw_tg_in (tb_1 (List.mem_of_getElem? (i := 48) rfl)) rfl, rfl, rfl⟩
theorem flX4_184 : jv_fl RX4 184 3 8 (.array .int) true := ⟨RX3, TX3, 15, tyX3, clX3, by decide, lw_tg_in (tb_1 (List.mem_of_getElem? (i := 49) rfl)) rfl, rfl, rfl⟩
theorem flX3_40 : jv_fl RX3 40 3 9 (.int) false := ⟨RX3, TX3, 15, tyX3, clX3, by decide, lw_tg_in (tb_1 (List.mem_of_getElem? (i := 50) rfl)) rfl, rfl, rfl⟩
theorem flX0_41 : jv_fl RX0 41 3 9 (.int) false := ⟨RX3, TX3, 15, tyX3, clX3, by decide, lw_tg_in (tb_1 (List.mem_of_getElem? (i := 51) rfl)) rfl, rfl, rfl⟩
theorem flX2_77 : jv_fl RX2 77 3 9 (.int) false := ⟨RX3, TX3, 15, tyX3, clX3, by decide, lw_tg_in (tb_1 (List.mem_of_getElem? (i := 52) rfl)) rfl, rfl, rfl⟩
theorem flX4_144 : jv_fl RX4 144 3 9 (.int) false := ⟨RX3, TX3, 15, tyX3, clX3, by decide, lw_tg_in (tb_1 (List.mem_of_getElem? (i := 53) rfl)) rfl, rfl, rfl⟩
theorem flX3_43 : jv_fl RX3 43 3 10 (.array .int) true := ⟨RX3, TX3, 15, tyX3, clX3, by decide, lw_tg_in (tb_1 (List.mem_of_getElem? (i := 54) rfl)) rfl, rfl, rfl⟩
theorem flX0_44 : jv_fl RX0 44 3 10 (.array .int) true := ⟨RX3, TX3, 15, tyX3, clX3, by decide, lw_tg_in (tb_1 (List.mem_of_getElem? (i := 55) rfl)) rfl, rfl, rfl⟩
theorem flX4_190 : jv_fl RX4 190 3 10 (.array .int) true := ⟨RX3, TX3, 15, tyX3, clX3, by decide, lw_tg_in (tb_1 (List.mem_of_getElem? (i := 56) rfl)) rfl, rfl, rfl⟩
theorem flX3_46 : jv_fl RX3 46 3 11 (.array .int) true := ⟨RX3, TX3, 15, tyX3, clX3, by decide, lw_tg_in (tb_1 (List.mem_of_getElem? (i := 57) rfl)) rfl, rfl, rfl⟩
theorem flX0_47 : jv_fl RX0 47 3 11 (.array .int) true := ⟨RX3, TX3, 15, tyX3, clX3, by decide, lw_tg_in (tb_1 (List.mem_of_getElem? (i := 58) rfl)) rfl, rfl, rfl⟩
theorem flX4_193 : jv_fl RX4 193 3 11 (.array .int) true := ⟨RX3, TX3, 15, tyX3, clX3, by decide, lw_tg_in (tb_1 (List.mem_of_getElem? (i := 59) rfl)) rfl, rfl, rfl⟩
theorem flX3_49 : jv_fl RX3 49 3 12 (.array .int) true := ⟨RX3, TX3, 15, tyX3, clX3, by decide, lw_tg_in (tb_1 (List.mem_of_getElem? (i := 60) rfl)) rfl, rfl, rfl⟩
theorem flX0_50 : jv_fl RX0 50 3 12 (.array .int) true := ⟨RX3, TX3, 15, tyX3, clX3, by decide, lw_tg_in (tb_1 (List.mem_of_getElem? (i := 61) rfl)) rfl, rfl, rfl⟩
theorem flX4_196 : jv_fl RX4 196 3 12 (.array .int) true := ⟨RX3, TX3, 15, tyX3, clX3, by decide, lw_tg_in (tb_1 (List.mem_of_getElem? (i := 62) rfl)) rfl, rfl, rfl⟩
theorem flX3_52 : jv_fl RX3 52 3 13 (.array .int) true := ⟨RX3, TX3, 15, tyX3, clX3, by decide, lw_tg_in (tb_1 (List.mem_of_getElem? (i := 63) rfl)) rfl, rfl, rfl⟩
theorem flX0_53 : jv_fl RX0 53 3 13 (.array .int) true := ⟨RX3, TX3, 15, tyX3, clX3, by decide, lw_tg_in (tb_1 (List.mem_of_getElem? (i := 64) rfl)) rfl, rfl, rfl⟩
theorem flX4_199 : jv_fl RX4 199 3 13 (.array .int) true := ⟨RX3, TX3, 15, tyX3, clX3, by decide, lw_tg_in (tb_1 (List.mem_of_getElem? (i := 65) rfl)) rfl, rfl, rfl⟩
theorem flX3_55 : jv_fl RX3 55 3 14 (.int) false := ⟨RX3, TX3, 15, tyX3, clX3, by decide, lw_tg_in (tb_1 (List.mem_of_getElem? (i := 66) rfl)) rfl, rfl, rfl⟩
theorem flX4_298 : jv_fl RX4 298 3 14 (.int) false := ⟨RX3, TX3, 15, tyX3, clX3, by decide, lw_tg_in (tb_1 (List.mem_of_getElem? (i := 67) rfl)) rfl, rfl, rfl⟩
theorem flX0_27 : jv_fl RX0 27 0 0 (.object "OneTwoOneTwo$Yard") true := ⟨RX0, TX0, 6, tyX0, clX0, by decide, lw_tg_in (tb_1 (List.mem_of_getElem? (i := 106) rfl)) rfl, rfl, rfl⟩
theorem flX0_9 : jv_fl RX0 9 0 1 (.array .int) true := ⟨RX0, TX0, 6, tyX0, clX0, by decide, lw_tg_in (tb_1 (List.mem_of_getElem? (i := 107) rfl)) rfl, rfl, rfl⟩
theorem flX0_15 : jv_fl RX0 15 0 2 (.array .int) true := ⟨RX0, TX0, 6, tyX0, clX0, by decide, lw_tg_in (tb_1 (List.mem_of_getElem? (i := 108) rfl)) rfl, rfl, rfl⟩
theorem flX0_18 : jv_fl RX0 18 0 3 (.array .int) true := ⟨RX0, TX0, 6, tyX0, clX0, by decide, lw_tg_in (tb_1 (List.mem_of_getElem? (i := 109) rfl)) rfl, rfl, rfl⟩
theorem flX0_21 : jv_fl RX0 21 0 4 (.array .int) true := ⟨RX0, TX0, 6, tyX0, clX0, by decide, lw_tg_in (tb_1 (List.mem_of_getElem? (i := 110) rfl)) rfl, rfl, rfl⟩
theorem flX0_24 : jv_fl RX0 24 0 5 (.array .int) true := ⟨RX0, TX0, 6, tyX0, clX0, by decide, lw_tg_in (tb_1 (List.mem_of_getElem? (i := 111) rfl)) rfl, rfl, rfl⟩
theorem flX4_262 : jv_fl RX4 262 0 5 (.array .int) true := ⟨RX0, TX0, 6, tyX0, clX0, by decide, lw_tg_in (tb_1 (List.mem_of_getElem? (i := 112) rfl)) rfl, rfl, rfl⟩
theorem flX2_9 : jv_fl RX2 9 2 0 (.array .int) true := ⟨RX2, TX2, 5, tyX2, clX2, by decide, lw_tg_in (tb_1 (List.mem_of_getElem? (i := 132) rfl)) rfl, rfl, rfl⟩
theorem flX2_15 : jv_fl RX2 15 2 1 (.int) false := ⟨RX2, TX2, 5, tyX2, clX2, by decide, lw_tg_in (tb_1 (List.mem_of_getElem? (i := 133) rfl)) rfl, rfl, rfl⟩
theorem flX4_151 : jv_fl RX4 151 2 1 (.int) false := ⟨RX2, TX2, 5, tyX2, clX2, by decide, lw_tg_in (tb_1 (List.mem_of_getElem? (i := 134) rfl)) rfl, rfl, rfl⟩
theorem flX2_19 : jv_fl RX2 19 2 2 (.int) false := ⟨RX2, TX2, 5, tyX2, clX2, by decide, lw_tg_in (tb_1 (List.mem_of_getElem? (i := 135) rfl)) rfl, rfl, rfl⟩
theorem flX2_22 : jv_fl RX2 22 2 3 (.int) false := ⟨RX2, TX2, 5, tyX2, clX2, by decide, lw_tg_in (tb_1 (List.mem_of_getElem? (i := 136) rfl)) rfl, rfl, rfl⟩
theorem flX2_25 : jv_fl RX2 25 2 4 (.int) false := ⟨RX2, TX2, 5, tyX2, clX2, by decide, lw_tg_in (tb_1 (List.mem_of_getElem? (i := 137) rfl)) rfl, rfl, rfl⟩
theorem flX1_9 : jv_fl RX1 9 1 0 (.int) false := ⟨RX1, TX1, 3, tyX1, clX1, by decide, lw_tg_in (tb_1 (List.mem_of_getElem? (i := 156) rfl)) rfl, rfl, rfl⟩
theorem flX4_97 : jv_fl RX4 97 1 0 (.int) false := ⟨RX1, TX1, 3, tyX1, clX1, by decide, lw_tg_in (tb_1 (List.mem_of_getElem? (i := 157) rfl)) rfl, rfl, rfl⟩
theorem flX1_15 : jv_fl RX1 15 1 1 (.int) false := ⟨RX1, TX1, 3, tyX1, clX1, by decide, lw_tg_in (tb_1 (List.mem_of_getElem? (i := 158) rfl)) rfl, rfl, rfl⟩
theorem flX4_316 : jv_fl RX4 316 1 1 (.int) false := ⟨RX1, TX1, 3, tyX1, clX1, by decide, lw_tg_in (tb_1 (List.mem_of_getElem? (i := 159) rfl)) rfl, rfl, rfl⟩
theorem flX1_18 : jv_fl RX1 18 1 2 (.array .long) true := ⟨RX1, TX1, 3, tyX1, clX1, by decide, lw_tg_in (tb_1 (List.mem_of_getElem? (i := 160) rfl)) rfl, rfl, rfl⟩
theorem flX4_87 : jv_fl RX4 87 1 2 (.array .long) true := ⟨RX1, TX1, 3, tyX1, clX1, by decide, lw_tg_in (tb_1 (List.mem_of_getElem? (i := 161) rfl)) rfl, rfl, rfl⟩
theorem flX4_10 : jv_fl RX4 10 4 0 (.object "OneTwoOneTwo$Yard") true := ⟨RX4, TX4, 8, tyX4, clX4, by decide, lw_tg_in (tb_1 (List.mem_of_getElem? (i := 170) rfl)) rfl, rfl, rfl⟩
theorem flX4_16 : jv_fl RX4 16 4 1 (.object "OneTwoOneTwo$Yard") true := ⟨RX4, TX4, 8, tyX4, clX4, by decide, lw_tg_in (tb_1 (List.mem_of_getElem? (i := 171) rfl)) rfl, rfl, rfl⟩
theorem flX4_19 : jv_fl RX4 19 4 2 (.object "OneTwoOneTwo$Yard") true := ⟨RX4, TX4, 8, tyX4, clX4, by decide, lw_tg_in (tb_1 (List.mem_of_getElem? (i := 172) rfl)) rfl, rfl, rfl⟩
theorem flX4_27 : jv_fl RX4 27 4 3 (.object "OneTwoOneTwo$Finder") true := ⟨RX4, TX4, 8, tyX4, clX4, by decide, lw_tg_in (tb_1 (List.mem_of_getElem? (i := 173) rfl)) rfl, rfl, rfl⟩
theorem flX4_34 : jv_fl RX4 34 4 4 (.object "OneTwoOneTwo$Tape") true := ⟨RX4, TX4, 8, tyX4, clX4, by decide, lw_tg_in (tb_1 (List.mem_of_getElem? (i := 174) rfl)) rfl, rfl, rfl⟩
theorem flX4_40 : jv_fl RX4 40 4 5 (.array (.object "OneTwoOneTwo$Shelf")) true := ⟨RX4, TX4, 8, tyX4, clX4, by decide, lw_tg_in (tb_1 (List.mem_of_getElem? (i := 175) rfl)) rfl, rfl, rfl⟩
theorem flX4_44 : jv_fl RX4 44 4 6 (.array .int) true := ⟨RX4, TX4, 8, tyX4, clX4, by decide, lw_tg_in (tb_1 (List.mem_of_getElem? (i := 176) rfl)) rfl, rfl, rfl⟩
theorem flX4_48 : jv_fl RX4 48 4 7 (.boolean) false := ⟨RX4, TX4, 8, tyX4, clX4, by decide, lw_tg_in (tb_1 (List.mem_of_getElem? (i := 177) rfl)) rfl, rfl, rfl⟩
theorem flwX4_313 : Cond.fieldLink RX4 313 "OneTwoOneTwo" "UNDER" "[I" ∈ lw_tg := lw_tg_in (tb_2 (List.mem_of_getElem? (i := 50) rfl)) rfl
theorem flwJ0_38 : Cond.fieldLink RJ0 38 "java/lang/String" "COMPACT_STRINGS" "Z" ∈ lw_tg := lw_tg_in (tb_2 (List.mem_of_getElem? (i := 154) rfl)) rfl
theorem flwJ0_1053 : Cond.fieldLink RJ0 1053 "jdk/internal/util/Preconditions" "SIOOBE_FORMATTER" "Ljava/util/function/BiFunction;" ∈ lw_tg := lw_tg_in (tb_2 (List.mem_of_getElem? (i := 170) rfl)) rfl
theorem flwJ2_44 : Cond.fieldLink RJ2 44 "java/lang/StringUTF16" "$assertionsDisabled" "Z" ∈ lw_tg := lw_tg_in (tb_2 (List.mem_of_getElem? (i := 188) rfl)) rfl
theorem flwJ2_59 : Cond.fieldLink RJ2 59 "java/lang/StringUTF16" "HI_BYTE_SHIFT" "I" ∈ lw_tg := lw_tg_in (tb_2 (List.mem_of_getElem? (i := 190) rfl)) rfl
theorem flwJ2_63 : Cond.fieldLink RJ2 63 "java/lang/StringUTF16" "LO_BYTE_SHIFT" "I" ∈ lw_tg := lw_tg_in (tb_2 (List.mem_of_getElem? (i := 192) rfl)) rfl
theorem flX5_7 : jv_fl RX5 7 5 0 (.array .int) true := ⟨RX5, TX5, 35, tyX5, clX5, by decide, lw_tg_in (tb_4 (List.mem_of_getElem? (i := 153) rfl)) rfl, rfl, rfl⟩
theorem flX5_13 : jv_fl RX5 13 5 1 (.array .int) true := ⟨RX5, TX5, 35, tyX5, clX5, by decide, lw_tg_in (tb_4 (List.mem_of_getElem? (i := 154) rfl)) rfl, rfl, rfl⟩
theorem flX5_16 : jv_fl RX5 16 5 2 (.array .int) true := ⟨RX5, TX5, 35, tyX5, clX5, by decide, lw_tg_in (tb_4 (List.mem_of_getElem? (i := 155) rfl)) rfl, rfl, rfl⟩
theorem flX5_21 : jv_fl RX5 21 5 3 (.array (.array .long)) true := ⟨RX5, TX5, 35, tyX5, clX5, by decide, lw_tg_in (tb_4 (List.mem_of_getElem? (i := 156) rfl)) rfl, rfl, rfl⟩
theorem flX5_24 : jv_fl RX5 24 5 4 (.array .long) true := ⟨RX5, TX5, 35, tyX5, clX5, by decide, lw_tg_in (tb_4 (List.mem_of_getElem? (i := 157) rfl)) rfl, rfl, rfl⟩
theorem flX5_28 : jv_fl RX5 28 5 5 (.array .int) true := ⟨RX5, TX5, 35, tyX5, clX5, by decide, lw_tg_in (tb_4 (List.mem_of_getElem? (i := 158) rfl)) rfl, rfl, rfl⟩
theorem flX5_31 : jv_fl RX5 31 5 6 (.array .int) true := ⟨RX5, TX5, 35, tyX5, clX5, by decide, lw_tg_in (tb_4 (List.mem_of_getElem? (i := 159) rfl)) rfl, rfl, rfl⟩
theorem flX5_154 : jv_fl RX5 154 5 7 (.int) false := ⟨RX5, TX5, 35, tyX5, clX5, by decide, lw_tg_in (tb_4 (List.mem_of_getElem? (i := 160) rfl)) rfl, rfl, rfl⟩
theorem flX5_34 : jv_fl RX5 34 5 8 (.array .int) true := ⟨RX5, TX5, 35, tyX5, clX5, by decide, lw_tg_in (tb_4 (List.mem_of_getElem? (i := 161) rfl)) rfl, rfl, rfl⟩
theorem flX5_80 : jv_fl RX5 80 5 9 (.int) false := ⟨RX5, TX5, 35, tyX5, clX5, by decide, lw_tg_in (tb_4 (List.mem_of_getElem? (i := 162) rfl)) rfl, rfl, rfl⟩
theorem flX5_37 : jv_fl RX5 37 5 10 (.array .int) true := ⟨RX5, TX5, 35, tyX5, clX5, by decide, lw_tg_in (tb_4 (List.mem_of_getElem? (i := 163) rfl)) rfl, rfl, rfl⟩
theorem flX5_40 : jv_fl RX5 40 5 11 (.array .int) true := ⟨RX5, TX5, 35, tyX5, clX5, by decide, lw_tg_in (tb_4 (List.mem_of_getElem? (i := 164) rfl)) rfl, rfl, rfl⟩
theorem flX5_43 : jv_fl RX5 43 5 12 (.array .int) true := ⟨RX5, TX5, 35, tyX5, clX5, by decide, lw_tg_in (tb_4 (List.mem_of_getElem? (i := 165) rfl)) rfl, rfl, rfl⟩
theorem flX5_91 : jv_fl RX5 91 5 13 (.int) false := ⟨RX5, TX5, 35, tyX5, clX5, by decide, lw_tg_in (tb_4 (List.mem_of_getElem? (i := 166) rfl)) rfl, rfl, rfl⟩
theorem flX5_46 : jv_fl RX5 46 5 14 (.array .int) true := ⟨RX5, TX5, 35, tyX5, clX5, by decide, lw_tg_in (tb_4 (List.mem_of_getElem? (i := 167) rfl)) rfl, rfl, rfl⟩
theorem flX5_49 : jv_fl RX5 49 5 15 (.array .int) true := ⟨RX5, TX5, 35, tyX5, clX5, by decide, lw_tg_in (tb_4 (List.mem_of_getElem? (i := 168) rfl)) rfl, rfl, rfl⟩
theorem flX5_52 : jv_fl RX5 52 5 16 (.array .int) true := ⟨RX5, TX5, 35, tyX5, clX5, by decide, lw_tg_in (tb_4 (List.mem_of_getElem? (i := 169) rfl)) rfl, rfl, rfl⟩
theorem flX5_141 : jv_fl RX5 141 5 17 (.int) false := ⟨RX5, TX5, 35, tyX5, clX5, by decide, lw_tg_in (tb_4 (List.mem_of_getElem? (i := 170) rfl)) rfl, rfl, rfl⟩
theorem flX5_55 : jv_fl RX5 55 5 18 (.array .int) true := ⟨RX5, TX5, 35, tyX5, clX5, by decide, lw_tg_in (tb_4 (List.mem_of_getElem? (i := 171) rfl)) rfl, rfl, rfl⟩
theorem flX5_58 : jv_fl RX5 58 5 19 (.array .int) true := ⟨RX5, TX5, 35, tyX5, clX5, by decide, lw_tg_in (tb_4 (List.mem_of_getElem? (i := 172) rfl)) rfl, rfl, rfl⟩
theorem flX5_61 : jv_fl RX5 61 5 20 (.array .int) true := ⟨RX5, TX5, 35, tyX5, clX5, by decide, lw_tg_in (tb_4 (List.mem_of_getElem? (i := 173) rfl)) rfl, rfl, rfl⟩
theorem flX5_64 : jv_fl RX5 64 5 21 (.array .int) true := ⟨RX5, TX5, 35, tyX5, clX5, by decide, lw_tg_in (tb_4 (List.mem_of_getElem? (i := 174) rfl)) rfl, rfl, rfl⟩
theorem flX5_67 : jv_fl RX5 67 5 22 (.int) false := ⟨RX5, TX5, 35, tyX5, clX5, by decide, lw_tg_in (tb_4 (List.mem_of_getElem? (i := 175) rfl)) rfl, rfl, rfl⟩
theorem flX5_339 : jv_fl RX5 339 5 23 (.object "OneTwoOneTwoModel") false := ⟨RX5, TX5, 35, tyX5, clX5, by decide, lw_tg_in (tb_4 (List.mem_of_getElem? (i := 176) rfl)) rfl, rfl, rfl⟩
theorem flX5_236 : jv_fl RX5 236 5 24 (.object "OneTwoOneTwoModel") false := ⟨RX5, TX5, 35, tyX5, clX5, by decide, lw_tg_in (tb_4 (List.mem_of_getElem? (i := 177) rfl)) rfl, rfl, rfl⟩
theorem flX5_157 : jv_fl RX5 157 5 25 (.int) false := ⟨RX5, TX5, 35, tyX5, clX5, by decide, lw_tg_in (tb_4 (List.mem_of_getElem? (i := 178) rfl)) rfl, rfl, rfl⟩
theorem flX5_166 : jv_fl RX5 166 5 26 (.int) false := ⟨RX5, TX5, 35, tyX5, clX5, by decide, lw_tg_in (tb_4 (List.mem_of_getElem? (i := 179) rfl)) rfl, rfl, rfl⟩
theorem flX5_160 : jv_fl RX5 160 5 27 (.int) false := ⟨RX5, TX5, 35, tyX5, clX5, by decide, lw_tg_in (tb_4 (List.mem_of_getElem? (i := 180) rfl)) rfl, rfl, rfl⟩
theorem flX5_163 : jv_fl RX5 163 5 28 (.int) false := ⟨RX5, TX5, 35, tyX5, clX5, by decide, lw_tg_in (tb_4 (List.mem_of_getElem? (i := 181) rfl)) rfl, rfl, rfl⟩
theorem flX5_175 : jv_fl RX5 175 5 29 (.int) false := ⟨RX5, TX5, 35, tyX5, clX5, by decide, lw_tg_in (tb_4 (List.mem_of_getElem? (i := 182) rfl)) rfl, rfl, rfl⟩
theorem flX5_71 : jv_fl RX5 71 5 30 (.array .int) true := ⟨RX5, TX5, 35, tyX5, clX5, by decide, lw_tg_in (tb_4 (List.mem_of_getElem? (i := 183) rfl)) rfl, rfl, rfl⟩
theorem flX5_230 : jv_fl RX5 230 5 31 (.int) false := ⟨RX5, TX5, 35, tyX5, clX5, by decide, lw_tg_in (tb_4 (List.mem_of_getElem? (i := 184) rfl)) rfl, rfl, rfl⟩
theorem flX5_298 : jv_fl RX5 298 5 32 (.int) false := ⟨RX5, TX5, 35, tyX5, clX5, by decide, lw_tg_in (tb_4 (List.mem_of_getElem? (i := 185) rfl)) rfl, rfl, rfl⟩
theorem flX5_74 : jv_fl RX5 74 5 33 (.array .int) true := ⟨RX5, TX5, 35, tyX5, clX5, by decide, lw_tg_in (tb_4 (List.mem_of_getElem? (i := 186) rfl)) rfl, rfl, rfl⟩
theorem flX5_77 : jv_fl RX5 77 5 34 (.array .int) true := ⟨RX5, TX5, 35, tyX5, clX5, by decide, lw_tg_in (tb_4 (List.mem_of_getElem? (i := 187) rfl)) rfl, rfl, rfl⟩
theorem flwJ0_9 : Cond.fieldLink RJ0 9 "java/lang/String" "value" "[B" ∈ lw_tg := lw_tg_in (tb_6 (List.mem_of_getElem? (i := 232) rfl)) rfl
theorem flwJ0_15 : Cond.fieldLink RJ0 15 "java/lang/String" "coder" "B" ∈ lw_tg := lw_tg_in (tb_6 (List.mem_of_getElem? (i := 233) rfl)) rfl
theorem klL_7 : Cond.classLink RL 7 RX4 ∈ lw_tg := lw_tg_in (tb_1 (List.mem_of_getElem? (i := 13) rfl)) rfl
theorem klX4_7 : Cond.classLink RX4 7 RX3 ∈ lw_tg := lw_tg_in (tb_1 (List.mem_of_getElem? (i := 21) rfl)) rfl
theorem ac_int : Cond.arrayClass .int ∈ lw_tg := lw_tg_in (tb_1 (List.mem_of_getElem? (i := 99) rfl)) rfl
theorem klX4_22 : Cond.classLink RX4 22 RX0 ∈ lw_tg := lw_tg_in (tb_1 (List.mem_of_getElem? (i := 100) rfl)) rfl
theorem klX4_31 : Cond.classLink RX4 31 RX2 ∈ lw_tg := lw_tg_in (tb_1 (List.mem_of_getElem? (i := 126) rfl)) rfl
theorem klX4_38 : Cond.classLink RX4 38 RX1 ∈ lw_tg := lw_tg_in (tb_1 (List.mem_of_getElem? (i := 149) rfl)) rfl
theorem ac_long : Cond.arrayClass .long ∈ lw_tg := lw_tg_in (tb_1 (List.mem_of_getElem? (i := 169) rfl)) rfl
theorem ac_byte : Cond.arrayClass .byte ∈ lw_tg := lw_tg_in (tb_2 (List.mem_of_getElem? (i := 239) rfl)) rfl
theorem cnX3_88 : Cond.constantLong RX3 88 1400 ∈ lw_tg := lw_tg_in (tb_4 (List.mem_of_getElem? (i := 76) rfl)) rfl
theorem cnX3_97 : Cond.constant RX3 97 1103515245 ∈ lw_tg := lw_tg_in (tb_4 (List.mem_of_getElem? (i := 119) rfl)) rfl
theorem klL_10 : Cond.classLink RL 10 RX5 ∈ lw_tg := lw_tg_in (tb_4 (List.mem_of_getElem? (i := 145) rfl)) rfl
theorem klX5_19 : Cond.classLink RX5 19 "[[J" ∈ lw_tg := lw_tg_in (tb_4 (List.mem_of_getElem? (i := 151) rfl)) rfl
theorem cnX5_98 : Cond.constantLong RX5 98 7 ∈ lw_tg := lw_tg_in (tb_5 (List.mem_of_getElem? (i := 23) rfl)) rfl
theorem cnX5_100 : Cond.constantLong RX5 100 4 ∈ lw_tg := lw_tg_in (tb_5 (List.mem_of_getElem? (i := 27) rfl)) rfl
theorem cnX5_102 : Cond.constantLong RX5 102 40 ∈ lw_tg := lw_tg_in (tb_5 (List.mem_of_getElem? (i := 28) rfl)) rfl
theorem cnX5_115 : Cond.constantLong RX5 115 5 ∈ lw_tg := lw_tg_in (tb_5 (List.mem_of_getElem? (i := 68) rfl)) rfl
theorem cnX5_125 : Cond.constantLong RX5 125 99 ∈ lw_tg := lw_tg_in (tb_5 (List.mem_of_getElem? (i := 84) rfl)) rfl
theorem cnX5_127 : Cond.constantLong RX5 127 9 ∈ lw_tg := lw_tg_in (tb_5 (List.mem_of_getElem? (i := 85) rfl)) rfl
theorem cnX5_133 : Cond.constantLong RX5 133 2 ∈ lw_tg := lw_tg_in (tb_5 (List.mem_of_getElem? (i := 94) rfl)) rfl
theorem cnX5_135 : Cond.constantLong RX5 135 13 ∈ lw_tg := lw_tg_in (tb_5 (List.mem_of_getElem? (i := 95) rfl)) rfl
theorem cnX5_152 : Cond.constantLong RX5 152 255 ∈ lw_tg := lw_tg_in (tb_5 (List.mem_of_getElem? (i := 124) rfl)) rfl
theorem klX5_8 : Cond.classLink RX5 8 RX5 ∈ lw_tg := lw_tg_in (tb_5 (List.mem_of_getElem? (i := 137) rfl)) rfl
theorem cnX5_252 : Cond.constantLong RX5 252 3 ∈ lw_tg := lw_tg_in (tb_5 (List.mem_of_getElem? (i := 208) rfl)) rfl
theorem cnX5_296 : Cond.constantLong RX5 296 9999 ∈ lw_tg := lw_tg_in (tb_6 (List.mem_of_getElem? (i := 92) rfl)) rfl
theorem cnX5_307 : Cond.constantLong RX5 307 20 ∈ lw_tg := lw_tg_in (tb_6 (List.mem_of_getElem? (i := 133) rfl)) rfl
theorem cnX5_320 : Cond.constantLong RX5 320 100 ∈ lw_tg := lw_tg_in (tb_6 (List.mem_of_getElem? (i := 178) rfl)) rfl
theorem cnX5_330 : Cond.constantLong RX5 330 60 ∈ lw_tg := lw_tg_in (tb_6 (List.mem_of_getElem? (i := 207) rfl)) rfl
theorem cnX5_329 : Cond.constant RX5 329 1103515245 ∈ lw_tg := lw_tg_in (tb_6 (List.mem_of_getElem? (i := 212) rfl)) rfl
theorem cnX5_342 : Cond.constantLong RX5 342 12 ∈ lw_tg := lw_tg_in (tb_6 (List.mem_of_getElem? (i := 229) rfl)) rfl
theorem cnX5_344 : Cond.constantLong RX5 344 16 ∈ lw_tg := lw_tg_in (tb_6 (List.mem_of_getElem? (i := 230) rfl)) rfl
theorem cnL_18 : Cond.constantLong RL 18 4294967295 ∈ lw_tg := lw_tg_in (tb_6 (List.mem_of_getElem? (i := 231) rfl)) rfl
theorem nat_copy : Cond.native arraycopyName ∈ lw_tg := lw_tg_in (tb_2 (List.mem_of_getElem? (i := 12) rfl)) rfl
theorem st_copy : Cond.static arraycopyName ∈ lw_tg := lw_tg_in (tb_2 (List.mem_of_getElem? (i := 11) rfl)) rfl
theorem ini_sys : Cond.initialized "java/lang/System" ∈ lw_tg := lw_tg_in (tb_1 (List.mem_of_getElem? (i := 7) rfl)) rfl
theorem ini_math : Cond.initialized "java/lang/Math" ∈ lw_tg := lw_tg_in (tb_1 (List.mem_of_getElem? (i := 12) rfl)) rfl
theorem st_max : Cond.static Lib.Math.max.name ∈ lw_tg := lw_tg_in (tb_3 (List.mem_of_getElem? (i := 178) rfl)) rfl
theorem co_max : Cond.code Lib.Math.max.name Lib.Math.max.code 2 (some .int) ∈ lw_tg := lw_tg_in (tb_3 (List.mem_of_getElem? (i := 179) rfl)) rfl
theorem st_min : Cond.static Lib.Math.min.name ∈ lw_tg := lw_tg_in (tb_3 (List.mem_of_getElem? (i := 181) rfl)) rfl
theorem co_min : Cond.code Lib.Math.min.name Lib.Math.min.code 2 (some .int) ∈ lw_tg := lw_tg_in (tb_3 (List.mem_of_getElem? (i := 182) rfl)) rfl
theorem st_abs : Cond.static Lib.Math.abs.name ∈ lw_tg := lw_tg_in (tb_3 (List.mem_of_getElem? (i := 200) rfl)) rfl
theorem co_abs : Cond.code Lib.Math.abs.name Lib.Math.abs.code 1 (some .int) ∈ lw_tg := lw_tg_in (tb_3 (List.mem_of_getElem? (i := 201) rfl)) rfl
theorem in_obj : Cond.instanceMethod Lib.objectInit ∈ lw_tg := lw_tg_in (tb_1 (List.mem_of_getElem? (i := 19) rfl)) rfl
theorem co_obj : Cond.code Lib.objectInit ⟨#[0xb1]⟩ 1 none ∈ lw_tg := lw_tg_in (tb_1 (List.mem_of_getElem? (i := 20) rfl)) rfl
end
